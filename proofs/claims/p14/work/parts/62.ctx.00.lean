theorem pflat_split {G : g5_G} {pre post : List LR} {r : LR} : pflat G (pre ++ r :: post) = pflat G pre ++ (lcell G r ++ pflat G post) := by
  unfold pflat; rw [List.flatMap_append, List.flatMap_cons]
theorem pflat_cons {G : g5_G} {L : List LR} {r : LR} : pflat G (r :: L) = lcell G r ++ pflat G L := by
  unfold pflat; rw [List.flatMap_cons]
set_option maxHeartbeats 4000000 in
set_option maxRecDepth 100000 in
def XBO (G : g5_G) (Lw : List LR) (a_o a_h a_im a_ke a_k a_wa a_th a_ha a_wk a_r : Nat) (f_x : Nat → Int32) (e_tl : Int32) (e_fd : Int32) (f_wd : Nat → Int32) (e_wn : Int32) (e_fpl : Int32) (w : va_W) : Prop := ∃ (a_rf : Nat) (a_x : Nat) (a_wd : Nat) (e_lr : Int32) (f_rf : Nat → Int32), w = [(a_o, (oc11 a_h a_im a_ke a_k a_wa a_th a_ha a_wk a_r a_x e_tl e_fd e_fpl a_wd e_wn a_rf e_lr)), (a_rf, (arI G 5 f_rf)), (a_x, (arI G 400 f_x)), (a_wd, (arI G 24 f_wd))] ∧ (0 ≤ e_tl.toInt ∧ e_tl.toInt ≤ 400) ∧ (0 ≤ e_wn.toInt ∧ e_wn.toInt ≤ 1) ∧ (TPI f_x)
set_option maxHeartbeats 4000000 in
set_option maxRecDepth 100000 in
def XBH (G : g5_G) (Lw : List LR) (a_h : Nat) (f_ro : Nat → Int32) (g_L : LLS) (g_F : Int32) (w : va_W) : Prop := ∃ (a_p : Nat) (a_pn : Nat) (a_bb : Nat) (a_l : Nat) (a_g : Nat) (a_b : Nat) (a_s : Nat) (a_w : Nat) (e_le : Int32) (e_st : Int32) (e_fo : Int32) (e_lc : Int32) (e_wa : Int64) (e_gb : Int64) (e_p : Int32) (f_p : Nat → Int32) (f_bb : Nat → Int64) (e_g : Int32) (e_b : Int32) (f_g : Nat → Int32) (f_b : Nat → Int32) (a_gn : Nat) (a_bn : Nat) (f_l : Nat → Option Nat) (a_sn : Nat) (e_s : Int32) (f_s : Nat → Int32) (a_wn : Nat) (e_w : Int32) (f_w : Nat → Int32), w = [(a_h, (oc1 e_wa e_le e_st e_fo e_lc a_l a_g a_b a_s a_p a_w e_gb a_bb)), (a_l, (arW G 6 f_l)), (a_g, (oc6 6 5 a_gn e_g)), (a_gn, (arI G 30 f_g)), (a_b, (oc6 5 24 a_bn e_b)), (a_bn, (arI G 120 f_b)), (a_s, (oc6 10 4 a_sn e_s)), (a_sn, (arI G 40 f_s)), (a_p, (oc6 8 5 a_pn e_p)), (a_pn, (arI G 40 f_p)), (a_w, (oc6 6 6 a_wn e_w)), (a_wn, (arI G 36 f_w)), (a_bb, (arJ G 24 f_bb))] ∧ (0 ≤ e_p.toInt ∧ e_p.toInt ≤ 8) ∧ (0 ≤ e_g.toInt ∧ e_g.toInt ≤ 6) ∧ (0 ≤ e_b.toInt ∧ e_b.toInt ≤ 5) ∧ (0 ≤ e_s.toInt ∧ e_s.toInt ≤ 10) ∧ (0 ≤ e_w.toInt ∧ e_w.toInt ≤ 6) ∧ (gOK f_g e_g.toInt) ∧ (gOK f_p e_p.toInt) ∧ (inT e_gb f_g e_g.toInt) ∧ (∀ r : Int, 0 ≤ r → r < e_s.toInt → 0 ≤ (tget f_s e_s.toInt 4 r (3 : Int32).toInt).toInt ∧ (tget f_s e_s.toInt 4 r (3 : Int32).toInt).toInt ≤ 1) ∧ (snS f_s e_s.toInt e_s.toInt.toNat ≤ 5) ∧ (LWS Lw f_l e_lc e_fo) ∧ (QH e_wa e_le e_st f_ro) ∧ (QG e_g f_g e_gb f_ro) ∧ (QB e_b f_b f_bb f_ro) ∧ (QS e_s f_s f_ro) ∧ (QP e_p f_p f_ro) ∧ (QW e_w f_w f_ro) ∧ (NW f_ro) ∧ (CLAW Lw f_l e_lc e_fo g_L g_F)
set_option maxHeartbeats 4000000 in
set_option maxRecDepth 100000 in
def XBI (G : g5_G) (Lw : List LR) (a_im a_ke : Nat) (f_im : Nat → Int32) (f_ke : Nat → Int32) (g_M : LMS) (w : va_W) : Prop := ∃ (a_h2 : Nat) (a_l2 : Nat) (a_g2 : Nat) (a_gn2 : Nat) (a_b2 : Nat) (a_bn2 : Nat) (a_s2 : Nat) (a_sn2 : Nat) (a_p2 : Nat) (a_pn2 : Nat) (a_w2 : Nat) (a_wn2 : Nat) (a_bb2 : Nat) (a_h3 : Nat) (e_le2 : Int32) (e_st2 : Int32) (e_fo2 : Int32) (e_lc2 : Int32) (e_wa2 : Int64) (e_gb2 : Int64) (f_l2 : Nat → Option Nat) (e_g2 : Int32) (f_g2 : Nat → Int32) (e_b2 : Int32) (f_b2 : Nat → Int32) (e_s2 : Int32) (f_s2 : Nat → Int32) (e_p2 : Int32) (f_p2 : Nat → Int32) (e_w2 : Int32) (f_w2 : Nat → Int32) (f_bb2 : Nat → Int64) (a_l3 : Nat) (a_g3 : Nat) (a_gn3 : Nat) (a_b3 : Nat) (a_bn3 : Nat) (a_s3 : Nat) (a_sn3 : Nat) (a_p3 : Nat) (a_pn3 : Nat) (a_w3 : Nat) (a_wn3 : Nat) (a_bb3 : Nat) (e_le3 : Int32) (e_st3 : Int32) (e_fo3 : Int32) (e_lc3 : Int32) (e_wa3 : Int64) (e_gb3 : Int64) (f_l3 : Nat → Option Nat) (e_g3 : Int32) (f_g3 : Nat → Int32) (e_b3 : Int32) (f_b3 : Nat → Int32) (e_s3 : Int32) (f_s3 : Nat → Int32) (e_p3 : Int32) (f_p3 : Nat → Int32) (e_w3 : Int32) (f_w3 : Nat → Int32) (f_bb3 : Nat → Int64), w = [(a_im, (arH G 2 (va_up (va_up (fun _ => none) 0 (some a_h2)) 1 (some a_h3)))), (a_ke, (arZ G 2 f_ke)), (a_h2, (oc1 e_wa2 e_le2 e_st2 e_fo2 e_lc2 a_l2 a_g2 a_b2 a_s2 a_p2 a_w2 e_gb2 a_bb2)), (a_l2, (arW G 6 f_l2)), (a_g2, (oc6 6 5 a_gn2 e_g2)), (a_gn2, (arI G 30 f_g2)), (a_b2, (oc6 5 24 a_bn2 e_b2)), (a_bn2, (arI G 120 f_b2)), (a_s2, (oc6 10 4 a_sn2 e_s2)), (a_sn2, (arI G 40 f_s2)), (a_p2, (oc6 8 5 a_pn2 e_p2)), (a_pn2, (arI G 40 f_p2)), (a_w2, (oc6 6 6 a_wn2 e_w2)), (a_wn2, (arI G 36 f_w2)), (a_bb2, (arJ G 24 f_bb2)), (a_h3, (oc1 e_wa3 e_le3 e_st3 e_fo3 e_lc3 a_l3 a_g3 a_b3 a_s3 a_p3 a_w3 e_gb3 a_bb3)), (a_l3, (arW G 6 f_l3)), (a_g3, (oc6 6 5 a_gn3 e_g3)), (a_gn3, (arI G 30 f_g3)), (a_b3, (oc6 5 24 a_bn3 e_b3)), (a_bn3, (arI G 120 f_b3)), (a_s3, (oc6 10 4 a_sn3 e_s3)), (a_sn3, (arI G 40 f_s3)), (a_p3, (oc6 8 5 a_pn3 e_p3)), (a_pn3, (arI G 40 f_p3)), (a_w3, (oc6 6 6 a_wn3 e_w3)), (a_wn3, (arI G 36 f_w3)), (a_bb3, (arJ G 24 f_bb3))] ∧ (0 ≤ e_g2.toInt ∧ e_g2.toInt ≤ 6) ∧ (0 ≤ e_b2.toInt ∧ e_b2.toInt ≤ 5) ∧ (0 ≤ e_s2.toInt ∧ e_s2.toInt ≤ 10) ∧ (0 ≤ e_p2.toInt ∧ e_p2.toInt ≤ 8) ∧ (0 ≤ e_w2.toInt ∧ e_w2.toInt ≤ 6) ∧ (0 ≤ e_g3.toInt ∧ e_g3.toInt ≤ 6) ∧ (0 ≤ e_b3.toInt ∧ e_b3.toInt ≤ 5) ∧ (0 ≤ e_s3.toInt ∧ e_s3.toInt ≤ 10) ∧ (0 ≤ e_p3.toInt ∧ e_p3.toInt ≤ 8) ∧ (0 ≤ e_w3.toInt ∧ e_w3.toInt ≤ 6) ∧ (gOK f_g2 e_g2.toInt) ∧ (gOK f_p2 e_p2.toInt) ∧ (inT e_gb2 f_g2 e_g2.toInt) ∧ (∀ r : Int, 0 ≤ r → r < e_s2.toInt → 0 ≤ (tget f_s2 e_s2.toInt 4 r (3 : Int32).toInt).toInt ∧ (tget f_s2 e_s2.toInt 4 r (3 : Int32).toInt).toInt ≤ 1) ∧ (snS f_s2 e_s2.toInt e_s2.toInt.toNat ≤ 5) ∧ (LWS Lw f_l2 e_lc2 e_fo2) ∧ (gOK f_g3 e_g3.toInt) ∧ (gOK f_p3 e_p3.toInt) ∧ (inT e_gb3 f_g3 e_g3.toInt) ∧ (∀ r : Int, 0 ≤ r → r < e_s3.toInt → 0 ≤ (tget f_s3 e_s3.toInt 4 r (3 : Int32).toInt).toInt ∧ (tget f_s3 e_s3.toInt 4 r (3 : Int32).toInt).toInt ≤ 1) ∧ (snS f_s3 e_s3.toInt e_s3.toInt.toNat ≤ 5) ∧ (LWS Lw f_l3 e_lc3 e_fo3) ∧ (QML 0 f_ke Lw f_l2 e_lc2 e_fo2 g_M) ∧ (QML 1 f_ke Lw f_l3 e_lc3 e_fo3 g_M) ∧ (QIM 0 f_ke f_im e_wa2 e_le2 e_st2 e_g2 f_g2 e_gb2 e_b2 f_b2 f_bb2 e_s2 f_s2 e_p2 f_p2 e_w2 f_w2) ∧ (QIM 1 f_ke f_im e_wa3 e_le3 e_st3 e_g3 f_g3 e_gb3 e_b3 f_b3 f_bb3 e_s3 f_s3 e_p3 f_p3 e_w3 f_w3)
set_option maxHeartbeats 4000000 in
set_option maxRecDepth 100000 in
def XBK (G : g5_G) (Lw : List LR) (a_h a_k : Nat) (w : va_W) : Prop := ∃ (a_j : Nat) (a_as : Nat) (a_sk : Nat) (a_pt : Nat) (f_as : Nat → Int32) (f_sk : Nat → Int64) (e_ln : Int32) (e_se : Int32) (e_lh : Int32) (e_br : Int32) (e_we : Int32) (e_me : Int32) (e_ce : Int32) (e_wy : Int32) (e_ho : Int32) (e_ov : Int32) (f_pt : Nat → Int32), w = [(a_k, (oc5 a_h a_j a_pt e_ln e_se e_lh e_br e_we e_me e_ce e_wy e_ho e_ov)), (a_j, (oc2 a_as a_sk)), (a_as, (arI G 8 f_as)), (a_sk, (arJ G 50 f_sk)), (a_pt, (arI G 200 f_pt))] ∧ (0 ≤ e_ov.toInt ∧ e_ov.toInt ≤ 1)
set_option maxHeartbeats 4000000 in
set_option maxRecDepth 100000 in
def XBW (G : g5_G) (Lw : List LR) (a_h a_k a_wa : Nat) (w : va_W) : Prop := ∃ (a_bo : Nat) (f_bo : Nat → Int64), w = [(a_wa, (oc10 a_h a_k a_bo)), (a_bo, (arJ G 24 f_bo))]
set_option maxHeartbeats 4000000 in
set_option maxRecDepth 100000 in
def XBT (G : g5_G) (Lw : List LR) (a_h a_k a_th : Nat) (w : va_W) : Prop := ∃ (a_ba : Nat) (a_ad : Nat) (a_cn : Nat) (a_nx : Nat) (a_hp : Nat) (a_hl : Nat) (a_lv : Nat) (e_fu : Int32) (f_ba : Nat → Int64) (f_ad : Nat → Int32) (f_cn : Nat → Int64) (f_nx : Nat → Int64) (f_hp : Nat → Int32) (f_hl : Nat → Int32) (f_lv : Nat → Int32), w = [(a_th, (oc7 a_h a_k a_ba a_ad e_fu a_cn a_nx a_hp a_hl a_lv)), (a_ba, (arJ G 24 f_ba)), (a_ad, (arI G 1536 f_ad)), (a_cn, (arJ G 2048 f_cn)), (a_nx, (arJ G 2048 f_nx)), (a_hp, (arI G 1536 f_hp)), (a_hl, (arI G 64 f_hl)), (a_lv, (arI G 64 f_lv))]
set_option maxHeartbeats 4000000 in
set_option maxRecDepth 100000 in
def XBG (G : g5_G) (Lw : List LR) (a_h a_k a_ha : Nat) (w : va_W) : Prop := ∃ (e_f1 : Int32) (e_f2 : Int32) (e_f3 : Int32), w = [(a_ha, (oc0 a_h a_k e_f1 e_f2 e_f3))]
set_option maxHeartbeats 4000000 in
set_option maxRecDepth 100000 in
def XBA (G : g5_G) (Lw : List LR) (a_h a_k a_wk : Nat) (w : va_W) : Prop := ∃ (a_go : Nat) (a_mt : Nat) (f_go : Nat → Int64) (f_mt : Nat → Int32), w = [(a_wk, (oc9 a_h a_k a_go a_mt)), (a_go, (arJ G 24 f_go)), (a_mt, (arI G 1536 f_mt))]
set_option maxHeartbeats 4000000 in
set_option maxRecDepth 100000 in
def XBR (G : g5_G) (Lw : List LR) (a_r : Nat) (w : va_W) : Prop := ∃ (a_tk : Nat) (a_kd : Nat) (a_nm : Nat) (a_pl : Nat) (a_rc : Nat) (a_rh : Nat) (a_rs : Nat) (e_rl : Int32) (e_pa : Int32) (e_at : Int32) (e_fp : Int32) (f_kd : Nat → Int32) (f_nm : Nat → Int32) (f_pl : Nat → Int32) (f_rc : Nat → Int32) (f_rh : Nat → Int32) (f_rs : Nat → Int32), w = [(a_r, (oc4 a_tk a_rh a_rs a_rc e_rl e_pa e_at e_fp)), (a_tk, (oc8 a_kd a_nm a_pl)), (a_kd, (arI G 401 f_kd)), (a_nm, (arI G 401 f_nm)), (a_pl, (arI G 401 f_pl)), (a_rc, (arI G 400 f_rc)), (a_rh, (arI G 12 f_rh)), (a_rs, (arI G 13 f_rs))] ∧ (0 ≤ e_rl.toInt ∧ e_rl.toInt ≤ 400) ∧ (0 ≤ e_pa.toInt ∧ e_pa.toInt ≤ 50) ∧ (0 ≤ e_at.toInt ∧ e_at.toInt ≤ 401) ∧ (TOKI f_kd f_nm)
set_option maxHeartbeats 4000000 in
set_option maxRecDepth 100000 in
theorem xbO_mk {G : g5_G} {Lw : List LR} {a_o a_h a_im a_ke a_k a_wa a_th a_ha a_wk a_r : Nat} {f_x : Nat → Int32} {e_tl : Int32} {e_fd : Int32} {f_wd : Nat → Int32} {e_wn : Int32} {e_fpl : Int32} (a_rf : Nat) (a_x : Nat) (a_wd : Nat) (e_lr : Int32) (f_rf : Nat → Int32) (h0_ : 0 ≤ e_tl.toInt ∧ e_tl.toInt ≤ 400) (h1_ : 0 ≤ e_wn.toInt ∧ e_wn.toInt ≤ 1) (h2_ : TPI f_x) : XBO G Lw a_o a_h a_im a_ke a_k a_wa a_th a_ha a_wk a_r f_x e_tl e_fd f_wd e_wn e_fpl [(a_o, (oc11 a_h a_im a_ke a_k a_wa a_th a_ha a_wk a_r a_x e_tl e_fd e_fpl a_wd e_wn a_rf e_lr)), (a_rf, (arI G 5 f_rf)), (a_x, (arI G 400 f_x)), (a_wd, (arI G 24 f_wd))] := Exists.intro a_rf (Exists.intro a_x (Exists.intro a_wd (Exists.intro e_lr (Exists.intro f_rf (⟨rfl, h0_, h1_, h2_⟩)))))
set_option maxHeartbeats 4000000 in
set_option maxRecDepth 100000 in
theorem xbO_elim {G : g5_G} {Lw : List LR} {a_o a_h a_im a_ke a_k a_wa a_th a_ha a_wk a_r : Nat} {f_x : Nat → Int32} {e_tl : Int32} {e_fd : Int32} {f_wd : Nat → Int32} {e_wn : Int32} {e_fpl : Int32} {w : va_W} {P : Prop} (h : XBO G Lw a_o a_h a_im a_ke a_k a_wa a_th a_ha a_wk a_r f_x e_tl e_fd f_wd e_wn e_fpl w) (k : ∀ (a_rf : Nat) (a_x : Nat) (a_wd : Nat) (e_lr : Int32) (f_rf : Nat → Int32), w = [(a_o, (oc11 a_h a_im a_ke a_k a_wa a_th a_ha a_wk a_r a_x e_tl e_fd e_fpl a_wd e_wn a_rf e_lr)), (a_rf, (arI G 5 f_rf)), (a_x, (arI G 400 f_x)), (a_wd, (arI G 24 f_wd))] → (0 ≤ e_tl.toInt ∧ e_tl.toInt ≤ 400) → (0 ≤ e_wn.toInt ∧ e_wn.toInt ≤ 1) → (TPI f_x) → P) : P := by
  unfold XBO at h
  exact Exists.elim h (fun a_rf h => Exists.elim h (fun a_x h => Exists.elim h (fun a_wd h => Exists.elim h (fun e_lr h => Exists.elim h (fun f_rf h => k a_rf a_x a_wd e_lr f_rf h.1 h.2.1 h.2.2.1 h.2.2.2)))))
set_option maxHeartbeats 4000000 in
set_option maxRecDepth 100000 in
theorem xbH_mk {G : g5_G} {Lw : List LR} {a_h : Nat} {f_ro : Nat → Int32} {g_L : LLS} {g_F : Int32} (a_p : Nat) (a_pn : Nat) (a_bb : Nat) (a_l : Nat) (a_g : Nat) (a_b : Nat) (a_s : Nat) (a_w : Nat) (e_le : Int32) (e_st : Int32) (e_fo : Int32) (e_lc : Int32) (e_wa : Int64) (e_gb : Int64) (e_p : Int32) (f_p : Nat → Int32) (f_bb : Nat → Int64) (e_g : Int32) (e_b : Int32) (f_g : Nat → Int32) (f_b : Nat → Int32) (a_gn : Nat) (a_bn : Nat) (f_l : Nat → Option Nat) (a_sn : Nat) (e_s : Int32) (f_s : Nat → Int32) (a_wn : Nat) (e_w : Int32) (f_w : Nat → Int32) (h0_ : 0 ≤ e_p.toInt ∧ e_p.toInt ≤ 8) (h1_ : 0 ≤ e_g.toInt ∧ e_g.toInt ≤ 6) (h2_ : 0 ≤ e_b.toInt ∧ e_b.toInt ≤ 5) (h3_ : 0 ≤ e_s.toInt ∧ e_s.toInt ≤ 10) (h4_ : 0 ≤ e_w.toInt ∧ e_w.toInt ≤ 6) (h5_ : gOK f_g e_g.toInt) (h6_ : gOK f_p e_p.toInt) (h7_ : inT e_gb f_g e_g.toInt) (h8_ : ∀ r : Int, 0 ≤ r → r < e_s.toInt → 0 ≤ (tget f_s e_s.toInt 4 r (3 : Int32).toInt).toInt ∧ (tget f_s e_s.toInt 4 r (3 : Int32).toInt).toInt ≤ 1) (h9_ : snS f_s e_s.toInt e_s.toInt.toNat ≤ 5) (h10_ : LWS Lw f_l e_lc e_fo) (h11_ : QH e_wa e_le e_st f_ro) (h12_ : QG e_g f_g e_gb f_ro) (h13_ : QB e_b f_b f_bb f_ro) (h14_ : QS e_s f_s f_ro) (h15_ : QP e_p f_p f_ro) (h16_ : QW e_w f_w f_ro) (h17_ : NW f_ro) (h18_ : CLAW Lw f_l e_lc e_fo g_L g_F) : XBH G Lw a_h f_ro g_L g_F [(a_h, (oc1 e_wa e_le e_st e_fo e_lc a_l a_g a_b a_s a_p a_w e_gb a_bb)), (a_l, (arW G 6 f_l)), (a_g, (oc6 6 5 a_gn e_g)), (a_gn, (arI G 30 f_g)), (a_b, (oc6 5 24 a_bn e_b)), (a_bn, (arI G 120 f_b)), (a_s, (oc6 10 4 a_sn e_s)), (a_sn, (arI G 40 f_s)), (a_p, (oc6 8 5 a_pn e_p)), (a_pn, (arI G 40 f_p)), (a_w, (oc6 6 6 a_wn e_w)), (a_wn, (arI G 36 f_w)), (a_bb, (arJ G 24 f_bb))] := Exists.intro a_p (Exists.intro a_pn (Exists.intro a_bb (Exists.intro a_l (Exists.intro a_g (Exists.intro a_b (Exists.intro a_s (Exists.intro a_w (Exists.intro e_le (Exists.intro e_st (Exists.intro e_fo (Exists.intro e_lc (Exists.intro e_wa (Exists.intro e_gb (Exists.intro e_p (Exists.intro f_p (Exists.intro f_bb (Exists.intro e_g (Exists.intro e_b (Exists.intro f_g (Exists.intro f_b (Exists.intro a_gn (Exists.intro a_bn (Exists.intro f_l (Exists.intro a_sn (Exists.intro e_s (Exists.intro f_s (Exists.intro a_wn (Exists.intro e_w (Exists.intro f_w (⟨rfl, h0_, h1_, h2_, h3_, h4_, h5_, h6_, h7_, h8_, h9_, h10_, h11_, h12_, h13_, h14_, h15_, h16_, h17_, h18_⟩))))))))))))))))))))))))))))))
set_option maxHeartbeats 4000000 in
set_option maxRecDepth 100000 in
theorem xbH_elim {G : g5_G} {Lw : List LR} {a_h : Nat} {f_ro : Nat → Int32} {g_L : LLS} {g_F : Int32} {w : va_W} {P : Prop} (h : XBH G Lw a_h f_ro g_L g_F w) (k : ∀ (a_p : Nat) (a_pn : Nat) (a_bb : Nat) (a_l : Nat) (a_g : Nat) (a_b : Nat) (a_s : Nat) (a_w : Nat) (e_le : Int32) (e_st : Int32) (e_fo : Int32) (e_lc : Int32) (e_wa : Int64) (e_gb : Int64) (e_p : Int32) (f_p : Nat → Int32) (f_bb : Nat → Int64) (e_g : Int32) (e_b : Int32) (f_g : Nat → Int32) (f_b : Nat → Int32) (a_gn : Nat) (a_bn : Nat) (f_l : Nat → Option Nat) (a_sn : Nat) (e_s : Int32) (f_s : Nat → Int32) (a_wn : Nat) (e_w : Int32) (f_w : Nat → Int32), w = [(a_h, (oc1 e_wa e_le e_st e_fo e_lc a_l a_g a_b a_s a_p a_w e_gb a_bb)), (a_l, (arW G 6 f_l)), (a_g, (oc6 6 5 a_gn e_g)), (a_gn, (arI G 30 f_g)), (a_b, (oc6 5 24 a_bn e_b)), (a_bn, (arI G 120 f_b)), (a_s, (oc6 10 4 a_sn e_s)), (a_sn, (arI G 40 f_s)), (a_p, (oc6 8 5 a_pn e_p)), (a_pn, (arI G 40 f_p)), (a_w, (oc6 6 6 a_wn e_w)), (a_wn, (arI G 36 f_w)), (a_bb, (arJ G 24 f_bb))] → (0 ≤ e_p.toInt ∧ e_p.toInt ≤ 8) → (0 ≤ e_g.toInt ∧ e_g.toInt ≤ 6) → (0 ≤ e_b.toInt ∧ e_b.toInt ≤ 5) → (0 ≤ e_s.toInt ∧ e_s.toInt ≤ 10) → (0 ≤ e_w.toInt ∧ e_w.toInt ≤ 6) → (gOK f_g e_g.toInt) → (gOK f_p e_p.toInt) → (inT e_gb f_g e_g.toInt) → (∀ r : Int, 0 ≤ r → r < e_s.toInt → 0 ≤ (tget f_s e_s.toInt 4 r (3 : Int32).toInt).toInt ∧ (tget f_s e_s.toInt 4 r (3 : Int32).toInt).toInt ≤ 1) → (snS f_s e_s.toInt e_s.toInt.toNat ≤ 5) → (LWS Lw f_l e_lc e_fo) → (QH e_wa e_le e_st f_ro) → (QG e_g f_g e_gb f_ro) → (QB e_b f_b f_bb f_ro) → (QS e_s f_s f_ro) → (QP e_p f_p f_ro) → (QW e_w f_w f_ro) → (NW f_ro) → (CLAW Lw f_l e_lc e_fo g_L g_F) → P) : P := by
  unfold XBH at h
  exact Exists.elim h (fun a_p h => Exists.elim h (fun a_pn h => Exists.elim h (fun a_bb h => Exists.elim h (fun a_l h => Exists.elim h (fun a_g h => Exists.elim h (fun a_b h => Exists.elim h (fun a_s h => Exists.elim h (fun a_w h => Exists.elim h (fun e_le h => Exists.elim h (fun e_st h => Exists.elim h (fun e_fo h => Exists.elim h (fun e_lc h => Exists.elim h (fun e_wa h => Exists.elim h (fun e_gb h => Exists.elim h (fun e_p h => Exists.elim h (fun f_p h => Exists.elim h (fun f_bb h => Exists.elim h (fun e_g h => Exists.elim h (fun e_b h => Exists.elim h (fun f_g h => Exists.elim h (fun f_b h => Exists.elim h (fun a_gn h => Exists.elim h (fun a_bn h => Exists.elim h (fun f_l h => Exists.elim h (fun a_sn h => Exists.elim h (fun e_s h => Exists.elim h (fun f_s h => Exists.elim h (fun a_wn h => Exists.elim h (fun e_w h => Exists.elim h (fun f_w h => k a_p a_pn a_bb a_l a_g a_b a_s a_w e_le e_st e_fo e_lc e_wa e_gb e_p f_p f_bb e_g e_b f_g f_b a_gn a_bn f_l a_sn e_s f_s a_wn e_w f_w h.1 h.2.1 h.2.2.1 h.2.2.2.1 h.2.2.2.2.1 h.2.2.2.2.2.1 h.2.2.2.2.2.2.1 h.2.2.2.2.2.2.2.1 h.2.2.2.2.2.2.2.2.1 h.2.2.2.2.2.2.2.2.2.1 h.2.2.2.2.2.2.2.2.2.2.1 h.2.2.2.2.2.2.2.2.2.2.2.1 h.2.2.2.2.2.2.2.2.2.2.2.2.1 h.2.2.2.2.2.2.2.2.2.2.2.2.2.1 h.2.2.2.2.2.2.2.2.2.2.2.2.2.2.1 h.2.2.2.2.2.2.2.2.2.2.2.2.2.2.2.1 h.2.2.2.2.2.2.2.2.2.2.2.2.2.2.2.2.1 h.2.2.2.2.2.2.2.2.2.2.2.2.2.2.2.2.2.1 h.2.2.2.2.2.2.2.2.2.2.2.2.2.2.2.2.2.2.1 h.2.2.2.2.2.2.2.2.2.2.2.2.2.2.2.2.2.2.2))))))))))))))))))))))))))))))
set_option maxHeartbeats 4000000 in
set_option maxRecDepth 100000 in
theorem xbI_mk {G : g5_G} {Lw : List LR} {a_im a_ke : Nat} {f_im : Nat → Int32} {f_ke : Nat → Int32} {g_M : LMS} (a_h2 : Nat) (a_l2 : Nat) (a_g2 : Nat) (a_gn2 : Nat) (a_b2 : Nat) (a_bn2 : Nat) (a_s2 : Nat) (a_sn2 : Nat) (a_p2 : Nat) (a_pn2 : Nat) (a_w2 : Nat) (a_wn2 : Nat) (a_bb2 : Nat) (a_h3 : Nat) (e_le2 : Int32) (e_st2 : Int32) (e_fo2 : Int32) (e_lc2 : Int32) (e_wa2 : Int64) (e_gb2 : Int64) (f_l2 : Nat → Option Nat) (e_g2 : Int32) (f_g2 : Nat → Int32) (e_b2 : Int32) (f_b2 : Nat → Int32) (e_s2 : Int32) (f_s2 : Nat → Int32) (e_p2 : Int32) (f_p2 : Nat → Int32) (e_w2 : Int32) (f_w2 : Nat → Int32) (f_bb2 : Nat → Int64) (a_l3 : Nat) (a_g3 : Nat) (a_gn3 : Nat) (a_b3 : Nat) (a_bn3 : Nat) (a_s3 : Nat) (a_sn3 : Nat) (a_p3 : Nat) (a_pn3 : Nat) (a_w3 : Nat) (a_wn3 : Nat) (a_bb3 : Nat) (e_le3 : Int32) (e_st3 : Int32) (e_fo3 : Int32) (e_lc3 : Int32) (e_wa3 : Int64) (e_gb3 : Int64) (f_l3 : Nat → Option Nat) (e_g3 : Int32) (f_g3 : Nat → Int32) (e_b3 : Int32) (f_b3 : Nat → Int32) (e_s3 : Int32) (f_s3 : Nat → Int32) (e_p3 : Int32) (f_p3 : Nat → Int32) (e_w3 : Int32) (f_w3 : Nat → Int32) (f_bb3 : Nat → Int64) (h0_ : 0 ≤ e_g2.toInt ∧ e_g2.toInt ≤ 6) (h1_ : 0 ≤ e_b2.toInt ∧ e_b2.toInt ≤ 5) (h2_ : 0 ≤ e_s2.toInt ∧ e_s2.toInt ≤ 10) (h3_ : 0 ≤ e_p2.toInt ∧ e_p2.toInt ≤ 8) (h4_ : 0 ≤ e_w2.toInt ∧ e_w2.toInt ≤ 6) (h5_ : 0 ≤ e_g3.toInt ∧ e_g3.toInt ≤ 6) (h6_ : 0 ≤ e_b3.toInt ∧ e_b3.toInt ≤ 5) (h7_ : 0 ≤ e_s3.toInt ∧ e_s3.toInt ≤ 10) (h8_ : 0 ≤ e_p3.toInt ∧ e_p3.toInt ≤ 8) (h9_ : 0 ≤ e_w3.toInt ∧ e_w3.toInt ≤ 6) (h10_ : gOK f_g2 e_g2.toInt) (h11_ : gOK f_p2 e_p2.toInt) (h12_ : inT e_gb2 f_g2 e_g2.toInt) (h13_ : ∀ r : Int, 0 ≤ r → r < e_s2.toInt → 0 ≤ (tget f_s2 e_s2.toInt 4 r (3 : Int32).toInt).toInt ∧ (tget f_s2 e_s2.toInt 4 r (3 : Int32).toInt).toInt ≤ 1) (h14_ : snS f_s2 e_s2.toInt e_s2.toInt.toNat ≤ 5) (h15_ : LWS Lw f_l2 e_lc2 e_fo2) (h16_ : gOK f_g3 e_g3.toInt) (h17_ : gOK f_p3 e_p3.toInt) (h18_ : inT e_gb3 f_g3 e_g3.toInt) (h19_ : ∀ r : Int, 0 ≤ r → r < e_s3.toInt → 0 ≤ (tget f_s3 e_s3.toInt 4 r (3 : Int32).toInt).toInt ∧ (tget f_s3 e_s3.toInt 4 r (3 : Int32).toInt).toInt ≤ 1) (h20_ : snS f_s3 e_s3.toInt e_s3.toInt.toNat ≤ 5) (h21_ : LWS Lw f_l3 e_lc3 e_fo3) (h22_ : QML 0 f_ke Lw f_l2 e_lc2 e_fo2 g_M) (h23_ : QML 1 f_ke Lw f_l3 e_lc3 e_fo3 g_M) (h24_ : QIM 0 f_ke f_im e_wa2 e_le2 e_st2 e_g2 f_g2 e_gb2 e_b2 f_b2 f_bb2 e_s2 f_s2 e_p2 f_p2 e_w2 f_w2) (h25_ : QIM 1 f_ke f_im e_wa3 e_le3 e_st3 e_g3 f_g3 e_gb3 e_b3 f_b3 f_bb3 e_s3 f_s3 e_p3 f_p3 e_w3 f_w3) : XBI G Lw a_im a_ke f_im f_ke g_M [(a_im, (arH G 2 (va_up (va_up (fun _ => none) 0 (some a_h2)) 1 (some a_h3)))), (a_ke, (arZ G 2 f_ke)), (a_h2, (oc1 e_wa2 e_le2 e_st2 e_fo2 e_lc2 a_l2 a_g2 a_b2 a_s2 a_p2 a_w2 e_gb2 a_bb2)), (a_l2, (arW G 6 f_l2)), (a_g2, (oc6 6 5 a_gn2 e_g2)), (a_gn2, (arI G 30 f_g2)), (a_b2, (oc6 5 24 a_bn2 e_b2)), (a_bn2, (arI G 120 f_b2)), (a_s2, (oc6 10 4 a_sn2 e_s2)), (a_sn2, (arI G 40 f_s2)), (a_p2, (oc6 8 5 a_pn2 e_p2)), (a_pn2, (arI G 40 f_p2)), (a_w2, (oc6 6 6 a_wn2 e_w2)), (a_wn2, (arI G 36 f_w2)), (a_bb2, (arJ G 24 f_bb2)), (a_h3, (oc1 e_wa3 e_le3 e_st3 e_fo3 e_lc3 a_l3 a_g3 a_b3 a_s3 a_p3 a_w3 e_gb3 a_bb3)), (a_l3, (arW G 6 f_l3)), (a_g3, (oc6 6 5 a_gn3 e_g3)), (a_gn3, (arI G 30 f_g3)), (a_b3, (oc6 5 24 a_bn3 e_b3)), (a_bn3, (arI G 120 f_b3)), (a_s3, (oc6 10 4 a_sn3 e_s3)), (a_sn3, (arI G 40 f_s3)), (a_p3, (oc6 8 5 a_pn3 e_p3)), (a_pn3, (arI G 40 f_p3)), (a_w3, (oc6 6 6 a_wn3 e_w3)), (a_wn3, (arI G 36 f_w3)), (a_bb3, (arJ G 24 f_bb3))] := Exists.intro a_h2 (Exists.intro a_l2 (Exists.intro a_g2 (Exists.intro a_gn2 (Exists.intro a_b2 (Exists.intro a_bn2 (Exists.intro a_s2 (Exists.intro a_sn2 (Exists.intro a_p2 (Exists.intro a_pn2 (Exists.intro a_w2 (Exists.intro a_wn2 (Exists.intro a_bb2 (Exists.intro a_h3 (Exists.intro e_le2 (Exists.intro e_st2 (Exists.intro e_fo2 (Exists.intro e_lc2 (Exists.intro e_wa2 (Exists.intro e_gb2 (Exists.intro f_l2 (Exists.intro e_g2 (Exists.intro f_g2 (Exists.intro e_b2 (Exists.intro f_b2 (Exists.intro e_s2 (Exists.intro f_s2 (Exists.intro e_p2 (Exists.intro f_p2 (Exists.intro e_w2 (Exists.intro f_w2 (Exists.intro f_bb2 (Exists.intro a_l3 (Exists.intro a_g3 (Exists.intro a_gn3 (Exists.intro a_b3 (Exists.intro a_bn3 (Exists.intro a_s3 (Exists.intro a_sn3 (Exists.intro a_p3 (Exists.intro a_pn3 (Exists.intro a_w3 (Exists.intro a_wn3 (Exists.intro a_bb3 (Exists.intro e_le3 (Exists.intro e_st3 (Exists.intro e_fo3 (Exists.intro e_lc3 (Exists.intro e_wa3 (Exists.intro e_gb3 (Exists.intro f_l3 (Exists.intro e_g3 (Exists.intro f_g3 (Exists.intro e_b3 (Exists.intro f_b3 (Exists.intro e_s3 (Exists.intro f_s3 (Exists.intro e_p3 (Exists.intro f_p3 (Exists.intro e_w3 (Exists.intro f_w3 (Exists.intro f_bb3 (⟨rfl, h0_, h1_, h2_, h3_, h4_, h5_, h6_, h7_, h8_, h9_, h10_, h11_, h12_, h13_, h14_, h15_, h16_, h17_, h18_, h19_, h20_, h21_, h22_, h23_, h24_, h25_⟩))))))))))))))))))))))))))))))))))))))))))))))))))))))))))))))
set_option maxHeartbeats 4000000 in
set_option maxRecDepth 100000 in
theorem xbI_elim {G : g5_G} {Lw : List LR} {a_im a_ke : Nat} {f_im : Nat → Int32} {f_ke : Nat → Int32} {g_M : LMS} {w : va_W} {P : Prop} (h : XBI G Lw a_im a_ke f_im f_ke g_M w) (k : ∀ (a_h2 : Nat) (a_l2 : Nat) (a_g2 : Nat) (a_gn2 : Nat) (a_b2 : Nat) (a_bn2 : Nat) (a_s2 : Nat) (a_sn2 : Nat) (a_p2 : Nat) (a_pn2 : Nat) (a_w2 : Nat) (a_wn2 : Nat) (a_bb2 : Nat) (a_h3 : Nat) (e_le2 : Int32) (e_st2 : Int32) (e_fo2 : Int32) (e_lc2 : Int32) (e_wa2 : Int64) (e_gb2 : Int64) (f_l2 : Nat → Option Nat) (e_g2 : Int32) (f_g2 : Nat → Int32) (e_b2 : Int32) (f_b2 : Nat → Int32) (e_s2 : Int32) (f_s2 : Nat → Int32) (e_p2 : Int32) (f_p2 : Nat → Int32) (e_w2 : Int32) (f_w2 : Nat → Int32) (f_bb2 : Nat → Int64) (a_l3 : Nat) (a_g3 : Nat) (a_gn3 : Nat) (a_b3 : Nat) (a_bn3 : Nat) (a_s3 : Nat) (a_sn3 : Nat) (a_p3 : Nat) (a_pn3 : Nat) (a_w3 : Nat) (a_wn3 : Nat) (a_bb3 : Nat) (e_le3 : Int32) (e_st3 : Int32) (e_fo3 : Int32) (e_lc3 : Int32) (e_wa3 : Int64) (e_gb3 : Int64) (f_l3 : Nat → Option Nat) (e_g3 : Int32) (f_g3 : Nat → Int32) (e_b3 : Int32) (f_b3 : Nat → Int32) (e_s3 : Int32) (f_s3 : Nat → Int32) (e_p3 : Int32) (f_p3 : Nat → Int32) (e_w3 : Int32) (f_w3 : Nat → Int32) (f_bb3 : Nat → Int64), w = [(a_im, (arH G 2 (va_up (va_up (fun _ => none) 0 (some a_h2)) 1 (some a_h3)))), (a_ke, (arZ G 2 f_ke)), (a_h2, (oc1 e_wa2 e_le2 e_st2 e_fo2 e_lc2 a_l2 a_g2 a_b2 a_s2 a_p2 a_w2 e_gb2 a_bb2)), (a_l2, (arW G 6 f_l2)), (a_g2, (oc6 6 5 a_gn2 e_g2)), (a_gn2, (arI G 30 f_g2)), (a_b2, (oc6 5 24 a_bn2 e_b2)), (a_bn2, (arI G 120 f_b2)), (a_s2, (oc6 10 4 a_sn2 e_s2)), (a_sn2, (arI G 40 f_s2)), (a_p2, (oc6 8 5 a_pn2 e_p2)), (a_pn2, (arI G 40 f_p2)), (a_w2, (oc6 6 6 a_wn2 e_w2)), (a_wn2, (arI G 36 f_w2)), (a_bb2, (arJ G 24 f_bb2)), (a_h3, (oc1 e_wa3 e_le3 e_st3 e_fo3 e_lc3 a_l3 a_g3 a_b3 a_s3 a_p3 a_w3 e_gb3 a_bb3)), (a_l3, (arW G 6 f_l3)), (a_g3, (oc6 6 5 a_gn3 e_g3)), (a_gn3, (arI G 30 f_g3)), (a_b3, (oc6 5 24 a_bn3 e_b3)), (a_bn3, (arI G 120 f_b3)), (a_s3, (oc6 10 4 a_sn3 e_s3)), (a_sn3, (arI G 40 f_s3)), (a_p3, (oc6 8 5 a_pn3 e_p3)), (a_pn3, (arI G 40 f_p3)), (a_w3, (oc6 6 6 a_wn3 e_w3)), (a_wn3, (arI G 36 f_w3)), (a_bb3, (arJ G 24 f_bb3))] → (0 ≤ e_g2.toInt ∧ e_g2.toInt ≤ 6) → (0 ≤ e_b2.toInt ∧ e_b2.toInt ≤ 5) → (0 ≤ e_s2.toInt ∧ e_s2.toInt ≤ 10) → (0 ≤ e_p2.toInt ∧ e_p2.toInt ≤ 8) → (0 ≤ e_w2.toInt ∧ e_w2.toInt ≤ 6) → (0 ≤ e_g3.toInt ∧ e_g3.toInt ≤ 6) → (0 ≤ e_b3.toInt ∧ e_b3.toInt ≤ 5) → (0 ≤ e_s3.toInt ∧ e_s3.toInt ≤ 10) → (0 ≤ e_p3.toInt ∧ e_p3.toInt ≤ 8) → (0 ≤ e_w3.toInt ∧ e_w3.toInt ≤ 6) → (gOK f_g2 e_g2.toInt) → (gOK f_p2 e_p2.toInt) → (inT e_gb2 f_g2 e_g2.toInt) → (∀ r : Int, 0 ≤ r → r < e_s2.toInt → 0 ≤ (tget f_s2 e_s2.toInt 4 r (3 : Int32).toInt).toInt ∧ (tget f_s2 e_s2.toInt 4 r (3 : Int32).toInt).toInt ≤ 1) → (snS f_s2 e_s2.toInt e_s2.toInt.toNat ≤ 5) → (LWS Lw f_l2 e_lc2 e_fo2) → (gOK f_g3 e_g3.toInt) → (gOK f_p3 e_p3.toInt) → (inT e_gb3 f_g3 e_g3.toInt) → (∀ r : Int, 0 ≤ r → r < e_s3.toInt → 0 ≤ (tget f_s3 e_s3.toInt 4 r (3 : Int32).toInt).toInt ∧ (tget f_s3 e_s3.toInt 4 r (3 : Int32).toInt).toInt ≤ 1) → (snS f_s3 e_s3.toInt e_s3.toInt.toNat ≤ 5) → (LWS Lw f_l3 e_lc3 e_fo3) → (QML 0 f_ke Lw f_l2 e_lc2 e_fo2 g_M) → (QML 1 f_ke Lw f_l3 e_lc3 e_fo3 g_M) → (QIM 0 f_ke f_im e_wa2 e_le2 e_st2 e_g2 f_g2 e_gb2 e_b2 f_b2 f_bb2 e_s2 f_s2 e_p2 f_p2 e_w2 f_w2) → (QIM 1 f_ke f_im e_wa3 e_le3 e_st3 e_g3 f_g3 e_gb3 e_b3 f_b3 f_bb3 e_s3 f_s3 e_p3 f_p3 e_w3 f_w3) → P) : P := by
  unfold XBI at h
  exact Exists.elim h (fun a_h2 h => Exists.elim h (fun a_l2 h => Exists.elim h (fun a_g2 h => Exists.elim h (fun a_gn2 h => Exists.elim h (fun a_b2 h => Exists.elim h (fun a_bn2 h => Exists.elim h (fun a_s2 h => Exists.elim h (fun a_sn2 h => Exists.elim h (fun a_p2 h => Exists.elim h (fun a_pn2 h => Exists.elim h (fun a_w2 h => Exists.elim h (fun a_wn2 h => Exists.elim h (fun a_bb2 h => Exists.elim h (fun a_h3 h => Exists.elim h (fun e_le2 h => Exists.elim h (fun e_st2 h => Exists.elim h (fun e_fo2 h => Exists.elim h (fun e_lc2 h => Exists.elim h (fun e_wa2 h => Exists.elim h (fun e_gb2 h => Exists.elim h (fun f_l2 h => Exists.elim h (fun e_g2 h => Exists.elim h (fun f_g2 h => Exists.elim h (fun e_b2 h => Exists.elim h (fun f_b2 h => Exists.elim h (fun e_s2 h => Exists.elim h (fun f_s2 h => Exists.elim h (fun e_p2 h => Exists.elim h (fun f_p2 h => Exists.elim h (fun e_w2 h => Exists.elim h (fun f_w2 h => Exists.elim h (fun f_bb2 h => Exists.elim h (fun a_l3 h => Exists.elim h (fun a_g3 h => Exists.elim h (fun a_gn3 h => Exists.elim h (fun a_b3 h => Exists.elim h (fun a_bn3 h => Exists.elim h (fun a_s3 h => Exists.elim h (fun a_sn3 h => Exists.elim h (fun a_p3 h => Exists.elim h (fun a_pn3 h => Exists.elim h (fun a_w3 h => Exists.elim h (fun a_wn3 h => Exists.elim h (fun a_bb3 h => Exists.elim h (fun e_le3 h => Exists.elim h (fun e_st3 h => Exists.elim h (fun e_fo3 h => Exists.elim h (fun e_lc3 h => Exists.elim h (fun e_wa3 h => Exists.elim h (fun e_gb3 h => Exists.elim h (fun f_l3 h => Exists.elim h (fun e_g3 h => Exists.elim h (fun f_g3 h => Exists.elim h (fun e_b3 h => Exists.elim h (fun f_b3 h => Exists.elim h (fun e_s3 h => Exists.elim h (fun f_s3 h => Exists.elim h (fun e_p3 h => Exists.elim h (fun f_p3 h => Exists.elim h (fun e_w3 h => Exists.elim h (fun f_w3 h => Exists.elim h (fun f_bb3 h => k a_h2 a_l2 a_g2 a_gn2 a_b2 a_bn2 a_s2 a_sn2 a_p2 a_pn2 a_w2 a_wn2 a_bb2 a_h3 e_le2 e_st2 e_fo2 e_lc2 e_wa2 e_gb2 f_l2 e_g2 f_g2 e_b2 f_b2 e_s2 f_s2 e_p2 f_p2 e_w2 f_w2 f_bb2 a_l3 a_g3 a_gn3 a_b3 a_bn3 a_s3 a_sn3 a_p3 a_pn3 a_w3 a_wn3 a_bb3 e_le3 e_st3 e_fo3 e_lc3 e_wa3 e_gb3 f_l3 e_g3 f_g3 e_b3 f_b3 e_s3 f_s3 e_p3 f_p3 e_w3 f_w3 f_bb3 h.1 h.2.1 h.2.2.1 h.2.2.2.1 h.2.2.2.2.1 h.2.2.2.2.2.1 h.2.2.2.2.2.2.1 h.2.2.2.2.2.2.2.1 h.2.2.2.2.2.2.2.2.1 h.2.2.2.2.2.2.2.2.2.1 h.2.2.2.2.2.2.2.2.2.2.1 h.2.2.2.2.2.2.2.2.2.2.2.1 h.2.2.2.2.2.2.2.2.2.2.2.2.1 h.2.2.2.2.2.2.2.2.2.2.2.2.2.1 h.2.2.2.2.2.2.2.2.2.2.2.2.2.2.1 h.2.2.2.2.2.2.2.2.2.2.2.2.2.2.2.1 h.2.2.2.2.2.2.2.2.2.2.2.2.2.2.2.2.1 h.2.2.2.2.2.2.2.2.2.2.2.2.2.2.2.2.2.1 h.2.2.2.2.2.2.2.2.2.2.2.2.2.2.2.2.2.2.1 h.2.2.2.2.2.2.2.2.2.2.2.2.2.2.2.2.2.2.2.1 h.2.2.2.2.2.2.2.2.2.2.2.2.2.2.2.2.2.2.2.2.1 h.2.2.2.2.2.2.2.2.2.2.2.2.2.2.2.2.2.2.2.2.2.1 h.2.2.2.2.2.2.2.2.2.2.2.2.2.2.2.2.2.2.2.2.2.2.1 h.2.2.2.2.2.2.2.2.2.2.2.2.2.2.2.2.2.2.2.2.2.2.2.1 h.2.2.2.2.2.2.2.2.2.2.2.2.2.2.2.2.2.2.2.2.2.2.2.2.1 h.2.2.2.2.2.2.2.2.2.2.2.2.2.2.2.2.2.2.2.2.2.2.2.2.2.1 h.2.2.2.2.2.2.2.2.2.2.2.2.2.2.2.2.2.2.2.2.2.2.2.2.2.2))))))))))))))))))))))))))))))))))))))))))))))))))))))))))))))
set_option maxHeartbeats 4000000 in
set_option maxRecDepth 100000 in
theorem xbK_mk {G : g5_G} {Lw : List LR} {a_h a_k : Nat} (a_j : Nat) (a_as : Nat) (a_sk : Nat) (a_pt : Nat) (f_as : Nat → Int32) (f_sk : Nat → Int64) (e_ln : Int32) (e_se : Int32) (e_lh : Int32) (e_br : Int32) (e_we : Int32) (e_me : Int32) (e_ce : Int32) (e_wy : Int32) (e_ho : Int32) (e_ov : Int32) (f_pt : Nat → Int32) (h0_ : 0 ≤ e_ov.toInt ∧ e_ov.toInt ≤ 1) : XBK G Lw a_h a_k [(a_k, (oc5 a_h a_j a_pt e_ln e_se e_lh e_br e_we e_me e_ce e_wy e_ho e_ov)), (a_j, (oc2 a_as a_sk)), (a_as, (arI G 8 f_as)), (a_sk, (arJ G 50 f_sk)), (a_pt, (arI G 200 f_pt))] := Exists.intro a_j (Exists.intro a_as (Exists.intro a_sk (Exists.intro a_pt (Exists.intro f_as (Exists.intro f_sk (Exists.intro e_ln (Exists.intro e_se (Exists.intro e_lh (Exists.intro e_br (Exists.intro e_we (Exists.intro e_me (Exists.intro e_ce (Exists.intro e_wy (Exists.intro e_ho (Exists.intro e_ov (Exists.intro f_pt (⟨rfl, h0_⟩)))))))))))))))))
set_option maxHeartbeats 4000000 in
set_option maxRecDepth 100000 in
theorem xbK_elim {G : g5_G} {Lw : List LR} {a_h a_k : Nat} {w : va_W} {P : Prop} (h : XBK G Lw a_h a_k w) (k : ∀ (a_j : Nat) (a_as : Nat) (a_sk : Nat) (a_pt : Nat) (f_as : Nat → Int32) (f_sk : Nat → Int64) (e_ln : Int32) (e_se : Int32) (e_lh : Int32) (e_br : Int32) (e_we : Int32) (e_me : Int32) (e_ce : Int32) (e_wy : Int32) (e_ho : Int32) (e_ov : Int32) (f_pt : Nat → Int32), w = [(a_k, (oc5 a_h a_j a_pt e_ln e_se e_lh e_br e_we e_me e_ce e_wy e_ho e_ov)), (a_j, (oc2 a_as a_sk)), (a_as, (arI G 8 f_as)), (a_sk, (arJ G 50 f_sk)), (a_pt, (arI G 200 f_pt))] → (0 ≤ e_ov.toInt ∧ e_ov.toInt ≤ 1) → P) : P := by
  unfold XBK at h
  exact Exists.elim h (fun a_j h => Exists.elim h (fun a_as h => Exists.elim h (fun a_sk h => Exists.elim h (fun a_pt h => Exists.elim h (fun f_as h => Exists.elim h (fun f_sk h => Exists.elim h (fun e_ln h => Exists.elim h (fun e_se h => Exists.elim h (fun e_lh h => Exists.elim h (fun e_br h => Exists.elim h (fun e_we h => Exists.elim h (fun e_me h => Exists.elim h (fun e_ce h => Exists.elim h (fun e_wy h => Exists.elim h (fun e_ho h => Exists.elim h (fun e_ov h => Exists.elim h (fun f_pt h => k a_j a_as a_sk a_pt f_as f_sk e_ln e_se e_lh e_br e_we e_me e_ce e_wy e_ho e_ov f_pt h.1 h.2)))))))))))))))))
set_option maxHeartbeats 4000000 in
set_option maxRecDepth 100000 in
theorem xbW_mk {G : g5_G} {Lw : List LR} {a_h a_k a_wa : Nat} (a_bo : Nat) (f_bo : Nat → Int64)  : XBW G Lw a_h a_k a_wa [(a_wa, (oc10 a_h a_k a_bo)), (a_bo, (arJ G 24 f_bo))] := Exists.intro a_bo (Exists.intro f_bo (rfl))
set_option maxHeartbeats 4000000 in
set_option maxRecDepth 100000 in
theorem xbW_elim {G : g5_G} {Lw : List LR} {a_h a_k a_wa : Nat} {w : va_W} {P : Prop} (h : XBW G Lw a_h a_k a_wa w) (k : ∀ (a_bo : Nat) (f_bo : Nat → Int64), w = [(a_wa, (oc10 a_h a_k a_bo)), (a_bo, (arJ G 24 f_bo))] → P) : P := by
  unfold XBW at h
  exact Exists.elim h (fun a_bo h => Exists.elim h (fun f_bo h => k a_bo f_bo h))
set_option maxHeartbeats 4000000 in
set_option maxRecDepth 100000 in
theorem xbT_mk {G : g5_G} {Lw : List LR} {a_h a_k a_th : Nat} (a_ba : Nat) (a_ad : Nat) (a_cn : Nat) (a_nx : Nat) (a_hp : Nat) (a_hl : Nat) (a_lv : Nat) (e_fu : Int32) (f_ba : Nat → Int64) (f_ad : Nat → Int32) (f_cn : Nat → Int64) (f_nx : Nat → Int64) (f_hp : Nat → Int32) (f_hl : Nat → Int32) (f_lv : Nat → Int32)  : XBT G Lw a_h a_k a_th [(a_th, (oc7 a_h a_k a_ba a_ad e_fu a_cn a_nx a_hp a_hl a_lv)), (a_ba, (arJ G 24 f_ba)), (a_ad, (arI G 1536 f_ad)), (a_cn, (arJ G 2048 f_cn)), (a_nx, (arJ G 2048 f_nx)), (a_hp, (arI G 1536 f_hp)), (a_hl, (arI G 64 f_hl)), (a_lv, (arI G 64 f_lv))] := Exists.intro a_ba (Exists.intro a_ad (Exists.intro a_cn (Exists.intro a_nx (Exists.intro a_hp (Exists.intro a_hl (Exists.intro a_lv (Exists.intro e_fu (Exists.intro f_ba (Exists.intro f_ad (Exists.intro f_cn (Exists.intro f_nx (Exists.intro f_hp (Exists.intro f_hl (Exists.intro f_lv (rfl)))))))))))))))
set_option maxHeartbeats 4000000 in
set_option maxRecDepth 100000 in
theorem xbT_elim {G : g5_G} {Lw : List LR} {a_h a_k a_th : Nat} {w : va_W} {P : Prop} (h : XBT G Lw a_h a_k a_th w) (k : ∀ (a_ba : Nat) (a_ad : Nat) (a_cn : Nat) (a_nx : Nat) (a_hp : Nat) (a_hl : Nat) (a_lv : Nat) (e_fu : Int32) (f_ba : Nat → Int64) (f_ad : Nat → Int32) (f_cn : Nat → Int64) (f_nx : Nat → Int64) (f_hp : Nat → Int32) (f_hl : Nat → Int32) (f_lv : Nat → Int32), w = [(a_th, (oc7 a_h a_k a_ba a_ad e_fu a_cn a_nx a_hp a_hl a_lv)), (a_ba, (arJ G 24 f_ba)), (a_ad, (arI G 1536 f_ad)), (a_cn, (arJ G 2048 f_cn)), (a_nx, (arJ G 2048 f_nx)), (a_hp, (arI G 1536 f_hp)), (a_hl, (arI G 64 f_hl)), (a_lv, (arI G 64 f_lv))] → P) : P := by
  unfold XBT at h
  exact Exists.elim h (fun a_ba h => Exists.elim h (fun a_ad h => Exists.elim h (fun a_cn h => Exists.elim h (fun a_nx h => Exists.elim h (fun a_hp h => Exists.elim h (fun a_hl h => Exists.elim h (fun a_lv h => Exists.elim h (fun e_fu h => Exists.elim h (fun f_ba h => Exists.elim h (fun f_ad h => Exists.elim h (fun f_cn h => Exists.elim h (fun f_nx h => Exists.elim h (fun f_hp h => Exists.elim h (fun f_hl h => Exists.elim h (fun f_lv h => k a_ba a_ad a_cn a_nx a_hp a_hl a_lv e_fu f_ba f_ad f_cn f_nx f_hp f_hl f_lv h)))))))))))))))
set_option maxHeartbeats 4000000 in
set_option maxRecDepth 100000 in
theorem xbG_mk {G : g5_G} {Lw : List LR} {a_h a_k a_ha : Nat} (e_f1 : Int32) (e_f2 : Int32) (e_f3 : Int32)  : XBG G Lw a_h a_k a_ha [(a_ha, (oc0 a_h a_k e_f1 e_f2 e_f3))] := Exists.intro e_f1 (Exists.intro e_f2 (Exists.intro e_f3 (rfl)))
set_option maxHeartbeats 4000000 in
set_option maxRecDepth 100000 in
theorem xbG_elim {G : g5_G} {Lw : List LR} {a_h a_k a_ha : Nat} {w : va_W} {P : Prop} (h : XBG G Lw a_h a_k a_ha w) (k : ∀ (e_f1 : Int32) (e_f2 : Int32) (e_f3 : Int32), w = [(a_ha, (oc0 a_h a_k e_f1 e_f2 e_f3))] → P) : P := by
  unfold XBG at h
  exact Exists.elim h (fun e_f1 h => Exists.elim h (fun e_f2 h => Exists.elim h (fun e_f3 h => k e_f1 e_f2 e_f3 h)))
set_option maxHeartbeats 4000000 in
set_option maxRecDepth 100000 in
theorem xbA_mk {G : g5_G} {Lw : List LR} {a_h a_k a_wk : Nat} (a_go : Nat) (a_mt : Nat) (f_go : Nat → Int64) (f_mt : Nat → Int32)  : XBA G Lw a_h a_k a_wk [(a_wk, (oc9 a_h a_k a_go a_mt)), (a_go, (arJ G 24 f_go)), (a_mt, (arI G 1536 f_mt))] := Exists.intro a_go (Exists.intro a_mt (Exists.intro f_go (Exists.intro f_mt (rfl))))
set_option maxHeartbeats 4000000 in
set_option maxRecDepth 100000 in
theorem xbA_elim {G : g5_G} {Lw : List LR} {a_h a_k a_wk : Nat} {w : va_W} {P : Prop} (h : XBA G Lw a_h a_k a_wk w) (k : ∀ (a_go : Nat) (a_mt : Nat) (f_go : Nat → Int64) (f_mt : Nat → Int32), w = [(a_wk, (oc9 a_h a_k a_go a_mt)), (a_go, (arJ G 24 f_go)), (a_mt, (arI G 1536 f_mt))] → P) : P := by
  unfold XBA at h
  exact Exists.elim h (fun a_go h => Exists.elim h (fun a_mt h => Exists.elim h (fun f_go h => Exists.elim h (fun f_mt h => k a_go a_mt f_go f_mt h))))
set_option maxHeartbeats 4000000 in
set_option maxRecDepth 100000 in
theorem xbR_mk {G : g5_G} {Lw : List LR} {a_r : Nat} (a_tk : Nat) (a_kd : Nat) (a_nm : Nat) (a_pl : Nat) (a_rc : Nat) (a_rh : Nat) (a_rs : Nat) (e_rl : Int32) (e_pa : Int32) (e_at : Int32) (e_fp : Int32) (f_kd : Nat → Int32) (f_nm : Nat → Int32) (f_pl : Nat → Int32) (f_rc : Nat → Int32) (f_rh : Nat → Int32) (f_rs : Nat → Int32) (h0_ : 0 ≤ e_rl.toInt ∧ e_rl.toInt ≤ 400) (h1_ : 0 ≤ e_pa.toInt ∧ e_pa.toInt ≤ 50) (h2_ : 0 ≤ e_at.toInt ∧ e_at.toInt ≤ 401) (h3_ : TOKI f_kd f_nm) : XBR G Lw a_r [(a_r, (oc4 a_tk a_rh a_rs a_rc e_rl e_pa e_at e_fp)), (a_tk, (oc8 a_kd a_nm a_pl)), (a_kd, (arI G 401 f_kd)), (a_nm, (arI G 401 f_nm)), (a_pl, (arI G 401 f_pl)), (a_rc, (arI G 400 f_rc)), (a_rh, (arI G 12 f_rh)), (a_rs, (arI G 13 f_rs))] := Exists.intro a_tk (Exists.intro a_kd (Exists.intro a_nm (Exists.intro a_pl (Exists.intro a_rc (Exists.intro a_rh (Exists.intro a_rs (Exists.intro e_rl (Exists.intro e_pa (Exists.intro e_at (Exists.intro e_fp (Exists.intro f_kd (Exists.intro f_nm (Exists.intro f_pl (Exists.intro f_rc (Exists.intro f_rh (Exists.intro f_rs (⟨rfl, h0_, h1_, h2_, h3_⟩)))))))))))))))))
set_option maxHeartbeats 4000000 in
set_option maxRecDepth 100000 in
theorem xbR_elim {G : g5_G} {Lw : List LR} {a_r : Nat} {w : va_W} {P : Prop} (h : XBR G Lw a_r w) (k : ∀ (a_tk : Nat) (a_kd : Nat) (a_nm : Nat) (a_pl : Nat) (a_rc : Nat) (a_rh : Nat) (a_rs : Nat) (e_rl : Int32) (e_pa : Int32) (e_at : Int32) (e_fp : Int32) (f_kd : Nat → Int32) (f_nm : Nat → Int32) (f_pl : Nat → Int32) (f_rc : Nat → Int32) (f_rh : Nat → Int32) (f_rs : Nat → Int32), w = [(a_r, (oc4 a_tk a_rh a_rs a_rc e_rl e_pa e_at e_fp)), (a_tk, (oc8 a_kd a_nm a_pl)), (a_kd, (arI G 401 f_kd)), (a_nm, (arI G 401 f_nm)), (a_pl, (arI G 401 f_pl)), (a_rc, (arI G 400 f_rc)), (a_rh, (arI G 12 f_rh)), (a_rs, (arI G 13 f_rs))] → (0 ≤ e_rl.toInt ∧ e_rl.toInt ≤ 400) → (0 ≤ e_pa.toInt ∧ e_pa.toInt ≤ 50) → (0 ≤ e_at.toInt ∧ e_at.toInt ≤ 401) → (TOKI f_kd f_nm) → P) : P := by
  unfold XBR at h
  exact Exists.elim h (fun a_tk h => Exists.elim h (fun a_kd h => Exists.elim h (fun a_nm h => Exists.elim h (fun a_pl h => Exists.elim h (fun a_rc h => Exists.elim h (fun a_rh h => Exists.elim h (fun a_rs h => Exists.elim h (fun e_rl h => Exists.elim h (fun e_pa h => Exists.elim h (fun e_at h => Exists.elim h (fun e_fp h => Exists.elim h (fun f_kd h => Exists.elim h (fun f_nm h => Exists.elim h (fun f_pl h => Exists.elim h (fun f_rc h => Exists.elim h (fun f_rh h => Exists.elim h (fun f_rs h => k a_tk a_kd a_nm a_pl a_rc a_rh a_rs e_rl e_pa e_at e_fp f_kd f_nm f_pl f_rc f_rh f_rs h.1 h.2.1 h.2.2.1 h.2.2.2.1 h.2.2.2.2)))))))))))))))))
set_option maxHeartbeats 4000000 in
set_option maxRecDepth 100000 in
def XW (G : g5_G) (Lw : List LR) (a_o : Nat) (f_ro : Nat → Int32) (f_im : Nat → Int32) (f_ke : Nat → Int32) (f_x : Nat → Int32) (e_tl : Int32) (e_fd : Int32) (f_wd : Nat → Int32) (e_wn : Int32) (e_fpl : Int32) (g_L : LLS) (g_F : Int32) (g_M : LMS) (w : va_W) : Prop := ∃ (a_h a_im a_ke a_k a_wa a_th a_ha a_wk a_r : Nat) (wO wH wI wK wW wT wG wA wR : va_W), w = wO ++ (wH ++ (wI ++ (wK ++ (wW ++ (wT ++ (wG ++ (wA ++ (wR)))))))) ∧ XBO G Lw a_o a_h a_im a_ke a_k a_wa a_th a_ha a_wk a_r f_x e_tl e_fd f_wd e_wn e_fpl wO ∧ XBH G Lw a_h f_ro g_L g_F wH ∧ XBI G Lw a_im a_ke f_im f_ke g_M wI ∧ XBK G Lw a_h a_k wK ∧ XBW G Lw a_h a_k a_wa wW ∧ XBT G Lw a_h a_k a_th wT ∧ XBG G Lw a_h a_k a_ha wG ∧ XBA G Lw a_h a_k a_wk wA ∧ XBR G Lw a_r wR
set_option maxHeartbeats 4000000 in
set_option maxRecDepth 100000 in
theorem xbO_up {G : g5_G} {Lw : List LR} {a_o a_h a_im a_ke a_k a_wa a_th a_ha a_wk a_r : Nat} {f_x : Nat → Int32} {e_tl : Int32} {e_fd : Int32} {f_wd : Nat → Int32} {e_wn : Int32} {e_fpl : Int32} {w : va_W} (q9 : LR) (h : XBO G Lw a_o a_h a_im a_ke a_k a_wa a_th a_ha a_wk a_r f_x e_tl e_fd f_wd e_wn e_fpl w) : XBO G (q9 :: Lw) a_o a_h a_im a_ke a_k a_wa a_th a_ha a_wk a_r f_x e_tl e_fd f_wd e_wn e_fpl w := h
set_option maxHeartbeats 4000000 in
set_option maxRecDepth 100000 in
theorem xbH_up {G : g5_G} {Lw : List LR} {a_h : Nat} {f_ro : Nat → Int32} {g_L : LLS} {g_F : Int32} {w : va_W} (q9 : LR) (h : XBH G Lw a_h f_ro g_L g_F w) : XBH G (q9 :: Lw) a_h f_ro g_L g_F w :=
  xbH_elim h (fun a_p a_pn a_bb a_l a_g a_b a_s a_w e_le e_st e_fo e_lc e_wa e_gb e_p f_p f_bb e_g e_b f_g f_b a_gn a_bn f_l a_sn e_s f_s a_wn e_w f_w hw9 h0 h1 h2 h3 h4 h5 h6 h7 h8 h9 h10 h11 h12 h13 h14 h15 h16 h17 h18 => by subst hw9; exact xbH_mk a_p a_pn a_bb a_l a_g a_b a_s a_w e_le e_st e_fo e_lc e_wa e_gb e_p f_p f_bb e_g e_b f_g f_b a_gn a_bn f_l a_sn e_s f_s a_wn e_w f_w h0 h1 h2 h3 h4 h5 h6 h7 h8 h9 (lws_up h10) h11 h12 h13 h14 h15 h16 h17 (claw_up h18))
set_option maxHeartbeats 4000000 in
set_option maxRecDepth 100000 in
theorem xbI_up {G : g5_G} {Lw : List LR} {a_im a_ke : Nat} {f_im : Nat → Int32} {f_ke : Nat → Int32} {g_M : LMS} {w : va_W} (q9 : LR) (h : XBI G Lw a_im a_ke f_im f_ke g_M w) : XBI G (q9 :: Lw) a_im a_ke f_im f_ke g_M w :=
  xbI_elim h (fun a_h2 a_l2 a_g2 a_gn2 a_b2 a_bn2 a_s2 a_sn2 a_p2 a_pn2 a_w2 a_wn2 a_bb2 a_h3 e_le2 e_st2 e_fo2 e_lc2 e_wa2 e_gb2 f_l2 e_g2 f_g2 e_b2 f_b2 e_s2 f_s2 e_p2 f_p2 e_w2 f_w2 f_bb2 a_l3 a_g3 a_gn3 a_b3 a_bn3 a_s3 a_sn3 a_p3 a_pn3 a_w3 a_wn3 a_bb3 e_le3 e_st3 e_fo3 e_lc3 e_wa3 e_gb3 f_l3 e_g3 f_g3 e_b3 f_b3 e_s3 f_s3 e_p3 f_p3 e_w3 f_w3 f_bb3 hw9 h0 h1 h2 h3 h4 h5 h6 h7 h8 h9 h10 h11 h12 h13 h14 h15 h16 h17 h18 h19 h20 h21 h22 h23 h24 h25 => by subst hw9; exact xbI_mk a_h2 a_l2 a_g2 a_gn2 a_b2 a_bn2 a_s2 a_sn2 a_p2 a_pn2 a_w2 a_wn2 a_bb2 a_h3 e_le2 e_st2 e_fo2 e_lc2 e_wa2 e_gb2 f_l2 e_g2 f_g2 e_b2 f_b2 e_s2 f_s2 e_p2 f_p2 e_w2 f_w2 f_bb2 a_l3 a_g3 a_gn3 a_b3 a_bn3 a_s3 a_sn3 a_p3 a_pn3 a_w3 a_wn3 a_bb3 e_le3 e_st3 e_fo3 e_lc3 e_wa3 e_gb3 f_l3 e_g3 f_g3 e_b3 f_b3 e_s3 f_s3 e_p3 f_p3 e_w3 f_w3 f_bb3 h0 h1 h2 h3 h4 h5 h6 h7 h8 h9 h10 h11 h12 h13 h14 (lws_up h15) h16 h17 h18 h19 h20 (lws_up h21) (qml_up h22) (qml_up h23) h24 h25)
set_option maxHeartbeats 4000000 in
set_option maxRecDepth 100000 in
theorem xbK_up {G : g5_G} {Lw : List LR} {a_h a_k : Nat} {w : va_W} (q9 : LR) (h : XBK G Lw a_h a_k w) : XBK G (q9 :: Lw) a_h a_k w := h
set_option maxHeartbeats 4000000 in
set_option maxRecDepth 100000 in
theorem xbW_up {G : g5_G} {Lw : List LR} {a_h a_k a_wa : Nat} {w : va_W} (q9 : LR) (h : XBW G Lw a_h a_k a_wa w) : XBW G (q9 :: Lw) a_h a_k a_wa w := h
set_option maxHeartbeats 4000000 in
set_option maxRecDepth 100000 in
theorem xbT_up {G : g5_G} {Lw : List LR} {a_h a_k a_th : Nat} {w : va_W} (q9 : LR) (h : XBT G Lw a_h a_k a_th w) : XBT G (q9 :: Lw) a_h a_k a_th w := h
set_option maxHeartbeats 4000000 in
set_option maxRecDepth 100000 in
theorem xbG_up {G : g5_G} {Lw : List LR} {a_h a_k a_ha : Nat} {w : va_W} (q9 : LR) (h : XBG G Lw a_h a_k a_ha w) : XBG G (q9 :: Lw) a_h a_k a_ha w := h
set_option maxHeartbeats 4000000 in
set_option maxRecDepth 100000 in
theorem xbA_up {G : g5_G} {Lw : List LR} {a_h a_k a_wk : Nat} {w : va_W} (q9 : LR) (h : XBA G Lw a_h a_k a_wk w) : XBA G (q9 :: Lw) a_h a_k a_wk w := h
set_option maxHeartbeats 4000000 in
set_option maxRecDepth 100000 in
theorem xbR_up {G : g5_G} {Lw : List LR} {a_r : Nat} {w : va_W} (q9 : LR) (h : XBR G Lw a_r w) : XBR G (q9 :: Lw) a_r w := h
set_option maxHeartbeats 4000000 in
set_option maxRecDepth 100000 in
theorem xbO_cast {G : g5_G} {Lw : List LR} {a_o a_h a_im a_ke a_k a_wa a_th a_ha a_wk a_r : Nat} {f_x : Nat → Int32} {e_tl : Int32} {e_fd : Int32} {f_wd : Nat → Int32} {e_wn : Int32} {e_fpl : Int32} {f_x2 : Nat → Int32} {e_tl2 : Int32} {e_fd2 : Int32} {f_wd2 : Nat → Int32} {e_wn2 : Int32} {e_fpl2 : Int32} {w : va_W} (e_f_x : f_x = f_x2) (e_e_tl : e_tl = e_tl2) (e_e_fd : e_fd = e_fd2) (e_f_wd : f_wd = f_wd2) (e_e_wn : e_wn = e_wn2) (e_e_fpl : e_fpl = e_fpl2) (h : XBO G Lw a_o a_h a_im a_ke a_k a_wa a_th a_ha a_wk a_r f_x e_tl e_fd f_wd e_wn e_fpl w) : XBO G Lw a_o a_h a_im a_ke a_k a_wa a_th a_ha a_wk a_r f_x2 e_tl2 e_fd2 f_wd2 e_wn2 e_fpl2 w := by
  subst e_f_x
  subst e_e_tl
  subst e_e_fd
  subst e_f_wd
  subst e_e_wn
  subst e_e_fpl
  exact h
set_option maxHeartbeats 4000000 in
set_option maxRecDepth 100000 in
theorem xbI_cast {G : g5_G} {Lw : List LR} {a_im a_ke : Nat} {f_im : Nat → Int32} {f_ke : Nat → Int32} {g_M : LMS} {f_ke2 : Nat → Int32} {g_M2 : LMS} {w : va_W} (e_f_ke : f_ke = f_ke2) (e_g_M : g_M = g_M2) (h : XBI G Lw a_im a_ke f_im f_ke g_M w) : XBI G Lw a_im a_ke f_im f_ke2 g_M2 w := by
  subst e_f_ke
  subst e_g_M
  exact h
set_option maxHeartbeats 4000000 in
set_option maxRecDepth 100000 in
theorem xw_ag {G : g5_G} {Lw : List LR} {a_o : Nat} {f_ro : Nat → Int32} {f_im : Nat → Int32} {f_ke : Nat → Int32} {f_x : Nat → Int32} {e_tl : Int32} {e_fd : Int32} {f_wd : Nat → Int32} {e_wn : Int32} {e_fpl : Int32} {g_L : LLS} {g_F : Int32} {g_M : LMS} {g_ro : Nat → Int32} {w : va_W} (h : XW G Lw a_o f_ro f_im f_ke f_x e_tl e_fd f_wd e_wn e_fpl g_L g_F g_M w) (e : ∀ j : Nat, j < 340 → j ≠ 2 → j ≠ 3 → g_ro j = f_ro j) : XW G Lw a_o g_ro f_im f_ke f_x e_tl e_fd f_wd e_wn e_fpl g_L g_F g_M w := by
  obtain ⟨a_h, a_im, a_ke, a_k, a_wa, a_th, a_ha, a_wk, a_r, wO, wH, wI, wK, wW, wT, wG, wA, wR, rfl, hBO, hBH, hBI, hBK, hBW, hBT, hBG, hBA, hBR⟩ := h
  refine xbH_elim hBH (fun a_p a_pn a_bb a_l a_g a_b a_s a_w e_le e_st e_fo e_lc e_wa e_gb e_p f_p f_bb e_g e_b f_g f_b a_gn a_bn f_l a_sn e_s f_s a_wn e_w f_w hw9 h0 h1 h2 h3 h4 h5 h6 h7 h8 h9 h10 h11 h12 h13 h14 h15 h16 h17 h18 => ?_)
  subst hw9
  exact ⟨a_h, a_im, a_ke, a_k, a_wa, a_th, a_ha, a_wk, a_r, wO, [(a_h, (oc1 e_wa e_le e_st e_fo e_lc a_l a_g a_b a_s a_p a_w e_gb a_bb)), (a_l, (arW G 6 f_l)), (a_g, (oc6 6 5 a_gn e_g)), (a_gn, (arI G 30 f_g)), (a_b, (oc6 5 24 a_bn e_b)), (a_bn, (arI G 120 f_b)), (a_s, (oc6 10 4 a_sn e_s)), (a_sn, (arI G 40 f_s)), (a_p, (oc6 8 5 a_pn e_p)), (a_pn, (arI G 40 f_p)), (a_w, (oc6 6 6 a_wn e_w)), (a_wn, (arI G 36 f_w)), (a_bb, (arJ G 24 f_bb))], wI, wK, wW, wT, wG, wA, wR, rfl, hBO, xbH_mk a_p a_pn a_bb a_l a_g a_b a_s a_w e_le e_st e_fo e_lc e_wa e_gb e_p f_p f_bb e_g e_b f_g f_b a_gn a_bn f_l a_sn e_s f_s a_wn e_w f_w h0 h1 h2 h3 h4 h5 h6 h7 h8 h9 h10 (hh_c h11 (fun j hj => e j (by omega) (by omega) (by omega))) (hg_c h12 (fun j hj => e j (by omega) (by omega) (by omega))) (hb_c h13 (fun j hj => e j (by omega) (by omega) (by omega))) (hs_c h14 (fun j hj => e j (by omega) (by omega) (by omega))) (hp_c h15 (fun j hj => e j (by omega) (by omega) (by omega))) (hwi_c h16 (fun j hj => e j (by omega) (by omega) (by omega))) (nw_c (bd3_of h12 h13 h15) (fun j hj => e j (by omega) (by omega) (by omega)) h17) h18, hBI, hBK, hBW, hBT, hBG, hBA, hBR⟩
set_option maxHeartbeats 4000000 in
set_option maxRecDepth 100000 in
def MW (G : g5_G) (b_o : Nat) (v_ro : Nat → Int32) (v_im : Nat → Int32) (v_ke : Nat → Int32) (v_tp : Nat → Int32) (u_td : Int32) (u_fd : Int32) (v_wn : Nat → Int32) (u_id : Int32) (u_fa : Int32) (g_L : LLS) (g_F : Int32) (g_M : LMS) (w : va_W) : Prop := ∃ (b_rf : Nat) (b_ro : Nat) (b_im : Nat) (b_ke : Nat) (b_tp : Nat) (b_nl : Nat) (b_op : Nat) (b_ar : Nat) (b_pi : Nat) (b_pa : Nat) (b_ws : Nat) (b_hw : Nat) (b_se : Nat) (b_re : Nat) (b_pt : Nat) (b_ip : Nat) (b_ah : Nat) (b_be : Nat) (b_me : Nat) (b_tr : Nat) (b_ld : Nat) (b_wn : Nat) (u_th : Int32) (u_sa : Int32) (u_fr : Int32) (u_to : Int32) (u_so : Int32) (u_wo : Int64) (u_bd : Int32) (u_nc : Int32) (u_co : Int32) (u_le : Int32) (u_pd : Int32) (u_od : Int32) (u_la : Int32) (u_bk : Int32) (u_va : Int64) (u_su : Int64) (u_ce : Int32) (u_ho : Int32) (u_wy : Int32) (u_bt : Int32) (u_ps : Int32) (u_tg : Int32) (u_sn : Int32) (u_ic : Int32) (u_wd : Int32) (u_st : Int64) (v_rf : Nat → Int32) (v_nl : Nat → Int32) (v_op : Nat → Int32) (v_ar : Nat → Int32) (v_pi : Nat → Int32) (v_pa : Nat → Int32) (v_ws : Nat → Int64) (v_hw : Nat → Int64) (v_se : Nat → Int64) (v_re : Nat → Int64) (v_pt : Nat → Int32) (v_ip : Nat → Int32) (v_ah : Nat → Int64) (v_be : Nat → Int64) (v_me : Nat → Int32) (v_tr : Nat → Int32) (v_ld : Nat → Int32), w = [(b_o, (oc12 u_th u_sa b_rf b_ro b_im b_ke u_fd b_tp u_td u_fr u_to u_so u_wo u_fa u_bd u_nc b_nl u_co b_op b_ar u_le b_pi b_pa u_pd u_od b_ws b_hw u_la b_se b_re u_bk u_va u_su u_ce u_ho u_wy u_bt u_ps b_pt u_tg u_sn b_ip u_ic b_ah b_be b_me u_wd b_tr b_ld u_st b_wn u_id)), (b_rf, (arI G 7 v_rf)), (b_ro, (arI G 5740 v_ro)), (b_tp, (arI G 400 v_tp)), (b_nl, (arI G 96 v_nl)), (b_op, (arI G 400 v_op)), (b_ar, (arI G 400 v_ar)), (b_pi, (arI G 400 v_pi)), (b_pa, (arI G 400 v_pa)), (b_ws, (arJ G 8 v_ws)), (b_hw, (arJ G 4 v_hw)), (b_se, (arJ G 13 v_se)), (b_re, (arJ G 400 v_re)), (b_pt, (arI G 200 v_pt)), (b_ip, (arZ G 1536 v_ip)), (b_ah, (arJ G 49152 v_ah)), (b_be, (arJ G 49152 v_be)), (b_me, (arI G 1536 v_me)), (b_tr, (arZ G 1536 v_tr)), (b_ld, (arZ G 1536 v_ld)), (b_wn, (arI G 24 v_wn)), (b_im, (arI G 11480 v_im)), (b_ke, (arZ G 2 v_ke))] ∧ (0 ≤ u_td.toInt ∧ u_td.toInt ≤ 400) ∧ (0 ≤ u_fr.toInt ∧ u_fr.toInt ≤ 400) ∧ (0 ≤ u_to.toInt ∧ u_to.toInt ≤ 400) ∧ (0 ≤ u_bd.toInt ∧ u_bd.toInt ≤ 1) ∧ (0 ≤ u_nc.toInt ∧ u_nc.toInt ≤ 12) ∧ (0 ≤ u_co.toInt ∧ u_co.toInt ≤ 400) ∧ (0 ≤ u_pd.toInt ∧ u_pd.toInt ≤ 400) ∧ (0 ≤ u_la.toInt ∧ u_la.toInt ≤ 4840) ∧ (0 ≤ u_bk.toInt ∧ u_bk.toInt ≤ 1) ∧ (0 ≤ u_ce.toInt ∧ u_ce.toInt ≤ 63) ∧ (0 ≤ u_ho.toInt ∧ u_ho.toInt ≤ 23) ∧ (0 ≤ u_wy.toInt ∧ u_wy.toInt ≤ 3) ∧ (0 ≤ u_bt.toInt ∧ u_bt.toInt ≤ 1000000) ∧ (0 ≤ u_ps.toInt ∧ u_ps.toInt ≤ 200) ∧ (0 ≤ u_ic.toInt ∧ u_ic.toInt ≤ 1) ∧ (0 ≤ u_id.toInt ∧ u_id.toInt ≤ 1) ∧ (MI v_ro) ∧ (TPI v_tp) ∧ (PTI v_pt) ∧ (MEI v_me) ∧ (WNI v_wn) ∧ (IMI v_im v_ke) ∧ (AH0 v_ah v_me) ∧ (MLWS v_ro g_L g_F) ∧ (MIML v_im v_ke g_M) ∧ (WSI v_ws v_hw)
set_option maxHeartbeats 4000000 in
set_option maxRecDepth 100000 in
theorem mw_mk {G : g5_G} {b_o : Nat} {v_ro : Nat → Int32} {v_im : Nat → Int32} {v_ke : Nat → Int32} {v_tp : Nat → Int32} {u_td : Int32} {u_fd : Int32} {v_wn : Nat → Int32} {u_id : Int32} {u_fa : Int32} {g_L : LLS} {g_F : Int32} {g_M : LMS} (b_rf : Nat) (b_ro : Nat) (b_im : Nat) (b_ke : Nat) (b_tp : Nat) (b_nl : Nat) (b_op : Nat) (b_ar : Nat) (b_pi : Nat) (b_pa : Nat) (b_ws : Nat) (b_hw : Nat) (b_se : Nat) (b_re : Nat) (b_pt : Nat) (b_ip : Nat) (b_ah : Nat) (b_be : Nat) (b_me : Nat) (b_tr : Nat) (b_ld : Nat) (b_wn : Nat) (u_th : Int32) (u_sa : Int32) (u_fr : Int32) (u_to : Int32) (u_so : Int32) (u_wo : Int64) (u_bd : Int32) (u_nc : Int32) (u_co : Int32) (u_le : Int32) (u_pd : Int32) (u_od : Int32) (u_la : Int32) (u_bk : Int32) (u_va : Int64) (u_su : Int64) (u_ce : Int32) (u_ho : Int32) (u_wy : Int32) (u_bt : Int32) (u_ps : Int32) (u_tg : Int32) (u_sn : Int32) (u_ic : Int32) (u_wd : Int32) (u_st : Int64) (v_rf : Nat → Int32) (v_nl : Nat → Int32) (v_op : Nat → Int32) (v_ar : Nat → Int32) (v_pi : Nat → Int32) (v_pa : Nat → Int32) (v_ws : Nat → Int64) (v_hw : Nat → Int64) (v_se : Nat → Int64) (v_re : Nat → Int64) (v_pt : Nat → Int32) (v_ip : Nat → Int32) (v_ah : Nat → Int64) (v_be : Nat → Int64) (v_me : Nat → Int32) (v_tr : Nat → Int32) (v_ld : Nat → Int32) (h0_ : 0 ≤ u_td.toInt ∧ u_td.toInt ≤ 400) (h1_ : 0 ≤ u_fr.toInt ∧ u_fr.toInt ≤ 400) (h2_ : 0 ≤ u_to.toInt ∧ u_to.toInt ≤ 400) (h3_ : 0 ≤ u_bd.toInt ∧ u_bd.toInt ≤ 1) (h4_ : 0 ≤ u_nc.toInt ∧ u_nc.toInt ≤ 12) (h5_ : 0 ≤ u_co.toInt ∧ u_co.toInt ≤ 400) (h6_ : 0 ≤ u_pd.toInt ∧ u_pd.toInt ≤ 400) (h7_ : 0 ≤ u_la.toInt ∧ u_la.toInt ≤ 4840) (h8_ : 0 ≤ u_bk.toInt ∧ u_bk.toInt ≤ 1) (h9_ : 0 ≤ u_ce.toInt ∧ u_ce.toInt ≤ 63) (h10_ : 0 ≤ u_ho.toInt ∧ u_ho.toInt ≤ 23) (h11_ : 0 ≤ u_wy.toInt ∧ u_wy.toInt ≤ 3) (h12_ : 0 ≤ u_bt.toInt ∧ u_bt.toInt ≤ 1000000) (h13_ : 0 ≤ u_ps.toInt ∧ u_ps.toInt ≤ 200) (h14_ : 0 ≤ u_ic.toInt ∧ u_ic.toInt ≤ 1) (h15_ : 0 ≤ u_id.toInt ∧ u_id.toInt ≤ 1) (h16_ : MI v_ro) (h17_ : TPI v_tp) (h18_ : PTI v_pt) (h19_ : MEI v_me) (h20_ : WNI v_wn) (h21_ : IMI v_im v_ke) (h22_ : AH0 v_ah v_me) (h23_ : MLWS v_ro g_L g_F) (h24_ : MIML v_im v_ke g_M) (h25_ : WSI v_ws v_hw) : MW G b_o v_ro v_im v_ke v_tp u_td u_fd v_wn u_id u_fa g_L g_F g_M [(b_o, (oc12 u_th u_sa b_rf b_ro b_im b_ke u_fd b_tp u_td u_fr u_to u_so u_wo u_fa u_bd u_nc b_nl u_co b_op b_ar u_le b_pi b_pa u_pd u_od b_ws b_hw u_la b_se b_re u_bk u_va u_su u_ce u_ho u_wy u_bt u_ps b_pt u_tg u_sn b_ip u_ic b_ah b_be b_me u_wd b_tr b_ld u_st b_wn u_id)), (b_rf, (arI G 7 v_rf)), (b_ro, (arI G 5740 v_ro)), (b_tp, (arI G 400 v_tp)), (b_nl, (arI G 96 v_nl)), (b_op, (arI G 400 v_op)), (b_ar, (arI G 400 v_ar)), (b_pi, (arI G 400 v_pi)), (b_pa, (arI G 400 v_pa)), (b_ws, (arJ G 8 v_ws)), (b_hw, (arJ G 4 v_hw)), (b_se, (arJ G 13 v_se)), (b_re, (arJ G 400 v_re)), (b_pt, (arI G 200 v_pt)), (b_ip, (arZ G 1536 v_ip)), (b_ah, (arJ G 49152 v_ah)), (b_be, (arJ G 49152 v_be)), (b_me, (arI G 1536 v_me)), (b_tr, (arZ G 1536 v_tr)), (b_ld, (arZ G 1536 v_ld)), (b_wn, (arI G 24 v_wn)), (b_im, (arI G 11480 v_im)), (b_ke, (arZ G 2 v_ke))] := Exists.intro b_rf (Exists.intro b_ro (Exists.intro b_im (Exists.intro b_ke (Exists.intro b_tp (Exists.intro b_nl (Exists.intro b_op (Exists.intro b_ar (Exists.intro b_pi (Exists.intro b_pa (Exists.intro b_ws (Exists.intro b_hw (Exists.intro b_se (Exists.intro b_re (Exists.intro b_pt (Exists.intro b_ip (Exists.intro b_ah (Exists.intro b_be (Exists.intro b_me (Exists.intro b_tr (Exists.intro b_ld (Exists.intro b_wn (Exists.intro u_th (Exists.intro u_sa (Exists.intro u_fr (Exists.intro u_to (Exists.intro u_so (Exists.intro u_wo (Exists.intro u_bd (Exists.intro u_nc (Exists.intro u_co (Exists.intro u_le (Exists.intro u_pd (Exists.intro u_od (Exists.intro u_la (Exists.intro u_bk (Exists.intro u_va (Exists.intro u_su (Exists.intro u_ce (Exists.intro u_ho (Exists.intro u_wy (Exists.intro u_bt (Exists.intro u_ps (Exists.intro u_tg (Exists.intro u_sn (Exists.intro u_ic (Exists.intro u_wd (Exists.intro u_st (Exists.intro v_rf (Exists.intro v_nl (Exists.intro v_op (Exists.intro v_ar (Exists.intro v_pi (Exists.intro v_pa (Exists.intro v_ws (Exists.intro v_hw (Exists.intro v_se (Exists.intro v_re (Exists.intro v_pt (Exists.intro v_ip (Exists.intro v_ah (Exists.intro v_be (Exists.intro v_me (Exists.intro v_tr (Exists.intro v_ld (⟨rfl, h0_, h1_, h2_, h3_, h4_, h5_, h6_, h7_, h8_, h9_, h10_, h11_, h12_, h13_, h14_, h15_, h16_, h17_, h18_, h19_, h20_, h21_, h22_, h23_, h24_, h25_⟩)))))))))))))))))))))))))))))))))))))))))))))))))))))))))))))))))
set_option maxHeartbeats 4000000 in
set_option maxRecDepth 100000 in
theorem mw_elim {G : g5_G} {b_o : Nat} {v_ro : Nat → Int32} {v_im : Nat → Int32} {v_ke : Nat → Int32} {v_tp : Nat → Int32} {u_td : Int32} {u_fd : Int32} {v_wn : Nat → Int32} {u_id : Int32} {u_fa : Int32} {g_L : LLS} {g_F : Int32} {g_M : LMS} {w : va_W} {P : Prop} (h : MW G b_o v_ro v_im v_ke v_tp u_td u_fd v_wn u_id u_fa g_L g_F g_M w) (k : ∀ (b_rf : Nat) (b_ro : Nat) (b_im : Nat) (b_ke : Nat) (b_tp : Nat) (b_nl : Nat) (b_op : Nat) (b_ar : Nat) (b_pi : Nat) (b_pa : Nat) (b_ws : Nat) (b_hw : Nat) (b_se : Nat) (b_re : Nat) (b_pt : Nat) (b_ip : Nat) (b_ah : Nat) (b_be : Nat) (b_me : Nat) (b_tr : Nat) (b_ld : Nat) (b_wn : Nat) (u_th : Int32) (u_sa : Int32) (u_fr : Int32) (u_to : Int32) (u_so : Int32) (u_wo : Int64) (u_bd : Int32) (u_nc : Int32) (u_co : Int32) (u_le : Int32) (u_pd : Int32) (u_od : Int32) (u_la : Int32) (u_bk : Int32) (u_va : Int64) (u_su : Int64) (u_ce : Int32) (u_ho : Int32) (u_wy : Int32) (u_bt : Int32) (u_ps : Int32) (u_tg : Int32) (u_sn : Int32) (u_ic : Int32) (u_wd : Int32) (u_st : Int64) (v_rf : Nat → Int32) (v_nl : Nat → Int32) (v_op : Nat → Int32) (v_ar : Nat → Int32) (v_pi : Nat → Int32) (v_pa : Nat → Int32) (v_ws : Nat → Int64) (v_hw : Nat → Int64) (v_se : Nat → Int64) (v_re : Nat → Int64) (v_pt : Nat → Int32) (v_ip : Nat → Int32) (v_ah : Nat → Int64) (v_be : Nat → Int64) (v_me : Nat → Int32) (v_tr : Nat → Int32) (v_ld : Nat → Int32), w = [(b_o, (oc12 u_th u_sa b_rf b_ro b_im b_ke u_fd b_tp u_td u_fr u_to u_so u_wo u_fa u_bd u_nc b_nl u_co b_op b_ar u_le b_pi b_pa u_pd u_od b_ws b_hw u_la b_se b_re u_bk u_va u_su u_ce u_ho u_wy u_bt u_ps b_pt u_tg u_sn b_ip u_ic b_ah b_be b_me u_wd b_tr b_ld u_st b_wn u_id)), (b_rf, (arI G 7 v_rf)), (b_ro, (arI G 5740 v_ro)), (b_tp, (arI G 400 v_tp)), (b_nl, (arI G 96 v_nl)), (b_op, (arI G 400 v_op)), (b_ar, (arI G 400 v_ar)), (b_pi, (arI G 400 v_pi)), (b_pa, (arI G 400 v_pa)), (b_ws, (arJ G 8 v_ws)), (b_hw, (arJ G 4 v_hw)), (b_se, (arJ G 13 v_se)), (b_re, (arJ G 400 v_re)), (b_pt, (arI G 200 v_pt)), (b_ip, (arZ G 1536 v_ip)), (b_ah, (arJ G 49152 v_ah)), (b_be, (arJ G 49152 v_be)), (b_me, (arI G 1536 v_me)), (b_tr, (arZ G 1536 v_tr)), (b_ld, (arZ G 1536 v_ld)), (b_wn, (arI G 24 v_wn)), (b_im, (arI G 11480 v_im)), (b_ke, (arZ G 2 v_ke))] → (0 ≤ u_td.toInt ∧ u_td.toInt ≤ 400) → (0 ≤ u_fr.toInt ∧ u_fr.toInt ≤ 400) → (0 ≤ u_to.toInt ∧ u_to.toInt ≤ 400) → (0 ≤ u_bd.toInt ∧ u_bd.toInt ≤ 1) → (0 ≤ u_nc.toInt ∧ u_nc.toInt ≤ 12) → (0 ≤ u_co.toInt ∧ u_co.toInt ≤ 400) → (0 ≤ u_pd.toInt ∧ u_pd.toInt ≤ 400) → (0 ≤ u_la.toInt ∧ u_la.toInt ≤ 4840) → (0 ≤ u_bk.toInt ∧ u_bk.toInt ≤ 1) → (0 ≤ u_ce.toInt ∧ u_ce.toInt ≤ 63) → (0 ≤ u_ho.toInt ∧ u_ho.toInt ≤ 23) → (0 ≤ u_wy.toInt ∧ u_wy.toInt ≤ 3) → (0 ≤ u_bt.toInt ∧ u_bt.toInt ≤ 1000000) → (0 ≤ u_ps.toInt ∧ u_ps.toInt ≤ 200) → (0 ≤ u_ic.toInt ∧ u_ic.toInt ≤ 1) → (0 ≤ u_id.toInt ∧ u_id.toInt ≤ 1) → (MI v_ro) → (TPI v_tp) → (PTI v_pt) → (MEI v_me) → (WNI v_wn) → (IMI v_im v_ke) → (AH0 v_ah v_me) → (MLWS v_ro g_L g_F) → (MIML v_im v_ke g_M) → (WSI v_ws v_hw) → P) : P := by
  unfold MW at h
  exact Exists.elim h (fun b_rf h => Exists.elim h (fun b_ro h => Exists.elim h (fun b_im h => Exists.elim h (fun b_ke h => Exists.elim h (fun b_tp h => Exists.elim h (fun b_nl h => Exists.elim h (fun b_op h => Exists.elim h (fun b_ar h => Exists.elim h (fun b_pi h => Exists.elim h (fun b_pa h => Exists.elim h (fun b_ws h => Exists.elim h (fun b_hw h => Exists.elim h (fun b_se h => Exists.elim h (fun b_re h => Exists.elim h (fun b_pt h => Exists.elim h (fun b_ip h => Exists.elim h (fun b_ah h => Exists.elim h (fun b_be h => Exists.elim h (fun b_me h => Exists.elim h (fun b_tr h => Exists.elim h (fun b_ld h => Exists.elim h (fun b_wn h => Exists.elim h (fun u_th h => Exists.elim h (fun u_sa h => Exists.elim h (fun u_fr h => Exists.elim h (fun u_to h => Exists.elim h (fun u_so h => Exists.elim h (fun u_wo h => Exists.elim h (fun u_bd h => Exists.elim h (fun u_nc h => Exists.elim h (fun u_co h => Exists.elim h (fun u_le h => Exists.elim h (fun u_pd h => Exists.elim h (fun u_od h => Exists.elim h (fun u_la h => Exists.elim h (fun u_bk h => Exists.elim h (fun u_va h => Exists.elim h (fun u_su h => Exists.elim h (fun u_ce h => Exists.elim h (fun u_ho h => Exists.elim h (fun u_wy h => Exists.elim h (fun u_bt h => Exists.elim h (fun u_ps h => Exists.elim h (fun u_tg h => Exists.elim h (fun u_sn h => Exists.elim h (fun u_ic h => Exists.elim h (fun u_wd h => Exists.elim h (fun u_st h => Exists.elim h (fun v_rf h => Exists.elim h (fun v_nl h => Exists.elim h (fun v_op h => Exists.elim h (fun v_ar h => Exists.elim h (fun v_pi h => Exists.elim h (fun v_pa h => Exists.elim h (fun v_ws h => Exists.elim h (fun v_hw h => Exists.elim h (fun v_se h => Exists.elim h (fun v_re h => Exists.elim h (fun v_pt h => Exists.elim h (fun v_ip h => Exists.elim h (fun v_ah h => Exists.elim h (fun v_be h => Exists.elim h (fun v_me h => Exists.elim h (fun v_tr h => Exists.elim h (fun v_ld h => k b_rf b_ro b_im b_ke b_tp b_nl b_op b_ar b_pi b_pa b_ws b_hw b_se b_re b_pt b_ip b_ah b_be b_me b_tr b_ld b_wn u_th u_sa u_fr u_to u_so u_wo u_bd u_nc u_co u_le u_pd u_od u_la u_bk u_va u_su u_ce u_ho u_wy u_bt u_ps u_tg u_sn u_ic u_wd u_st v_rf v_nl v_op v_ar v_pi v_pa v_ws v_hw v_se v_re v_pt v_ip v_ah v_be v_me v_tr v_ld h.1 h.2.1 h.2.2.1 h.2.2.2.1 h.2.2.2.2.1 h.2.2.2.2.2.1 h.2.2.2.2.2.2.1 h.2.2.2.2.2.2.2.1 h.2.2.2.2.2.2.2.2.1 h.2.2.2.2.2.2.2.2.2.1 h.2.2.2.2.2.2.2.2.2.2.1 h.2.2.2.2.2.2.2.2.2.2.2.1 h.2.2.2.2.2.2.2.2.2.2.2.2.1 h.2.2.2.2.2.2.2.2.2.2.2.2.2.1 h.2.2.2.2.2.2.2.2.2.2.2.2.2.2.1 h.2.2.2.2.2.2.2.2.2.2.2.2.2.2.2.1 h.2.2.2.2.2.2.2.2.2.2.2.2.2.2.2.2.1 h.2.2.2.2.2.2.2.2.2.2.2.2.2.2.2.2.2.1 h.2.2.2.2.2.2.2.2.2.2.2.2.2.2.2.2.2.2.1 h.2.2.2.2.2.2.2.2.2.2.2.2.2.2.2.2.2.2.2.1 h.2.2.2.2.2.2.2.2.2.2.2.2.2.2.2.2.2.2.2.2.1 h.2.2.2.2.2.2.2.2.2.2.2.2.2.2.2.2.2.2.2.2.2.1 h.2.2.2.2.2.2.2.2.2.2.2.2.2.2.2.2.2.2.2.2.2.2.1 h.2.2.2.2.2.2.2.2.2.2.2.2.2.2.2.2.2.2.2.2.2.2.2.1 h.2.2.2.2.2.2.2.2.2.2.2.2.2.2.2.2.2.2.2.2.2.2.2.2.1 h.2.2.2.2.2.2.2.2.2.2.2.2.2.2.2.2.2.2.2.2.2.2.2.2.2.1 h.2.2.2.2.2.2.2.2.2.2.2.2.2.2.2.2.2.2.2.2.2.2.2.2.2.2)))))))))))))))))))))))))))))))))))))))))))))))))))))))))))))))))
set_option maxHeartbeats 4000000 in
set_option maxRecDepth 100000 in
theorem mw_cast {G : g5_G} {b_o : Nat} {v_ro : Nat → Int32} {v_im : Nat → Int32} {v_ke : Nat → Int32} {v_tp : Nat → Int32} {u_td : Int32} {u_fd : Int32} {v_wn : Nat → Int32} {u_id : Int32} {u_fa : Int32} {g_L : LLS} {g_F : Int32} {g_M : LMS} {v_ro2 : Nat → Int32} {v_im2 : Nat → Int32} {v_ke2 : Nat → Int32} {v_tp2 : Nat → Int32} {u_td2 : Int32} {u_fd2 : Int32} {v_wn2 : Nat → Int32} {u_id2 : Int32} {u_fa2 : Int32} {g_L2 : LLS} {g_F2 : Int32} {g_M2 : LMS} {w : va_W} (e_v_ro : v_ro = v_ro2) (e_v_im : v_im = v_im2) (e_v_ke : v_ke = v_ke2) (e_v_tp : v_tp = v_tp2) (e_u_td : u_td = u_td2) (e_u_fd : u_fd = u_fd2) (e_v_wn : v_wn = v_wn2) (e_u_id : u_id = u_id2) (e_u_fa : u_fa = u_fa2) (e_g_L : g_L = g_L2) (e_g_F : g_F = g_F2) (e_g_M : g_M = g_M2) (h : MW G b_o v_ro v_im v_ke v_tp u_td u_fd v_wn u_id u_fa g_L g_F g_M w) : MW G b_o v_ro2 v_im2 v_ke2 v_tp2 u_td2 u_fd2 v_wn2 u_id2 u_fa2 g_L2 g_F2 g_M2 w := by
  subst e_v_ro
  subst e_v_im
  subst e_v_ke
  subst e_v_tp
  subst e_u_td
  subst e_u_fd
  subst e_v_wn
  subst e_u_id
  subst e_u_fa
  subst e_g_L
  subst e_g_F
  subst e_g_M
  exact h
def lwC (p : Program) (s : State) (m : MethodId) (meth : Method) (c : Code) (b Ls : Nat) (xs : Nat → Int32) (G : g5_G) : Prop := lw_At p s m meth c b Ls xs ∧ va_K G.1 vwCl (T5 G) s ∧ g5_N s
set_option maxHeartbeats 4000000 in
set_option maxRecDepth 100000 in
theorem lw_ctx {s : State} {b : Nat} (hts0 : ∀ w ∈ lw_tbl, w.before #[Value.ref b] s = true) (hgv : (Jvm.Cond.and given_1 narrow_1).before #[Value.ref b] s = true) : ∃ G : g5_G, va_K G.1 vwCl (T5 G) s ∧ g5_N s ∧ g5_S (fun q : Nat => s.heap.size ≤ q) s s.heap := by
  have hts : ∀ w ∈ tblG, w.before #[Value.ref b] s = true := fun w h => hts0 w (List.mem_filter.mp h).1
  obtain ⟨c0, i0, k0⟩ := u_known (C := RX0) (T := TX0) (N := 5) (n := 5) hts inG_X0 (hts _ isn_X0)
  obtain ⟨c1, i1, k1⟩ := u_known (C := RX1) (T := TX1) (N := 13) (n := 13) hts inG_X1 (hts _ isn_X1)
  obtain ⟨c2, i2, k2⟩ := u_known (C := RX2) (T := TX2) (N := 2) (n := 2) hts inG_X2 (hts _ isn_X2)
  obtain ⟨c3, i3, k3⟩ := u_known (C := RX3) (T := TX3) (N := 4) (n := 4) hts inG_X3 (hts _ isn_X3)
  obtain ⟨c4, i4, k4⟩ := u_known (C := RX4) (T := TX4) (N := 8) (n := 8) hts inG_X4 (hts _ isn_X4)
  obtain ⟨c5, i5, k5⟩ := u_known (C := RX5) (T := TX5) (N := 13) (n := 13) hts inG_X5 (hts _ isn_X5)
  obtain ⟨c6, i6, k6⟩ := u_known (C := RX6) (T := TX6) (N := 4) (n := 4) hts inG_X6 (hts _ isn_X6)
  obtain ⟨c7, i7, k7⟩ := u_known (C := RX7) (T := TX7) (N := 10) (n := 10) hts inG_X7 (hts _ isn_X7)
  obtain ⟨c8, i8, k8⟩ := u_known (C := RX8) (T := TX8) (N := 3) (n := 3) hts inG_X8 (hts _ isn_X8)
  obtain ⟨c9, i9, k9⟩ := u_known (C := RX9) (T := TX9) (N := 4) (n := 4) hts inG_X9 (hts _ isn_X9)
  obtain ⟨c10, i10, k10⟩ := u_known (C := RX10) (T := TX10) (N := 3) (n := 3) hts inG_X10 (hts _ isn_X10)
  obtain ⟨c11, i11, k11⟩ := u_known (C := RX11) (T := TX11) (N := 17) (n := 17) hts inG_X11 (hts _ isn_X11)
  obtain ⟨c12, i12, k12⟩ := u_known (C := RX12) (T := TX12) (N := 52) (n := 52) hts inG_X12 (hts _ isn_X12)
  obtain ⟨cI, kI, pI, fI, gI, hI⟩ := Cond.arrayClass_spec (hts _ acl_I)
  obtain ⟨cJ, kJ, pJ, fJ, gJ, hJ⟩ := Cond.arrayClass_spec (hts _ acl_J)
  obtain ⟨cZ, kZ, pZ, fZ, gZ, hZ⟩ := Cond.arrayClass_spec (hts _ acl_Z)
  obtain ⟨pH, cH, kH, eH, -, fH, gH, hH⟩ := Cond.arrayOver_spec (n := "LateGlass$House") (hts0 _ (List.mem_of_getElem? (i := 221) (by decide +kernel)))
  obtain ⟨pW, cW, kW, eW, -, fW, gW, hW⟩ := Cond.arrayOver_spec (n := "LateGlass$Law") (hts0 _ (List.mem_of_getElem? (i := 126) (by decide +kernel)))
  refine ⟨((fun k => if k = 0 then c0 else if k = 1 then c1 else if k = 2 then c2 else if k = 3 then c3 else if k = 4 then c4 else if k = 5 then c5 else if k = 6 then c6 else if k = 7 then c7 else if k = 8 then c8 else if k = 9 then c9 else if k = 10 then c10 else if k = 11 then c11 else c12, fun k => if k = 0 then i0 else if k = 1 then i1 else if k = 2 then i2 else if k = 3 then i3 else if k = 4 then i4 else if k = 5 then i5 else if k = 6 then i6 else if k = 7 then i7 else if k = 8 then i8 else if k = 9 then i9 else if k = 10 then i10 else if k = 11 then i11 else i12), fun k => if k = 0 then cI else if k = 1 then cJ else if k = 2 then cZ else if k = 3 then cH else cW), ⟨?_, ?_⟩, ⟨?_, ?_, ?_, ?_⟩, ?_⟩
  · intro k q hq
    match k, hq with
    | 0, hq => cases hq; exact k0
    | 1, hq => cases hq; exact k1
    | 2, hq => cases hq; exact k2
    | 3, hq => cases hq; exact k3
    | 4, hq => cases hq; exact k4
    | 5, hq => cases hq; exact k5
    | 6, hq => cases hq; exact k6
    | 7, hq => cases hq; exact k7
    | 8, hq => cases hq; exact k8
    | 9, hq => cases hq; exact k9
    | 10, hq => cases hq; exact k10
    | 11, hq => cases hq; exact k11
    | 12, hq => cases hq; exact k12
    | k + 13, hq => simp [vwCl] at hq
  · intro k q hq
    match k, hq with
    | 0, hq => cases hq; exact ⟨fun n z => ⟨fun k h => (by cases h), kI, gI, pI, hI⟩, fI⟩
    | 1, hq => cases hq; exact ⟨fun n z => ⟨fun k h => (by cases h), kJ, gJ, pJ, hJ⟩, fJ⟩
    | 2, hq => cases hq; exact ⟨fun n z => ⟨fun k h => (by cases h), kZ, gZ, pZ, hZ⟩, fZ⟩
    | 3, hq => cases hq; exact ⟨fun n z => ⟨fun k h => (by cases h), kH, fH, pH, gH⟩, kH, pH, fH, gH, eH, hH⟩
    | 4, hq => cases hq; exact ⟨fun n z => ⟨fun k h => (by cases h), kW, fW, pW, gW⟩, kW, pW, fW, gW, eW, hW⟩
    | k + 5, hq => simp [T5] at hq
  · intro w hw
    simp only [nw5, List.mem_cons, List.not_mem_nil, or_false] at hw
    rcases hw with rfl | rfl | rfl | rfl | rfl | rfl | rfl | rfl | rfl | rfl | rfl | rfl | rfl | rfl | rfl
    · exact va_Nw.of rfl (hts0 _ (List.mem_of_getElem? (i := 121) (by decide +kernel)))
    · exact va_Nw.of rfl (hts0 _ (List.mem_of_getElem? (i := 230) (by decide +kernel)))
    · exact va_Nw.of rfl (hts0 _ (List.mem_of_getElem? (i := 395) (by decide +kernel)))
    · exact va_Nw.of rfl (hts0 _ (List.mem_of_getElem? (i := 401) (by decide +kernel)))
    · exact va_Nw.of rfl (hts0 _ (List.mem_of_getElem? (i := 514) (by decide +kernel)))
    · exact va_Nw.of rfl (hts0 _ (List.mem_of_getElem? (i := 816) (by decide +kernel)))
    · exact va_Nw.of rfl (hts0 _ (List.mem_of_getElem? (i := 822) (by decide +kernel)))
    · exact va_Nw.of rfl (hts0 _ (List.mem_of_getElem? (i := 825) (by decide +kernel)))
    · exact va_Nw.of rfl (hts0 _ (List.mem_of_getElem? (i := 982) (by decide +kernel)))
    · exact va_Nw.of rfl (hts0 _ (List.mem_of_getElem? (i := 987) (by decide +kernel)))
    · exact va_Nw.of rfl (hts0 _ (List.mem_of_getElem? (i := 1007) (by decide +kernel)))
    · exact va_Nw.of rfl (hts0 _ (List.mem_of_getElem? (i := 1028) (by decide +kernel)))
    · exact va_Nw.of rfl (hts0 _ (List.mem_of_getElem? (i := 1110) (by decide +kernel)))
    · exact va_Nw.of rfl (hts0 _ (List.mem_of_getElem? (i := 1133) (by decide +kernel)))
    · exact va_Nw.of rfl (hts0 _ (List.mem_of_getElem? (i := 1134) (by decide +kernel)))
  · exact va_AO.of (hts0 _ (List.mem_of_getElem? (i := 221) (by decide +kernel)))
  · exact va_AO.of (hts0 _ (List.mem_of_getElem? (i := 126) (by decide +kernel)))
  · exact va_Nw.of rfl (hts0 _ (List.mem_of_getElem? (i := 766) (by decide +kernel)))
  · have hA : ∀ a : Nat, a < s.heap.size → ¬ (fun q : Nat => s.heap.size ≤ q) a := fun a h => Nat.not_le.mpr h
    have hF := flat_of_before _ hgv
    obtain ⟨tH, htH, hTH⟩ := va_Tof (tm := (.static "LateGlass" "HAVING" "[I")) (ty := .int) (N := 5) (f := g5_hav) (A := fun q : Nat => s.heap.size ≤ q) (by decide) (hF (.arrayOf (.static "LateGlass" "HAVING" "[I") .int) (by decide +kernel)) (va_eqt (hF (.eq (.length (.static "LateGlass" "HAVING" "[I")) (.int 5)) (by decide +kernel))) (fun j hj => by
      rcases (show j = 0 ∨ j = 1 ∨ j = 2 ∨ j = 3 ∨ j = 4 by omega) with rfl | rfl | rfl | rfl | rfl
      · exact va_eqt (hF (.eq (.elem (.static "LateGlass" "HAVING" "[I") (.int 0)) (.int (-1431655766))) (by decide +kernel))
      · exact va_eqt (hF (.eq (.elem (.static "LateGlass" "HAVING" "[I") (.int 1)) (.int (-858993460))) (by decide +kernel))
      · exact va_eqt (hF (.eq (.elem (.static "LateGlass" "HAVING" "[I") (.int 2)) (.int (-252645136))) (by decide +kernel))
      · exact va_eqt (hF (.eq (.elem (.static "LateGlass" "HAVING" "[I") (.int 3)) (.int (-16711936))) (by decide +kernel))
      · exact va_eqt (hF (.eq (.elem (.static "LateGlass" "HAVING" "[I") (.int 4)) (.int (-65536))) (by decide +kernel)))  hA
    obtain ⟨tL, htL, hTL⟩ := va_Tof (tm := (.static "LateGlass" "LOWEST_FIRST" "[I")) (ty := .int) (N := 5) (f := g5_low) (A := fun q : Nat => s.heap.size ≤ q) (by decide) (hF (.arrayOf (.static "LateGlass" "LOWEST_FIRST" "[I") .int) (by decide +kernel)) (va_eqt (hF (.eq (.length (.static "LateGlass" "LOWEST_FIRST" "[I")) (.int 5)) (by decide +kernel))) (fun j hj => by
      rcases (show j = 0 ∨ j = 1 ∨ j = 2 ∨ j = 3 ∨ j = 4 by omega) with rfl | rfl | rfl | rfl | rfl
      · exact va_eqt (hF (.eq (.elem (.static "LateGlass" "LOWEST_FIRST" "[I") (.int 0)) (.int 0)) (by decide +kernel))
      · exact va_eqt (hF (.eq (.elem (.static "LateGlass" "LOWEST_FIRST" "[I") (.int 1)) (.int 3)) (by decide +kernel))
      · exact va_eqt (hF (.eq (.elem (.static "LateGlass" "LOWEST_FIRST" "[I") (.int 2)) (.int 4)) (by decide +kernel))
      · exact va_eqt (hF (.eq (.elem (.static "LateGlass" "LOWEST_FIRST" "[I") (.int 3)) (.int 1)) (by decide +kernel))
      · exact va_eqt (hF (.eq (.elem (.static "LateGlass" "LOWEST_FIRST" "[I") (.int 4)) (.int 2)) (by decide +kernel)))  hA
    have hm : ∀ j : Nat, j < 74 → Cond.eq (.elem (.field (.string "LateGlass$Tokens" 41) "java/lang/String" "value" "[B") (.int (Int32.ofNat j))) (.int (g5_by.getD j 0)) ∈ flatC (Jvm.Cond.and given_1 narrow_1) := by decide +kernel
    obtain ⟨adK, adV, hSt, hev⟩ := vk_Sof (s := s) (N := 1) (tm := fun _ => (.string "LateGlass$Tokens" 41)) (len := [74]) (byt := [g5_by]) (A := fun q : Nat => s.heap.size ≤ q) (fun i hi => by obtain rfl : i = 0 := (by omega); decide) (fun i hi => hF (.exactly (.string "LateGlass$Tokens" 41) "java/lang/String") (by decide +kernel)) (fun i hi => hF (.eq (.field (.string "LateGlass$Tokens" 41) "java/lang/String" "coder" "B") (.int 0)) (by decide +kernel)) (fun i hi => hF (.arrayOf (.field (.string "LateGlass$Tokens" 41) "java/lang/String" "value" "[B") .byte) (by decide +kernel)) (fun i hi => by obtain rfl : i = 0 := (by omega); exact hF (.eq (.length (.field (.string "LateGlass$Tokens" 41) "java/lang/String" "value" "[B")) (.int 74)) (by decide +kernel)) (fun i hi j hj => by obtain rfl : i = 0 := (by omega); exact hF _ (hm j hj)) (fun i j hi hj hij => absurd (show i = j by omega) hij) hA
    obtain ⟨v, hv, hvr⟩ := Cond.isRef_spec (hF (.isRef (.static "jdk/internal/util/Preconditions" "SIOOBE_FORMATTER" "Ljava/util/function/BiFunction;")) (by decide +kernel))
    obtain ⟨tF, rfl⟩ : ∃ tF : Option Nat, v = va_rf tF := by
      cases v with
      | null => exact ⟨none, rfl⟩
      | ref a => exact ⟨some a, rfl⟩
      | _ => cases hvr
    exact ⟨tH, tL, adK 0, adV 0, tF, va_Zof (hts0 _ (List.mem_of_getElem? (i := 1008) (by decide +kernel))) (hts _ ini_X11) htH hA, hTH, va_Zof (hts0 _ (List.mem_of_getElem? (i := 1029) (by decide +kernel))) (hts _ ini_X11) htL hA, hTL, vk_R.of (hts0 _ (List.mem_of_getElem? (i := 667) (by decide +kernel))) (hev 0 (by omega)), ⟨fun i hi => by obtain rfl : i = 0 := (by omega); exact hSt.1 0 (by omega), fun i j hi hj _ => by omega⟩, va_Zof (hts0 _ (List.mem_of_getElem? (i := 677) (by decide +kernel))) (hts0 _ (List.mem_of_getElem? (i := 100) (by decide +kernel))) (va_eqt (hF (.eq (.static "java/lang/String" "COMPACT_STRINGS" "Z") (.int 1)) (by decide +kernel))) hA, va_Zof (hts0 _ (List.mem_of_getElem? (i := 693) (by decide +kernel))) (hts0 _ (List.mem_of_getElem? (i := 102) (by decide +kernel))) hv hA⟩
theorem cl_L_7 : Cond.classLink RL 7 RX11 ∈ tblG := tg 111 (by decide +kernel) (by decide +kernel)
theorem oi_X11_3 : Cond.methodLink RX11 3 objectInit ∈ tblG := tg 116 (by decide +kernel) (by decide +kernel)
theorem cl_X11_9 : Cond.classLink RX11 9 RX1 ∈ tblG := tg 119 (by decide +kernel) (by decide +kernel)
theorem oi_X1_3 : Cond.methodLink RX1 3 objectInit ∈ tblG := tg 124 (by decide +kernel) (by decide +kernel)
theorem cl_X1_28 : Cond.classLink RX1 28 RX3 ∈ tblG := tg 125 (by decide +kernel) (by decide +kernel)
theorem cl_X1_34 : Cond.classLink RX1 34 RX6 ∈ tblG := tg 127 (by decide +kernel) (by decide +kernel)
theorem oi_X6_3 : Cond.methodLink RX6 3 objectInit ∈ tblG := tg 132 (by decide +kernel) (by decide +kernel)
theorem dgX6_init_0 : ∀ r ∈ ([(0, (.aload_n 0, 1)), (1, (.invokespecial 3, 3)), (4, (.aload_n 0, 1)), (5, (.iconst 0, 1)), (6, (.putfield 9, 3)), (9, (.aload_n 0, 1)), (10, (.iload_n 1, 1)), (11, (.putfield 15, 3)), (14, (.aload_n 0, 1)), (15, (.iload_n 2, 1)), (16, (.putfield 18, 3)), (19, (.aload_n 0, 1)), (20, (.iload_n 1, 1)), (21, (.iload_n 2, 1)), (22, (.imul, 1)), (23, (.newarray .int, 2)), (25, (.putfield 21, 3)), (28, (.return_, 1))] : List (Nat × (Instr × Nat))), decode cX6_init r.1 = .ok r.2 := by decide +kernel
theorem dX6_init_0 : decode cX6_init 0 = .ok (.aload_n 0, 1) := dgX6_init_0 (0, (.aload_n 0, 1)) (List.mem_of_getElem? (i := 0) rfl)
theorem dX6_init_1 : decode cX6_init 1 = .ok (.invokespecial 3, 3) := dgX6_init_0 (1, (.invokespecial 3, 3)) (List.mem_of_getElem? (i := 1) rfl)
theorem dX6_init_4 : decode cX6_init 4 = .ok (.aload_n 0, 1) := dgX6_init_0 (4, (.aload_n 0, 1)) (List.mem_of_getElem? (i := 2) rfl)
theorem dX6_init_5 : decode cX6_init 5 = .ok (.iconst 0, 1) := dgX6_init_0 (5, (.iconst 0, 1)) (List.mem_of_getElem? (i := 3) rfl)
theorem dX6_init_6 : decode cX6_init 6 = .ok (.putfield 9, 3) := dgX6_init_0 (6, (.putfield 9, 3)) (List.mem_of_getElem? (i := 4) rfl)
theorem dX6_init_9 : decode cX6_init 9 = .ok (.aload_n 0, 1) := dgX6_init_0 (9, (.aload_n 0, 1)) (List.mem_of_getElem? (i := 5) rfl)
theorem dX6_init_10 : decode cX6_init 10 = .ok (.iload_n 1, 1) := dgX6_init_0 (10, (.iload_n 1, 1)) (List.mem_of_getElem? (i := 6) rfl)
theorem dX6_init_11 : decode cX6_init 11 = .ok (.putfield 15, 3) := dgX6_init_0 (11, (.putfield 15, 3)) (List.mem_of_getElem? (i := 7) rfl)
theorem dX6_init_14 : decode cX6_init 14 = .ok (.aload_n 0, 1) := dgX6_init_0 (14, (.aload_n 0, 1)) (List.mem_of_getElem? (i := 8) rfl)
theorem dX6_init_15 : decode cX6_init 15 = .ok (.iload_n 2, 1) := dgX6_init_0 (15, (.iload_n 2, 1)) (List.mem_of_getElem? (i := 9) rfl)
theorem dX6_init_16 : decode cX6_init 16 = .ok (.putfield 18, 3) := dgX6_init_0 (16, (.putfield 18, 3)) (List.mem_of_getElem? (i := 10) rfl)
theorem dX6_init_19 : decode cX6_init 19 = .ok (.aload_n 0, 1) := dgX6_init_0 (19, (.aload_n 0, 1)) (List.mem_of_getElem? (i := 11) rfl)
theorem dX6_init_20 : decode cX6_init 20 = .ok (.iload_n 1, 1) := dgX6_init_0 (20, (.iload_n 1, 1)) (List.mem_of_getElem? (i := 12) rfl)
theorem dX6_init_21 : decode cX6_init 21 = .ok (.iload_n 2, 1) := dgX6_init_0 (21, (.iload_n 2, 1)) (List.mem_of_getElem? (i := 13) rfl)
theorem dX6_init_22 : decode cX6_init 22 = .ok (.imul, 1) := dgX6_init_0 (22, (.imul, 1)) (List.mem_of_getElem? (i := 14) rfl)
theorem dX6_init_23 : decode cX6_init 23 = .ok (.newarray .int, 2) := dgX6_init_0 (23, (.newarray .int, 2)) (List.mem_of_getElem? (i := 15) rfl)
theorem dX6_init_25 : decode cX6_init 25 = .ok (.putfield 21, 3) := dgX6_init_0 (25, (.putfield 21, 3)) (List.mem_of_getElem? (i := 16) rfl)
theorem dX6_init_28 : decode cX6_init 28 = .ok (.return_, 1) := dgX6_init_0 (28, (.return_, 1)) (List.mem_of_getElem? (i := 17) rfl)
set_option maxHeartbeats 4000000 in
set_option maxRecDepth 100000 in
theorem kX6_init (l : Launch) (G : g5_G) (a0 : Nat) (sz : Nat) : Met l yX6_init (wsG yX6_init cX6_init 3 none) ({ frames := 1, cells := 1, slots := 30, locals := 12 }) (va_Pc [.ref a0, .int 6, .int 5] (g5_P G [(a0, .inr (6, [.int 0, .int 0, .null, .int 0]))] sz)) (va_Qv (fun (u : va_W) => (∃ (q1 : Nat), (u = [(a0, (oc6 6 5 q1 0)), (q1, (arI G 30 (fun _ => 0)))]))) (g5_B G (va_A [(a0, .inr (6, [.int 0, .int 0, .null, .int 0]))] sz)) (va_A [(a0, .inr (6, [.int 0, .int 0, .null, .int 0]))] sz)) 1 30 (va_A [(a0, .inr (6, [.int 0, .int 0, .null, .int 0]))] sz) := by
  refine Met.ofW (cc := cX6_init) (maxL := 3) (ret := none) (by decide +kernel) rfl ?_
  intro p e s m args below meth c s₁ B hml hv
  obtain ⟨rfl, hsz, hP, hK, hD0, hN, hT⟩ := hv
  have hx := B.exec
  have hb := B.bytes
  have hr := B.returns
  have hts : ∀ w ∈ tblG, w.before _ s = true := fun w h => atoms_spec (ws := (wsG yX6_init cX6_init 3 none)) B.pre w (List.mem_cons_of_mem _ h)
  have hown : s.vm.findClass RX6 = some m.cls := findClass_of_methodNamed B.named
  have hlocks := B.notSynchronized
  have hin : meth.name = "<init>" := (name_of_methodNamed B.named B.method).1
  subst hsz
  have hD := hD0.self (sz := s.heap.size)
  generalize hAe : va_A [(a0, .inr (6, [.int 0, .int 0, .null, .int 0]))] s.heap.size = A at hD hT ⊢
  have hA : ∀ q : Nat, s.heap.size ≤ q → A q := fun q h => by rw [← hAe]; exact Or.inr h
  have hS : va_S A s.heap s.heap [] := va_S.rf
  replace hP : va_P G.1 vwCl [(a0, .inr (6, [.int 0, .int 0, .null, .int 0]))] s.heap := hP
  have hl := lv_entry ([.ref a0, .int 6, .int 5]) (n := 3) (Nat.le_of_ble_eq_true rfl)
  rw [lg_entry_eq]
  generalize (lg_sl ([.ref a0, .int 6, .int 5]) ++ List.replicate (3 - (lg_sl ([.ref a0, .int 6, .int 5])).length) Slot.unset).toArray = ls at hl ⊢
  replace hl : lv_has ls 3 [(0, .ref a0), (1, .int 6), (2, .int 5)] := hl
  refine lv_aload_n hx hb dX6_init_0 rfl (lv_at hl 0 rfl) ?_
  refine W.objInit hx hb hown (hts _ oi_X6_3) (hts _ oi_im) (hts _ oi_cd) rfl (by rw [hml]; exact hl.1) rfl dX6_init_1 (Nat.le_of_ble_eq_true rfl) (Nat.le_of_ble_eq_true rfl) ?_
  refine W.eq (g2 := F0 m 4 ls []) rfl ?_
  refine lv_aload_n hx hb dX6_init_4 rfl (lv_at hl 0 rfl) ?_
  refine lv_iconst (v := 0) hx hb dX6_init_5 (by decide +kernel) ?_
  refine va_put (D := G.1) (ci := 6) (v := .int 0) (ty := .int) (C := RX6) (T := TX6) (N := 4) hx hb hts inG_X6 tyX6 tyX6_ok nmX6 hown hK hP hD hS 0 rfl rfl 3 (by decide +kernel) (hts _ fl_X6_9) (fun _ h9 => h9) rfl (by decide +kernel) rfl rfl (Nat.le_of_ble_eq_true rfl) dX6_init_6 ?_
  clear hP hD hS
  intro H locs hP hD hS
  refine g5_rs [(a0, .inr (6, [.int 0, .int 0, .null, .int 0]))] hP hD ?_
  clear hP hD
  intro hP hD
  refine lv_aload_n hx hb dX6_init_9 rfl (lv_at hl 0 rfl) ?_
  refine lv_iload_n hx hb dX6_init_10 rfl (lv_at hl 1 rfl) ?_
  refine va_putF (D := G.1) (ci := 6) (v := .int 6) (ty := .int) (C := RX6) (T := TX6) (N := 4) hx hb hts inG_X6 tyX6 tyX6_ok nmX6 hown hK hP hD hS 0 rfl rfl 0 (by decide +kernel) (hts _ fl_X6_15) (fun _ h9 => h9) rfl hin rfl (by decide +kernel) rfl rfl (Nat.le_of_ble_eq_true rfl) dX6_init_11 ?_
  clear hP hD hS
  intro H locs hP hD hS
  refine g5_rs [(a0, .inr (6, [.int 6, .int 0, .null, .int 0]))] hP hD ?_
  clear hP hD
  intro hP hD
  refine lv_aload_n hx hb dX6_init_14 rfl (lv_at hl 0 rfl) ?_
  refine lv_iload_n hx hb dX6_init_15 rfl (lv_at hl 2 rfl) ?_
  refine va_putF (D := G.1) (ci := 6) (v := .int 5) (ty := .int) (C := RX6) (T := TX6) (N := 4) hx hb hts inG_X6 tyX6 tyX6_ok nmX6 hown hK hP hD hS 0 rfl rfl 1 (by decide +kernel) (hts _ fl_X6_18) (fun _ h9 => h9) rfl hin rfl (by decide +kernel) rfl rfl (Nat.le_of_ble_eq_true rfl) dX6_init_16 ?_
  clear hP hD hS
  intro H locs hP hD hS
  refine g5_rs [(a0, .inr (6, [.int 6, .int 5, .null, .int 0]))] hP hD ?_
  clear hP hD
  intro hP hD
  refine lv_aload_n hx hb dX6_init_19 rfl (lv_at hl 0 rfl) ?_
  refine lv_iload_n hx hb dX6_init_20 rfl (lv_at hl 1 rfl) ?_
  refine lv_iload_n hx hb dX6_init_21 rfl (lv_at hl 2 rfl) ?_
  refine lv_imul hx hb dX6_init_22 ?_
  refine g5_ti (v := 30) (by decide +kernel) ?_
  refine va_newa (D := G.1) (atype := .int) (ty := .int) hx hb (hts _ acl_I) rfl hK hP hD hS hA (n := 30) (N' := 30) (a0 := (30, .inl (fun _ => 0))) (fun _ => rfl) (by decide +kernel) (by decide +kernel) (by decide +kernel) (Nat.le_of_ble_eq_true rfl) (Nat.le_of_ble_eq_true rfl) dX6_init_23 (fun q1 cA H hKn hP hD hS => ?_)
  obtain rfl : cA = G.2 0 := g5_cI hKn
  refine g5_rs [(a0, .inr (6, [.int 6, .int 5, .null, .int 0])), (q1, (arI G 30 (fun _ => 0)))] hP hD ?_
  clear hP hD
  intro hP hD
  refine W.widen (k := 1) (n := 30) (Nat.le_of_ble_eq_true rfl) (Nat.le_of_ble_eq_true rfl) ?_
  refine va_putF (D := G.1) (ci := 6) (v := .ref q1) (ty := .array .int) (C := RX6) (T := TX6) (N := 4) hx hb hts inG_X6 tyX6 tyX6_ok nmX6 hown hK hP hD hS 0 rfl rfl 2 (by decide +kernel) (hts _ fl_X6_21) (fun _ h9 => h9) rfl hin rfl (by decide +kernel) rfl rfl (Nat.le_of_ble_eq_true rfl) dX6_init_25 ?_
  clear hP hD hS
  intro H locs hP hD hS
  refine g5_rs [(a0, (oc6 6 5 q1 0)), (q1, (arI G 30 (fun _ => 0)))] hP hD ?_
  clear hP hD
  intro hP hD
  exact W.vret hx hb hr (fun t ht hW => ⟨⟨[(a0, (oc6 6 5 q1 0)), (q1, (arI G 30 (fun _ => 0)))], rfl, ⟨q1, rfl⟩, by rw [ht]; exact hP, hD⟩, hS.F ht⟩) hS.2.2 dX6_init_28
theorem cd_X6_init : Cond.code yX6_init cX6_init 3 none ∈ tblG := tg 131 (by decide +kernel) (by decide +kernel)
theorem gW_X6_init : GoodIn tblG (wsG yX6_init cX6_init 3 none) := tgi cd_X6_init
theorem ml_X1_36 : Cond.methodLink RX1 36 yX6_init ∈ tblG := tg 129 (by decide +kernel) (by decide +kernel)
theorem im_X6_init : Cond.instanceMethod yX6_init ∈ tblG := tg 130 (by decide +kernel) (by decide +kernel)
theorem hs_X6_init : yX6_init.cls ≠ "java/lang/invoke/MethodHandle" ∧ yX6_init.cls ≠ "java/lang/invoke/VarHandle" ∧ (parseMethodDescriptor yX6_init.desc).map (fun d => d.parameters.length) = some 2 := by decide +kernel
set_option maxHeartbeats 4000000 in
set_option maxRecDepth 100000 in
theorem kX6_init_2 (l : Launch) (G : g5_G) (a0 : Nat) (sz : Nat) : Met l yX6_init (wsG yX6_init cX6_init 3 none) ({ frames := 1, cells := 1, slots := 120, locals := 12 }) (va_Pc [.ref a0, .int 5, .int 24] (g5_P G [(a0, .inr (6, [.int 0, .int 0, .null, .int 0]))] sz)) (va_Qv (fun (u : va_W) => (∃ (q1 : Nat), (u = [(a0, (oc6 5 24 q1 0)), (q1, (arI G 120 (fun _ => 0)))]))) (g5_B G (va_A [(a0, .inr (6, [.int 0, .int 0, .null, .int 0]))] sz)) (va_A [(a0, .inr (6, [.int 0, .int 0, .null, .int 0]))] sz)) 1 120 (va_A [(a0, .inr (6, [.int 0, .int 0, .null, .int 0]))] sz) := by
  refine Met.ofW (cc := cX6_init) (maxL := 3) (ret := none) (by decide +kernel) rfl ?_
  intro p e s m args below meth c s₁ B hml hv
  obtain ⟨rfl, hsz, hP, hK, hD0, hN, hT⟩ := hv
  have hx := B.exec
  have hb := B.bytes
  have hr := B.returns
  have hts : ∀ w ∈ tblG, w.before _ s = true := fun w h => atoms_spec (ws := (wsG yX6_init cX6_init 3 none)) B.pre w (List.mem_cons_of_mem _ h)
  have hown : s.vm.findClass RX6 = some m.cls := findClass_of_methodNamed B.named
  have hlocks := B.notSynchronized
  have hin : meth.name = "<init>" := (name_of_methodNamed B.named B.method).1
  subst hsz
  have hD := hD0.self (sz := s.heap.size)
  generalize hAe : va_A [(a0, .inr (6, [.int 0, .int 0, .null, .int 0]))] s.heap.size = A at hD hT ⊢
  have hA : ∀ q : Nat, s.heap.size ≤ q → A q := fun q h => by rw [← hAe]; exact Or.inr h
  have hS : va_S A s.heap s.heap [] := va_S.rf
  replace hP : va_P G.1 vwCl [(a0, .inr (6, [.int 0, .int 0, .null, .int 0]))] s.heap := hP
  have hl := lv_entry ([.ref a0, .int 5, .int 24]) (n := 3) (Nat.le_of_ble_eq_true rfl)
  rw [lg_entry_eq]
  generalize (lg_sl ([.ref a0, .int 5, .int 24]) ++ List.replicate (3 - (lg_sl ([.ref a0, .int 5, .int 24])).length) Slot.unset).toArray = ls at hl ⊢
  replace hl : lv_has ls 3 [(0, .ref a0), (1, .int 5), (2, .int 24)] := hl
  refine lv_aload_n hx hb dX6_init_0 rfl (lv_at hl 0 rfl) ?_
  refine W.objInit hx hb hown (hts _ oi_X6_3) (hts _ oi_im) (hts _ oi_cd) rfl (by rw [hml]; exact hl.1) rfl dX6_init_1 (Nat.le_of_ble_eq_true rfl) (Nat.le_of_ble_eq_true rfl) ?_
  refine W.eq (g2 := F0 m 4 ls []) rfl ?_
  refine lv_aload_n hx hb dX6_init_4 rfl (lv_at hl 0 rfl) ?_
  refine lv_iconst (v := 0) hx hb dX6_init_5 (by decide +kernel) ?_
  refine va_put (D := G.1) (ci := 6) (v := .int 0) (ty := .int) (C := RX6) (T := TX6) (N := 4) hx hb hts inG_X6 tyX6 tyX6_ok nmX6 hown hK hP hD hS 0 rfl rfl 3 (by decide +kernel) (hts _ fl_X6_9) (fun _ h9 => h9) rfl (by decide +kernel) rfl rfl (Nat.le_of_ble_eq_true rfl) dX6_init_6 ?_
  clear hP hD hS
  intro H locs hP hD hS
  refine g5_rs [(a0, .inr (6, [.int 0, .int 0, .null, .int 0]))] hP hD ?_
  clear hP hD
  intro hP hD
  refine lv_aload_n hx hb dX6_init_9 rfl (lv_at hl 0 rfl) ?_
  refine lv_iload_n hx hb dX6_init_10 rfl (lv_at hl 1 rfl) ?_
  refine va_putF (D := G.1) (ci := 6) (v := .int 5) (ty := .int) (C := RX6) (T := TX6) (N := 4) hx hb hts inG_X6 tyX6 tyX6_ok nmX6 hown hK hP hD hS 0 rfl rfl 0 (by decide +kernel) (hts _ fl_X6_15) (fun _ h9 => h9) rfl hin rfl (by decide +kernel) rfl rfl (Nat.le_of_ble_eq_true rfl) dX6_init_11 ?_
  clear hP hD hS
  intro H locs hP hD hS
  refine g5_rs [(a0, .inr (6, [.int 5, .int 0, .null, .int 0]))] hP hD ?_
  clear hP hD
  intro hP hD
  refine lv_aload_n hx hb dX6_init_14 rfl (lv_at hl 0 rfl) ?_
  refine lv_iload_n hx hb dX6_init_15 rfl (lv_at hl 2 rfl) ?_
  refine va_putF (D := G.1) (ci := 6) (v := .int 24) (ty := .int) (C := RX6) (T := TX6) (N := 4) hx hb hts inG_X6 tyX6 tyX6_ok nmX6 hown hK hP hD hS 0 rfl rfl 1 (by decide +kernel) (hts _ fl_X6_18) (fun _ h9 => h9) rfl hin rfl (by decide +kernel) rfl rfl (Nat.le_of_ble_eq_true rfl) dX6_init_16 ?_
  clear hP hD hS
  intro H locs hP hD hS
  refine g5_rs [(a0, .inr (6, [.int 5, .int 24, .null, .int 0]))] hP hD ?_
  clear hP hD
  intro hP hD
  refine lv_aload_n hx hb dX6_init_19 rfl (lv_at hl 0 rfl) ?_
  refine lv_iload_n hx hb dX6_init_20 rfl (lv_at hl 1 rfl) ?_
  refine lv_iload_n hx hb dX6_init_21 rfl (lv_at hl 2 rfl) ?_
  refine lv_imul hx hb dX6_init_22 ?_
  refine g5_ti (v := 120) (by decide +kernel) ?_
  refine va_newa (D := G.1) (atype := .int) (ty := .int) hx hb (hts _ acl_I) rfl hK hP hD hS hA (n := 120) (N' := 120) (a0 := (120, .inl (fun _ => 0))) (fun _ => rfl) (by decide +kernel) (by decide +kernel) (by decide +kernel) (Nat.le_of_ble_eq_true rfl) (Nat.le_of_ble_eq_true rfl) dX6_init_23 (fun q1 cA H hKn hP hD hS => ?_)
  obtain rfl : cA = G.2 0 := g5_cI hKn
  refine g5_rs [(a0, .inr (6, [.int 5, .int 24, .null, .int 0])), (q1, (arI G 120 (fun _ => 0)))] hP hD ?_
  clear hP hD
  intro hP hD
  refine W.widen (k := 1) (n := 120) (Nat.le_of_ble_eq_true rfl) (Nat.le_of_ble_eq_true rfl) ?_
  refine va_putF (D := G.1) (ci := 6) (v := .ref q1) (ty := .array .int) (C := RX6) (T := TX6) (N := 4) hx hb hts inG_X6 tyX6 tyX6_ok nmX6 hown hK hP hD hS 0 rfl rfl 2 (by decide +kernel) (hts _ fl_X6_21) (fun _ h9 => h9) rfl hin rfl (by decide +kernel) rfl rfl (Nat.le_of_ble_eq_true rfl) dX6_init_25 ?_
  clear hP hD hS
  intro H locs hP hD hS
  refine g5_rs [(a0, (oc6 5 24 q1 0)), (q1, (arI G 120 (fun _ => 0)))] hP hD ?_
  clear hP hD
  intro hP hD
  exact W.vret hx hb hr (fun t ht hW => ⟨⟨[(a0, (oc6 5 24 q1 0)), (q1, (arI G 120 (fun _ => 0)))], rfl, ⟨q1, rfl⟩, by rw [ht]; exact hP, hD⟩, hS.F ht⟩) hS.2.2 dX6_init_28
set_option maxHeartbeats 4000000 in
set_option maxRecDepth 100000 in
theorem kX6_init_3 (l : Launch) (G : g5_G) (a0 : Nat) (sz : Nat) : Met l yX6_init (wsG yX6_init cX6_init 3 none) ({ frames := 1, cells := 1, slots := 40, locals := 12 }) (va_Pc [.ref a0, .int 10, .int 4] (g5_P G [(a0, .inr (6, [.int 0, .int 0, .null, .int 0]))] sz)) (va_Qv (fun (u : va_W) => (∃ (q1 : Nat), (u = [(a0, (oc6 10 4 q1 0)), (q1, (arI G 40 (fun _ => 0)))]))) (g5_B G (va_A [(a0, .inr (6, [.int 0, .int 0, .null, .int 0]))] sz)) (va_A [(a0, .inr (6, [.int 0, .int 0, .null, .int 0]))] sz)) 1 40 (va_A [(a0, .inr (6, [.int 0, .int 0, .null, .int 0]))] sz) := by
  refine Met.ofW (cc := cX6_init) (maxL := 3) (ret := none) (by decide +kernel) rfl ?_
  intro p e s m args below meth c s₁ B hml hv
  obtain ⟨rfl, hsz, hP, hK, hD0, hN, hT⟩ := hv
  have hx := B.exec
  have hb := B.bytes
  have hr := B.returns
  have hts : ∀ w ∈ tblG, w.before _ s = true := fun w h => atoms_spec (ws := (wsG yX6_init cX6_init 3 none)) B.pre w (List.mem_cons_of_mem _ h)
  have hown : s.vm.findClass RX6 = some m.cls := findClass_of_methodNamed B.named
  have hlocks := B.notSynchronized
  have hin : meth.name = "<init>" := (name_of_methodNamed B.named B.method).1
  subst hsz
  have hD := hD0.self (sz := s.heap.size)
  generalize hAe : va_A [(a0, .inr (6, [.int 0, .int 0, .null, .int 0]))] s.heap.size = A at hD hT ⊢
  have hA : ∀ q : Nat, s.heap.size ≤ q → A q := fun q h => by rw [← hAe]; exact Or.inr h
  have hS : va_S A s.heap s.heap [] := va_S.rf
  replace hP : va_P G.1 vwCl [(a0, .inr (6, [.int 0, .int 0, .null, .int 0]))] s.heap := hP
  have hl := lv_entry ([.ref a0, .int 10, .int 4]) (n := 3) (Nat.le_of_ble_eq_true rfl)
  rw [lg_entry_eq]
  generalize (lg_sl ([.ref a0, .int 10, .int 4]) ++ List.replicate (3 - (lg_sl ([.ref a0, .int 10, .int 4])).length) Slot.unset).toArray = ls at hl ⊢
  replace hl : lv_has ls 3 [(0, .ref a0), (1, .int 10), (2, .int 4)] := hl
  refine lv_aload_n hx hb dX6_init_0 rfl (lv_at hl 0 rfl) ?_
  refine W.objInit hx hb hown (hts _ oi_X6_3) (hts _ oi_im) (hts _ oi_cd) rfl (by rw [hml]; exact hl.1) rfl dX6_init_1 (Nat.le_of_ble_eq_true rfl) (Nat.le_of_ble_eq_true rfl) ?_
  refine W.eq (g2 := F0 m 4 ls []) rfl ?_
  refine lv_aload_n hx hb dX6_init_4 rfl (lv_at hl 0 rfl) ?_
  refine lv_iconst (v := 0) hx hb dX6_init_5 (by decide +kernel) ?_
  refine va_put (D := G.1) (ci := 6) (v := .int 0) (ty := .int) (C := RX6) (T := TX6) (N := 4) hx hb hts inG_X6 tyX6 tyX6_ok nmX6 hown hK hP hD hS 0 rfl rfl 3 (by decide +kernel) (hts _ fl_X6_9) (fun _ h9 => h9) rfl (by decide +kernel) rfl rfl (Nat.le_of_ble_eq_true rfl) dX6_init_6 ?_
  clear hP hD hS
  intro H locs hP hD hS
  refine g5_rs [(a0, .inr (6, [.int 0, .int 0, .null, .int 0]))] hP hD ?_
  clear hP hD
  intro hP hD
  refine lv_aload_n hx hb dX6_init_9 rfl (lv_at hl 0 rfl) ?_
  refine lv_iload_n hx hb dX6_init_10 rfl (lv_at hl 1 rfl) ?_
  refine va_putF (D := G.1) (ci := 6) (v := .int 10) (ty := .int) (C := RX6) (T := TX6) (N := 4) hx hb hts inG_X6 tyX6 tyX6_ok nmX6 hown hK hP hD hS 0 rfl rfl 0 (by decide +kernel) (hts _ fl_X6_15) (fun _ h9 => h9) rfl hin rfl (by decide +kernel) rfl rfl (Nat.le_of_ble_eq_true rfl) dX6_init_11 ?_
  clear hP hD hS
  intro H locs hP hD hS
  refine g5_rs [(a0, .inr (6, [.int 10, .int 0, .null, .int 0]))] hP hD ?_
  clear hP hD
  intro hP hD
  refine lv_aload_n hx hb dX6_init_14 rfl (lv_at hl 0 rfl) ?_
  refine lv_iload_n hx hb dX6_init_15 rfl (lv_at hl 2 rfl) ?_
  refine va_putF (D := G.1) (ci := 6) (v := .int 4) (ty := .int) (C := RX6) (T := TX6) (N := 4) hx hb hts inG_X6 tyX6 tyX6_ok nmX6 hown hK hP hD hS 0 rfl rfl 1 (by decide +kernel) (hts _ fl_X6_18) (fun _ h9 => h9) rfl hin rfl (by decide +kernel) rfl rfl (Nat.le_of_ble_eq_true rfl) dX6_init_16 ?_
  clear hP hD hS
  intro H locs hP hD hS
  refine g5_rs [(a0, .inr (6, [.int 10, .int 4, .null, .int 0]))] hP hD ?_
  clear hP hD
  intro hP hD
  refine lv_aload_n hx hb dX6_init_19 rfl (lv_at hl 0 rfl) ?_
  refine lv_iload_n hx hb dX6_init_20 rfl (lv_at hl 1 rfl) ?_
  refine lv_iload_n hx hb dX6_init_21 rfl (lv_at hl 2 rfl) ?_
  refine lv_imul hx hb dX6_init_22 ?_
  refine g5_ti (v := 40) (by decide +kernel) ?_
  refine va_newa (D := G.1) (atype := .int) (ty := .int) hx hb (hts _ acl_I) rfl hK hP hD hS hA (n := 40) (N' := 40) (a0 := (40, .inl (fun _ => 0))) (fun _ => rfl) (by decide +kernel) (by decide +kernel) (by decide +kernel) (Nat.le_of_ble_eq_true rfl) (Nat.le_of_ble_eq_true rfl) dX6_init_23 (fun q1 cA H hKn hP hD hS => ?_)
  obtain rfl : cA = G.2 0 := g5_cI hKn
  refine g5_rs [(a0, .inr (6, [.int 10, .int 4, .null, .int 0])), (q1, (arI G 40 (fun _ => 0)))] hP hD ?_
  clear hP hD
  intro hP hD
  refine W.widen (k := 1) (n := 40) (Nat.le_of_ble_eq_true rfl) (Nat.le_of_ble_eq_true rfl) ?_
  refine va_putF (D := G.1) (ci := 6) (v := .ref q1) (ty := .array .int) (C := RX6) (T := TX6) (N := 4) hx hb hts inG_X6 tyX6 tyX6_ok nmX6 hown hK hP hD hS 0 rfl rfl 2 (by decide +kernel) (hts _ fl_X6_21) (fun _ h9 => h9) rfl hin rfl (by decide +kernel) rfl rfl (Nat.le_of_ble_eq_true rfl) dX6_init_25 ?_
  clear hP hD hS
  intro H locs hP hD hS
  refine g5_rs [(a0, (oc6 10 4 q1 0)), (q1, (arI G 40 (fun _ => 0)))] hP hD ?_
  clear hP hD
  intro hP hD
  exact W.vret hx hb hr (fun t ht hW => ⟨⟨[(a0, (oc6 10 4 q1 0)), (q1, (arI G 40 (fun _ => 0)))], rfl, ⟨q1, rfl⟩, by rw [ht]; exact hP, hD⟩, hS.F ht⟩) hS.2.2 dX6_init_28
set_option maxHeartbeats 4000000 in
set_option maxRecDepth 100000 in
theorem kX6_init_4 (l : Launch) (G : g5_G) (a0 : Nat) (sz : Nat) : Met l yX6_init (wsG yX6_init cX6_init 3 none) ({ frames := 1, cells := 1, slots := 40, locals := 12 }) (va_Pc [.ref a0, .int 8, .int 5] (g5_P G [(a0, .inr (6, [.int 0, .int 0, .null, .int 0]))] sz)) (va_Qv (fun (u : va_W) => (∃ (q1 : Nat), (u = [(a0, (oc6 8 5 q1 0)), (q1, (arI G 40 (fun _ => 0)))]))) (g5_B G (va_A [(a0, .inr (6, [.int 0, .int 0, .null, .int 0]))] sz)) (va_A [(a0, .inr (6, [.int 0, .int 0, .null, .int 0]))] sz)) 1 40 (va_A [(a0, .inr (6, [.int 0, .int 0, .null, .int 0]))] sz) := by
  refine Met.ofW (cc := cX6_init) (maxL := 3) (ret := none) (by decide +kernel) rfl ?_
  intro p e s m args below meth c s₁ B hml hv
  obtain ⟨rfl, hsz, hP, hK, hD0, hN, hT⟩ := hv
  have hx := B.exec
  have hb := B.bytes
  have hr := B.returns
  have hts : ∀ w ∈ tblG, w.before _ s = true := fun w h => atoms_spec (ws := (wsG yX6_init cX6_init 3 none)) B.pre w (List.mem_cons_of_mem _ h)
  have hown : s.vm.findClass RX6 = some m.cls := findClass_of_methodNamed B.named
  have hlocks := B.notSynchronized
  have hin : meth.name = "<init>" := (name_of_methodNamed B.named B.method).1
  subst hsz
  have hD := hD0.self (sz := s.heap.size)
  generalize hAe : va_A [(a0, .inr (6, [.int 0, .int 0, .null, .int 0]))] s.heap.size = A at hD hT ⊢
  have hA : ∀ q : Nat, s.heap.size ≤ q → A q := fun q h => by rw [← hAe]; exact Or.inr h
  have hS : va_S A s.heap s.heap [] := va_S.rf
  replace hP : va_P G.1 vwCl [(a0, .inr (6, [.int 0, .int 0, .null, .int 0]))] s.heap := hP
  have hl := lv_entry ([.ref a0, .int 8, .int 5]) (n := 3) (Nat.le_of_ble_eq_true rfl)
  rw [lg_entry_eq]
  generalize (lg_sl ([.ref a0, .int 8, .int 5]) ++ List.replicate (3 - (lg_sl ([.ref a0, .int 8, .int 5])).length) Slot.unset).toArray = ls at hl ⊢
  replace hl : lv_has ls 3 [(0, .ref a0), (1, .int 8), (2, .int 5)] := hl
  refine lv_aload_n hx hb dX6_init_0 rfl (lv_at hl 0 rfl) ?_
  refine W.objInit hx hb hown (hts _ oi_X6_3) (hts _ oi_im) (hts _ oi_cd) rfl (by rw [hml]; exact hl.1) rfl dX6_init_1 (Nat.le_of_ble_eq_true rfl) (Nat.le_of_ble_eq_true rfl) ?_
  refine W.eq (g2 := F0 m 4 ls []) rfl ?_
  refine lv_aload_n hx hb dX6_init_4 rfl (lv_at hl 0 rfl) ?_
  refine lv_iconst (v := 0) hx hb dX6_init_5 (by decide +kernel) ?_
  refine va_put (D := G.1) (ci := 6) (v := .int 0) (ty := .int) (C := RX6) (T := TX6) (N := 4) hx hb hts inG_X6 tyX6 tyX6_ok nmX6 hown hK hP hD hS 0 rfl rfl 3 (by decide +kernel) (hts _ fl_X6_9) (fun _ h9 => h9) rfl (by decide +kernel) rfl rfl (Nat.le_of_ble_eq_true rfl) dX6_init_6 ?_
  clear hP hD hS
  intro H locs hP hD hS
  refine g5_rs [(a0, .inr (6, [.int 0, .int 0, .null, .int 0]))] hP hD ?_
  clear hP hD
  intro hP hD
  refine lv_aload_n hx hb dX6_init_9 rfl (lv_at hl 0 rfl) ?_
  refine lv_iload_n hx hb dX6_init_10 rfl (lv_at hl 1 rfl) ?_
  refine va_putF (D := G.1) (ci := 6) (v := .int 8) (ty := .int) (C := RX6) (T := TX6) (N := 4) hx hb hts inG_X6 tyX6 tyX6_ok nmX6 hown hK hP hD hS 0 rfl rfl 0 (by decide +kernel) (hts _ fl_X6_15) (fun _ h9 => h9) rfl hin rfl (by decide +kernel) rfl rfl (Nat.le_of_ble_eq_true rfl) dX6_init_11 ?_
  clear hP hD hS
  intro H locs hP hD hS
  refine g5_rs [(a0, .inr (6, [.int 8, .int 0, .null, .int 0]))] hP hD ?_
  clear hP hD
  intro hP hD
  refine lv_aload_n hx hb dX6_init_14 rfl (lv_at hl 0 rfl) ?_
  refine lv_iload_n hx hb dX6_init_15 rfl (lv_at hl 2 rfl) ?_
  refine va_putF (D := G.1) (ci := 6) (v := .int 5) (ty := .int) (C := RX6) (T := TX6) (N := 4) hx hb hts inG_X6 tyX6 tyX6_ok nmX6 hown hK hP hD hS 0 rfl rfl 1 (by decide +kernel) (hts _ fl_X6_18) (fun _ h9 => h9) rfl hin rfl (by decide +kernel) rfl rfl (Nat.le_of_ble_eq_true rfl) dX6_init_16 ?_
  clear hP hD hS
  intro H locs hP hD hS
  refine g5_rs [(a0, .inr (6, [.int 8, .int 5, .null, .int 0]))] hP hD ?_
  clear hP hD
  intro hP hD
  refine lv_aload_n hx hb dX6_init_19 rfl (lv_at hl 0 rfl) ?_
  refine lv_iload_n hx hb dX6_init_20 rfl (lv_at hl 1 rfl) ?_
  refine lv_iload_n hx hb dX6_init_21 rfl (lv_at hl 2 rfl) ?_
  refine lv_imul hx hb dX6_init_22 ?_
  refine g5_ti (v := 40) (by decide +kernel) ?_
  refine va_newa (D := G.1) (atype := .int) (ty := .int) hx hb (hts _ acl_I) rfl hK hP hD hS hA (n := 40) (N' := 40) (a0 := (40, .inl (fun _ => 0))) (fun _ => rfl) (by decide +kernel) (by decide +kernel) (by decide +kernel) (Nat.le_of_ble_eq_true rfl) (Nat.le_of_ble_eq_true rfl) dX6_init_23 (fun q1 cA H hKn hP hD hS => ?_)
  obtain rfl : cA = G.2 0 := g5_cI hKn
  refine g5_rs [(a0, .inr (6, [.int 8, .int 5, .null, .int 0])), (q1, (arI G 40 (fun _ => 0)))] hP hD ?_
  clear hP hD
  intro hP hD
  refine W.widen (k := 1) (n := 40) (Nat.le_of_ble_eq_true rfl) (Nat.le_of_ble_eq_true rfl) ?_
  refine va_putF (D := G.1) (ci := 6) (v := .ref q1) (ty := .array .int) (C := RX6) (T := TX6) (N := 4) hx hb hts inG_X6 tyX6 tyX6_ok nmX6 hown hK hP hD hS 0 rfl rfl 2 (by decide +kernel) (hts _ fl_X6_21) (fun _ h9 => h9) rfl hin rfl (by decide +kernel) rfl rfl (Nat.le_of_ble_eq_true rfl) dX6_init_25 ?_
  clear hP hD hS
  intro H locs hP hD hS
  refine g5_rs [(a0, (oc6 8 5 q1 0)), (q1, (arI G 40 (fun _ => 0)))] hP hD ?_
  clear hP hD
  intro hP hD
  exact W.vret hx hb hr (fun t ht hW => ⟨⟨[(a0, (oc6 8 5 q1 0)), (q1, (arI G 40 (fun _ => 0)))], rfl, ⟨q1, rfl⟩, by rw [ht]; exact hP, hD⟩, hS.F ht⟩) hS.2.2 dX6_init_28
set_option maxHeartbeats 4000000 in
set_option maxRecDepth 100000 in
theorem kX6_init_5 (l : Launch) (G : g5_G) (a0 : Nat) (sz : Nat) : Met l yX6_init (wsG yX6_init cX6_init 3 none) ({ frames := 1, cells := 1, slots := 36, locals := 12 }) (va_Pc [.ref a0, .int 6, .int 6] (g5_P G [(a0, .inr (6, [.int 0, .int 0, .null, .int 0]))] sz)) (va_Qv (fun (u : va_W) => (∃ (q1 : Nat), (u = [(a0, (oc6 6 6 q1 0)), (q1, (arI G 36 (fun _ => 0)))]))) (g5_B G (va_A [(a0, .inr (6, [.int 0, .int 0, .null, .int 0]))] sz)) (va_A [(a0, .inr (6, [.int 0, .int 0, .null, .int 0]))] sz)) 1 36 (va_A [(a0, .inr (6, [.int 0, .int 0, .null, .int 0]))] sz) := by
  refine Met.ofW (cc := cX6_init) (maxL := 3) (ret := none) (by decide +kernel) rfl ?_
  intro p e s m args below meth c s₁ B hml hv
  obtain ⟨rfl, hsz, hP, hK, hD0, hN, hT⟩ := hv
  have hx := B.exec
  have hb := B.bytes
  have hr := B.returns
  have hts : ∀ w ∈ tblG, w.before _ s = true := fun w h => atoms_spec (ws := (wsG yX6_init cX6_init 3 none)) B.pre w (List.mem_cons_of_mem _ h)
  have hown : s.vm.findClass RX6 = some m.cls := findClass_of_methodNamed B.named
  have hlocks := B.notSynchronized
  have hin : meth.name = "<init>" := (name_of_methodNamed B.named B.method).1
  subst hsz
  have hD := hD0.self (sz := s.heap.size)
  generalize hAe : va_A [(a0, .inr (6, [.int 0, .int 0, .null, .int 0]))] s.heap.size = A at hD hT ⊢
  have hA : ∀ q : Nat, s.heap.size ≤ q → A q := fun q h => by rw [← hAe]; exact Or.inr h
  have hS : va_S A s.heap s.heap [] := va_S.rf
  replace hP : va_P G.1 vwCl [(a0, .inr (6, [.int 0, .int 0, .null, .int 0]))] s.heap := hP
  have hl := lv_entry ([.ref a0, .int 6, .int 6]) (n := 3) (Nat.le_of_ble_eq_true rfl)
  rw [lg_entry_eq]
  generalize (lg_sl ([.ref a0, .int 6, .int 6]) ++ List.replicate (3 - (lg_sl ([.ref a0, .int 6, .int 6])).length) Slot.unset).toArray = ls at hl ⊢
  replace hl : lv_has ls 3 [(0, .ref a0), (1, .int 6), (2, .int 6)] := hl
  refine lv_aload_n hx hb dX6_init_0 rfl (lv_at hl 0 rfl) ?_
  refine W.objInit hx hb hown (hts _ oi_X6_3) (hts _ oi_im) (hts _ oi_cd) rfl (by rw [hml]; exact hl.1) rfl dX6_init_1 (Nat.le_of_ble_eq_true rfl) (Nat.le_of_ble_eq_true rfl) ?_
  refine W.eq (g2 := F0 m 4 ls []) rfl ?_
  refine lv_aload_n hx hb dX6_init_4 rfl (lv_at hl 0 rfl) ?_
  refine lv_iconst (v := 0) hx hb dX6_init_5 (by decide +kernel) ?_
  refine va_put (D := G.1) (ci := 6) (v := .int 0) (ty := .int) (C := RX6) (T := TX6) (N := 4) hx hb hts inG_X6 tyX6 tyX6_ok nmX6 hown hK hP hD hS 0 rfl rfl 3 (by decide +kernel) (hts _ fl_X6_9) (fun _ h9 => h9) rfl (by decide +kernel) rfl rfl (Nat.le_of_ble_eq_true rfl) dX6_init_6 ?_
  clear hP hD hS
  intro H locs hP hD hS
  refine g5_rs [(a0, .inr (6, [.int 0, .int 0, .null, .int 0]))] hP hD ?_
  clear hP hD
  intro hP hD
  refine lv_aload_n hx hb dX6_init_9 rfl (lv_at hl 0 rfl) ?_
  refine lv_iload_n hx hb dX6_init_10 rfl (lv_at hl 1 rfl) ?_
  refine va_putF (D := G.1) (ci := 6) (v := .int 6) (ty := .int) (C := RX6) (T := TX6) (N := 4) hx hb hts inG_X6 tyX6 tyX6_ok nmX6 hown hK hP hD hS 0 rfl rfl 0 (by decide +kernel) (hts _ fl_X6_15) (fun _ h9 => h9) rfl hin rfl (by decide +kernel) rfl rfl (Nat.le_of_ble_eq_true rfl) dX6_init_11 ?_
  clear hP hD hS
  intro H locs hP hD hS
  refine g5_rs [(a0, .inr (6, [.int 6, .int 0, .null, .int 0]))] hP hD ?_
  clear hP hD
  intro hP hD
  refine lv_aload_n hx hb dX6_init_14 rfl (lv_at hl 0 rfl) ?_
  refine lv_iload_n hx hb dX6_init_15 rfl (lv_at hl 2 rfl) ?_
  refine va_putF (D := G.1) (ci := 6) (v := .int 6) (ty := .int) (C := RX6) (T := TX6) (N := 4) hx hb hts inG_X6 tyX6 tyX6_ok nmX6 hown hK hP hD hS 0 rfl rfl 1 (by decide +kernel) (hts _ fl_X6_18) (fun _ h9 => h9) rfl hin rfl (by decide +kernel) rfl rfl (Nat.le_of_ble_eq_true rfl) dX6_init_16 ?_
  clear hP hD hS
  intro H locs hP hD hS
  refine g5_rs [(a0, .inr (6, [.int 6, .int 6, .null, .int 0]))] hP hD ?_
  clear hP hD
  intro hP hD
  refine lv_aload_n hx hb dX6_init_19 rfl (lv_at hl 0 rfl) ?_
  refine lv_iload_n hx hb dX6_init_20 rfl (lv_at hl 1 rfl) ?_
  refine lv_iload_n hx hb dX6_init_21 rfl (lv_at hl 2 rfl) ?_
  refine lv_imul hx hb dX6_init_22 ?_
  refine g5_ti (v := 36) (by decide +kernel) ?_
  refine va_newa (D := G.1) (atype := .int) (ty := .int) hx hb (hts _ acl_I) rfl hK hP hD hS hA (n := 36) (N' := 36) (a0 := (36, .inl (fun _ => 0))) (fun _ => rfl) (by decide +kernel) (by decide +kernel) (by decide +kernel) (Nat.le_of_ble_eq_true rfl) (Nat.le_of_ble_eq_true rfl) dX6_init_23 (fun q1 cA H hKn hP hD hS => ?_)
  obtain rfl : cA = G.2 0 := g5_cI hKn
  refine g5_rs [(a0, .inr (6, [.int 6, .int 6, .null, .int 0])), (q1, (arI G 36 (fun _ => 0)))] hP hD ?_
  clear hP hD
  intro hP hD
  refine W.widen (k := 1) (n := 36) (Nat.le_of_ble_eq_true rfl) (Nat.le_of_ble_eq_true rfl) ?_
  refine va_putF (D := G.1) (ci := 6) (v := .ref q1) (ty := .array .int) (C := RX6) (T := TX6) (N := 4) hx hb hts inG_X6 tyX6 tyX6_ok nmX6 hown hK hP hD hS 0 rfl rfl 2 (by decide +kernel) (hts _ fl_X6_21) (fun _ h9 => h9) rfl hin rfl (by decide +kernel) rfl rfl (Nat.le_of_ble_eq_true rfl) dX6_init_25 ?_
  clear hP hD hS
  intro H locs hP hD hS
  refine g5_rs [(a0, (oc6 6 6 q1 0)), (q1, (arI G 36 (fun _ => 0)))] hP hD ?_
  clear hP hD
  intro hP hD
  exact W.vret hx hb hr (fun t ht hW => ⟨⟨[(a0, (oc6 6 6 q1 0)), (q1, (arI G 36 (fun _ => 0)))], rfl, ⟨q1, rfl⟩, by rw [ht]; exact hP, hD⟩, hS.F ht⟩) hS.2.2 dX6_init_28
theorem dgX1_init_0 : ∀ r ∈ ([(0, (.aload_n 0, 1)), (1, (.invokespecial 3, 3)), (4, (.aload_n 0, 1)), (5, (.lconst 0, 1)), (6, (.putfield 9, 3)), (9, (.aload_n 0, 1)), (10, (.sipush 1000, 3)), (13, (.putfield 15, 3)), (16, (.aload_n 0, 1)), (17, (.iconst (-1), 1)), (18, (.putfield 19, 3)), (21, (.aload_n 0, 1)), (22, (.iconst (-1), 1)), (23, (.putfield 22, 3)), (26, (.aload_n 0, 1)), (27, (.iconst 0, 1)), (28, (.putfield 25, 3)), (31, (.aload_n 0, 1)), (32, (.bipush 6, 2)), (34, (.anewarray 28, 3)), (37, (.putfield 30, 3)), (40, (.aload_n 0, 1)), (41, (.new 34, 3)), (44, (.dup, 1)), (45, (.bipush 6, 2)), (47, (.iconst 5, 1)), (48, (.invokespecial 36, 3)), (51, (.putfield 39, 3)), (54, (.aload_n 0, 1)), (55, (.new 34, 3)), (58, (.dup, 1)), (59, (.iconst 5, 1)), (60, (.bipush 24, 2)), (62, (.invokespecial 36, 3)), (65, (.putfield 43, 3)), (68, (.aload_n 0, 1)), (69, (.new 34, 3)), (72, (.dup, 1)), (73, (.bipush 10, 2)), (75, (.iconst 4, 1))] : List (Nat × (Instr × Nat))), decode cX1_init r.1 = .ok r.2 := by decide +kernel
theorem dX1_init_0 : decode cX1_init 0 = .ok (.aload_n 0, 1) := dgX1_init_0 (0, (.aload_n 0, 1)) (List.mem_of_getElem? (i := 0) rfl)
theorem dX1_init_1 : decode cX1_init 1 = .ok (.invokespecial 3, 3) := dgX1_init_0 (1, (.invokespecial 3, 3)) (List.mem_of_getElem? (i := 1) rfl)
theorem dX1_init_4 : decode cX1_init 4 = .ok (.aload_n 0, 1) := dgX1_init_0 (4, (.aload_n 0, 1)) (List.mem_of_getElem? (i := 2) rfl)
theorem dX1_init_5 : decode cX1_init 5 = .ok (.lconst 0, 1) := dgX1_init_0 (5, (.lconst 0, 1)) (List.mem_of_getElem? (i := 3) rfl)
theorem dX1_init_6 : decode cX1_init 6 = .ok (.putfield 9, 3) := dgX1_init_0 (6, (.putfield 9, 3)) (List.mem_of_getElem? (i := 4) rfl)
theorem dX1_init_9 : decode cX1_init 9 = .ok (.aload_n 0, 1) := dgX1_init_0 (9, (.aload_n 0, 1)) (List.mem_of_getElem? (i := 5) rfl)
theorem dX1_init_10 : decode cX1_init 10 = .ok (.sipush 1000, 3) := dgX1_init_0 (10, (.sipush 1000, 3)) (List.mem_of_getElem? (i := 6) rfl)
theorem dX1_init_13 : decode cX1_init 13 = .ok (.putfield 15, 3) := dgX1_init_0 (13, (.putfield 15, 3)) (List.mem_of_getElem? (i := 7) rfl)
theorem dX1_init_16 : decode cX1_init 16 = .ok (.aload_n 0, 1) := dgX1_init_0 (16, (.aload_n 0, 1)) (List.mem_of_getElem? (i := 8) rfl)
theorem dX1_init_17 : decode cX1_init 17 = .ok (.iconst (-1), 1) := dgX1_init_0 (17, (.iconst (-1), 1)) (List.mem_of_getElem? (i := 9) rfl)
theorem dX1_init_18 : decode cX1_init 18 = .ok (.putfield 19, 3) := dgX1_init_0 (18, (.putfield 19, 3)) (List.mem_of_getElem? (i := 10) rfl)
theorem dX1_init_21 : decode cX1_init 21 = .ok (.aload_n 0, 1) := dgX1_init_0 (21, (.aload_n 0, 1)) (List.mem_of_getElem? (i := 11) rfl)
theorem dX1_init_22 : decode cX1_init 22 = .ok (.iconst (-1), 1) := dgX1_init_0 (22, (.iconst (-1), 1)) (List.mem_of_getElem? (i := 12) rfl)
theorem dX1_init_23 : decode cX1_init 23 = .ok (.putfield 22, 3) := dgX1_init_0 (23, (.putfield 22, 3)) (List.mem_of_getElem? (i := 13) rfl)
theorem dX1_init_26 : decode cX1_init 26 = .ok (.aload_n 0, 1) := dgX1_init_0 (26, (.aload_n 0, 1)) (List.mem_of_getElem? (i := 14) rfl)
theorem dX1_init_27 : decode cX1_init 27 = .ok (.iconst 0, 1) := dgX1_init_0 (27, (.iconst 0, 1)) (List.mem_of_getElem? (i := 15) rfl)
theorem dX1_init_28 : decode cX1_init 28 = .ok (.putfield 25, 3) := dgX1_init_0 (28, (.putfield 25, 3)) (List.mem_of_getElem? (i := 16) rfl)
theorem dX1_init_31 : decode cX1_init 31 = .ok (.aload_n 0, 1) := dgX1_init_0 (31, (.aload_n 0, 1)) (List.mem_of_getElem? (i := 17) rfl)
theorem dX1_init_32 : decode cX1_init 32 = .ok (.bipush 6, 2) := dgX1_init_0 (32, (.bipush 6, 2)) (List.mem_of_getElem? (i := 18) rfl)
theorem dX1_init_34 : decode cX1_init 34 = .ok (.anewarray 28, 3) := dgX1_init_0 (34, (.anewarray 28, 3)) (List.mem_of_getElem? (i := 19) rfl)
theorem dX1_init_37 : decode cX1_init 37 = .ok (.putfield 30, 3) := dgX1_init_0 (37, (.putfield 30, 3)) (List.mem_of_getElem? (i := 20) rfl)
theorem dX1_init_40 : decode cX1_init 40 = .ok (.aload_n 0, 1) := dgX1_init_0 (40, (.aload_n 0, 1)) (List.mem_of_getElem? (i := 21) rfl)
theorem dX1_init_41 : decode cX1_init 41 = .ok (.new 34, 3) := dgX1_init_0 (41, (.new 34, 3)) (List.mem_of_getElem? (i := 22) rfl)
theorem dX1_init_44 : decode cX1_init 44 = .ok (.dup, 1) := dgX1_init_0 (44, (.dup, 1)) (List.mem_of_getElem? (i := 23) rfl)
theorem dX1_init_45 : decode cX1_init 45 = .ok (.bipush 6, 2) := dgX1_init_0 (45, (.bipush 6, 2)) (List.mem_of_getElem? (i := 24) rfl)
theorem dX1_init_47 : decode cX1_init 47 = .ok (.iconst 5, 1) := dgX1_init_0 (47, (.iconst 5, 1)) (List.mem_of_getElem? (i := 25) rfl)
theorem dX1_init_48 : decode cX1_init 48 = .ok (.invokespecial 36, 3) := dgX1_init_0 (48, (.invokespecial 36, 3)) (List.mem_of_getElem? (i := 26) rfl)
theorem dX1_init_51 : decode cX1_init 51 = .ok (.putfield 39, 3) := dgX1_init_0 (51, (.putfield 39, 3)) (List.mem_of_getElem? (i := 27) rfl)
theorem dX1_init_54 : decode cX1_init 54 = .ok (.aload_n 0, 1) := dgX1_init_0 (54, (.aload_n 0, 1)) (List.mem_of_getElem? (i := 28) rfl)
theorem dX1_init_55 : decode cX1_init 55 = .ok (.new 34, 3) := dgX1_init_0 (55, (.new 34, 3)) (List.mem_of_getElem? (i := 29) rfl)
theorem dX1_init_58 : decode cX1_init 58 = .ok (.dup, 1) := dgX1_init_0 (58, (.dup, 1)) (List.mem_of_getElem? (i := 30) rfl)
theorem dX1_init_59 : decode cX1_init 59 = .ok (.iconst 5, 1) := dgX1_init_0 (59, (.iconst 5, 1)) (List.mem_of_getElem? (i := 31) rfl)
theorem dX1_init_60 : decode cX1_init 60 = .ok (.bipush 24, 2) := dgX1_init_0 (60, (.bipush 24, 2)) (List.mem_of_getElem? (i := 32) rfl)
theorem dX1_init_62 : decode cX1_init 62 = .ok (.invokespecial 36, 3) := dgX1_init_0 (62, (.invokespecial 36, 3)) (List.mem_of_getElem? (i := 33) rfl)
theorem dX1_init_65 : decode cX1_init 65 = .ok (.putfield 43, 3) := dgX1_init_0 (65, (.putfield 43, 3)) (List.mem_of_getElem? (i := 34) rfl)
theorem dX1_init_68 : decode cX1_init 68 = .ok (.aload_n 0, 1) := dgX1_init_0 (68, (.aload_n 0, 1)) (List.mem_of_getElem? (i := 35) rfl)
theorem dX1_init_69 : decode cX1_init 69 = .ok (.new 34, 3) := dgX1_init_0 (69, (.new 34, 3)) (List.mem_of_getElem? (i := 36) rfl)
theorem dX1_init_72 : decode cX1_init 72 = .ok (.dup, 1) := dgX1_init_0 (72, (.dup, 1)) (List.mem_of_getElem? (i := 37) rfl)
theorem dX1_init_73 : decode cX1_init 73 = .ok (.bipush 10, 2) := dgX1_init_0 (73, (.bipush 10, 2)) (List.mem_of_getElem? (i := 38) rfl)
theorem dX1_init_75 : decode cX1_init 75 = .ok (.iconst 4, 1) := dgX1_init_0 (75, (.iconst 4, 1)) (List.mem_of_getElem? (i := 39) rfl)
theorem dgX1_init_1 : ∀ r ∈ ([(76, (.invokespecial 36, 3)), (79, (.putfield 46, 3)), (82, (.aload_n 0, 1)), (83, (.new 34, 3)), (86, (.dup, 1)), (87, (.bipush 8, 2)), (89, (.iconst 5, 1)), (90, (.invokespecial 36, 3)), (93, (.putfield 49, 3)), (96, (.aload_n 0, 1)), (97, (.new 34, 3)), (100, (.dup, 1)), (101, (.bipush 6, 2)), (103, (.bipush 6, 2)), (105, (.invokespecial 36, 3)), (108, (.putfield 52, 3)), (111, (.aload_n 0, 1)), (112, (.lconst 0, 1)), (113, (.putfield 55, 3)), (116, (.aload_n 0, 1)), (117, (.bipush 24, 2)), (119, (.newarray .long, 2)), (121, (.putfield 58, 3)), (124, (.return_, 1))] : List (Nat × (Instr × Nat))), decode cX1_init r.1 = .ok r.2 := by decide +kernel
theorem dX1_init_76 : decode cX1_init 76 = .ok (.invokespecial 36, 3) := dgX1_init_1 (76, (.invokespecial 36, 3)) (List.mem_of_getElem? (i := 0) rfl)
theorem dX1_init_79 : decode cX1_init 79 = .ok (.putfield 46, 3) := dgX1_init_1 (79, (.putfield 46, 3)) (List.mem_of_getElem? (i := 1) rfl)
theorem dX1_init_82 : decode cX1_init 82 = .ok (.aload_n 0, 1) := dgX1_init_1 (82, (.aload_n 0, 1)) (List.mem_of_getElem? (i := 2) rfl)
theorem dX1_init_83 : decode cX1_init 83 = .ok (.new 34, 3) := dgX1_init_1 (83, (.new 34, 3)) (List.mem_of_getElem? (i := 3) rfl)
theorem dX1_init_86 : decode cX1_init 86 = .ok (.dup, 1) := dgX1_init_1 (86, (.dup, 1)) (List.mem_of_getElem? (i := 4) rfl)
theorem dX1_init_87 : decode cX1_init 87 = .ok (.bipush 8, 2) := dgX1_init_1 (87, (.bipush 8, 2)) (List.mem_of_getElem? (i := 5) rfl)
theorem dX1_init_89 : decode cX1_init 89 = .ok (.iconst 5, 1) := dgX1_init_1 (89, (.iconst 5, 1)) (List.mem_of_getElem? (i := 6) rfl)
theorem dX1_init_90 : decode cX1_init 90 = .ok (.invokespecial 36, 3) := dgX1_init_1 (90, (.invokespecial 36, 3)) (List.mem_of_getElem? (i := 7) rfl)
theorem dX1_init_93 : decode cX1_init 93 = .ok (.putfield 49, 3) := dgX1_init_1 (93, (.putfield 49, 3)) (List.mem_of_getElem? (i := 8) rfl)
theorem dX1_init_96 : decode cX1_init 96 = .ok (.aload_n 0, 1) := dgX1_init_1 (96, (.aload_n 0, 1)) (List.mem_of_getElem? (i := 9) rfl)
theorem dX1_init_97 : decode cX1_init 97 = .ok (.new 34, 3) := dgX1_init_1 (97, (.new 34, 3)) (List.mem_of_getElem? (i := 10) rfl)
theorem dX1_init_100 : decode cX1_init 100 = .ok (.dup, 1) := dgX1_init_1 (100, (.dup, 1)) (List.mem_of_getElem? (i := 11) rfl)
theorem dX1_init_101 : decode cX1_init 101 = .ok (.bipush 6, 2) := dgX1_init_1 (101, (.bipush 6, 2)) (List.mem_of_getElem? (i := 12) rfl)
theorem dX1_init_103 : decode cX1_init 103 = .ok (.bipush 6, 2) := dgX1_init_1 (103, (.bipush 6, 2)) (List.mem_of_getElem? (i := 13) rfl)
theorem dX1_init_105 : decode cX1_init 105 = .ok (.invokespecial 36, 3) := dgX1_init_1 (105, (.invokespecial 36, 3)) (List.mem_of_getElem? (i := 14) rfl)
theorem dX1_init_108 : decode cX1_init 108 = .ok (.putfield 52, 3) := dgX1_init_1 (108, (.putfield 52, 3)) (List.mem_of_getElem? (i := 15) rfl)
theorem dX1_init_111 : decode cX1_init 111 = .ok (.aload_n 0, 1) := dgX1_init_1 (111, (.aload_n 0, 1)) (List.mem_of_getElem? (i := 16) rfl)
theorem dX1_init_112 : decode cX1_init 112 = .ok (.lconst 0, 1) := dgX1_init_1 (112, (.lconst 0, 1)) (List.mem_of_getElem? (i := 17) rfl)
theorem dX1_init_113 : decode cX1_init 113 = .ok (.putfield 55, 3) := dgX1_init_1 (113, (.putfield 55, 3)) (List.mem_of_getElem? (i := 18) rfl)
theorem dX1_init_116 : decode cX1_init 116 = .ok (.aload_n 0, 1) := dgX1_init_1 (116, (.aload_n 0, 1)) (List.mem_of_getElem? (i := 19) rfl)
theorem dX1_init_117 : decode cX1_init 117 = .ok (.bipush 24, 2) := dgX1_init_1 (117, (.bipush 24, 2)) (List.mem_of_getElem? (i := 20) rfl)
theorem dX1_init_119 : decode cX1_init 119 = .ok (.newarray .long, 2) := dgX1_init_1 (119, (.newarray .long, 2)) (List.mem_of_getElem? (i := 21) rfl)
theorem dX1_init_121 : decode cX1_init 121 = .ok (.putfield 58, 3) := dgX1_init_1 (121, (.putfield 58, 3)) (List.mem_of_getElem? (i := 22) rfl)
theorem dX1_init_124 : decode cX1_init 124 = .ok (.return_, 1) := dgX1_init_1 (124, (.return_, 1)) (List.mem_of_getElem? (i := 23) rfl)
set_option maxHeartbeats 4000000 in
set_option maxRecDepth 100000 in
theorem kX1_init (l : Launch) (G : g5_G) (a0 : Nat) (sz : Nat) : Met l yX1_init (wsG yX1_init cX1_init 1 none) ({ frames := 2, cells := 12, slots := 316, locals := 34 }) (va_Pc [.ref a0] (g5_P G [(a0, .inr (1, [.long 0, .int 0, .int 0, .int 0, .int 0, .null, .null, .null, .null, .null, .null, .long 0, .null]))] sz)) (va_Qv (fun (u : va_W) => (∃ (q1 : Nat) (q2 : Nat) (q3 : Nat) (q4 : Nat) (q5 : Nat) (q6 : Nat) (q7 : Nat) (q8 : Nat) (q9 : Nat) (q10 : Nat) (q11 : Nat) (q12 : Nat), (u = [(a0, (oc1 0 1000 (-1) (-1) 0 q1 q2 q4 q6 q8 q10 0 q12)), (q1, (arW G 6 (fun _ => none))), (q2, (oc6 6 5 q3 0)), (q3, (arI G 30 (fun _ => 0))), (q4, (oc6 5 24 q5 0)), (q5, (arI G 120 (fun _ => 0))), (q6, (oc6 10 4 q7 0)), (q7, (arI G 40 (fun _ => 0))), (q8, (oc6 8 5 q9 0)), (q9, (arI G 40 (fun _ => 0))), (q10, (oc6 6 6 q11 0)), (q11, (arI G 36 (fun _ => 0))), (q12, (arJ G 24 (fun _ => 0)))]))) (g5_B G (va_A [(a0, .inr (1, [.long 0, .int 0, .int 0, .int 0, .int 0, .null, .null, .null, .null, .null, .null, .long 0, .null]))] sz)) (va_A [(a0, .inr (1, [.long 0, .int 0, .int 0, .int 0, .int 0, .null, .null, .null, .null, .null, .null, .long 0, .null]))] sz)) 12 316 (va_A [(a0, .inr (1, [.long 0, .int 0, .int 0, .int 0, .int 0, .null, .null, .null, .null, .null, .null, .long 0, .null]))] sz) := by
  refine Met.ofW (cc := cX1_init) (maxL := 1) (ret := none) (by decide +kernel) rfl ?_
  intro p e s m args below meth c s₁ B hml hv
  obtain ⟨rfl, hsz, hP, hK, hD0, hN, hT⟩ := hv
  have hx := B.exec
  have hb := B.bytes
  have hr := B.returns
  have hts : ∀ w ∈ tblG, w.before _ s = true := fun w h => atoms_spec (ws := (wsG yX1_init cX1_init 1 none)) B.pre w (List.mem_cons_of_mem _ h)
  have hown : s.vm.findClass RX1 = some m.cls := findClass_of_methodNamed B.named
  have hlocks := B.notSynchronized
  have hin : meth.name = "<init>" := (name_of_methodNamed B.named B.method).1
  subst hsz
  have hD := hD0.self (sz := s.heap.size)
  generalize hAe : va_A [(a0, .inr (1, [.long 0, .int 0, .int 0, .int 0, .int 0, .null, .null, .null, .null, .null, .null, .long 0, .null]))] s.heap.size = A at hD hT ⊢
  have hA : ∀ q : Nat, s.heap.size ≤ q → A q := fun q h => by rw [← hAe]; exact Or.inr h
  have hS : va_S A s.heap s.heap [] := va_S.rf
  replace hP : va_P G.1 vwCl [(a0, .inr (1, [.long 0, .int 0, .int 0, .int 0, .int 0, .null, .null, .null, .null, .null, .null, .long 0, .null]))] s.heap := hP
  have hl := lv_entry ([.ref a0]) (n := 1) (Nat.le_of_ble_eq_true rfl)
  rw [lg_entry_eq]
  generalize (lg_sl ([.ref a0]) ++ List.replicate (1 - (lg_sl ([.ref a0])).length) Slot.unset).toArray = ls at hl ⊢
  replace hl : lv_has ls 1 [(0, .ref a0)] := hl
  refine lv_aload_n hx hb dX1_init_0 rfl (lv_at hl 0 rfl) ?_
  refine W.objInit hx hb hown (hts _ oi_X1_3) (hts _ oi_im) (hts _ oi_cd) rfl (by rw [hml]; exact hl.1) rfl dX1_init_1 (Nat.le_of_ble_eq_true rfl) (Nat.le_of_ble_eq_true rfl) ?_
  refine W.eq (g2 := F0 m 4 ls []) rfl ?_
  refine lv_aload_n hx hb dX1_init_4 rfl (lv_at hl 0 rfl) ?_
  refine lv_lconst (v := 0) hx hb dX1_init_5 (by decide +kernel) ?_
  refine va_put (D := G.1) (ci := 1) (v := .long 0) (ty := .long) (C := RX1) (T := TX1) (N := 13) hx hb hts inG_X1 tyX1 tyX1_ok nmX1 hown hK hP hD hS 0 rfl rfl 0 (by decide +kernel) (hts _ fl_X1_9) (fun _ h9 => h9) rfl (by decide +kernel) rfl rfl (Nat.le_of_ble_eq_true rfl) dX1_init_6 ?_
  clear hP hD hS
  intro H locs hP hD hS
  refine g5_rs [(a0, .inr (1, [.long 0, .int 0, .int 0, .int 0, .int 0, .null, .null, .null, .null, .null, .null, .long 0, .null]))] hP hD ?_
  clear hP hD
  intro hP hD
  refine lv_aload_n hx hb dX1_init_9 rfl (lv_at hl 0 rfl) ?_
  refine lv_sipush (v := 1000) hx hb dX1_init_10 (by decide +kernel) ?_
  refine va_put (D := G.1) (ci := 1) (v := .int 1000) (ty := .int) (C := RX1) (T := TX1) (N := 13) hx hb hts inG_X1 tyX1 tyX1_ok nmX1 hown hK hP hD hS 0 rfl rfl 1 (by decide +kernel) (hts _ fl_X1_15) (fun _ h9 => h9) rfl (by decide +kernel) rfl rfl (Nat.le_of_ble_eq_true rfl) dX1_init_13 ?_
  clear hP hD hS
  intro H locs hP hD hS
  refine g5_rs [(a0, .inr (1, [.long 0, .int 1000, .int 0, .int 0, .int 0, .null, .null, .null, .null, .null, .null, .long 0, .null]))] hP hD ?_
  clear hP hD
  intro hP hD
  refine lv_aload_n hx hb dX1_init_16 rfl (lv_at hl 0 rfl) ?_
  refine lv_iconst (v := (-1)) hx hb dX1_init_17 (by decide +kernel) ?_
  refine va_put (D := G.1) (ci := 1) (v := .int (-1)) (ty := .int) (C := RX1) (T := TX1) (N := 13) hx hb hts inG_X1 tyX1 tyX1_ok nmX1 hown hK hP hD hS 0 rfl rfl 2 (by decide +kernel) (hts _ fl_X1_19) (fun _ h9 => h9) rfl (by decide +kernel) rfl rfl (Nat.le_of_ble_eq_true rfl) dX1_init_18 ?_
  clear hP hD hS
  intro H locs hP hD hS
  refine g5_rs [(a0, .inr (1, [.long 0, .int 1000, .int (-1), .int 0, .int 0, .null, .null, .null, .null, .null, .null, .long 0, .null]))] hP hD ?_
  clear hP hD
  intro hP hD
  refine lv_aload_n hx hb dX1_init_21 rfl (lv_at hl 0 rfl) ?_
  refine lv_iconst (v := (-1)) hx hb dX1_init_22 (by decide +kernel) ?_
  refine va_put (D := G.1) (ci := 1) (v := .int (-1)) (ty := .int) (C := RX1) (T := TX1) (N := 13) hx hb hts inG_X1 tyX1 tyX1_ok nmX1 hown hK hP hD hS 0 rfl rfl 3 (by decide +kernel) (hts _ fl_X1_22) (fun _ h9 => h9) rfl (by decide +kernel) rfl rfl (Nat.le_of_ble_eq_true rfl) dX1_init_23 ?_
  clear hP hD hS
  intro H locs hP hD hS
  refine g5_rs [(a0, .inr (1, [.long 0, .int 1000, .int (-1), .int (-1), .int 0, .null, .null, .null, .null, .null, .null, .long 0, .null]))] hP hD ?_
  clear hP hD
  intro hP hD
  refine lv_aload_n hx hb dX1_init_26 rfl (lv_at hl 0 rfl) ?_
  refine lv_iconst (v := 0) hx hb dX1_init_27 (by decide +kernel) ?_
  refine va_put (D := G.1) (ci := 1) (v := .int 0) (ty := .int) (C := RX1) (T := TX1) (N := 13) hx hb hts inG_X1 tyX1 tyX1_ok nmX1 hown hK hP hD hS 0 rfl rfl 4 (by decide +kernel) (hts _ fl_X1_25) (fun _ h9 => h9) rfl (by decide +kernel) rfl rfl (Nat.le_of_ble_eq_true rfl) dX1_init_28 ?_
  clear hP hD hS
  intro H locs hP hD hS
  refine g5_rs [(a0, .inr (1, [.long 0, .int 1000, .int (-1), .int (-1), .int 0, .null, .null, .null, .null, .null, .null, .long 0, .null]))] hP hD ?_
  clear hP hD
  intro hP hD
  refine lv_aload_n hx hb dX1_init_31 rfl (lv_at hl 0 rfl) ?_
  refine lv_bipush (v := 6) hx hb dX1_init_32 (by decide +kernel) ?_
  refine va_newq (D := G.1) hx hb hown (hts _ cl_X1_28) hN.2.2.1 hK hP hD hS hA (n := 6) (N' := 6) (by decide +kernel) (by decide +kernel) (by decide +kernel) (Nat.le_of_ble_eq_true rfl) (Nat.le_of_ble_eq_true rfl) dX1_init_34 (fun q1 cA H hKn hP hD hS => ?_)
  obtain rfl : cA = G.2 4 := g5_cW hKn
  refine g5_rs [(a0, .inr (1, [.long 0, .int 1000, .int (-1), .int (-1), .int 0, .null, .null, .null, .null, .null, .null, .long 0, .null])), (q1, (arW G 6 (fun _ => none)))] hP hD ?_
  clear hP hD
  intro hP hD
  refine W.widen (k := 1) (n := 6) (Nat.le_of_ble_eq_true rfl) (Nat.le_of_ble_eq_true rfl) ?_
  refine va_putF (D := G.1) (ci := 1) (v := .ref q1) (ty := .array (.object "LateGlass$Law")) (C := RX1) (T := TX1) (N := 13) hx hb hts inG_X1 tyX1 tyX1_ok nmX1 hown hK hP hD hS 0 rfl rfl 5 (by decide +kernel) (hts _ fl_X1_30) (fun _ h9 => h9) rfl hin rfl (by decide +kernel) rfl rfl (Nat.le_of_ble_eq_true rfl) dX1_init_37 ?_
  clear hP hD hS
  intro H locs hP hD hS
  refine g5_rs [(a0, .inr (1, [.long 0, .int 1000, .int (-1), .int (-1), .int 0, .ref q1, .null, .null, .null, .null, .null, .long 0, .null])), (q1, (arW G 6 (fun _ => none)))] hP hD ?_
  clear hP hD
  intro hP hD
  refine lv_aload_n hx hb dX1_init_40 rfl (lv_at hl 0 rfl) ?_
  refine va_new (D := G.1) (ci := 6) (fs := [.int 0, .int 0, .null, .int 0]) (C := RX6) (T := TX6) (N := 4) hx hb hts inG_X6 tyX6 tyX6_ok hown (hts _ cl_X1_34) (hts _ isn_X6) (hts _ ini_X6) hK hP hD hS hA rfl (fun j hj => by rcases (show j = 0 ∨ j = 1 ∨ j = 2 ∨ j = 3 by omega) with rfl | rfl | rfl | rfl <;> rfl) (Nat.le_of_ble_eq_true rfl) (Nat.le_of_ble_eq_true rfl) dX1_init_41 (fun q2 H hP hD hS => ?_)
  refine g5_rs [(a0, .inr (1, [.long 0, .int 1000, .int (-1), .int (-1), .int 0, .ref q1, .null, .null, .null, .null, .null, .long 0, .null])), (q1, (arW G 6 (fun _ => none))), (q2, .inr (6, [.int 0, .int 0, .null, .int 0]))] hP hD ?_
  clear hP hD
  intro hP hD
  refine W.widen (k := 2) (n := 10) (Nat.le_of_ble_eq_true rfl) (Nat.le_of_ble_eq_true rfl) ?_
  refine lv_dup hx hb dX1_init_44 rfl ?_
  refine lv_bipush (v := 6) hx hb dX1_init_45 (by decide +kernel) ?_
  refine lv_iconst (v := 5) hx hb dX1_init_47 (by decide +kernel) ?_
  obtain ⟨hPc, hDc, hFc⟩ := g5_sub3 (wc := [(q2, .inr (6, [.int 0, .int 0, .null, .int 0]))]) hP hD hS hA [2] (by decide +kernel) rfl
  refine va_callv (va_runI (As := [.int 6, .int 5]) (rest := [.ref q2, .ref a0]) ⟨hx, hb, hml, hown, hts⟩ (kX6_init l G q2 H.size) (cwI 2 hts gW_X6_init rfl rfl rfl (hts _ ini_X6) (hts _ ml_X1_36) (hts _ im_X6_init) rfl hs_X6_init ⟨Nat.le_of_ble_eq_true rfl, Nat.le_of_ble_eq_true rfl⟩) (g5_preS hPc hK hDc hN hT hS hFc) rfl rfl hl.1 rfl (lv_room (Nat.le_of_ble_eq_true rfl)) dX1_init_48 ⟨Nat.le_of_ble_eq_true rfl, Nat.le_of_ble_eq_true rfl⟩) hS (fun q _ h => hFc q h) hFc (fun u t H locs ht hvm hw hB hz1 hk1 hS => ?_)
  obtain ⟨hP1, hD1⟩ := hB
  have hP1 := g5_ht ht hP1
  refine W.widen (k := 3) (n := 40) (Nat.le_of_ble_eq_true rfl) (Nat.le_of_ble_eq_true rfl) ?_
  obtain ⟨q3, rfl⟩ := hw
  have hJ9 := va_join (wr := [(a0, .inr (1, [.long 0, .int 1000, .int (-1), .int (-1), .int 0, .ref q1, .null, .null, .null, .null, .null, .long 0, .null])), (q1, (arW G 6 (fun _ => none)))]) hP hD [2] [0, 1] rfl rfl (by decide +kernel) (by decide +kernel) hk1 hFc hP1 hD1
  clear hP hD hPc hDc hFc ht hvm hz1 hk1 hP1 hD1
  obtain ⟨hP, hD⟩ := hJ9
  refine g5_rs [(a0, .inr (1, [.long 0, .int 1000, .int (-1), .int (-1), .int 0, .ref q1, .null, .null, .null, .null, .null, .long 0, .null])), (q1, (arW G 6 (fun _ => none))), (q2, (oc6 6 5 q3 0)), (q3, (arI G 30 (fun _ => 0)))] hP hD ?_
  clear hP hD
  intro hP hD
  refine va_putF (D := G.1) (ci := 1) (v := .ref q2) (ty := .object "LateGlass$Table") (C := RX1) (T := TX1) (N := 13) hx hb hts inG_X1 tyX1 tyX1_ok nmX1 hown hK hP hD hS 0 rfl rfl 6 (by decide +kernel) (hts _ fl_X1_39) (fun _ h9 => h9) rfl hin rfl (by decide +kernel) rfl rfl (Nat.le_of_ble_eq_true rfl) dX1_init_51 ?_
  clear hP hD hS
  intro H locs hP hD hS
  refine g5_rs [(a0, .inr (1, [.long 0, .int 1000, .int (-1), .int (-1), .int 0, .ref q1, .ref q2, .null, .null, .null, .null, .long 0, .null])), (q1, (arW G 6 (fun _ => none))), (q2, (oc6 6 5 q3 0)), (q3, (arI G 30 (fun _ => 0)))] hP hD ?_
  clear hP hD
  intro hP hD
  refine lv_aload_n hx hb dX1_init_54 rfl (lv_at hl 0 rfl) ?_
  refine va_new (D := G.1) (ci := 6) (fs := [.int 0, .int 0, .null, .int 0]) (C := RX6) (T := TX6) (N := 4) hx hb hts inG_X6 tyX6 tyX6_ok hown (hts _ cl_X1_34) (hts _ isn_X6) (hts _ ini_X6) hK hP hD hS hA rfl (fun j hj => by rcases (show j = 0 ∨ j = 1 ∨ j = 2 ∨ j = 3 by omega) with rfl | rfl | rfl | rfl <;> rfl) (Nat.le_of_ble_eq_true rfl) (Nat.le_of_ble_eq_true rfl) dX1_init_55 (fun q4 H hP hD hS => ?_)
  refine g5_rs [(a0, .inr (1, [.long 0, .int 1000, .int (-1), .int (-1), .int 0, .ref q1, .ref q2, .null, .null, .null, .null, .long 0, .null])), (q1, (arW G 6 (fun _ => none))), (q2, (oc6 6 5 q3 0)), (q3, (arI G 30 (fun _ => 0))), (q4, .inr (6, [.int 0, .int 0, .null, .int 0]))] hP hD ?_
  clear hP hD
  intro hP hD
  refine W.widen (k := 4) (n := 44) (Nat.le_of_ble_eq_true rfl) (Nat.le_of_ble_eq_true rfl) ?_
  refine lv_dup hx hb dX1_init_58 rfl ?_
  refine lv_iconst (v := 5) hx hb dX1_init_59 (by decide +kernel) ?_
  refine lv_bipush (v := 24) hx hb dX1_init_60 (by decide +kernel) ?_
  obtain ⟨hPc, hDc, hFc⟩ := g5_sub3 (wc := [(q4, .inr (6, [.int 0, .int 0, .null, .int 0]))]) hP hD hS hA [4] (by decide +kernel) rfl
  refine va_callv (va_runI (As := [.int 5, .int 24]) (rest := [.ref q4, .ref a0]) ⟨hx, hb, hml, hown, hts⟩ (kX6_init_2 l G q4 H.size) (cwI 2 hts gW_X6_init rfl rfl rfl (hts _ ini_X6) (hts _ ml_X1_36) (hts _ im_X6_init) rfl hs_X6_init ⟨Nat.le_of_ble_eq_true rfl, Nat.le_of_ble_eq_true rfl⟩) (g5_preS hPc hK hDc hN hT hS hFc) rfl rfl hl.1 rfl (lv_room (Nat.le_of_ble_eq_true rfl)) dX1_init_62 ⟨Nat.le_of_ble_eq_true rfl, Nat.le_of_ble_eq_true rfl⟩) hS (fun q _ h => hFc q h) hFc (fun u t H locs ht hvm hw hB hz1 hk1 hS => ?_)
  obtain ⟨hP1, hD1⟩ := hB
  have hP1 := g5_ht ht hP1
  refine W.widen (k := 5) (n := 164) (Nat.le_of_ble_eq_true rfl) (Nat.le_of_ble_eq_true rfl) ?_
  obtain ⟨q5, rfl⟩ := hw
  have hJ9 := va_join (wr := [(a0, .inr (1, [.long 0, .int 1000, .int (-1), .int (-1), .int 0, .ref q1, .ref q2, .null, .null, .null, .null, .long 0, .null])), (q1, (arW G 6 (fun _ => none))), (q2, (oc6 6 5 q3 0)), (q3, (arI G 30 (fun _ => 0)))]) hP hD [4] [0, 1, 2, 3] rfl rfl (by decide +kernel) (by decide +kernel) hk1 hFc hP1 hD1
  clear hP hD hPc hDc hFc ht hvm hz1 hk1 hP1 hD1
  obtain ⟨hP, hD⟩ := hJ9
  refine g5_rs [(a0, .inr (1, [.long 0, .int 1000, .int (-1), .int (-1), .int 0, .ref q1, .ref q2, .null, .null, .null, .null, .long 0, .null])), (q1, (arW G 6 (fun _ => none))), (q2, (oc6 6 5 q3 0)), (q3, (arI G 30 (fun _ => 0))), (q4, (oc6 5 24 q5 0)), (q5, (arI G 120 (fun _ => 0)))] hP hD ?_
  clear hP hD
  intro hP hD
  refine va_putF (D := G.1) (ci := 1) (v := .ref q4) (ty := .object "LateGlass$Table") (C := RX1) (T := TX1) (N := 13) hx hb hts inG_X1 tyX1 tyX1_ok nmX1 hown hK hP hD hS 0 rfl rfl 7 (by decide +kernel) (hts _ fl_X1_43) (fun _ h9 => h9) rfl hin rfl (by decide +kernel) rfl rfl (Nat.le_of_ble_eq_true rfl) dX1_init_65 ?_
  clear hP hD hS
  intro H locs hP hD hS
  refine g5_rs [(a0, .inr (1, [.long 0, .int 1000, .int (-1), .int (-1), .int 0, .ref q1, .ref q2, .ref q4, .null, .null, .null, .long 0, .null])), (q1, (arW G 6 (fun _ => none))), (q2, (oc6 6 5 q3 0)), (q3, (arI G 30 (fun _ => 0))), (q4, (oc6 5 24 q5 0)), (q5, (arI G 120 (fun _ => 0)))] hP hD ?_
  clear hP hD
  intro hP hD
  refine lv_aload_n hx hb dX1_init_68 rfl (lv_at hl 0 rfl) ?_
  refine va_new (D := G.1) (ci := 6) (fs := [.int 0, .int 0, .null, .int 0]) (C := RX6) (T := TX6) (N := 4) hx hb hts inG_X6 tyX6 tyX6_ok hown (hts _ cl_X1_34) (hts _ isn_X6) (hts _ ini_X6) hK hP hD hS hA rfl (fun j hj => by rcases (show j = 0 ∨ j = 1 ∨ j = 2 ∨ j = 3 by omega) with rfl | rfl | rfl | rfl <;> rfl) (Nat.le_of_ble_eq_true rfl) (Nat.le_of_ble_eq_true rfl) dX1_init_69 (fun q6 H hP hD hS => ?_)
  refine g5_rs [(a0, .inr (1, [.long 0, .int 1000, .int (-1), .int (-1), .int 0, .ref q1, .ref q2, .ref q4, .null, .null, .null, .long 0, .null])), (q1, (arW G 6 (fun _ => none))), (q2, (oc6 6 5 q3 0)), (q3, (arI G 30 (fun _ => 0))), (q4, (oc6 5 24 q5 0)), (q5, (arI G 120 (fun _ => 0))), (q6, .inr (6, [.int 0, .int 0, .null, .int 0]))] hP hD ?_
  clear hP hD
  intro hP hD
  refine W.widen (k := 6) (n := 168) (Nat.le_of_ble_eq_true rfl) (Nat.le_of_ble_eq_true rfl) ?_
  refine lv_dup hx hb dX1_init_72 rfl ?_
  refine lv_bipush (v := 10) hx hb dX1_init_73 (by decide +kernel) ?_
  refine lv_iconst (v := 4) hx hb dX1_init_75 (by decide +kernel) ?_
  obtain ⟨hPc, hDc, hFc⟩ := g5_sub3 (wc := [(q6, .inr (6, [.int 0, .int 0, .null, .int 0]))]) hP hD hS hA [6] (by decide +kernel) rfl
  refine va_callv (va_runI (As := [.int 10, .int 4]) (rest := [.ref q6, .ref a0]) ⟨hx, hb, hml, hown, hts⟩ (kX6_init_3 l G q6 H.size) (cwI 2 hts gW_X6_init rfl rfl rfl (hts _ ini_X6) (hts _ ml_X1_36) (hts _ im_X6_init) rfl hs_X6_init ⟨Nat.le_of_ble_eq_true rfl, Nat.le_of_ble_eq_true rfl⟩) (g5_preS hPc hK hDc hN hT hS hFc) rfl rfl hl.1 rfl (lv_room (Nat.le_of_ble_eq_true rfl)) dX1_init_76 ⟨Nat.le_of_ble_eq_true rfl, Nat.le_of_ble_eq_true rfl⟩) hS (fun q _ h => hFc q h) hFc (fun u t H locs ht hvm hw hB hz1 hk1 hS => ?_)
  obtain ⟨hP1, hD1⟩ := hB
  have hP1 := g5_ht ht hP1
  refine W.widen (k := 7) (n := 208) (Nat.le_of_ble_eq_true rfl) (Nat.le_of_ble_eq_true rfl) ?_
  obtain ⟨q7, rfl⟩ := hw
  have hJ9 := va_join (wr := [(a0, .inr (1, [.long 0, .int 1000, .int (-1), .int (-1), .int 0, .ref q1, .ref q2, .ref q4, .null, .null, .null, .long 0, .null])), (q1, (arW G 6 (fun _ => none))), (q2, (oc6 6 5 q3 0)), (q3, (arI G 30 (fun _ => 0))), (q4, (oc6 5 24 q5 0)), (q5, (arI G 120 (fun _ => 0)))]) hP hD [6] [0, 1, 2, 3, 4, 5] rfl rfl (by decide +kernel) (by decide +kernel) hk1 hFc hP1 hD1
  clear hP hD hPc hDc hFc ht hvm hz1 hk1 hP1 hD1
  obtain ⟨hP, hD⟩ := hJ9
  refine g5_rs [(a0, .inr (1, [.long 0, .int 1000, .int (-1), .int (-1), .int 0, .ref q1, .ref q2, .ref q4, .null, .null, .null, .long 0, .null])), (q1, (arW G 6 (fun _ => none))), (q2, (oc6 6 5 q3 0)), (q3, (arI G 30 (fun _ => 0))), (q4, (oc6 5 24 q5 0)), (q5, (arI G 120 (fun _ => 0))), (q6, (oc6 10 4 q7 0)), (q7, (arI G 40 (fun _ => 0)))] hP hD ?_
  clear hP hD
  intro hP hD
  refine va_putF (D := G.1) (ci := 1) (v := .ref q6) (ty := .object "LateGlass$Table") (C := RX1) (T := TX1) (N := 13) hx hb hts inG_X1 tyX1 tyX1_ok nmX1 hown hK hP hD hS 0 rfl rfl 8 (by decide +kernel) (hts _ fl_X1_46) (fun _ h9 => h9) rfl hin rfl (by decide +kernel) rfl rfl (Nat.le_of_ble_eq_true rfl) dX1_init_79 ?_
  clear hP hD hS
  intro H locs hP hD hS
  refine g5_rs [(a0, .inr (1, [.long 0, .int 1000, .int (-1), .int (-1), .int 0, .ref q1, .ref q2, .ref q4, .ref q6, .null, .null, .long 0, .null])), (q1, (arW G 6 (fun _ => none))), (q2, (oc6 6 5 q3 0)), (q3, (arI G 30 (fun _ => 0))), (q4, (oc6 5 24 q5 0)), (q5, (arI G 120 (fun _ => 0))), (q6, (oc6 10 4 q7 0)), (q7, (arI G 40 (fun _ => 0)))] hP hD ?_
  clear hP hD
  intro hP hD
  refine lv_aload_n hx hb dX1_init_82 rfl (lv_at hl 0 rfl) ?_
  refine va_new (D := G.1) (ci := 6) (fs := [.int 0, .int 0, .null, .int 0]) (C := RX6) (T := TX6) (N := 4) hx hb hts inG_X6 tyX6 tyX6_ok hown (hts _ cl_X1_34) (hts _ isn_X6) (hts _ ini_X6) hK hP hD hS hA rfl (fun j hj => by rcases (show j = 0 ∨ j = 1 ∨ j = 2 ∨ j = 3 by omega) with rfl | rfl | rfl | rfl <;> rfl) (Nat.le_of_ble_eq_true rfl) (Nat.le_of_ble_eq_true rfl) dX1_init_83 (fun q8 H hP hD hS => ?_)
  refine g5_rs [(a0, .inr (1, [.long 0, .int 1000, .int (-1), .int (-1), .int 0, .ref q1, .ref q2, .ref q4, .ref q6, .null, .null, .long 0, .null])), (q1, (arW G 6 (fun _ => none))), (q2, (oc6 6 5 q3 0)), (q3, (arI G 30 (fun _ => 0))), (q4, (oc6 5 24 q5 0)), (q5, (arI G 120 (fun _ => 0))), (q6, (oc6 10 4 q7 0)), (q7, (arI G 40 (fun _ => 0))), (q8, .inr (6, [.int 0, .int 0, .null, .int 0]))] hP hD ?_
  clear hP hD
  intro hP hD
  refine W.widen (k := 8) (n := 212) (Nat.le_of_ble_eq_true rfl) (Nat.le_of_ble_eq_true rfl) ?_
  refine lv_dup hx hb dX1_init_86 rfl ?_
  refine lv_bipush (v := 8) hx hb dX1_init_87 (by decide +kernel) ?_
  refine lv_iconst (v := 5) hx hb dX1_init_89 (by decide +kernel) ?_
  obtain ⟨hPc, hDc, hFc⟩ := g5_sub3 (wc := [(q8, .inr (6, [.int 0, .int 0, .null, .int 0]))]) hP hD hS hA [8] (by decide +kernel) rfl
  refine va_callv (va_runI (As := [.int 8, .int 5]) (rest := [.ref q8, .ref a0]) ⟨hx, hb, hml, hown, hts⟩ (kX6_init_4 l G q8 H.size) (cwI 2 hts gW_X6_init rfl rfl rfl (hts _ ini_X6) (hts _ ml_X1_36) (hts _ im_X6_init) rfl hs_X6_init ⟨Nat.le_of_ble_eq_true rfl, Nat.le_of_ble_eq_true rfl⟩) (g5_preS hPc hK hDc hN hT hS hFc) rfl rfl hl.1 rfl (lv_room (Nat.le_of_ble_eq_true rfl)) dX1_init_90 ⟨Nat.le_of_ble_eq_true rfl, Nat.le_of_ble_eq_true rfl⟩) hS (fun q _ h => hFc q h) hFc (fun u t H locs ht hvm hw hB hz1 hk1 hS => ?_)
  obtain ⟨hP1, hD1⟩ := hB
  have hP1 := g5_ht ht hP1
  refine W.widen (k := 9) (n := 252) (Nat.le_of_ble_eq_true rfl) (Nat.le_of_ble_eq_true rfl) ?_
  obtain ⟨q9, rfl⟩ := hw
  have hJ9 := va_join (wr := [(a0, .inr (1, [.long 0, .int 1000, .int (-1), .int (-1), .int 0, .ref q1, .ref q2, .ref q4, .ref q6, .null, .null, .long 0, .null])), (q1, (arW G 6 (fun _ => none))), (q2, (oc6 6 5 q3 0)), (q3, (arI G 30 (fun _ => 0))), (q4, (oc6 5 24 q5 0)), (q5, (arI G 120 (fun _ => 0))), (q6, (oc6 10 4 q7 0)), (q7, (arI G 40 (fun _ => 0)))]) hP hD [8] [0, 1, 2, 3, 4, 5, 6, 7] rfl rfl (by decide +kernel) (by decide +kernel) hk1 hFc hP1 hD1
  clear hP hD hPc hDc hFc ht hvm hz1 hk1 hP1 hD1
  obtain ⟨hP, hD⟩ := hJ9
  refine g5_rs [(a0, .inr (1, [.long 0, .int 1000, .int (-1), .int (-1), .int 0, .ref q1, .ref q2, .ref q4, .ref q6, .null, .null, .long 0, .null])), (q1, (arW G 6 (fun _ => none))), (q2, (oc6 6 5 q3 0)), (q3, (arI G 30 (fun _ => 0))), (q4, (oc6 5 24 q5 0)), (q5, (arI G 120 (fun _ => 0))), (q6, (oc6 10 4 q7 0)), (q7, (arI G 40 (fun _ => 0))), (q8, (oc6 8 5 q9 0)), (q9, (arI G 40 (fun _ => 0)))] hP hD ?_
  clear hP hD
  intro hP hD
  refine va_putF (D := G.1) (ci := 1) (v := .ref q8) (ty := .object "LateGlass$Table") (C := RX1) (T := TX1) (N := 13) hx hb hts inG_X1 tyX1 tyX1_ok nmX1 hown hK hP hD hS 0 rfl rfl 9 (by decide +kernel) (hts _ fl_X1_49) (fun _ h9 => h9) rfl hin rfl (by decide +kernel) rfl rfl (Nat.le_of_ble_eq_true rfl) dX1_init_93 ?_
  clear hP hD hS
  intro H locs hP hD hS
  refine g5_rs [(a0, .inr (1, [.long 0, .int 1000, .int (-1), .int (-1), .int 0, .ref q1, .ref q2, .ref q4, .ref q6, .ref q8, .null, .long 0, .null])), (q1, (arW G 6 (fun _ => none))), (q2, (oc6 6 5 q3 0)), (q3, (arI G 30 (fun _ => 0))), (q4, (oc6 5 24 q5 0)), (q5, (arI G 120 (fun _ => 0))), (q6, (oc6 10 4 q7 0)), (q7, (arI G 40 (fun _ => 0))), (q8, (oc6 8 5 q9 0)), (q9, (arI G 40 (fun _ => 0)))] hP hD ?_
  clear hP hD
  intro hP hD
  refine lv_aload_n hx hb dX1_init_96 rfl (lv_at hl 0 rfl) ?_
  refine va_new (D := G.1) (ci := 6) (fs := [.int 0, .int 0, .null, .int 0]) (C := RX6) (T := TX6) (N := 4) hx hb hts inG_X6 tyX6 tyX6_ok hown (hts _ cl_X1_34) (hts _ isn_X6) (hts _ ini_X6) hK hP hD hS hA rfl (fun j hj => by rcases (show j = 0 ∨ j = 1 ∨ j = 2 ∨ j = 3 by omega) with rfl | rfl | rfl | rfl <;> rfl) (Nat.le_of_ble_eq_true rfl) (Nat.le_of_ble_eq_true rfl) dX1_init_97 (fun q10 H hP hD hS => ?_)
  refine g5_rs [(a0, .inr (1, [.long 0, .int 1000, .int (-1), .int (-1), .int 0, .ref q1, .ref q2, .ref q4, .ref q6, .ref q8, .null, .long 0, .null])), (q1, (arW G 6 (fun _ => none))), (q2, (oc6 6 5 q3 0)), (q3, (arI G 30 (fun _ => 0))), (q4, (oc6 5 24 q5 0)), (q5, (arI G 120 (fun _ => 0))), (q6, (oc6 10 4 q7 0)), (q7, (arI G 40 (fun _ => 0))), (q8, (oc6 8 5 q9 0)), (q9, (arI G 40 (fun _ => 0))), (q10, .inr (6, [.int 0, .int 0, .null, .int 0]))] hP hD ?_
  clear hP hD
  intro hP hD
  refine W.widen (k := 10) (n := 256) (Nat.le_of_ble_eq_true rfl) (Nat.le_of_ble_eq_true rfl) ?_
  refine lv_dup hx hb dX1_init_100 rfl ?_
  refine lv_bipush (v := 6) hx hb dX1_init_101 (by decide +kernel) ?_
  refine lv_bipush (v := 6) hx hb dX1_init_103 (by decide +kernel) ?_
  obtain ⟨hPc, hDc, hFc⟩ := g5_sub3 (wc := [(q10, .inr (6, [.int 0, .int 0, .null, .int 0]))]) hP hD hS hA [10] (by decide +kernel) rfl
  refine va_callv (va_runI (As := [.int 6, .int 6]) (rest := [.ref q10, .ref a0]) ⟨hx, hb, hml, hown, hts⟩ (kX6_init_5 l G q10 H.size) (cwI 2 hts gW_X6_init rfl rfl rfl (hts _ ini_X6) (hts _ ml_X1_36) (hts _ im_X6_init) rfl hs_X6_init ⟨Nat.le_of_ble_eq_true rfl, Nat.le_of_ble_eq_true rfl⟩) (g5_preS hPc hK hDc hN hT hS hFc) rfl rfl hl.1 rfl (lv_room (Nat.le_of_ble_eq_true rfl)) dX1_init_105 ⟨Nat.le_of_ble_eq_true rfl, Nat.le_of_ble_eq_true rfl⟩) hS (fun q _ h => hFc q h) hFc (fun u t H locs ht hvm hw hB hz1 hk1 hS => ?_)
  obtain ⟨hP1, hD1⟩ := hB
  have hP1 := g5_ht ht hP1
  refine W.widen (k := 11) (n := 292) (Nat.le_of_ble_eq_true rfl) (Nat.le_of_ble_eq_true rfl) ?_
  obtain ⟨q11, rfl⟩ := hw
  have hJ9 := va_join (wr := [(a0, .inr (1, [.long 0, .int 1000, .int (-1), .int (-1), .int 0, .ref q1, .ref q2, .ref q4, .ref q6, .ref q8, .null, .long 0, .null])), (q1, (arW G 6 (fun _ => none))), (q2, (oc6 6 5 q3 0)), (q3, (arI G 30 (fun _ => 0))), (q4, (oc6 5 24 q5 0)), (q5, (arI G 120 (fun _ => 0))), (q6, (oc6 10 4 q7 0)), (q7, (arI G 40 (fun _ => 0))), (q8, (oc6 8 5 q9 0)), (q9, (arI G 40 (fun _ => 0)))]) hP hD [10] [0, 1, 2, 3, 4, 5, 6, 7, 8, 9] rfl rfl (by decide +kernel) (by decide +kernel) hk1 hFc hP1 hD1
  clear hP hD hPc hDc hFc ht hvm hz1 hk1 hP1 hD1
  obtain ⟨hP, hD⟩ := hJ9
  refine g5_rs [(a0, .inr (1, [.long 0, .int 1000, .int (-1), .int (-1), .int 0, .ref q1, .ref q2, .ref q4, .ref q6, .ref q8, .null, .long 0, .null])), (q1, (arW G 6 (fun _ => none))), (q2, (oc6 6 5 q3 0)), (q3, (arI G 30 (fun _ => 0))), (q4, (oc6 5 24 q5 0)), (q5, (arI G 120 (fun _ => 0))), (q6, (oc6 10 4 q7 0)), (q7, (arI G 40 (fun _ => 0))), (q8, (oc6 8 5 q9 0)), (q9, (arI G 40 (fun _ => 0))), (q10, (oc6 6 6 q11 0)), (q11, (arI G 36 (fun _ => 0)))] hP hD ?_
  clear hP hD
  intro hP hD
  refine va_putF (D := G.1) (ci := 1) (v := .ref q10) (ty := .object "LateGlass$Table") (C := RX1) (T := TX1) (N := 13) hx hb hts inG_X1 tyX1 tyX1_ok nmX1 hown hK hP hD hS 0 rfl rfl 10 (by decide +kernel) (hts _ fl_X1_52) (fun _ h9 => h9) rfl hin rfl (by decide +kernel) rfl rfl (Nat.le_of_ble_eq_true rfl) dX1_init_108 ?_
  clear hP hD hS
  intro H locs hP hD hS
  refine g5_rs [(a0, .inr (1, [.long 0, .int 1000, .int (-1), .int (-1), .int 0, .ref q1, .ref q2, .ref q4, .ref q6, .ref q8, .ref q10, .long 0, .null])), (q1, (arW G 6 (fun _ => none))), (q2, (oc6 6 5 q3 0)), (q3, (arI G 30 (fun _ => 0))), (q4, (oc6 5 24 q5 0)), (q5, (arI G 120 (fun _ => 0))), (q6, (oc6 10 4 q7 0)), (q7, (arI G 40 (fun _ => 0))), (q8, (oc6 8 5 q9 0)), (q9, (arI G 40 (fun _ => 0))), (q10, (oc6 6 6 q11 0)), (q11, (arI G 36 (fun _ => 0)))] hP hD ?_
  clear hP hD
  intro hP hD
  refine lv_aload_n hx hb dX1_init_111 rfl (lv_at hl 0 rfl) ?_
  refine lv_lconst (v := 0) hx hb dX1_init_112 (by decide +kernel) ?_
  refine va_put (D := G.1) (ci := 1) (v := .long 0) (ty := .long) (C := RX1) (T := TX1) (N := 13) hx hb hts inG_X1 tyX1 tyX1_ok nmX1 hown hK hP hD hS 0 rfl rfl 11 (by decide +kernel) (hts _ fl_X1_55) (fun _ h9 => h9) rfl (by decide +kernel) rfl rfl (Nat.le_of_ble_eq_true rfl) dX1_init_113 ?_
  clear hP hD hS
  intro H locs hP hD hS
  refine g5_rs [(a0, .inr (1, [.long 0, .int 1000, .int (-1), .int (-1), .int 0, .ref q1, .ref q2, .ref q4, .ref q6, .ref q8, .ref q10, .long 0, .null])), (q1, (arW G 6 (fun _ => none))), (q2, (oc6 6 5 q3 0)), (q3, (arI G 30 (fun _ => 0))), (q4, (oc6 5 24 q5 0)), (q5, (arI G 120 (fun _ => 0))), (q6, (oc6 10 4 q7 0)), (q7, (arI G 40 (fun _ => 0))), (q8, (oc6 8 5 q9 0)), (q9, (arI G 40 (fun _ => 0))), (q10, (oc6 6 6 q11 0)), (q11, (arI G 36 (fun _ => 0)))] hP hD ?_
  clear hP hD
  intro hP hD
  refine lv_aload_n hx hb dX1_init_116 rfl (lv_at hl 0 rfl) ?_
  refine lv_bipush (v := 24) hx hb dX1_init_117 (by decide +kernel) ?_
  refine va_newa (D := G.1) (atype := .long) (ty := .long) hx hb (hts _ acl_J) rfl hK hP hD hS hA (n := 24) (N' := 24) (a0 := (24, .inr (.inl (fun _ => 0)))) (fun _ => rfl) (by decide +kernel) (by decide +kernel) (by decide +kernel) (Nat.le_of_ble_eq_true rfl) (Nat.le_of_ble_eq_true rfl) dX1_init_119 (fun q12 cA H hKn hP hD hS => ?_)
  obtain rfl : cA = G.2 1 := g5_cJ hKn
  refine g5_rs [(a0, .inr (1, [.long 0, .int 1000, .int (-1), .int (-1), .int 0, .ref q1, .ref q2, .ref q4, .ref q6, .ref q8, .ref q10, .long 0, .null])), (q1, (arW G 6 (fun _ => none))), (q2, (oc6 6 5 q3 0)), (q3, (arI G 30 (fun _ => 0))), (q4, (oc6 5 24 q5 0)), (q5, (arI G 120 (fun _ => 0))), (q6, (oc6 10 4 q7 0)), (q7, (arI G 40 (fun _ => 0))), (q8, (oc6 8 5 q9 0)), (q9, (arI G 40 (fun _ => 0))), (q10, (oc6 6 6 q11 0)), (q11, (arI G 36 (fun _ => 0))), (q12, (arJ G 24 (fun _ => 0)))] hP hD ?_
  clear hP hD
  intro hP hD
  refine W.widen (k := 12) (n := 316) (Nat.le_of_ble_eq_true rfl) (Nat.le_of_ble_eq_true rfl) ?_
  refine va_putF (D := G.1) (ci := 1) (v := .ref q12) (ty := .array .long) (C := RX1) (T := TX1) (N := 13) hx hb hts inG_X1 tyX1 tyX1_ok nmX1 hown hK hP hD hS 0 rfl rfl 12 (by decide +kernel) (hts _ fl_X1_58) (fun _ h9 => h9) rfl hin rfl (by decide +kernel) rfl rfl (Nat.le_of_ble_eq_true rfl) dX1_init_121 ?_
  clear hP hD hS
  intro H locs hP hD hS
  refine g5_rs [(a0, (oc1 0 1000 (-1) (-1) 0 q1 q2 q4 q6 q8 q10 0 q12)), (q1, (arW G 6 (fun _ => none))), (q2, (oc6 6 5 q3 0)), (q3, (arI G 30 (fun _ => 0))), (q4, (oc6 5 24 q5 0)), (q5, (arI G 120 (fun _ => 0))), (q6, (oc6 10 4 q7 0)), (q7, (arI G 40 (fun _ => 0))), (q8, (oc6 8 5 q9 0)), (q9, (arI G 40 (fun _ => 0))), (q10, (oc6 6 6 q11 0)), (q11, (arI G 36 (fun _ => 0))), (q12, (arJ G 24 (fun _ => 0)))] hP hD ?_
  clear hP hD
  intro hP hD
  exact W.vret hx hb hr (fun t ht hW => ⟨⟨[(a0, (oc1 0 1000 (-1) (-1) 0 q1 q2 q4 q6 q8 q10 0 q12)), (q1, (arW G 6 (fun _ => none))), (q2, (oc6 6 5 q3 0)), (q3, (arI G 30 (fun _ => 0))), (q4, (oc6 5 24 q5 0)), (q5, (arI G 120 (fun _ => 0))), (q6, (oc6 10 4 q7 0)), (q7, (arI G 40 (fun _ => 0))), (q8, (oc6 8 5 q9 0)), (q9, (arI G 40 (fun _ => 0))), (q10, (oc6 6 6 q11 0)), (q11, (arI G 36 (fun _ => 0))), (q12, (arJ G 24 (fun _ => 0)))], rfl, ⟨q1, q2, q3, q4, q5, q6, q7, q8, q9, q10, q11, q12, rfl⟩, by rw [ht]; exact hP, hD⟩, hS.F ht⟩) hS.2.2 dX1_init_124
theorem cd_X1_init : Cond.code yX1_init cX1_init 1 none ∈ tblG := tg 123 (by decide +kernel) (by decide +kernel)
theorem gW_X1_init : GoodIn tblG (wsG yX1_init cX1_init 1 none) := tgi cd_X1_init
theorem hs_X1_init : yX1_init.cls ≠ "java/lang/invoke/MethodHandle" ∧ yX1_init.cls ≠ "java/lang/invoke/VarHandle" ∧ (parseMethodDescriptor yX1_init.desc).map (fun d => d.parameters.length) = some 0 := by decide +kernel
theorem im_X1_init : Cond.instanceMethod yX1_init ∈ tblG := tg 122 (by decide +kernel) (by decide +kernel)
theorem cl_X11_24 : Cond.classLink RX11 24 RX5 ∈ tblG := tg 222 (by decide +kernel) (by decide +kernel)
theorem oi_X5_3 : Cond.methodLink RX5 3 objectInit ∈ tblG := tg 227 (by decide +kernel) (by decide +kernel)
theorem cl_X5_9 : Cond.classLink RX5 9 RX2 ∈ tblG := tg 228 (by decide +kernel) (by decide +kernel)
theorem oi_X2_3 : Cond.methodLink RX2 3 objectInit ∈ tblG := tg 233 (by decide +kernel) (by decide +kernel)
theorem dgX2_init_0 : ∀ r ∈ ([(0, (.aload_n 0, 1)), (1, (.invokespecial 3, 3)), (4, (.aload_n 0, 1)), (5, (.bipush 8, 2)), (7, (.newarray .int, 2)), (9, (.putfield 9, 3)), (12, (.aload_n 0, 1)), (13, (.bipush 50, 2)), (15, (.newarray .long, 2)), (17, (.putfield 15, 3)), (20, (.return_, 1))] : List (Nat × (Instr × Nat))), decode cX2_init r.1 = .ok r.2 := by decide +kernel
theorem dX2_init_0 : decode cX2_init 0 = .ok (.aload_n 0, 1) := dgX2_init_0 (0, (.aload_n 0, 1)) (List.mem_of_getElem? (i := 0) rfl)
theorem dX2_init_1 : decode cX2_init 1 = .ok (.invokespecial 3, 3) := dgX2_init_0 (1, (.invokespecial 3, 3)) (List.mem_of_getElem? (i := 1) rfl)
theorem dX2_init_4 : decode cX2_init 4 = .ok (.aload_n 0, 1) := dgX2_init_0 (4, (.aload_n 0, 1)) (List.mem_of_getElem? (i := 2) rfl)
theorem dX2_init_5 : decode cX2_init 5 = .ok (.bipush 8, 2) := dgX2_init_0 (5, (.bipush 8, 2)) (List.mem_of_getElem? (i := 3) rfl)
theorem dX2_init_7 : decode cX2_init 7 = .ok (.newarray .int, 2) := dgX2_init_0 (7, (.newarray .int, 2)) (List.mem_of_getElem? (i := 4) rfl)
theorem dX2_init_9 : decode cX2_init 9 = .ok (.putfield 9, 3) := dgX2_init_0 (9, (.putfield 9, 3)) (List.mem_of_getElem? (i := 5) rfl)
theorem dX2_init_12 : decode cX2_init 12 = .ok (.aload_n 0, 1) := dgX2_init_0 (12, (.aload_n 0, 1)) (List.mem_of_getElem? (i := 6) rfl)
theorem dX2_init_13 : decode cX2_init 13 = .ok (.bipush 50, 2) := dgX2_init_0 (13, (.bipush 50, 2)) (List.mem_of_getElem? (i := 7) rfl)
theorem dX2_init_15 : decode cX2_init 15 = .ok (.newarray .long, 2) := dgX2_init_0 (15, (.newarray .long, 2)) (List.mem_of_getElem? (i := 8) rfl)
theorem dX2_init_17 : decode cX2_init 17 = .ok (.putfield 15, 3) := dgX2_init_0 (17, (.putfield 15, 3)) (List.mem_of_getElem? (i := 9) rfl)
theorem dX2_init_20 : decode cX2_init 20 = .ok (.return_, 1) := dgX2_init_0 (20, (.return_, 1)) (List.mem_of_getElem? (i := 10) rfl)
set_option maxHeartbeats 4000000 in
set_option maxRecDepth 100000 in
theorem kX2_init (l : Launch) (G : g5_G) (a0 : Nat) (sz : Nat) : Met l yX2_init (wsG yX2_init cX2_init 1 none) ({ frames := 1, cells := 2, slots := 58, locals := 12 }) (va_Pc [.ref a0] (g5_P G [(a0, .inr (2, [.null, .null]))] sz)) (va_Qv (fun (u : va_W) => (∃ (q1 : Nat) (q2 : Nat), (u = [(a0, (oc2 q1 q2)), (q1, (arI G 8 (fun _ => 0))), (q2, (arJ G 50 (fun _ => 0)))]))) (g5_B G (va_A [(a0, .inr (2, [.null, .null]))] sz)) (va_A [(a0, .inr (2, [.null, .null]))] sz)) 2 58 (va_A [(a0, .inr (2, [.null, .null]))] sz) := by
  refine Met.ofW (cc := cX2_init) (maxL := 1) (ret := none) (by decide +kernel) rfl ?_
  intro p e s m args below meth c s₁ B hml hv
  obtain ⟨rfl, hsz, hP, hK, hD0, hN, hT⟩ := hv
  have hx := B.exec
  have hb := B.bytes
  have hr := B.returns
  have hts : ∀ w ∈ tblG, w.before _ s = true := fun w h => atoms_spec (ws := (wsG yX2_init cX2_init 1 none)) B.pre w (List.mem_cons_of_mem _ h)
  have hown : s.vm.findClass RX2 = some m.cls := findClass_of_methodNamed B.named
  have hlocks := B.notSynchronized
  have hin : meth.name = "<init>" := (name_of_methodNamed B.named B.method).1
  subst hsz
  have hD := hD0.self (sz := s.heap.size)
  generalize hAe : va_A [(a0, .inr (2, [.null, .null]))] s.heap.size = A at hD hT ⊢
  have hA : ∀ q : Nat, s.heap.size ≤ q → A q := fun q h => by rw [← hAe]; exact Or.inr h
  have hS : va_S A s.heap s.heap [] := va_S.rf
  replace hP : va_P G.1 vwCl [(a0, .inr (2, [.null, .null]))] s.heap := hP
  have hl := lv_entry ([.ref a0]) (n := 1) (Nat.le_of_ble_eq_true rfl)
  rw [lg_entry_eq]
  generalize (lg_sl ([.ref a0]) ++ List.replicate (1 - (lg_sl ([.ref a0])).length) Slot.unset).toArray = ls at hl ⊢
  replace hl : lv_has ls 1 [(0, .ref a0)] := hl
  refine lv_aload_n hx hb dX2_init_0 rfl (lv_at hl 0 rfl) ?_
  refine W.objInit hx hb hown (hts _ oi_X2_3) (hts _ oi_im) (hts _ oi_cd) rfl (by rw [hml]; exact hl.1) rfl dX2_init_1 (Nat.le_of_ble_eq_true rfl) (Nat.le_of_ble_eq_true rfl) ?_
  refine W.eq (g2 := F0 m 4 ls []) rfl ?_
  refine lv_aload_n hx hb dX2_init_4 rfl (lv_at hl 0 rfl) ?_
  refine lv_bipush (v := 8) hx hb dX2_init_5 (by decide +kernel) ?_
  refine va_newa (D := G.1) (atype := .int) (ty := .int) hx hb (hts _ acl_I) rfl hK hP hD hS hA (n := 8) (N' := 8) (a0 := (8, .inl (fun _ => 0))) (fun _ => rfl) (by decide +kernel) (by decide +kernel) (by decide +kernel) (Nat.le_of_ble_eq_true rfl) (Nat.le_of_ble_eq_true rfl) dX2_init_7 (fun q1 cA H hKn hP hD hS => ?_)
  obtain rfl : cA = G.2 0 := g5_cI hKn
  refine g5_rs [(a0, .inr (2, [.null, .null])), (q1, (arI G 8 (fun _ => 0)))] hP hD ?_
  clear hP hD
  intro hP hD
  refine W.widen (k := 1) (n := 8) (Nat.le_of_ble_eq_true rfl) (Nat.le_of_ble_eq_true rfl) ?_
  refine va_putF (D := G.1) (ci := 2) (v := .ref q1) (ty := .array .int) (C := RX2) (T := TX2) (N := 2) hx hb hts inG_X2 tyX2 tyX2_ok nmX2 hown hK hP hD hS 0 rfl rfl 0 (by decide +kernel) (hts _ fl_X2_9) (fun _ h9 => h9) rfl hin rfl (by decide +kernel) rfl rfl (Nat.le_of_ble_eq_true rfl) dX2_init_9 ?_
  clear hP hD hS
  intro H locs hP hD hS
  refine g5_rs [(a0, .inr (2, [.ref q1, .null])), (q1, (arI G 8 (fun _ => 0)))] hP hD ?_
  clear hP hD
  intro hP hD
  refine lv_aload_n hx hb dX2_init_12 rfl (lv_at hl 0 rfl) ?_
  refine lv_bipush (v := 50) hx hb dX2_init_13 (by decide +kernel) ?_
  refine va_newa (D := G.1) (atype := .long) (ty := .long) hx hb (hts _ acl_J) rfl hK hP hD hS hA (n := 50) (N' := 50) (a0 := (50, .inr (.inl (fun _ => 0)))) (fun _ => rfl) (by decide +kernel) (by decide +kernel) (by decide +kernel) (Nat.le_of_ble_eq_true rfl) (Nat.le_of_ble_eq_true rfl) dX2_init_15 (fun q2 cA H hKn hP hD hS => ?_)
  obtain rfl : cA = G.2 1 := g5_cJ hKn
  refine g5_rs [(a0, .inr (2, [.ref q1, .null])), (q1, (arI G 8 (fun _ => 0))), (q2, (arJ G 50 (fun _ => 0)))] hP hD ?_
  clear hP hD
  intro hP hD
  refine W.widen (k := 2) (n := 58) (Nat.le_of_ble_eq_true rfl) (Nat.le_of_ble_eq_true rfl) ?_
  refine va_putF (D := G.1) (ci := 2) (v := .ref q2) (ty := .array .long) (C := RX2) (T := TX2) (N := 2) hx hb hts inG_X2 tyX2 tyX2_ok nmX2 hown hK hP hD hS 0 rfl rfl 1 (by decide +kernel) (hts _ fl_X2_15) (fun _ h9 => h9) rfl hin rfl (by decide +kernel) rfl rfl (Nat.le_of_ble_eq_true rfl) dX2_init_17 ?_
  clear hP hD hS
  intro H locs hP hD hS
  refine g5_rs [(a0, (oc2 q1 q2)), (q1, (arI G 8 (fun _ => 0))), (q2, (arJ G 50 (fun _ => 0)))] hP hD ?_
  clear hP hD
  intro hP hD
  exact W.vret hx hb hr (fun t ht hW => ⟨⟨[(a0, (oc2 q1 q2)), (q1, (arI G 8 (fun _ => 0))), (q2, (arJ G 50 (fun _ => 0)))], rfl, ⟨q1, q2, rfl⟩, by rw [ht]; exact hP, hD⟩, hS.F ht⟩) hS.2.2 dX2_init_20
theorem cd_X2_init : Cond.code yX2_init cX2_init 1 none ∈ tblG := tg 232 (by decide +kernel) (by decide +kernel)
theorem gW_X2_init : GoodIn tblG (wsG yX2_init cX2_init 1 none) := tgi cd_X2_init
theorem hs_X2_init : yX2_init.cls ≠ "java/lang/invoke/MethodHandle" ∧ yX2_init.cls ≠ "java/lang/invoke/VarHandle" ∧ (parseMethodDescriptor yX2_init.desc).map (fun d => d.parameters.length) = some 0 := by decide +kernel
theorem im_X2_init : Cond.instanceMethod yX2_init ∈ tblG := tg 231 (by decide +kernel) (by decide +kernel)
theorem dgX5_init_0 : ∀ r ∈ ([(0, (.aload_n 0, 1)), (1, (.invokespecial 3, 3)), (4, (.aload_n 0, 1)), (5, (.new 9, 3)), (8, (.dup, 1)), (9, (.invokespecial 11, 3)), (12, (.putfield 12, 3)), (15, (.aload_n 0, 1)), (16, (.sipush 200, 3)), (19, (.newarray .int, 2)), (21, (.putfield 18, 3)), (24, (.aload_n 0, 1)), (25, (.aload_n 1, 1)), (26, (.putfield 22, 3)), (29, (.return_, 1))] : List (Nat × (Instr × Nat))), decode cX5_init r.1 = .ok r.2 := by decide +kernel
theorem dX5_init_0 : decode cX5_init 0 = .ok (.aload_n 0, 1) := dgX5_init_0 (0, (.aload_n 0, 1)) (List.mem_of_getElem? (i := 0) rfl)
theorem dX5_init_1 : decode cX5_init 1 = .ok (.invokespecial 3, 3) := dgX5_init_0 (1, (.invokespecial 3, 3)) (List.mem_of_getElem? (i := 1) rfl)
theorem dX5_init_4 : decode cX5_init 4 = .ok (.aload_n 0, 1) := dgX5_init_0 (4, (.aload_n 0, 1)) (List.mem_of_getElem? (i := 2) rfl)
theorem dX5_init_5 : decode cX5_init 5 = .ok (.new 9, 3) := dgX5_init_0 (5, (.new 9, 3)) (List.mem_of_getElem? (i := 3) rfl)
theorem dX5_init_8 : decode cX5_init 8 = .ok (.dup, 1) := dgX5_init_0 (8, (.dup, 1)) (List.mem_of_getElem? (i := 4) rfl)
theorem dX5_init_9 : decode cX5_init 9 = .ok (.invokespecial 11, 3) := dgX5_init_0 (9, (.invokespecial 11, 3)) (List.mem_of_getElem? (i := 5) rfl)
theorem dX5_init_12 : decode cX5_init 12 = .ok (.putfield 12, 3) := dgX5_init_0 (12, (.putfield 12, 3)) (List.mem_of_getElem? (i := 6) rfl)
theorem dX5_init_15 : decode cX5_init 15 = .ok (.aload_n 0, 1) := dgX5_init_0 (15, (.aload_n 0, 1)) (List.mem_of_getElem? (i := 7) rfl)
theorem dX5_init_16 : decode cX5_init 16 = .ok (.sipush 200, 3) := dgX5_init_0 (16, (.sipush 200, 3)) (List.mem_of_getElem? (i := 8) rfl)
theorem dX5_init_19 : decode cX5_init 19 = .ok (.newarray .int, 2) := dgX5_init_0 (19, (.newarray .int, 2)) (List.mem_of_getElem? (i := 9) rfl)
theorem dX5_init_21 : decode cX5_init 21 = .ok (.putfield 18, 3) := dgX5_init_0 (21, (.putfield 18, 3)) (List.mem_of_getElem? (i := 10) rfl)
theorem dX5_init_24 : decode cX5_init 24 = .ok (.aload_n 0, 1) := dgX5_init_0 (24, (.aload_n 0, 1)) (List.mem_of_getElem? (i := 11) rfl)
theorem dX5_init_25 : decode cX5_init 25 = .ok (.aload_n 1, 1) := dgX5_init_0 (25, (.aload_n 1, 1)) (List.mem_of_getElem? (i := 12) rfl)
theorem dX5_init_26 : decode cX5_init 26 = .ok (.putfield 22, 3) := dgX5_init_0 (26, (.putfield 22, 3)) (List.mem_of_getElem? (i := 13) rfl)
theorem dX5_init_29 : decode cX5_init 29 = .ok (.return_, 1) := dgX5_init_0 (29, (.return_, 1)) (List.mem_of_getElem? (i := 14) rfl)
set_option maxHeartbeats 4000000 in
set_option maxRecDepth 100000 in
theorem kX5_init (l : Launch) (G : g5_G) (a0 a1 : Nat) (sz : Nat) : Met l yX5_init (wsG yX5_init cX5_init 2 none) ({ frames := 2, cells := 4, slots := 260, locals := 32 }) (va_Pc [.ref a0, .ref a1] (g5_P G [(a0, .inr (5, [.null, .null, .null, .int 0, .int 0, .int 0, .int 0, .int 0, .int 0, .int 0, .int 0, .int 0, .int 0]))] sz)) (va_Qv (fun (u : va_W) => (∃ (q1 : Nat) (q2 : Nat) (q3 : Nat) (q4 : Nat), (u = [(a0, (oc5 a1 q1 q4 0 0 0 0 0 0 0 0 0 0)), (q1, (oc2 q2 q3)), (q2, (arI G 8 (fun _ => 0))), (q3, (arJ G 50 (fun _ => 0))), (q4, (arI G 200 (fun _ => 0)))]))) (g5_B G (va_A [(a0, .inr (5, [.null, .null, .null, .int 0, .int 0, .int 0, .int 0, .int 0, .int 0, .int 0, .int 0, .int 0, .int 0]))] sz)) (va_A [(a0, .inr (5, [.null, .null, .null, .int 0, .int 0, .int 0, .int 0, .int 0, .int 0, .int 0, .int 0, .int 0, .int 0]))] sz)) 4 260 (va_A [(a0, .inr (5, [.null, .null, .null, .int 0, .int 0, .int 0, .int 0, .int 0, .int 0, .int 0, .int 0, .int 0, .int 0]))] sz) := by
  refine Met.ofW (cc := cX5_init) (maxL := 2) (ret := none) (by decide +kernel) rfl ?_
  intro p e s m args below meth c s₁ B hml hv
  obtain ⟨rfl, hsz, hP, hK, hD0, hN, hT⟩ := hv
  have hx := B.exec
  have hb := B.bytes
  have hr := B.returns
  have hts : ∀ w ∈ tblG, w.before _ s = true := fun w h => atoms_spec (ws := (wsG yX5_init cX5_init 2 none)) B.pre w (List.mem_cons_of_mem _ h)
  have hown : s.vm.findClass RX5 = some m.cls := findClass_of_methodNamed B.named
  have hlocks := B.notSynchronized
  have hin : meth.name = "<init>" := (name_of_methodNamed B.named B.method).1
  subst hsz
  have hD := hD0.self (sz := s.heap.size)
  generalize hAe : va_A [(a0, .inr (5, [.null, .null, .null, .int 0, .int 0, .int 0, .int 0, .int 0, .int 0, .int 0, .int 0, .int 0, .int 0]))] s.heap.size = A at hD hT ⊢
  have hA : ∀ q : Nat, s.heap.size ≤ q → A q := fun q h => by rw [← hAe]; exact Or.inr h
  have hS : va_S A s.heap s.heap [] := va_S.rf
  replace hP : va_P G.1 vwCl [(a0, .inr (5, [.null, .null, .null, .int 0, .int 0, .int 0, .int 0, .int 0, .int 0, .int 0, .int 0, .int 0, .int 0]))] s.heap := hP
  have hl := lv_entry ([.ref a0, .ref a1]) (n := 2) (Nat.le_of_ble_eq_true rfl)
  rw [lg_entry_eq]
  generalize (lg_sl ([.ref a0, .ref a1]) ++ List.replicate (2 - (lg_sl ([.ref a0, .ref a1])).length) Slot.unset).toArray = ls at hl ⊢
  replace hl : lv_has ls 2 [(0, .ref a0), (1, .ref a1)] := hl
  refine lv_aload_n hx hb dX5_init_0 rfl (lv_at hl 0 rfl) ?_
  refine W.objInit hx hb hown (hts _ oi_X5_3) (hts _ oi_im) (hts _ oi_cd) rfl (by rw [hml]; exact hl.1) rfl dX5_init_1 (Nat.le_of_ble_eq_true rfl) (Nat.le_of_ble_eq_true rfl) ?_
  refine W.eq (g2 := F0 m 4 ls []) rfl ?_
  refine lv_aload_n hx hb dX5_init_4 rfl (lv_at hl 0 rfl) ?_
  refine va_new (D := G.1) (ci := 2) (fs := [.null, .null]) (C := RX2) (T := TX2) (N := 2) hx hb hts inG_X2 tyX2 tyX2_ok hown (hts _ cl_X5_9) (hts _ isn_X2) (hts _ ini_X2) hK hP hD hS hA rfl (fun j hj => by rcases (show j = 0 ∨ j = 1 by omega) with rfl | rfl <;> rfl) (Nat.le_of_ble_eq_true rfl) (Nat.le_of_ble_eq_true rfl) dX5_init_5 (fun q1 H hP hD hS => ?_)
  refine g5_rs [(a0, .inr (5, [.null, .null, .null, .int 0, .int 0, .int 0, .int 0, .int 0, .int 0, .int 0, .int 0, .int 0, .int 0])), (q1, .inr (2, [.null, .null]))] hP hD ?_
  clear hP hD
  intro hP hD
  refine W.widen (k := 1) (n := 2) (Nat.le_of_ble_eq_true rfl) (Nat.le_of_ble_eq_true rfl) ?_
  refine lv_dup hx hb dX5_init_8 rfl ?_
  obtain ⟨hPc, hDc, hFc⟩ := g5_sub3 (wc := [(q1, .inr (2, [.null, .null]))]) hP hD hS hA [1] (by decide +kernel) rfl
  refine va_callv (va_runIN (As := []) (rest := [.ref q1, .ref a0]) ⟨hx, hb, hml, hown, hts⟩ (kX2_init l G q1 H.size) ⟨va_cnB 0 hts gW_X2_init rfl rfl rfl (hN.1 _ g5_nw_X5_11) (hts _ ini_X2) hs_X2_init ⟨Nat.le_of_ble_eq_true rfl, Nat.le_of_ble_eq_true rfl⟩, rfl, hts _ im_X2_init⟩ (g5_preS hPc hK hDc hN hT hS hFc) rfl rfl hl.1 rfl (lv_room (Nat.le_of_ble_eq_true rfl)) dX5_init_9 ⟨Nat.le_of_ble_eq_true rfl, Nat.le_of_ble_eq_true rfl⟩) hS (fun q _ h => hFc q h) hFc (fun u t H locs ht hvm hw hB hz1 hk1 hS => ?_)
  obtain ⟨hP1, hD1⟩ := hB
  have hP1 := g5_ht ht hP1
  refine W.widen (k := 3) (n := 60) (Nat.le_of_ble_eq_true rfl) (Nat.le_of_ble_eq_true rfl) ?_
  obtain ⟨q2, q3, rfl⟩ := hw
  have hJ9 := va_join (wr := [(a0, .inr (5, [.null, .null, .null, .int 0, .int 0, .int 0, .int 0, .int 0, .int 0, .int 0, .int 0, .int 0, .int 0]))]) hP hD [1] [0] rfl rfl (by decide +kernel) (by decide +kernel) hk1 hFc hP1 hD1
  clear hP hD hPc hDc hFc ht hvm hz1 hk1 hP1 hD1
  obtain ⟨hP, hD⟩ := hJ9
  refine g5_rs [(a0, .inr (5, [.null, .null, .null, .int 0, .int 0, .int 0, .int 0, .int 0, .int 0, .int 0, .int 0, .int 0, .int 0])), (q1, (oc2 q2 q3)), (q2, (arI G 8 (fun _ => 0))), (q3, (arJ G 50 (fun _ => 0)))] hP hD ?_
  clear hP hD
  intro hP hD
  refine va_putF (D := G.1) (ci := 5) (v := .ref q1) (ty := .object "LateGlass$Judge") (C := RX5) (T := TX5) (N := 13) hx hb hts inG_X5 tyX5 tyX5_ok nmX5 hown hK hP hD hS 0 rfl rfl 1 (by decide +kernel) (hts _ fl_X5_12) (fun _ h9 => h9) rfl hin rfl (by decide +kernel) rfl rfl (Nat.le_of_ble_eq_true rfl) dX5_init_12 ?_
  clear hP hD hS
  intro H locs hP hD hS
  refine g5_rs [(a0, .inr (5, [.null, .ref q1, .null, .int 0, .int 0, .int 0, .int 0, .int 0, .int 0, .int 0, .int 0, .int 0, .int 0])), (q1, (oc2 q2 q3)), (q2, (arI G 8 (fun _ => 0))), (q3, (arJ G 50 (fun _ => 0)))] hP hD ?_
  clear hP hD
  intro hP hD
  refine lv_aload_n hx hb dX5_init_15 rfl (lv_at hl 0 rfl) ?_
  refine lv_sipush (v := 200) hx hb dX5_init_16 (by decide +kernel) ?_
  refine va_newa (D := G.1) (atype := .int) (ty := .int) hx hb (hts _ acl_I) rfl hK hP hD hS hA (n := 200) (N' := 200) (a0 := (200, .inl (fun _ => 0))) (fun _ => rfl) (by decide +kernel) (by decide +kernel) (by decide +kernel) (Nat.le_of_ble_eq_true rfl) (Nat.le_of_ble_eq_true rfl) dX5_init_19 (fun q4 cA H hKn hP hD hS => ?_)
  obtain rfl : cA = G.2 0 := g5_cI hKn
  refine g5_rs [(a0, .inr (5, [.null, .ref q1, .null, .int 0, .int 0, .int 0, .int 0, .int 0, .int 0, .int 0, .int 0, .int 0, .int 0])), (q1, (oc2 q2 q3)), (q2, (arI G 8 (fun _ => 0))), (q3, (arJ G 50 (fun _ => 0))), (q4, (arI G 200 (fun _ => 0)))] hP hD ?_
  clear hP hD
  intro hP hD
  refine W.widen (k := 4) (n := 260) (Nat.le_of_ble_eq_true rfl) (Nat.le_of_ble_eq_true rfl) ?_
  refine va_putF (D := G.1) (ci := 5) (v := .ref q4) (ty := .array .int) (C := RX5) (T := TX5) (N := 13) hx hb hts inG_X5 tyX5 tyX5_ok nmX5 hown hK hP hD hS 0 rfl rfl 2 (by decide +kernel) (hts _ fl_X5_18) (fun _ h9 => h9) rfl hin rfl (by decide +kernel) rfl rfl (Nat.le_of_ble_eq_true rfl) dX5_init_21 ?_
  clear hP hD hS
  intro H locs hP hD hS
  refine g5_rs [(a0, .inr (5, [.null, .ref q1, .ref q4, .int 0, .int 0, .int 0, .int 0, .int 0, .int 0, .int 0, .int 0, .int 0, .int 0])), (q1, (oc2 q2 q3)), (q2, (arI G 8 (fun _ => 0))), (q3, (arJ G 50 (fun _ => 0))), (q4, (arI G 200 (fun _ => 0)))] hP hD ?_
  clear hP hD
  intro hP hD
  refine lv_aload_n hx hb dX5_init_24 rfl (lv_at hl 0 rfl) ?_
  refine lv_aload_n hx hb dX5_init_25 rfl (lv_at hl 1 rfl) ?_
  refine va_putF (D := G.1) (ci := 5) (v := .ref a1) (ty := .object "LateGlass$House") (C := RX5) (T := TX5) (N := 13) hx hb hts inG_X5 tyX5 tyX5_ok nmX5 hown hK hP hD hS 0 rfl rfl 0 (by decide +kernel) (hts _ fl_X5_22) (fun _ h9 => h9) rfl hin rfl (by decide +kernel) rfl rfl (Nat.le_of_ble_eq_true rfl) dX5_init_26 ?_
  clear hP hD hS
  intro H locs hP hD hS
  refine g5_rs [(a0, (oc5 a1 q1 q4 0 0 0 0 0 0 0 0 0 0)), (q1, (oc2 q2 q3)), (q2, (arI G 8 (fun _ => 0))), (q3, (arJ G 50 (fun _ => 0))), (q4, (arI G 200 (fun _ => 0)))] hP hD ?_
  clear hP hD
  intro hP hD
  exact W.vret hx hb hr (fun t ht hW => ⟨⟨[(a0, (oc5 a1 q1 q4 0 0 0 0 0 0 0 0 0 0)), (q1, (oc2 q2 q3)), (q2, (arI G 8 (fun _ => 0))), (q3, (arJ G 50 (fun _ => 0))), (q4, (arI G 200 (fun _ => 0)))], rfl, ⟨q1, q2, q3, q4, rfl⟩, by rw [ht]; exact hP, hD⟩, hS.F ht⟩) hS.2.2 dX5_init_29
theorem cd_X5_init : Cond.code yX5_init cX5_init 2 none ∈ tblG := tg 226 (by decide +kernel) (by decide +kernel)
theorem gW_X5_init : GoodIn tblG (wsG yX5_init cX5_init 2 none) := tgi cd_X5_init
theorem ml_X11_26 : Cond.methodLink RX11 26 yX5_init ∈ tblG := tg 224 (by decide +kernel) (by decide +kernel)
theorem im_X5_init : Cond.instanceMethod yX5_init ∈ tblG := tg 225 (by decide +kernel) (by decide +kernel)
theorem hs_X5_init : yX5_init.cls ≠ "java/lang/invoke/MethodHandle" ∧ yX5_init.cls ≠ "java/lang/invoke/VarHandle" ∧ (parseMethodDescriptor yX5_init.desc).map (fun d => d.parameters.length) = some 1 := by decide +kernel
theorem cl_X11_33 : Cond.classLink RX11 33 RX10 ∈ tblG := tg 294 (by decide +kernel) (by decide +kernel)
theorem oi_X10_3 : Cond.methodLink RX10 3 objectInit ∈ tblG := tg 299 (by decide +kernel) (by decide +kernel)
theorem dgX10_init_0 : ∀ r ∈ ([(0, (.aload_n 0, 1)), (1, (.invokespecial 3, 3)), (4, (.aload_n 0, 1)), (5, (.bipush 24, 2)), (7, (.newarray .long, 2)), (9, (.putfield 9, 3)), (12, (.aload_n 0, 1)), (13, (.aload_n 1, 1)), (14, (.putfield 15, 3)), (17, (.aload_n 0, 1)), (18, (.aload_n 2, 1)), (19, (.putfield 19, 3)), (22, (.return_, 1))] : List (Nat × (Instr × Nat))), decode cX10_init r.1 = .ok r.2 := by decide +kernel
theorem dX10_init_0 : decode cX10_init 0 = .ok (.aload_n 0, 1) := dgX10_init_0 (0, (.aload_n 0, 1)) (List.mem_of_getElem? (i := 0) rfl)
theorem dX10_init_1 : decode cX10_init 1 = .ok (.invokespecial 3, 3) := dgX10_init_0 (1, (.invokespecial 3, 3)) (List.mem_of_getElem? (i := 1) rfl)
theorem dX10_init_4 : decode cX10_init 4 = .ok (.aload_n 0, 1) := dgX10_init_0 (4, (.aload_n 0, 1)) (List.mem_of_getElem? (i := 2) rfl)
theorem dX10_init_5 : decode cX10_init 5 = .ok (.bipush 24, 2) := dgX10_init_0 (5, (.bipush 24, 2)) (List.mem_of_getElem? (i := 3) rfl)
theorem dX10_init_7 : decode cX10_init 7 = .ok (.newarray .long, 2) := dgX10_init_0 (7, (.newarray .long, 2)) (List.mem_of_getElem? (i := 4) rfl)
theorem dX10_init_9 : decode cX10_init 9 = .ok (.putfield 9, 3) := dgX10_init_0 (9, (.putfield 9, 3)) (List.mem_of_getElem? (i := 5) rfl)
theorem dX10_init_12 : decode cX10_init 12 = .ok (.aload_n 0, 1) := dgX10_init_0 (12, (.aload_n 0, 1)) (List.mem_of_getElem? (i := 6) rfl)
theorem dX10_init_13 : decode cX10_init 13 = .ok (.aload_n 1, 1) := dgX10_init_0 (13, (.aload_n 1, 1)) (List.mem_of_getElem? (i := 7) rfl)
theorem dX10_init_14 : decode cX10_init 14 = .ok (.putfield 15, 3) := dgX10_init_0 (14, (.putfield 15, 3)) (List.mem_of_getElem? (i := 8) rfl)
theorem dX10_init_17 : decode cX10_init 17 = .ok (.aload_n 0, 1) := dgX10_init_0 (17, (.aload_n 0, 1)) (List.mem_of_getElem? (i := 9) rfl)
theorem dX10_init_18 : decode cX10_init 18 = .ok (.aload_n 2, 1) := dgX10_init_0 (18, (.aload_n 2, 1)) (List.mem_of_getElem? (i := 10) rfl)
theorem dX10_init_19 : decode cX10_init 19 = .ok (.putfield 19, 3) := dgX10_init_0 (19, (.putfield 19, 3)) (List.mem_of_getElem? (i := 11) rfl)
theorem dX10_init_22 : decode cX10_init 22 = .ok (.return_, 1) := dgX10_init_0 (22, (.return_, 1)) (List.mem_of_getElem? (i := 12) rfl)
set_option maxHeartbeats 4000000 in
set_option maxRecDepth 100000 in
theorem kX10_init (l : Launch) (G : g5_G) (a0 a1 a2 : Nat) (sz : Nat) : Met l yX10_init (wsG yX10_init cX10_init 3 none) ({ frames := 1, cells := 1, slots := 24, locals := 12 }) (va_Pc [.ref a0, .ref a1, .ref a2] (g5_P G [(a0, .inr (10, [.null, .null, .null]))] sz)) (va_Qv (fun (u : va_W) => (∃ (q1 : Nat), (u = [(a0, (oc10 a1 a2 q1)), (q1, (arJ G 24 (fun _ => 0)))]))) (g5_B G (va_A [(a0, .inr (10, [.null, .null, .null]))] sz)) (va_A [(a0, .inr (10, [.null, .null, .null]))] sz)) 1 24 (va_A [(a0, .inr (10, [.null, .null, .null]))] sz) := by
  refine Met.ofW (cc := cX10_init) (maxL := 3) (ret := none) (by decide +kernel) rfl ?_
  intro p e s m args below meth c s₁ B hml hv
  obtain ⟨rfl, hsz, hP, hK, hD0, hN, hT⟩ := hv
  have hx := B.exec
  have hb := B.bytes
  have hr := B.returns
  have hts : ∀ w ∈ tblG, w.before _ s = true := fun w h => atoms_spec (ws := (wsG yX10_init cX10_init 3 none)) B.pre w (List.mem_cons_of_mem _ h)
  have hown : s.vm.findClass RX10 = some m.cls := findClass_of_methodNamed B.named
  have hlocks := B.notSynchronized
  have hin : meth.name = "<init>" := (name_of_methodNamed B.named B.method).1
  subst hsz
  have hD := hD0.self (sz := s.heap.size)
  generalize hAe : va_A [(a0, .inr (10, [.null, .null, .null]))] s.heap.size = A at hD hT ⊢
  have hA : ∀ q : Nat, s.heap.size ≤ q → A q := fun q h => by rw [← hAe]; exact Or.inr h
  have hS : va_S A s.heap s.heap [] := va_S.rf
  replace hP : va_P G.1 vwCl [(a0, .inr (10, [.null, .null, .null]))] s.heap := hP
  have hl := lv_entry ([.ref a0, .ref a1, .ref a2]) (n := 3) (Nat.le_of_ble_eq_true rfl)
  rw [lg_entry_eq]
  generalize (lg_sl ([.ref a0, .ref a1, .ref a2]) ++ List.replicate (3 - (lg_sl ([.ref a0, .ref a1, .ref a2])).length) Slot.unset).toArray = ls at hl ⊢
  replace hl : lv_has ls 3 [(0, .ref a0), (1, .ref a1), (2, .ref a2)] := hl
  refine lv_aload_n hx hb dX10_init_0 rfl (lv_at hl 0 rfl) ?_
  refine W.objInit hx hb hown (hts _ oi_X10_3) (hts _ oi_im) (hts _ oi_cd) rfl (by rw [hml]; exact hl.1) rfl dX10_init_1 (Nat.le_of_ble_eq_true rfl) (Nat.le_of_ble_eq_true rfl) ?_
  refine W.eq (g2 := F0 m 4 ls []) rfl ?_
  refine lv_aload_n hx hb dX10_init_4 rfl (lv_at hl 0 rfl) ?_
  refine lv_bipush (v := 24) hx hb dX10_init_5 (by decide +kernel) ?_
  refine va_newa (D := G.1) (atype := .long) (ty := .long) hx hb (hts _ acl_J) rfl hK hP hD hS hA (n := 24) (N' := 24) (a0 := (24, .inr (.inl (fun _ => 0)))) (fun _ => rfl) (by decide +kernel) (by decide +kernel) (by decide +kernel) (Nat.le_of_ble_eq_true rfl) (Nat.le_of_ble_eq_true rfl) dX10_init_7 (fun q1 cA H hKn hP hD hS => ?_)
  obtain rfl : cA = G.2 1 := g5_cJ hKn
  refine g5_rs [(a0, .inr (10, [.null, .null, .null])), (q1, (arJ G 24 (fun _ => 0)))] hP hD ?_
  clear hP hD
  intro hP hD
  refine W.widen (k := 1) (n := 24) (Nat.le_of_ble_eq_true rfl) (Nat.le_of_ble_eq_true rfl) ?_
  refine va_putF (D := G.1) (ci := 10) (v := .ref q1) (ty := .array .long) (C := RX10) (T := TX10) (N := 3) hx hb hts inG_X10 tyX10 tyX10_ok nmX10 hown hK hP hD hS 0 rfl rfl 2 (by decide +kernel) (hts _ fl_X10_9) (fun _ h9 => h9) rfl hin rfl (by decide +kernel) rfl rfl (Nat.le_of_ble_eq_true rfl) dX10_init_9 ?_
  clear hP hD hS
  intro H locs hP hD hS
  refine g5_rs [(a0, .inr (10, [.null, .null, .ref q1])), (q1, (arJ G 24 (fun _ => 0)))] hP hD ?_
  clear hP hD
  intro hP hD
  refine lv_aload_n hx hb dX10_init_12 rfl (lv_at hl 0 rfl) ?_
  refine lv_aload_n hx hb dX10_init_13 rfl (lv_at hl 1 rfl) ?_
  refine va_putF (D := G.1) (ci := 10) (v := .ref a1) (ty := .object "LateGlass$House") (C := RX10) (T := TX10) (N := 3) hx hb hts inG_X10 tyX10 tyX10_ok nmX10 hown hK hP hD hS 0 rfl rfl 0 (by decide +kernel) (hts _ fl_X10_15) (fun _ h9 => h9) rfl hin rfl (by decide +kernel) rfl rfl (Nat.le_of_ble_eq_true rfl) dX10_init_14 ?_
  clear hP hD hS
  intro H locs hP hD hS
  refine g5_rs [(a0, .inr (10, [.ref a1, .null, .ref q1])), (q1, (arJ G 24 (fun _ => 0)))] hP hD ?_
  clear hP hD
  intro hP hD
  refine lv_aload_n hx hb dX10_init_17 rfl (lv_at hl 0 rfl) ?_
  refine lv_aload_n hx hb dX10_init_18 rfl (lv_at hl 2 rfl) ?_
  refine va_putF (D := G.1) (ci := 10) (v := .ref a2) (ty := .object "LateGlass$Look") (C := RX10) (T := TX10) (N := 3) hx hb hts inG_X10 tyX10 tyX10_ok nmX10 hown hK hP hD hS 0 rfl rfl 1 (by decide +kernel) (hts _ fl_X10_19) (fun _ h9 => h9) rfl hin rfl (by decide +kernel) rfl rfl (Nat.le_of_ble_eq_true rfl) dX10_init_19 ?_
  clear hP hD hS
  intro H locs hP hD hS
  refine g5_rs [(a0, (oc10 a1 a2 q1)), (q1, (arJ G 24 (fun _ => 0)))] hP hD ?_
  clear hP hD
  intro hP hD
  exact W.vret hx hb hr (fun t ht hW => ⟨⟨[(a0, (oc10 a1 a2 q1)), (q1, (arJ G 24 (fun _ => 0)))], rfl, ⟨q1, rfl⟩, by rw [ht]; exact hP, hD⟩, hS.F ht⟩) hS.2.2 dX10_init_22
theorem cd_X10_init : Cond.code yX10_init cX10_init 3 none ∈ tblG := tg 298 (by decide +kernel) (by decide +kernel)
theorem gW_X10_init : GoodIn tblG (wsG yX10_init cX10_init 3 none) := tgi cd_X10_init
theorem ml_X11_35 : Cond.methodLink RX11 35 yX10_init ∈ tblG := tg 296 (by decide +kernel) (by decide +kernel)
theorem im_X10_init : Cond.instanceMethod yX10_init ∈ tblG := tg 297 (by decide +kernel) (by decide +kernel)
theorem hs_X10_init : yX10_init.cls ≠ "java/lang/invoke/MethodHandle" ∧ yX10_init.cls ≠ "java/lang/invoke/VarHandle" ∧ (parseMethodDescriptor yX10_init.desc).map (fun d => d.parameters.length) = some 2 := by decide +kernel
theorem cl_X11_42 : Cond.classLink RX11 42 RX7 ∈ tblG := tg 311 (by decide +kernel) (by decide +kernel)
theorem oi_X7_3 : Cond.methodLink RX7 3 objectInit ∈ tblG := tg 316 (by decide +kernel) (by decide +kernel)
theorem dgX7_init_0 : ∀ r ∈ ([(0, (.aload_n 0, 1)), (1, (.invokespecial 3, 3)), (4, (.aload_n 0, 1)), (5, (.bipush 24, 2)), (7, (.newarray .long, 2)), (9, (.putfield 9, 3)), (12, (.aload_n 0, 1)), (13, (.sipush 1536, 3)), (16, (.newarray .int, 2)), (18, (.putfield 15, 3)), (21, (.aload_n 0, 1)), (22, (.sipush 2048, 3)), (25, (.newarray .long, 2)), (27, (.putfield 19, 3)), (30, (.aload_n 0, 1)), (31, (.sipush 2048, 3)), (34, (.newarray .long, 2)), (36, (.putfield 22, 3)), (39, (.aload_n 0, 1)), (40, (.sipush 1536, 3)), (43, (.newarray .int, 2)), (45, (.putfield 25, 3)), (48, (.aload_n 0, 1)), (49, (.bipush 64, 2)), (51, (.newarray .int, 2)), (53, (.putfield 28, 3)), (56, (.aload_n 0, 1)), (57, (.bipush 64, 2)), (59, (.newarray .int, 2)), (61, (.putfield 31, 3)), (64, (.aload_n 0, 1)), (65, (.aload_n 1, 1)), (66, (.putfield 34, 3)), (69, (.aload_n 0, 1)), (70, (.aload_n 2, 1)), (71, (.putfield 38, 3)), (74, (.return_, 1))] : List (Nat × (Instr × Nat))), decode cX7_init r.1 = .ok r.2 := by decide +kernel
theorem dX7_init_0 : decode cX7_init 0 = .ok (.aload_n 0, 1) := dgX7_init_0 (0, (.aload_n 0, 1)) (List.mem_of_getElem? (i := 0) rfl)
theorem dX7_init_1 : decode cX7_init 1 = .ok (.invokespecial 3, 3) := dgX7_init_0 (1, (.invokespecial 3, 3)) (List.mem_of_getElem? (i := 1) rfl)
theorem dX7_init_4 : decode cX7_init 4 = .ok (.aload_n 0, 1) := dgX7_init_0 (4, (.aload_n 0, 1)) (List.mem_of_getElem? (i := 2) rfl)
theorem dX7_init_5 : decode cX7_init 5 = .ok (.bipush 24, 2) := dgX7_init_0 (5, (.bipush 24, 2)) (List.mem_of_getElem? (i := 3) rfl)
theorem dX7_init_7 : decode cX7_init 7 = .ok (.newarray .long, 2) := dgX7_init_0 (7, (.newarray .long, 2)) (List.mem_of_getElem? (i := 4) rfl)
theorem dX7_init_9 : decode cX7_init 9 = .ok (.putfield 9, 3) := dgX7_init_0 (9, (.putfield 9, 3)) (List.mem_of_getElem? (i := 5) rfl)
theorem dX7_init_12 : decode cX7_init 12 = .ok (.aload_n 0, 1) := dgX7_init_0 (12, (.aload_n 0, 1)) (List.mem_of_getElem? (i := 6) rfl)
theorem dX7_init_13 : decode cX7_init 13 = .ok (.sipush 1536, 3) := dgX7_init_0 (13, (.sipush 1536, 3)) (List.mem_of_getElem? (i := 7) rfl)
theorem dX7_init_16 : decode cX7_init 16 = .ok (.newarray .int, 2) := dgX7_init_0 (16, (.newarray .int, 2)) (List.mem_of_getElem? (i := 8) rfl)
theorem dX7_init_18 : decode cX7_init 18 = .ok (.putfield 15, 3) := dgX7_init_0 (18, (.putfield 15, 3)) (List.mem_of_getElem? (i := 9) rfl)
theorem dX7_init_21 : decode cX7_init 21 = .ok (.aload_n 0, 1) := dgX7_init_0 (21, (.aload_n 0, 1)) (List.mem_of_getElem? (i := 10) rfl)
theorem dX7_init_22 : decode cX7_init 22 = .ok (.sipush 2048, 3) := dgX7_init_0 (22, (.sipush 2048, 3)) (List.mem_of_getElem? (i := 11) rfl)
theorem dX7_init_25 : decode cX7_init 25 = .ok (.newarray .long, 2) := dgX7_init_0 (25, (.newarray .long, 2)) (List.mem_of_getElem? (i := 12) rfl)
theorem dX7_init_27 : decode cX7_init 27 = .ok (.putfield 19, 3) := dgX7_init_0 (27, (.putfield 19, 3)) (List.mem_of_getElem? (i := 13) rfl)
theorem dX7_init_30 : decode cX7_init 30 = .ok (.aload_n 0, 1) := dgX7_init_0 (30, (.aload_n 0, 1)) (List.mem_of_getElem? (i := 14) rfl)
theorem dX7_init_31 : decode cX7_init 31 = .ok (.sipush 2048, 3) := dgX7_init_0 (31, (.sipush 2048, 3)) (List.mem_of_getElem? (i := 15) rfl)
theorem dX7_init_34 : decode cX7_init 34 = .ok (.newarray .long, 2) := dgX7_init_0 (34, (.newarray .long, 2)) (List.mem_of_getElem? (i := 16) rfl)
theorem dX7_init_36 : decode cX7_init 36 = .ok (.putfield 22, 3) := dgX7_init_0 (36, (.putfield 22, 3)) (List.mem_of_getElem? (i := 17) rfl)
theorem dX7_init_39 : decode cX7_init 39 = .ok (.aload_n 0, 1) := dgX7_init_0 (39, (.aload_n 0, 1)) (List.mem_of_getElem? (i := 18) rfl)
theorem dX7_init_40 : decode cX7_init 40 = .ok (.sipush 1536, 3) := dgX7_init_0 (40, (.sipush 1536, 3)) (List.mem_of_getElem? (i := 19) rfl)
theorem dX7_init_43 : decode cX7_init 43 = .ok (.newarray .int, 2) := dgX7_init_0 (43, (.newarray .int, 2)) (List.mem_of_getElem? (i := 20) rfl)
theorem dX7_init_45 : decode cX7_init 45 = .ok (.putfield 25, 3) := dgX7_init_0 (45, (.putfield 25, 3)) (List.mem_of_getElem? (i := 21) rfl)
theorem dX7_init_48 : decode cX7_init 48 = .ok (.aload_n 0, 1) := dgX7_init_0 (48, (.aload_n 0, 1)) (List.mem_of_getElem? (i := 22) rfl)
theorem dX7_init_49 : decode cX7_init 49 = .ok (.bipush 64, 2) := dgX7_init_0 (49, (.bipush 64, 2)) (List.mem_of_getElem? (i := 23) rfl)
theorem dX7_init_51 : decode cX7_init 51 = .ok (.newarray .int, 2) := dgX7_init_0 (51, (.newarray .int, 2)) (List.mem_of_getElem? (i := 24) rfl)
theorem dX7_init_53 : decode cX7_init 53 = .ok (.putfield 28, 3) := dgX7_init_0 (53, (.putfield 28, 3)) (List.mem_of_getElem? (i := 25) rfl)
theorem dX7_init_56 : decode cX7_init 56 = .ok (.aload_n 0, 1) := dgX7_init_0 (56, (.aload_n 0, 1)) (List.mem_of_getElem? (i := 26) rfl)
theorem dX7_init_57 : decode cX7_init 57 = .ok (.bipush 64, 2) := dgX7_init_0 (57, (.bipush 64, 2)) (List.mem_of_getElem? (i := 27) rfl)
theorem dX7_init_59 : decode cX7_init 59 = .ok (.newarray .int, 2) := dgX7_init_0 (59, (.newarray .int, 2)) (List.mem_of_getElem? (i := 28) rfl)
theorem dX7_init_61 : decode cX7_init 61 = .ok (.putfield 31, 3) := dgX7_init_0 (61, (.putfield 31, 3)) (List.mem_of_getElem? (i := 29) rfl)
theorem dX7_init_64 : decode cX7_init 64 = .ok (.aload_n 0, 1) := dgX7_init_0 (64, (.aload_n 0, 1)) (List.mem_of_getElem? (i := 30) rfl)
theorem dX7_init_65 : decode cX7_init 65 = .ok (.aload_n 1, 1) := dgX7_init_0 (65, (.aload_n 1, 1)) (List.mem_of_getElem? (i := 31) rfl)
theorem dX7_init_66 : decode cX7_init 66 = .ok (.putfield 34, 3) := dgX7_init_0 (66, (.putfield 34, 3)) (List.mem_of_getElem? (i := 32) rfl)
theorem dX7_init_69 : decode cX7_init 69 = .ok (.aload_n 0, 1) := dgX7_init_0 (69, (.aload_n 0, 1)) (List.mem_of_getElem? (i := 33) rfl)
theorem dX7_init_70 : decode cX7_init 70 = .ok (.aload_n 2, 1) := dgX7_init_0 (70, (.aload_n 2, 1)) (List.mem_of_getElem? (i := 34) rfl)
theorem dX7_init_71 : decode cX7_init 71 = .ok (.putfield 38, 3) := dgX7_init_0 (71, (.putfield 38, 3)) (List.mem_of_getElem? (i := 35) rfl)
theorem dX7_init_74 : decode cX7_init 74 = .ok (.return_, 1) := dgX7_init_0 (74, (.return_, 1)) (List.mem_of_getElem? (i := 36) rfl)
set_option maxHeartbeats 4000000 in
set_option maxRecDepth 100000 in
theorem kX7_init (l : Launch) (G : g5_G) (a0 a1 a2 : Nat) (sz : Nat) : Met l yX7_init (wsG yX7_init cX7_init 3 none) ({ frames := 1, cells := 7, slots := 7320, locals := 12 }) (va_Pc [.ref a0, .ref a1, .ref a2] (g5_P G [(a0, .inr (7, [.null, .null, .null, .null, .int 0, .null, .null, .null, .null, .null]))] sz)) (va_Qv (fun (u : va_W) => (∃ (q1 : Nat) (q2 : Nat) (q3 : Nat) (q4 : Nat) (q5 : Nat) (q6 : Nat) (q7 : Nat), (u = [(a0, (oc7 a1 a2 q1 q2 0 q3 q4 q5 q6 q7)), (q1, (arJ G 24 (fun _ => 0))), (q2, (arI G 1536 (fun _ => 0))), (q3, (arJ G 2048 (fun _ => 0))), (q4, (arJ G 2048 (fun _ => 0))), (q5, (arI G 1536 (fun _ => 0))), (q6, (arI G 64 (fun _ => 0))), (q7, (arI G 64 (fun _ => 0)))]))) (g5_B G (va_A [(a0, .inr (7, [.null, .null, .null, .null, .int 0, .null, .null, .null, .null, .null]))] sz)) (va_A [(a0, .inr (7, [.null, .null, .null, .null, .int 0, .null, .null, .null, .null, .null]))] sz)) 7 7320 (va_A [(a0, .inr (7, [.null, .null, .null, .null, .int 0, .null, .null, .null, .null, .null]))] sz) := by
  refine Met.ofW (cc := cX7_init) (maxL := 3) (ret := none) (by decide +kernel) rfl ?_
  intro p e s m args below meth c s₁ B hml hv
  obtain ⟨rfl, hsz, hP, hK, hD0, hN, hT⟩ := hv
  have hx := B.exec
  have hb := B.bytes
  have hr := B.returns
  have hts : ∀ w ∈ tblG, w.before _ s = true := fun w h => atoms_spec (ws := (wsG yX7_init cX7_init 3 none)) B.pre w (List.mem_cons_of_mem _ h)
  have hown : s.vm.findClass RX7 = some m.cls := findClass_of_methodNamed B.named
  have hlocks := B.notSynchronized
  have hin : meth.name = "<init>" := (name_of_methodNamed B.named B.method).1
  subst hsz
  have hD := hD0.self (sz := s.heap.size)
  generalize hAe : va_A [(a0, .inr (7, [.null, .null, .null, .null, .int 0, .null, .null, .null, .null, .null]))] s.heap.size = A at hD hT ⊢
  have hA : ∀ q : Nat, s.heap.size ≤ q → A q := fun q h => by rw [← hAe]; exact Or.inr h
  have hS : va_S A s.heap s.heap [] := va_S.rf
  replace hP : va_P G.1 vwCl [(a0, .inr (7, [.null, .null, .null, .null, .int 0, .null, .null, .null, .null, .null]))] s.heap := hP
  have hl := lv_entry ([.ref a0, .ref a1, .ref a2]) (n := 3) (Nat.le_of_ble_eq_true rfl)
  rw [lg_entry_eq]
  generalize (lg_sl ([.ref a0, .ref a1, .ref a2]) ++ List.replicate (3 - (lg_sl ([.ref a0, .ref a1, .ref a2])).length) Slot.unset).toArray = ls at hl ⊢
  replace hl : lv_has ls 3 [(0, .ref a0), (1, .ref a1), (2, .ref a2)] := hl
  refine lv_aload_n hx hb dX7_init_0 rfl (lv_at hl 0 rfl) ?_
  refine W.objInit hx hb hown (hts _ oi_X7_3) (hts _ oi_im) (hts _ oi_cd) rfl (by rw [hml]; exact hl.1) rfl dX7_init_1 (Nat.le_of_ble_eq_true rfl) (Nat.le_of_ble_eq_true rfl) ?_
  refine W.eq (g2 := F0 m 4 ls []) rfl ?_
  refine lv_aload_n hx hb dX7_init_4 rfl (lv_at hl 0 rfl) ?_
  refine lv_bipush (v := 24) hx hb dX7_init_5 (by decide +kernel) ?_
  refine va_newa (D := G.1) (atype := .long) (ty := .long) hx hb (hts _ acl_J) rfl hK hP hD hS hA (n := 24) (N' := 24) (a0 := (24, .inr (.inl (fun _ => 0)))) (fun _ => rfl) (by decide +kernel) (by decide +kernel) (by decide +kernel) (Nat.le_of_ble_eq_true rfl) (Nat.le_of_ble_eq_true rfl) dX7_init_7 (fun q1 cA H hKn hP hD hS => ?_)
  obtain rfl : cA = G.2 1 := g5_cJ hKn
  refine g5_rs [(a0, .inr (7, [.null, .null, .null, .null, .int 0, .null, .null, .null, .null, .null])), (q1, (arJ G 24 (fun _ => 0)))] hP hD ?_
  clear hP hD
  intro hP hD
  refine W.widen (k := 1) (n := 24) (Nat.le_of_ble_eq_true rfl) (Nat.le_of_ble_eq_true rfl) ?_
  refine va_putF (D := G.1) (ci := 7) (v := .ref q1) (ty := .array .long) (C := RX7) (T := TX7) (N := 10) hx hb hts inG_X7 tyX7 tyX7_ok nmX7 hown hK hP hD hS 0 rfl rfl 2 (by decide +kernel) (hts _ fl_X7_9) (fun _ h9 => h9) rfl hin rfl (by decide +kernel) rfl rfl (Nat.le_of_ble_eq_true rfl) dX7_init_9 ?_
  clear hP hD hS
  intro H locs hP hD hS
  refine g5_rs [(a0, .inr (7, [.null, .null, .ref q1, .null, .int 0, .null, .null, .null, .null, .null])), (q1, (arJ G 24 (fun _ => 0)))] hP hD ?_
  clear hP hD
  intro hP hD
  refine lv_aload_n hx hb dX7_init_12 rfl (lv_at hl 0 rfl) ?_
  refine lv_sipush (v := 1536) hx hb dX7_init_13 (by decide +kernel) ?_
  refine va_newa (D := G.1) (atype := .int) (ty := .int) hx hb (hts _ acl_I) rfl hK hP hD hS hA (n := 1536) (N' := 1536) (a0 := (1536, .inl (fun _ => 0))) (fun _ => rfl) (by decide +kernel) (by decide +kernel) (by decide +kernel) (Nat.le_of_ble_eq_true rfl) (Nat.le_of_ble_eq_true rfl) dX7_init_16 (fun q2 cA H hKn hP hD hS => ?_)
  obtain rfl : cA = G.2 0 := g5_cI hKn
  refine g5_rs [(a0, .inr (7, [.null, .null, .ref q1, .null, .int 0, .null, .null, .null, .null, .null])), (q1, (arJ G 24 (fun _ => 0))), (q2, (arI G 1536 (fun _ => 0)))] hP hD ?_
  clear hP hD
  intro hP hD
  refine W.widen (k := 2) (n := 1560) (Nat.le_of_ble_eq_true rfl) (Nat.le_of_ble_eq_true rfl) ?_
  refine va_putF (D := G.1) (ci := 7) (v := .ref q2) (ty := .array .int) (C := RX7) (T := TX7) (N := 10) hx hb hts inG_X7 tyX7 tyX7_ok nmX7 hown hK hP hD hS 0 rfl rfl 3 (by decide +kernel) (hts _ fl_X7_15) (fun _ h9 => h9) rfl hin rfl (by decide +kernel) rfl rfl (Nat.le_of_ble_eq_true rfl) dX7_init_18 ?_
  clear hP hD hS
  intro H locs hP hD hS
  refine g5_rs [(a0, .inr (7, [.null, .null, .ref q1, .ref q2, .int 0, .null, .null, .null, .null, .null])), (q1, (arJ G 24 (fun _ => 0))), (q2, (arI G 1536 (fun _ => 0)))] hP hD ?_
  clear hP hD
  intro hP hD
  refine lv_aload_n hx hb dX7_init_21 rfl (lv_at hl 0 rfl) ?_
  refine lv_sipush (v := 2048) hx hb dX7_init_22 (by decide +kernel) ?_
  refine va_newa (D := G.1) (atype := .long) (ty := .long) hx hb (hts _ acl_J) rfl hK hP hD hS hA (n := 2048) (N' := 2048) (a0 := (2048, .inr (.inl (fun _ => 0)))) (fun _ => rfl) (by decide +kernel) (by decide +kernel) (by decide +kernel) (Nat.le_of_ble_eq_true rfl) (Nat.le_of_ble_eq_true rfl) dX7_init_25 (fun q3 cA H hKn hP hD hS => ?_)
  obtain rfl : cA = G.2 1 := g5_cJ hKn
  refine g5_rs [(a0, .inr (7, [.null, .null, .ref q1, .ref q2, .int 0, .null, .null, .null, .null, .null])), (q1, (arJ G 24 (fun _ => 0))), (q2, (arI G 1536 (fun _ => 0))), (q3, (arJ G 2048 (fun _ => 0)))] hP hD ?_
  clear hP hD
  intro hP hD
  refine W.widen (k := 3) (n := 3608) (Nat.le_of_ble_eq_true rfl) (Nat.le_of_ble_eq_true rfl) ?_
  refine va_put (D := G.1) (ci := 7) (v := .ref q3) (ty := .array .long) (C := RX7) (T := TX7) (N := 10) hx hb hts inG_X7 tyX7 tyX7_ok nmX7 hown hK hP hD hS 0 rfl rfl 5 (by decide +kernel) (hts _ fl_X7_19) (fun _ h9 => h9) rfl (by decide +kernel) rfl rfl (Nat.le_of_ble_eq_true rfl) dX7_init_27 ?_
  clear hP hD hS
  intro H locs hP hD hS
  refine g5_rs [(a0, .inr (7, [.null, .null, .ref q1, .ref q2, .int 0, .ref q3, .null, .null, .null, .null])), (q1, (arJ G 24 (fun _ => 0))), (q2, (arI G 1536 (fun _ => 0))), (q3, (arJ G 2048 (fun _ => 0)))] hP hD ?_
  clear hP hD
  intro hP hD
  refine lv_aload_n hx hb dX7_init_30 rfl (lv_at hl 0 rfl) ?_
  refine lv_sipush (v := 2048) hx hb dX7_init_31 (by decide +kernel) ?_
  refine va_newa (D := G.1) (atype := .long) (ty := .long) hx hb (hts _ acl_J) rfl hK hP hD hS hA (n := 2048) (N' := 2048) (a0 := (2048, .inr (.inl (fun _ => 0)))) (fun _ => rfl) (by decide +kernel) (by decide +kernel) (by decide +kernel) (Nat.le_of_ble_eq_true rfl) (Nat.le_of_ble_eq_true rfl) dX7_init_34 (fun q4 cA H hKn hP hD hS => ?_)
  obtain rfl : cA = G.2 1 := g5_cJ hKn
  refine g5_rs [(a0, .inr (7, [.null, .null, .ref q1, .ref q2, .int 0, .ref q3, .null, .null, .null, .null])), (q1, (arJ G 24 (fun _ => 0))), (q2, (arI G 1536 (fun _ => 0))), (q3, (arJ G 2048 (fun _ => 0))), (q4, (arJ G 2048 (fun _ => 0)))] hP hD ?_
  clear hP hD
  intro hP hD
  refine W.widen (k := 4) (n := 5656) (Nat.le_of_ble_eq_true rfl) (Nat.le_of_ble_eq_true rfl) ?_
  refine va_put (D := G.1) (ci := 7) (v := .ref q4) (ty := .array .long) (C := RX7) (T := TX7) (N := 10) hx hb hts inG_X7 tyX7 tyX7_ok nmX7 hown hK hP hD hS 0 rfl rfl 6 (by decide +kernel) (hts _ fl_X7_22) (fun _ h9 => h9) rfl (by decide +kernel) rfl rfl (Nat.le_of_ble_eq_true rfl) dX7_init_36 ?_
  clear hP hD hS
  intro H locs hP hD hS
  refine g5_rs [(a0, .inr (7, [.null, .null, .ref q1, .ref q2, .int 0, .ref q3, .ref q4, .null, .null, .null])), (q1, (arJ G 24 (fun _ => 0))), (q2, (arI G 1536 (fun _ => 0))), (q3, (arJ G 2048 (fun _ => 0))), (q4, (arJ G 2048 (fun _ => 0)))] hP hD ?_
  clear hP hD
  intro hP hD
  refine lv_aload_n hx hb dX7_init_39 rfl (lv_at hl 0 rfl) ?_
  refine lv_sipush (v := 1536) hx hb dX7_init_40 (by decide +kernel) ?_
  refine va_newa (D := G.1) (atype := .int) (ty := .int) hx hb (hts _ acl_I) rfl hK hP hD hS hA (n := 1536) (N' := 1536) (a0 := (1536, .inl (fun _ => 0))) (fun _ => rfl) (by decide +kernel) (by decide +kernel) (by decide +kernel) (Nat.le_of_ble_eq_true rfl) (Nat.le_of_ble_eq_true rfl) dX7_init_43 (fun q5 cA H hKn hP hD hS => ?_)
  obtain rfl : cA = G.2 0 := g5_cI hKn
  refine g5_rs [(a0, .inr (7, [.null, .null, .ref q1, .ref q2, .int 0, .ref q3, .ref q4, .null, .null, .null])), (q1, (arJ G 24 (fun _ => 0))), (q2, (arI G 1536 (fun _ => 0))), (q3, (arJ G 2048 (fun _ => 0))), (q4, (arJ G 2048 (fun _ => 0))), (q5, (arI G 1536 (fun _ => 0)))] hP hD ?_
  clear hP hD
  intro hP hD
  refine W.widen (k := 5) (n := 7192) (Nat.le_of_ble_eq_true rfl) (Nat.le_of_ble_eq_true rfl) ?_
  refine va_putF (D := G.1) (ci := 7) (v := .ref q5) (ty := .array .int) (C := RX7) (T := TX7) (N := 10) hx hb hts inG_X7 tyX7 tyX7_ok nmX7 hown hK hP hD hS 0 rfl rfl 7 (by decide +kernel) (hts _ fl_X7_25) (fun _ h9 => h9) rfl hin rfl (by decide +kernel) rfl rfl (Nat.le_of_ble_eq_true rfl) dX7_init_45 ?_
  clear hP hD hS
  intro H locs hP hD hS
  refine g5_rs [(a0, .inr (7, [.null, .null, .ref q1, .ref q2, .int 0, .ref q3, .ref q4, .ref q5, .null, .null])), (q1, (arJ G 24 (fun _ => 0))), (q2, (arI G 1536 (fun _ => 0))), (q3, (arJ G 2048 (fun _ => 0))), (q4, (arJ G 2048 (fun _ => 0))), (q5, (arI G 1536 (fun _ => 0)))] hP hD ?_
  clear hP hD
  intro hP hD
  refine lv_aload_n hx hb dX7_init_48 rfl (lv_at hl 0 rfl) ?_
  refine lv_bipush (v := 64) hx hb dX7_init_49 (by decide +kernel) ?_
  refine va_newa (D := G.1) (atype := .int) (ty := .int) hx hb (hts _ acl_I) rfl hK hP hD hS hA (n := 64) (N' := 64) (a0 := (64, .inl (fun _ => 0))) (fun _ => rfl) (by decide +kernel) (by decide +kernel) (by decide +kernel) (Nat.le_of_ble_eq_true rfl) (Nat.le_of_ble_eq_true rfl) dX7_init_51 (fun q6 cA H hKn hP hD hS => ?_)
  obtain rfl : cA = G.2 0 := g5_cI hKn
  refine g5_rs [(a0, .inr (7, [.null, .null, .ref q1, .ref q2, .int 0, .ref q3, .ref q4, .ref q5, .null, .null])), (q1, (arJ G 24 (fun _ => 0))), (q2, (arI G 1536 (fun _ => 0))), (q3, (arJ G 2048 (fun _ => 0))), (q4, (arJ G 2048 (fun _ => 0))), (q5, (arI G 1536 (fun _ => 0))), (q6, (arI G 64 (fun _ => 0)))] hP hD ?_
  clear hP hD
  intro hP hD
  refine W.widen (k := 6) (n := 7256) (Nat.le_of_ble_eq_true rfl) (Nat.le_of_ble_eq_true rfl) ?_
  refine va_putF (D := G.1) (ci := 7) (v := .ref q6) (ty := .array .int) (C := RX7) (T := TX7) (N := 10) hx hb hts inG_X7 tyX7 tyX7_ok nmX7 hown hK hP hD hS 0 rfl rfl 8 (by decide +kernel) (hts _ fl_X7_28) (fun _ h9 => h9) rfl hin rfl (by decide +kernel) rfl rfl (Nat.le_of_ble_eq_true rfl) dX7_init_53 ?_
  clear hP hD hS
  intro H locs hP hD hS
  refine g5_rs [(a0, .inr (7, [.null, .null, .ref q1, .ref q2, .int 0, .ref q3, .ref q4, .ref q5, .ref q6, .null])), (q1, (arJ G 24 (fun _ => 0))), (q2, (arI G 1536 (fun _ => 0))), (q3, (arJ G 2048 (fun _ => 0))), (q4, (arJ G 2048 (fun _ => 0))), (q5, (arI G 1536 (fun _ => 0))), (q6, (arI G 64 (fun _ => 0)))] hP hD ?_
  clear hP hD
  intro hP hD
  refine lv_aload_n hx hb dX7_init_56 rfl (lv_at hl 0 rfl) ?_
  refine lv_bipush (v := 64) hx hb dX7_init_57 (by decide +kernel) ?_
  refine va_newa (D := G.1) (atype := .int) (ty := .int) hx hb (hts _ acl_I) rfl hK hP hD hS hA (n := 64) (N' := 64) (a0 := (64, .inl (fun _ => 0))) (fun _ => rfl) (by decide +kernel) (by decide +kernel) (by decide +kernel) (Nat.le_of_ble_eq_true rfl) (Nat.le_of_ble_eq_true rfl) dX7_init_59 (fun q7 cA H hKn hP hD hS => ?_)
  obtain rfl : cA = G.2 0 := g5_cI hKn
  refine g5_rs [(a0, .inr (7, [.null, .null, .ref q1, .ref q2, .int 0, .ref q3, .ref q4, .ref q5, .ref q6, .null])), (q1, (arJ G 24 (fun _ => 0))), (q2, (arI G 1536 (fun _ => 0))), (q3, (arJ G 2048 (fun _ => 0))), (q4, (arJ G 2048 (fun _ => 0))), (q5, (arI G 1536 (fun _ => 0))), (q6, (arI G 64 (fun _ => 0))), (q7, (arI G 64 (fun _ => 0)))] hP hD ?_
  clear hP hD
  intro hP hD
  refine W.widen (k := 7) (n := 7320) (Nat.le_of_ble_eq_true rfl) (Nat.le_of_ble_eq_true rfl) ?_
  refine va_putF (D := G.1) (ci := 7) (v := .ref q7) (ty := .array .int) (C := RX7) (T := TX7) (N := 10) hx hb hts inG_X7 tyX7 tyX7_ok nmX7 hown hK hP hD hS 0 rfl rfl 9 (by decide +kernel) (hts _ fl_X7_31) (fun _ h9 => h9) rfl hin rfl (by decide +kernel) rfl rfl (Nat.le_of_ble_eq_true rfl) dX7_init_61 ?_
  clear hP hD hS
  intro H locs hP hD hS
  refine g5_rs [(a0, .inr (7, [.null, .null, .ref q1, .ref q2, .int 0, .ref q3, .ref q4, .ref q5, .ref q6, .ref q7])), (q1, (arJ G 24 (fun _ => 0))), (q2, (arI G 1536 (fun _ => 0))), (q3, (arJ G 2048 (fun _ => 0))), (q4, (arJ G 2048 (fun _ => 0))), (q5, (arI G 1536 (fun _ => 0))), (q6, (arI G 64 (fun _ => 0))), (q7, (arI G 64 (fun _ => 0)))] hP hD ?_
  clear hP hD
  intro hP hD
  refine lv_aload_n hx hb dX7_init_64 rfl (lv_at hl 0 rfl) ?_
  refine lv_aload_n hx hb dX7_init_65 rfl (lv_at hl 1 rfl) ?_
  refine va_putF (D := G.1) (ci := 7) (v := .ref a1) (ty := .object "LateGlass$House") (C := RX7) (T := TX7) (N := 10) hx hb hts inG_X7 tyX7 tyX7_ok nmX7 hown hK hP hD hS 0 rfl rfl 0 (by decide +kernel) (hts _ fl_X7_34) (fun _ h9 => h9) rfl hin rfl (by decide +kernel) rfl rfl (Nat.le_of_ble_eq_true rfl) dX7_init_66 ?_
  clear hP hD hS
  intro H locs hP hD hS
  refine g5_rs [(a0, .inr (7, [.ref a1, .null, .ref q1, .ref q2, .int 0, .ref q3, .ref q4, .ref q5, .ref q6, .ref q7])), (q1, (arJ G 24 (fun _ => 0))), (q2, (arI G 1536 (fun _ => 0))), (q3, (arJ G 2048 (fun _ => 0))), (q4, (arJ G 2048 (fun _ => 0))), (q5, (arI G 1536 (fun _ => 0))), (q6, (arI G 64 (fun _ => 0))), (q7, (arI G 64 (fun _ => 0)))] hP hD ?_
  clear hP hD
  intro hP hD
  refine lv_aload_n hx hb dX7_init_69 rfl (lv_at hl 0 rfl) ?_
  refine lv_aload_n hx hb dX7_init_70 rfl (lv_at hl 2 rfl) ?_
  refine va_putF (D := G.1) (ci := 7) (v := .ref a2) (ty := .object "LateGlass$Look") (C := RX7) (T := TX7) (N := 10) hx hb hts inG_X7 tyX7 tyX7_ok nmX7 hown hK hP hD hS 0 rfl rfl 1 (by decide +kernel) (hts _ fl_X7_38) (fun _ h9 => h9) rfl hin rfl (by decide +kernel) rfl rfl (Nat.le_of_ble_eq_true rfl) dX7_init_71 ?_
  clear hP hD hS
  intro H locs hP hD hS
  refine g5_rs [(a0, (oc7 a1 a2 q1 q2 0 q3 q4 q5 q6 q7)), (q1, (arJ G 24 (fun _ => 0))), (q2, (arI G 1536 (fun _ => 0))), (q3, (arJ G 2048 (fun _ => 0))), (q4, (arJ G 2048 (fun _ => 0))), (q5, (arI G 1536 (fun _ => 0))), (q6, (arI G 64 (fun _ => 0))), (q7, (arI G 64 (fun _ => 0)))] hP hD ?_
  clear hP hD
  intro hP hD
  exact W.vret hx hb hr (fun t ht hW => ⟨⟨[(a0, (oc7 a1 a2 q1 q2 0 q3 q4 q5 q6 q7)), (q1, (arJ G 24 (fun _ => 0))), (q2, (arI G 1536 (fun _ => 0))), (q3, (arJ G 2048 (fun _ => 0))), (q4, (arJ G 2048 (fun _ => 0))), (q5, (arI G 1536 (fun _ => 0))), (q6, (arI G 64 (fun _ => 0))), (q7, (arI G 64 (fun _ => 0)))], rfl, ⟨q1, q2, q3, q4, q5, q6, q7, rfl⟩, by rw [ht]; exact hP, hD⟩, hS.F ht⟩) hS.2.2 dX7_init_74
theorem cd_X7_init : Cond.code yX7_init cX7_init 3 none ∈ tblG := tg 315 (by decide +kernel) (by decide +kernel)
theorem gW_X7_init : GoodIn tblG (wsG yX7_init cX7_init 3 none) := tgi cd_X7_init
theorem ml_X11_44 : Cond.methodLink RX11 44 yX7_init ∈ tblG := tg 313 (by decide +kernel) (by decide +kernel)
theorem im_X7_init : Cond.instanceMethod yX7_init ∈ tblG := tg 314 (by decide +kernel) (by decide +kernel)
theorem hs_X7_init : yX7_init.cls ≠ "java/lang/invoke/MethodHandle" ∧ yX7_init.cls ≠ "java/lang/invoke/VarHandle" ∧ (parseMethodDescriptor yX7_init.desc).map (fun d => d.parameters.length) = some 2 := by decide +kernel
theorem cl_X11_49 : Cond.classLink RX11 49 RX0 ∈ tblG := tg 349 (by decide +kernel) (by decide +kernel)
theorem oi_X0_3 : Cond.methodLink RX0 3 objectInit ∈ tblG := tg 354 (by decide +kernel) (by decide +kernel)
theorem dgX0_init_0 : ∀ r ∈ ([(0, (.aload_n 0, 1)), (1, (.invokespecial 3, 3)), (4, (.aload_n 0, 1)), (5, (.aload_n 1, 1)), (6, (.putfield 9, 3)), (9, (.aload_n 0, 1)), (10, (.aload_n 2, 1)), (11, (.putfield 15, 3)), (14, (.return_, 1))] : List (Nat × (Instr × Nat))), decode cX0_init r.1 = .ok r.2 := by decide +kernel
theorem dX0_init_0 : decode cX0_init 0 = .ok (.aload_n 0, 1) := dgX0_init_0 (0, (.aload_n 0, 1)) (List.mem_of_getElem? (i := 0) rfl)
theorem dX0_init_1 : decode cX0_init 1 = .ok (.invokespecial 3, 3) := dgX0_init_0 (1, (.invokespecial 3, 3)) (List.mem_of_getElem? (i := 1) rfl)
theorem dX0_init_4 : decode cX0_init 4 = .ok (.aload_n 0, 1) := dgX0_init_0 (4, (.aload_n 0, 1)) (List.mem_of_getElem? (i := 2) rfl)
theorem dX0_init_5 : decode cX0_init 5 = .ok (.aload_n 1, 1) := dgX0_init_0 (5, (.aload_n 1, 1)) (List.mem_of_getElem? (i := 3) rfl)
theorem dX0_init_6 : decode cX0_init 6 = .ok (.putfield 9, 3) := dgX0_init_0 (6, (.putfield 9, 3)) (List.mem_of_getElem? (i := 4) rfl)
theorem dX0_init_9 : decode cX0_init 9 = .ok (.aload_n 0, 1) := dgX0_init_0 (9, (.aload_n 0, 1)) (List.mem_of_getElem? (i := 5) rfl)
theorem dX0_init_10 : decode cX0_init 10 = .ok (.aload_n 2, 1) := dgX0_init_0 (10, (.aload_n 2, 1)) (List.mem_of_getElem? (i := 6) rfl)
theorem dX0_init_11 : decode cX0_init 11 = .ok (.putfield 15, 3) := dgX0_init_0 (11, (.putfield 15, 3)) (List.mem_of_getElem? (i := 7) rfl)
theorem dX0_init_14 : decode cX0_init 14 = .ok (.return_, 1) := dgX0_init_0 (14, (.return_, 1)) (List.mem_of_getElem? (i := 8) rfl)
set_option maxHeartbeats 4000000 in
set_option maxRecDepth 100000 in
theorem kX0_init (l : Launch) (G : g5_G) (a0 a1 a2 : Nat) (sz : Nat) : Met l yX0_init (wsG yX0_init cX0_init 3 none) ({ frames := 1, cells := 0, slots := 0, locals := 12 }) (va_Pc [.ref a0, .ref a1, .ref a2] (g5_P G [(a0, .inr (0, [.null, .null, .int 0, .int 0, .int 0]))] sz)) (va_Qv (fun (u : va_W) => ((u = [(a0, (oc0 a1 a2 0 0 0))]))) (g5_B G (va_A [(a0, .inr (0, [.null, .null, .int 0, .int 0, .int 0]))] sz)) (va_A [(a0, .inr (0, [.null, .null, .int 0, .int 0, .int 0]))] sz)) 0 0 (va_A [(a0, .inr (0, [.null, .null, .int 0, .int 0, .int 0]))] sz) := by
  refine Met.ofW (cc := cX0_init) (maxL := 3) (ret := none) (by decide +kernel) rfl ?_
  intro p e s m args below meth c s₁ B hml hv
  obtain ⟨rfl, hsz, hP, hK, hD0, hN, hT⟩ := hv
  have hx := B.exec
  have hb := B.bytes
  have hr := B.returns
  have hts : ∀ w ∈ tblG, w.before _ s = true := fun w h => atoms_spec (ws := (wsG yX0_init cX0_init 3 none)) B.pre w (List.mem_cons_of_mem _ h)
  have hown : s.vm.findClass RX0 = some m.cls := findClass_of_methodNamed B.named
  have hlocks := B.notSynchronized
  have hin : meth.name = "<init>" := (name_of_methodNamed B.named B.method).1
  subst hsz
  have hD := hD0.self (sz := s.heap.size)
  generalize hAe : va_A [(a0, .inr (0, [.null, .null, .int 0, .int 0, .int 0]))] s.heap.size = A at hD hT ⊢
  have hA : ∀ q : Nat, s.heap.size ≤ q → A q := fun q h => by rw [← hAe]; exact Or.inr h
  have hS : va_S A s.heap s.heap [] := va_S.rf
  replace hP : va_P G.1 vwCl [(a0, .inr (0, [.null, .null, .int 0, .int 0, .int 0]))] s.heap := hP
  have hl := lv_entry ([.ref a0, .ref a1, .ref a2]) (n := 3) (Nat.le_of_ble_eq_true rfl)
  rw [lg_entry_eq]
  generalize (lg_sl ([.ref a0, .ref a1, .ref a2]) ++ List.replicate (3 - (lg_sl ([.ref a0, .ref a1, .ref a2])).length) Slot.unset).toArray = ls at hl ⊢
  replace hl : lv_has ls 3 [(0, .ref a0), (1, .ref a1), (2, .ref a2)] := hl
  refine lv_aload_n hx hb dX0_init_0 rfl (lv_at hl 0 rfl) ?_
  refine W.objInit hx hb hown (hts _ oi_X0_3) (hts _ oi_im) (hts _ oi_cd) rfl (by rw [hml]; exact hl.1) rfl dX0_init_1 (Nat.le_of_ble_eq_true rfl) (Nat.le_of_ble_eq_true rfl) ?_
  refine W.eq (g2 := F0 m 4 ls []) rfl ?_
  refine lv_aload_n hx hb dX0_init_4 rfl (lv_at hl 0 rfl) ?_
  refine lv_aload_n hx hb dX0_init_5 rfl (lv_at hl 1 rfl) ?_
  refine va_putF (D := G.1) (ci := 0) (v := .ref a1) (ty := .object "LateGlass$House") (C := RX0) (T := TX0) (N := 5) hx hb hts inG_X0 tyX0 tyX0_ok nmX0 hown hK hP hD hS 0 rfl rfl 0 (by decide +kernel) (hts _ fl_X0_9) (fun _ h9 => h9) rfl hin rfl (by decide +kernel) rfl rfl (Nat.le_of_ble_eq_true rfl) dX0_init_6 ?_
  clear hP hD hS
  intro H locs hP hD hS
  refine g5_rs [(a0, .inr (0, [.ref a1, .null, .int 0, .int 0, .int 0]))] hP hD ?_
  clear hP hD
  intro hP hD
  refine lv_aload_n hx hb dX0_init_9 rfl (lv_at hl 0 rfl) ?_
  refine lv_aload_n hx hb dX0_init_10 rfl (lv_at hl 2 rfl) ?_
  refine va_putF (D := G.1) (ci := 0) (v := .ref a2) (ty := .object "LateGlass$Look") (C := RX0) (T := TX0) (N := 5) hx hb hts inG_X0 tyX0 tyX0_ok nmX0 hown hK hP hD hS 0 rfl rfl 1 (by decide +kernel) (hts _ fl_X0_15) (fun _ h9 => h9) rfl hin rfl (by decide +kernel) rfl rfl (Nat.le_of_ble_eq_true rfl) dX0_init_11 ?_
  clear hP hD hS
  intro H locs hP hD hS
  refine g5_rs [(a0, (oc0 a1 a2 0 0 0))] hP hD ?_
  clear hP hD
  intro hP hD
  exact W.vret hx hb hr (fun t ht hW => ⟨⟨[(a0, (oc0 a1 a2 0 0 0))], rfl, rfl, by rw [ht]; exact hP, hD⟩, hS.F ht⟩) hS.2.2 dX0_init_14
theorem cd_X0_init : Cond.code yX0_init cX0_init 3 none ∈ tblG := tg 353 (by decide +kernel) (by decide +kernel)
theorem gW_X0_init : GoodIn tblG (wsG yX0_init cX0_init 3 none) := tgi cd_X0_init
theorem ml_X11_51 : Cond.methodLink RX11 51 yX0_init ∈ tblG := tg 351 (by decide +kernel) (by decide +kernel)
theorem im_X0_init : Cond.instanceMethod yX0_init ∈ tblG := tg 352 (by decide +kernel) (by decide +kernel)
theorem hs_X0_init : yX0_init.cls ≠ "java/lang/invoke/MethodHandle" ∧ yX0_init.cls ≠ "java/lang/invoke/VarHandle" ∧ (parseMethodDescriptor yX0_init.desc).map (fun d => d.parameters.length) = some 2 := by decide +kernel
theorem cl_X11_56 : Cond.classLink RX11 56 RX9 ∈ tblG := tg 374 (by decide +kernel) (by decide +kernel)
theorem oi_X9_3 : Cond.methodLink RX9 3 objectInit ∈ tblG := tg 379 (by decide +kernel) (by decide +kernel)
theorem dgX9_init_0 : ∀ r ∈ ([(0, (.aload_n 0, 1)), (1, (.invokespecial 3, 3)), (4, (.aload_n 0, 1)), (5, (.bipush 24, 2)), (7, (.newarray .long, 2)), (9, (.putfield 9, 3)), (12, (.aload_n 0, 1)), (13, (.sipush 1536, 3)), (16, (.newarray .int, 2)), (18, (.putfield 15, 3)), (21, (.aload_n 0, 1)), (22, (.aload_n 1, 1)), (23, (.putfield 19, 3)), (26, (.aload_n 0, 1)), (27, (.aload_n 2, 1)), (28, (.putfield 23, 3)), (31, (.return_, 1))] : List (Nat × (Instr × Nat))), decode cX9_init r.1 = .ok r.2 := by decide +kernel
theorem dX9_init_0 : decode cX9_init 0 = .ok (.aload_n 0, 1) := dgX9_init_0 (0, (.aload_n 0, 1)) (List.mem_of_getElem? (i := 0) rfl)
theorem dX9_init_1 : decode cX9_init 1 = .ok (.invokespecial 3, 3) := dgX9_init_0 (1, (.invokespecial 3, 3)) (List.mem_of_getElem? (i := 1) rfl)
theorem dX9_init_4 : decode cX9_init 4 = .ok (.aload_n 0, 1) := dgX9_init_0 (4, (.aload_n 0, 1)) (List.mem_of_getElem? (i := 2) rfl)
theorem dX9_init_5 : decode cX9_init 5 = .ok (.bipush 24, 2) := dgX9_init_0 (5, (.bipush 24, 2)) (List.mem_of_getElem? (i := 3) rfl)
theorem dX9_init_7 : decode cX9_init 7 = .ok (.newarray .long, 2) := dgX9_init_0 (7, (.newarray .long, 2)) (List.mem_of_getElem? (i := 4) rfl)
theorem dX9_init_9 : decode cX9_init 9 = .ok (.putfield 9, 3) := dgX9_init_0 (9, (.putfield 9, 3)) (List.mem_of_getElem? (i := 5) rfl)
theorem dX9_init_12 : decode cX9_init 12 = .ok (.aload_n 0, 1) := dgX9_init_0 (12, (.aload_n 0, 1)) (List.mem_of_getElem? (i := 6) rfl)
theorem dX9_init_13 : decode cX9_init 13 = .ok (.sipush 1536, 3) := dgX9_init_0 (13, (.sipush 1536, 3)) (List.mem_of_getElem? (i := 7) rfl)
theorem dX9_init_16 : decode cX9_init 16 = .ok (.newarray .int, 2) := dgX9_init_0 (16, (.newarray .int, 2)) (List.mem_of_getElem? (i := 8) rfl)
theorem dX9_init_18 : decode cX9_init 18 = .ok (.putfield 15, 3) := dgX9_init_0 (18, (.putfield 15, 3)) (List.mem_of_getElem? (i := 9) rfl)
theorem dX9_init_21 : decode cX9_init 21 = .ok (.aload_n 0, 1) := dgX9_init_0 (21, (.aload_n 0, 1)) (List.mem_of_getElem? (i := 10) rfl)
theorem dX9_init_22 : decode cX9_init 22 = .ok (.aload_n 1, 1) := dgX9_init_0 (22, (.aload_n 1, 1)) (List.mem_of_getElem? (i := 11) rfl)
theorem dX9_init_23 : decode cX9_init 23 = .ok (.putfield 19, 3) := dgX9_init_0 (23, (.putfield 19, 3)) (List.mem_of_getElem? (i := 12) rfl)
theorem dX9_init_26 : decode cX9_init 26 = .ok (.aload_n 0, 1) := dgX9_init_0 (26, (.aload_n 0, 1)) (List.mem_of_getElem? (i := 13) rfl)
theorem dX9_init_27 : decode cX9_init 27 = .ok (.aload_n 2, 1) := dgX9_init_0 (27, (.aload_n 2, 1)) (List.mem_of_getElem? (i := 14) rfl)
theorem dX9_init_28 : decode cX9_init 28 = .ok (.putfield 23, 3) := dgX9_init_0 (28, (.putfield 23, 3)) (List.mem_of_getElem? (i := 15) rfl)
theorem dX9_init_31 : decode cX9_init 31 = .ok (.return_, 1) := dgX9_init_0 (31, (.return_, 1)) (List.mem_of_getElem? (i := 16) rfl)
set_option maxHeartbeats 4000000 in
set_option maxRecDepth 100000 in
theorem kX9_init (l : Launch) (G : g5_G) (a0 a1 a2 : Nat) (sz : Nat) : Met l yX9_init (wsG yX9_init cX9_init 3 none) ({ frames := 1, cells := 2, slots := 1560, locals := 12 }) (va_Pc [.ref a0, .ref a1, .ref a2] (g5_P G [(a0, .inr (9, [.null, .null, .null, .null]))] sz)) (va_Qv (fun (u : va_W) => (∃ (q1 : Nat) (q2 : Nat), (u = [(a0, (oc9 a1 a2 q1 q2)), (q1, (arJ G 24 (fun _ => 0))), (q2, (arI G 1536 (fun _ => 0)))]))) (g5_B G (va_A [(a0, .inr (9, [.null, .null, .null, .null]))] sz)) (va_A [(a0, .inr (9, [.null, .null, .null, .null]))] sz)) 2 1560 (va_A [(a0, .inr (9, [.null, .null, .null, .null]))] sz) := by
  refine Met.ofW (cc := cX9_init) (maxL := 3) (ret := none) (by decide +kernel) rfl ?_
  intro p e s m args below meth c s₁ B hml hv
  obtain ⟨rfl, hsz, hP, hK, hD0, hN, hT⟩ := hv
  have hx := B.exec
  have hb := B.bytes
  have hr := B.returns
  have hts : ∀ w ∈ tblG, w.before _ s = true := fun w h => atoms_spec (ws := (wsG yX9_init cX9_init 3 none)) B.pre w (List.mem_cons_of_mem _ h)
  have hown : s.vm.findClass RX9 = some m.cls := findClass_of_methodNamed B.named
  have hlocks := B.notSynchronized
  have hin : meth.name = "<init>" := (name_of_methodNamed B.named B.method).1
  subst hsz
  have hD := hD0.self (sz := s.heap.size)
  generalize hAe : va_A [(a0, .inr (9, [.null, .null, .null, .null]))] s.heap.size = A at hD hT ⊢
  have hA : ∀ q : Nat, s.heap.size ≤ q → A q := fun q h => by rw [← hAe]; exact Or.inr h
  have hS : va_S A s.heap s.heap [] := va_S.rf
  replace hP : va_P G.1 vwCl [(a0, .inr (9, [.null, .null, .null, .null]))] s.heap := hP
  have hl := lv_entry ([.ref a0, .ref a1, .ref a2]) (n := 3) (Nat.le_of_ble_eq_true rfl)
  rw [lg_entry_eq]
  generalize (lg_sl ([.ref a0, .ref a1, .ref a2]) ++ List.replicate (3 - (lg_sl ([.ref a0, .ref a1, .ref a2])).length) Slot.unset).toArray = ls at hl ⊢
  replace hl : lv_has ls 3 [(0, .ref a0), (1, .ref a1), (2, .ref a2)] := hl
  refine lv_aload_n hx hb dX9_init_0 rfl (lv_at hl 0 rfl) ?_
  refine W.objInit hx hb hown (hts _ oi_X9_3) (hts _ oi_im) (hts _ oi_cd) rfl (by rw [hml]; exact hl.1) rfl dX9_init_1 (Nat.le_of_ble_eq_true rfl) (Nat.le_of_ble_eq_true rfl) ?_
  refine W.eq (g2 := F0 m 4 ls []) rfl ?_
  refine lv_aload_n hx hb dX9_init_4 rfl (lv_at hl 0 rfl) ?_
  refine lv_bipush (v := 24) hx hb dX9_init_5 (by decide +kernel) ?_
  refine va_newa (D := G.1) (atype := .long) (ty := .long) hx hb (hts _ acl_J) rfl hK hP hD hS hA (n := 24) (N' := 24) (a0 := (24, .inr (.inl (fun _ => 0)))) (fun _ => rfl) (by decide +kernel) (by decide +kernel) (by decide +kernel) (Nat.le_of_ble_eq_true rfl) (Nat.le_of_ble_eq_true rfl) dX9_init_7 (fun q1 cA H hKn hP hD hS => ?_)
  obtain rfl : cA = G.2 1 := g5_cJ hKn
  refine g5_rs [(a0, .inr (9, [.null, .null, .null, .null])), (q1, (arJ G 24 (fun _ => 0)))] hP hD ?_
  clear hP hD
  intro hP hD
  refine W.widen (k := 1) (n := 24) (Nat.le_of_ble_eq_true rfl) (Nat.le_of_ble_eq_true rfl) ?_
  refine va_putF (D := G.1) (ci := 9) (v := .ref q1) (ty := .array .long) (C := RX9) (T := TX9) (N := 4) hx hb hts inG_X9 tyX9 tyX9_ok nmX9 hown hK hP hD hS 0 rfl rfl 2 (by decide +kernel) (hts _ fl_X9_9) (fun _ h9 => h9) rfl hin rfl (by decide +kernel) rfl rfl (Nat.le_of_ble_eq_true rfl) dX9_init_9 ?_
  clear hP hD hS
  intro H locs hP hD hS
  refine g5_rs [(a0, .inr (9, [.null, .null, .ref q1, .null])), (q1, (arJ G 24 (fun _ => 0)))] hP hD ?_
  clear hP hD
  intro hP hD
  refine lv_aload_n hx hb dX9_init_12 rfl (lv_at hl 0 rfl) ?_
  refine lv_sipush (v := 1536) hx hb dX9_init_13 (by decide +kernel) ?_
  refine va_newa (D := G.1) (atype := .int) (ty := .int) hx hb (hts _ acl_I) rfl hK hP hD hS hA (n := 1536) (N' := 1536) (a0 := (1536, .inl (fun _ => 0))) (fun _ => rfl) (by decide +kernel) (by decide +kernel) (by decide +kernel) (Nat.le_of_ble_eq_true rfl) (Nat.le_of_ble_eq_true rfl) dX9_init_16 (fun q2 cA H hKn hP hD hS => ?_)
  obtain rfl : cA = G.2 0 := g5_cI hKn
  refine g5_rs [(a0, .inr (9, [.null, .null, .ref q1, .null])), (q1, (arJ G 24 (fun _ => 0))), (q2, (arI G 1536 (fun _ => 0)))] hP hD ?_
  clear hP hD
  intro hP hD
  refine W.widen (k := 2) (n := 1560) (Nat.le_of_ble_eq_true rfl) (Nat.le_of_ble_eq_true rfl) ?_
  refine va_putF (D := G.1) (ci := 9) (v := .ref q2) (ty := .array .int) (C := RX9) (T := TX9) (N := 4) hx hb hts inG_X9 tyX9 tyX9_ok nmX9 hown hK hP hD hS 0 rfl rfl 3 (by decide +kernel) (hts _ fl_X9_15) (fun _ h9 => h9) rfl hin rfl (by decide +kernel) rfl rfl (Nat.le_of_ble_eq_true rfl) dX9_init_18 ?_
  clear hP hD hS
  intro H locs hP hD hS
  refine g5_rs [(a0, .inr (9, [.null, .null, .ref q1, .ref q2])), (q1, (arJ G 24 (fun _ => 0))), (q2, (arI G 1536 (fun _ => 0)))] hP hD ?_
  clear hP hD
  intro hP hD
  refine lv_aload_n hx hb dX9_init_21 rfl (lv_at hl 0 rfl) ?_
  refine lv_aload_n hx hb dX9_init_22 rfl (lv_at hl 1 rfl) ?_
  refine va_putF (D := G.1) (ci := 9) (v := .ref a1) (ty := .object "LateGlass$House") (C := RX9) (T := TX9) (N := 4) hx hb hts inG_X9 tyX9 tyX9_ok nmX9 hown hK hP hD hS 0 rfl rfl 0 (by decide +kernel) (hts _ fl_X9_19) (fun _ h9 => h9) rfl hin rfl (by decide +kernel) rfl rfl (Nat.le_of_ble_eq_true rfl) dX9_init_23 ?_
  clear hP hD hS
  intro H locs hP hD hS
  refine g5_rs [(a0, .inr (9, [.ref a1, .null, .ref q1, .ref q2])), (q1, (arJ G 24 (fun _ => 0))), (q2, (arI G 1536 (fun _ => 0)))] hP hD ?_
  clear hP hD
  intro hP hD
  refine lv_aload_n hx hb dX9_init_26 rfl (lv_at hl 0 rfl) ?_
  refine lv_aload_n hx hb dX9_init_27 rfl (lv_at hl 2 rfl) ?_
  refine va_putF (D := G.1) (ci := 9) (v := .ref a2) (ty := .object "LateGlass$Look") (C := RX9) (T := TX9) (N := 4) hx hb hts inG_X9 tyX9 tyX9_ok nmX9 hown hK hP hD hS 0 rfl rfl 1 (by decide +kernel) (hts _ fl_X9_23) (fun _ h9 => h9) rfl hin rfl (by decide +kernel) rfl rfl (Nat.le_of_ble_eq_true rfl) dX9_init_28 ?_
  clear hP hD hS
  intro H locs hP hD hS
  refine g5_rs [(a0, (oc9 a1 a2 q1 q2)), (q1, (arJ G 24 (fun _ => 0))), (q2, (arI G 1536 (fun _ => 0)))] hP hD ?_
  clear hP hD
  intro hP hD
  exact W.vret hx hb hr (fun t ht hW => ⟨⟨[(a0, (oc9 a1 a2 q1 q2)), (q1, (arJ G 24 (fun _ => 0))), (q2, (arI G 1536 (fun _ => 0)))], rfl, ⟨q1, q2, rfl⟩, by rw [ht]; exact hP, hD⟩, hS.F ht⟩) hS.2.2 dX9_init_31
theorem cd_X9_init : Cond.code yX9_init cX9_init 3 none ∈ tblG := tg 378 (by decide +kernel) (by decide +kernel)
theorem gW_X9_init : GoodIn tblG (wsG yX9_init cX9_init 3 none) := tgi cd_X9_init
theorem ml_X11_58 : Cond.methodLink RX11 58 yX9_init ∈ tblG := tg 376 (by decide +kernel) (by decide +kernel)
theorem im_X9_init : Cond.instanceMethod yX9_init ∈ tblG := tg 377 (by decide +kernel) (by decide +kernel)
theorem hs_X9_init : yX9_init.cls ≠ "java/lang/invoke/MethodHandle" ∧ yX9_init.cls ≠ "java/lang/invoke/VarHandle" ∧ (parseMethodDescriptor yX9_init.desc).map (fun d => d.parameters.length) = some 2 := by decide +kernel
theorem cl_X11_63 : Cond.classLink RX11 63 RX4 ∈ tblG := tg 393 (by decide +kernel) (by decide +kernel)
theorem oi_X4_3 : Cond.methodLink RX4 3 objectInit ∈ tblG := tg 398 (by decide +kernel) (by decide +kernel)
theorem cl_X4_9 : Cond.classLink RX4 9 RX8 ∈ tblG := tg 399 (by decide +kernel) (by decide +kernel)
theorem oi_X8_3 : Cond.methodLink RX8 3 objectInit ∈ tblG := tg 404 (by decide +kernel) (by decide +kernel)
theorem dgX8_init_0 : ∀ r ∈ ([(0, (.aload_n 0, 1)), (1, (.invokespecial 3, 3)), (4, (.aload_n 0, 1)), (5, (.sipush 401, 3)), (8, (.newarray .int, 2)), (10, (.putfield 9, 3)), (13, (.aload_n 0, 1)), (14, (.sipush 401, 3)), (17, (.newarray .int, 2)), (19, (.putfield 15, 3)), (22, (.aload_n 0, 1)), (23, (.sipush 401, 3)), (26, (.newarray .int, 2)), (28, (.putfield 18, 3)), (31, (.return_, 1))] : List (Nat × (Instr × Nat))), decode cX8_init r.1 = .ok r.2 := by decide +kernel
theorem dX8_init_0 : decode cX8_init 0 = .ok (.aload_n 0, 1) := dgX8_init_0 (0, (.aload_n 0, 1)) (List.mem_of_getElem? (i := 0) rfl)
theorem dX8_init_1 : decode cX8_init 1 = .ok (.invokespecial 3, 3) := dgX8_init_0 (1, (.invokespecial 3, 3)) (List.mem_of_getElem? (i := 1) rfl)
theorem dX8_init_4 : decode cX8_init 4 = .ok (.aload_n 0, 1) := dgX8_init_0 (4, (.aload_n 0, 1)) (List.mem_of_getElem? (i := 2) rfl)
theorem dX8_init_5 : decode cX8_init 5 = .ok (.sipush 401, 3) := dgX8_init_0 (5, (.sipush 401, 3)) (List.mem_of_getElem? (i := 3) rfl)
theorem dX8_init_8 : decode cX8_init 8 = .ok (.newarray .int, 2) := dgX8_init_0 (8, (.newarray .int, 2)) (List.mem_of_getElem? (i := 4) rfl)
theorem dX8_init_10 : decode cX8_init 10 = .ok (.putfield 9, 3) := dgX8_init_0 (10, (.putfield 9, 3)) (List.mem_of_getElem? (i := 5) rfl)
theorem dX8_init_13 : decode cX8_init 13 = .ok (.aload_n 0, 1) := dgX8_init_0 (13, (.aload_n 0, 1)) (List.mem_of_getElem? (i := 6) rfl)
theorem dX8_init_14 : decode cX8_init 14 = .ok (.sipush 401, 3) := dgX8_init_0 (14, (.sipush 401, 3)) (List.mem_of_getElem? (i := 7) rfl)
theorem dX8_init_17 : decode cX8_init 17 = .ok (.newarray .int, 2) := dgX8_init_0 (17, (.newarray .int, 2)) (List.mem_of_getElem? (i := 8) rfl)
theorem dX8_init_19 : decode cX8_init 19 = .ok (.putfield 15, 3) := dgX8_init_0 (19, (.putfield 15, 3)) (List.mem_of_getElem? (i := 9) rfl)
theorem dX8_init_22 : decode cX8_init 22 = .ok (.aload_n 0, 1) := dgX8_init_0 (22, (.aload_n 0, 1)) (List.mem_of_getElem? (i := 10) rfl)
theorem dX8_init_23 : decode cX8_init 23 = .ok (.sipush 401, 3) := dgX8_init_0 (23, (.sipush 401, 3)) (List.mem_of_getElem? (i := 11) rfl)
theorem dX8_init_26 : decode cX8_init 26 = .ok (.newarray .int, 2) := dgX8_init_0 (26, (.newarray .int, 2)) (List.mem_of_getElem? (i := 12) rfl)
theorem dX8_init_28 : decode cX8_init 28 = .ok (.putfield 18, 3) := dgX8_init_0 (28, (.putfield 18, 3)) (List.mem_of_getElem? (i := 13) rfl)
theorem dX8_init_31 : decode cX8_init 31 = .ok (.return_, 1) := dgX8_init_0 (31, (.return_, 1)) (List.mem_of_getElem? (i := 14) rfl)
set_option maxHeartbeats 4000000 in
set_option maxRecDepth 100000 in
theorem kX8_init (l : Launch) (G : g5_G) (a0 : Nat) (sz : Nat) : Met l yX8_init (wsG yX8_init cX8_init 1 none) ({ frames := 1, cells := 3, slots := 1203, locals := 12 }) (va_Pc [.ref a0] (g5_P G [(a0, .inr (8, [.null, .null, .null]))] sz)) (va_Qv (fun (u : va_W) => (∃ (q1 : Nat) (q2 : Nat) (q3 : Nat), (u = [(a0, (oc8 q1 q2 q3)), (q1, (arI G 401 (fun _ => 0))), (q2, (arI G 401 (fun _ => 0))), (q3, (arI G 401 (fun _ => 0)))]))) (g5_B G (va_A [(a0, .inr (8, [.null, .null, .null]))] sz)) (va_A [(a0, .inr (8, [.null, .null, .null]))] sz)) 3 1203 (va_A [(a0, .inr (8, [.null, .null, .null]))] sz) := by
  refine Met.ofW (cc := cX8_init) (maxL := 1) (ret := none) (by decide +kernel) rfl ?_
  intro p e s m args below meth c s₁ B hml hv
  obtain ⟨rfl, hsz, hP, hK, hD0, hN, hT⟩ := hv
  have hx := B.exec
  have hb := B.bytes
  have hr := B.returns
  have hts : ∀ w ∈ tblG, w.before _ s = true := fun w h => atoms_spec (ws := (wsG yX8_init cX8_init 1 none)) B.pre w (List.mem_cons_of_mem _ h)
  have hown : s.vm.findClass RX8 = some m.cls := findClass_of_methodNamed B.named
  have hlocks := B.notSynchronized
  have hin : meth.name = "<init>" := (name_of_methodNamed B.named B.method).1
  subst hsz
  have hD := hD0.self (sz := s.heap.size)
  generalize hAe : va_A [(a0, .inr (8, [.null, .null, .null]))] s.heap.size = A at hD hT ⊢
  have hA : ∀ q : Nat, s.heap.size ≤ q → A q := fun q h => by rw [← hAe]; exact Or.inr h
  have hS : va_S A s.heap s.heap [] := va_S.rf
  replace hP : va_P G.1 vwCl [(a0, .inr (8, [.null, .null, .null]))] s.heap := hP
  have hl := lv_entry ([.ref a0]) (n := 1) (Nat.le_of_ble_eq_true rfl)
  rw [lg_entry_eq]
  generalize (lg_sl ([.ref a0]) ++ List.replicate (1 - (lg_sl ([.ref a0])).length) Slot.unset).toArray = ls at hl ⊢
  replace hl : lv_has ls 1 [(0, .ref a0)] := hl
  refine lv_aload_n hx hb dX8_init_0 rfl (lv_at hl 0 rfl) ?_
  refine W.objInit hx hb hown (hts _ oi_X8_3) (hts _ oi_im) (hts _ oi_cd) rfl (by rw [hml]; exact hl.1) rfl dX8_init_1 (Nat.le_of_ble_eq_true rfl) (Nat.le_of_ble_eq_true rfl) ?_
  refine W.eq (g2 := F0 m 4 ls []) rfl ?_
  refine lv_aload_n hx hb dX8_init_4 rfl (lv_at hl 0 rfl) ?_
  refine lv_sipush (v := 401) hx hb dX8_init_5 (by decide +kernel) ?_
  refine va_newa (D := G.1) (atype := .int) (ty := .int) hx hb (hts _ acl_I) rfl hK hP hD hS hA (n := 401) (N' := 401) (a0 := (401, .inl (fun _ => 0))) (fun _ => rfl) (by decide +kernel) (by decide +kernel) (by decide +kernel) (Nat.le_of_ble_eq_true rfl) (Nat.le_of_ble_eq_true rfl) dX8_init_8 (fun q1 cA H hKn hP hD hS => ?_)
  obtain rfl : cA = G.2 0 := g5_cI hKn
  refine g5_rs [(a0, .inr (8, [.null, .null, .null])), (q1, (arI G 401 (fun _ => 0)))] hP hD ?_
  clear hP hD
  intro hP hD
  refine W.widen (k := 1) (n := 401) (Nat.le_of_ble_eq_true rfl) (Nat.le_of_ble_eq_true rfl) ?_
  refine va_putF (D := G.1) (ci := 8) (v := .ref q1) (ty := .array .int) (C := RX8) (T := TX8) (N := 3) hx hb hts inG_X8 tyX8 tyX8_ok nmX8 hown hK hP hD hS 0 rfl rfl 0 (by decide +kernel) (hts _ fl_X8_9) (fun _ h9 => h9) rfl hin rfl (by decide +kernel) rfl rfl (Nat.le_of_ble_eq_true rfl) dX8_init_10 ?_
  clear hP hD hS
  intro H locs hP hD hS
  refine g5_rs [(a0, .inr (8, [.ref q1, .null, .null])), (q1, (arI G 401 (fun _ => 0)))] hP hD ?_
  clear hP hD
  intro hP hD
  refine lv_aload_n hx hb dX8_init_13 rfl (lv_at hl 0 rfl) ?_
  refine lv_sipush (v := 401) hx hb dX8_init_14 (by decide +kernel) ?_
  refine va_newa (D := G.1) (atype := .int) (ty := .int) hx hb (hts _ acl_I) rfl hK hP hD hS hA (n := 401) (N' := 401) (a0 := (401, .inl (fun _ => 0))) (fun _ => rfl) (by decide +kernel) (by decide +kernel) (by decide +kernel) (Nat.le_of_ble_eq_true rfl) (Nat.le_of_ble_eq_true rfl) dX8_init_17 (fun q2 cA H hKn hP hD hS => ?_)
  obtain rfl : cA = G.2 0 := g5_cI hKn
  refine g5_rs [(a0, .inr (8, [.ref q1, .null, .null])), (q1, (arI G 401 (fun _ => 0))), (q2, (arI G 401 (fun _ => 0)))] hP hD ?_
  clear hP hD
  intro hP hD
  refine W.widen (k := 2) (n := 802) (Nat.le_of_ble_eq_true rfl) (Nat.le_of_ble_eq_true rfl) ?_
  refine va_putF (D := G.1) (ci := 8) (v := .ref q2) (ty := .array .int) (C := RX8) (T := TX8) (N := 3) hx hb hts inG_X8 tyX8 tyX8_ok nmX8 hown hK hP hD hS 0 rfl rfl 1 (by decide +kernel) (hts _ fl_X8_15) (fun _ h9 => h9) rfl hin rfl (by decide +kernel) rfl rfl (Nat.le_of_ble_eq_true rfl) dX8_init_19 ?_
  clear hP hD hS
  intro H locs hP hD hS
  refine g5_rs [(a0, .inr (8, [.ref q1, .ref q2, .null])), (q1, (arI G 401 (fun _ => 0))), (q2, (arI G 401 (fun _ => 0)))] hP hD ?_
  clear hP hD
  intro hP hD
  refine lv_aload_n hx hb dX8_init_22 rfl (lv_at hl 0 rfl) ?_
  refine lv_sipush (v := 401) hx hb dX8_init_23 (by decide +kernel) ?_
  refine va_newa (D := G.1) (atype := .int) (ty := .int) hx hb (hts _ acl_I) rfl hK hP hD hS hA (n := 401) (N' := 401) (a0 := (401, .inl (fun _ => 0))) (fun _ => rfl) (by decide +kernel) (by decide +kernel) (by decide +kernel) (Nat.le_of_ble_eq_true rfl) (Nat.le_of_ble_eq_true rfl) dX8_init_26 (fun q3 cA H hKn hP hD hS => ?_)
  obtain rfl : cA = G.2 0 := g5_cI hKn
  refine g5_rs [(a0, .inr (8, [.ref q1, .ref q2, .null])), (q1, (arI G 401 (fun _ => 0))), (q2, (arI G 401 (fun _ => 0))), (q3, (arI G 401 (fun _ => 0)))] hP hD ?_
  clear hP hD
  intro hP hD
  refine W.widen (k := 3) (n := 1203) (Nat.le_of_ble_eq_true rfl) (Nat.le_of_ble_eq_true rfl) ?_
  refine va_putF (D := G.1) (ci := 8) (v := .ref q3) (ty := .array .int) (C := RX8) (T := TX8) (N := 3) hx hb hts inG_X8 tyX8 tyX8_ok nmX8 hown hK hP hD hS 0 rfl rfl 2 (by decide +kernel) (hts _ fl_X8_18) (fun _ h9 => h9) rfl hin rfl (by decide +kernel) rfl rfl (Nat.le_of_ble_eq_true rfl) dX8_init_28 ?_
  clear hP hD hS
  intro H locs hP hD hS
  refine g5_rs [(a0, (oc8 q1 q2 q3)), (q1, (arI G 401 (fun _ => 0))), (q2, (arI G 401 (fun _ => 0))), (q3, (arI G 401 (fun _ => 0)))] hP hD ?_
  clear hP hD
  intro hP hD
  exact W.vret hx hb hr (fun t ht hW => ⟨⟨[(a0, (oc8 q1 q2 q3)), (q1, (arI G 401 (fun _ => 0))), (q2, (arI G 401 (fun _ => 0))), (q3, (arI G 401 (fun _ => 0)))], rfl, ⟨q1, q2, q3, rfl⟩, by rw [ht]; exact hP, hD⟩, hS.F ht⟩) hS.2.2 dX8_init_31
theorem cd_X8_init : Cond.code yX8_init cX8_init 1 none ∈ tblG := tg 403 (by decide +kernel) (by decide +kernel)
theorem gW_X8_init : GoodIn tblG (wsG yX8_init cX8_init 1 none) := tgi cd_X8_init
theorem hs_X8_init : yX8_init.cls ≠ "java/lang/invoke/MethodHandle" ∧ yX8_init.cls ≠ "java/lang/invoke/VarHandle" ∧ (parseMethodDescriptor yX8_init.desc).map (fun d => d.parameters.length) = some 0 := by decide +kernel
theorem im_X8_init : Cond.instanceMethod yX8_init ∈ tblG := tg 402 (by decide +kernel) (by decide +kernel)
theorem dgX4_init_0 : ∀ r ∈ ([(0, (.aload_n 0, 1)), (1, (.invokespecial 3, 3)), (4, (.aload_n 0, 1)), (5, (.new 9, 3)), (8, (.dup, 1)), (9, (.invokespecial 11, 3)), (12, (.putfield 12, 3)), (15, (.aload_n 0, 1)), (16, (.bipush 12, 2)), (18, (.newarray .int, 2)), (20, (.putfield 18, 3)), (23, (.aload_n 0, 1)), (24, (.bipush 13, 2)), (26, (.newarray .int, 2)), (28, (.putfield 22, 3)), (31, (.aload_n 0, 1)), (32, (.sipush 400, 3)), (35, (.newarray .int, 2)), (37, (.putfield 25, 3)), (40, (.aload_n 0, 1)), (41, (.iconst (-1), 1)), (42, (.putfield 28, 3)), (45, (.return_, 1))] : List (Nat × (Instr × Nat))), decode cX4_init r.1 = .ok r.2 := by decide +kernel
theorem dX4_init_0 : decode cX4_init 0 = .ok (.aload_n 0, 1) := dgX4_init_0 (0, (.aload_n 0, 1)) (List.mem_of_getElem? (i := 0) rfl)
theorem dX4_init_1 : decode cX4_init 1 = .ok (.invokespecial 3, 3) := dgX4_init_0 (1, (.invokespecial 3, 3)) (List.mem_of_getElem? (i := 1) rfl)
theorem dX4_init_4 : decode cX4_init 4 = .ok (.aload_n 0, 1) := dgX4_init_0 (4, (.aload_n 0, 1)) (List.mem_of_getElem? (i := 2) rfl)
theorem dX4_init_5 : decode cX4_init 5 = .ok (.new 9, 3) := dgX4_init_0 (5, (.new 9, 3)) (List.mem_of_getElem? (i := 3) rfl)
theorem dX4_init_8 : decode cX4_init 8 = .ok (.dup, 1) := dgX4_init_0 (8, (.dup, 1)) (List.mem_of_getElem? (i := 4) rfl)
theorem dX4_init_9 : decode cX4_init 9 = .ok (.invokespecial 11, 3) := dgX4_init_0 (9, (.invokespecial 11, 3)) (List.mem_of_getElem? (i := 5) rfl)
theorem dX4_init_12 : decode cX4_init 12 = .ok (.putfield 12, 3) := dgX4_init_0 (12, (.putfield 12, 3)) (List.mem_of_getElem? (i := 6) rfl)
theorem dX4_init_15 : decode cX4_init 15 = .ok (.aload_n 0, 1) := dgX4_init_0 (15, (.aload_n 0, 1)) (List.mem_of_getElem? (i := 7) rfl)
theorem dX4_init_16 : decode cX4_init 16 = .ok (.bipush 12, 2) := dgX4_init_0 (16, (.bipush 12, 2)) (List.mem_of_getElem? (i := 8) rfl)
theorem dX4_init_18 : decode cX4_init 18 = .ok (.newarray .int, 2) := dgX4_init_0 (18, (.newarray .int, 2)) (List.mem_of_getElem? (i := 9) rfl)
theorem dX4_init_20 : decode cX4_init 20 = .ok (.putfield 18, 3) := dgX4_init_0 (20, (.putfield 18, 3)) (List.mem_of_getElem? (i := 10) rfl)
theorem dX4_init_23 : decode cX4_init 23 = .ok (.aload_n 0, 1) := dgX4_init_0 (23, (.aload_n 0, 1)) (List.mem_of_getElem? (i := 11) rfl)
theorem dX4_init_24 : decode cX4_init 24 = .ok (.bipush 13, 2) := dgX4_init_0 (24, (.bipush 13, 2)) (List.mem_of_getElem? (i := 12) rfl)
theorem dX4_init_26 : decode cX4_init 26 = .ok (.newarray .int, 2) := dgX4_init_0 (26, (.newarray .int, 2)) (List.mem_of_getElem? (i := 13) rfl)
theorem dX4_init_28 : decode cX4_init 28 = .ok (.putfield 22, 3) := dgX4_init_0 (28, (.putfield 22, 3)) (List.mem_of_getElem? (i := 14) rfl)
theorem dX4_init_31 : decode cX4_init 31 = .ok (.aload_n 0, 1) := dgX4_init_0 (31, (.aload_n 0, 1)) (List.mem_of_getElem? (i := 15) rfl)
theorem dX4_init_32 : decode cX4_init 32 = .ok (.sipush 400, 3) := dgX4_init_0 (32, (.sipush 400, 3)) (List.mem_of_getElem? (i := 16) rfl)
theorem dX4_init_35 : decode cX4_init 35 = .ok (.newarray .int, 2) := dgX4_init_0 (35, (.newarray .int, 2)) (List.mem_of_getElem? (i := 17) rfl)
theorem dX4_init_37 : decode cX4_init 37 = .ok (.putfield 25, 3) := dgX4_init_0 (37, (.putfield 25, 3)) (List.mem_of_getElem? (i := 18) rfl)
theorem dX4_init_40 : decode cX4_init 40 = .ok (.aload_n 0, 1) := dgX4_init_0 (40, (.aload_n 0, 1)) (List.mem_of_getElem? (i := 19) rfl)
theorem dX4_init_41 : decode cX4_init 41 = .ok (.iconst (-1), 1) := dgX4_init_0 (41, (.iconst (-1), 1)) (List.mem_of_getElem? (i := 20) rfl)
theorem dX4_init_42 : decode cX4_init 42 = .ok (.putfield 28, 3) := dgX4_init_0 (42, (.putfield 28, 3)) (List.mem_of_getElem? (i := 21) rfl)
theorem dX4_init_45 : decode cX4_init 45 = .ok (.return_, 1) := dgX4_init_0 (45, (.return_, 1)) (List.mem_of_getElem? (i := 22) rfl)
set_option maxHeartbeats 4000000 in
set_option maxRecDepth 100000 in
theorem kX4_init (l : Launch) (G : g5_G) (a0 : Nat) (sz : Nat) : Met l yX4_init (wsG yX4_init cX4_init 1 none) ({ frames := 2, cells := 7, slots := 1631, locals := 32 }) (va_Pc [.ref a0] (g5_P G [(a0, .inr (4, [.null, .null, .null, .null, .int 0, .int 0, .int 0, .int 0]))] sz)) (va_Qv (fun (u : va_W) => (∃ (q1 : Nat) (q2 : Nat) (q3 : Nat) (q4 : Nat) (q5 : Nat) (q6 : Nat) (q7 : Nat), (u = [(a0, (oc4 q1 q5 q6 q7 0 0 0 (-1))), (q1, (oc8 q2 q3 q4)), (q2, (arI G 401 (fun _ => 0))), (q3, (arI G 401 (fun _ => 0))), (q4, (arI G 401 (fun _ => 0))), (q5, (arI G 12 (fun _ => 0))), (q6, (arI G 13 (fun _ => 0))), (q7, (arI G 400 (fun _ => 0)))]))) (g5_B G (va_A [(a0, .inr (4, [.null, .null, .null, .null, .int 0, .int 0, .int 0, .int 0]))] sz)) (va_A [(a0, .inr (4, [.null, .null, .null, .null, .int 0, .int 0, .int 0, .int 0]))] sz)) 7 1631 (va_A [(a0, .inr (4, [.null, .null, .null, .null, .int 0, .int 0, .int 0, .int 0]))] sz) := by
  refine Met.ofW (cc := cX4_init) (maxL := 1) (ret := none) (by decide +kernel) rfl ?_
  intro p e s m args below meth c s₁ B hml hv
  obtain ⟨rfl, hsz, hP, hK, hD0, hN, hT⟩ := hv
  have hx := B.exec
  have hb := B.bytes
  have hr := B.returns
  have hts : ∀ w ∈ tblG, w.before _ s = true := fun w h => atoms_spec (ws := (wsG yX4_init cX4_init 1 none)) B.pre w (List.mem_cons_of_mem _ h)
  have hown : s.vm.findClass RX4 = some m.cls := findClass_of_methodNamed B.named
  have hlocks := B.notSynchronized
  have hin : meth.name = "<init>" := (name_of_methodNamed B.named B.method).1
  subst hsz
  have hD := hD0.self (sz := s.heap.size)
  generalize hAe : va_A [(a0, .inr (4, [.null, .null, .null, .null, .int 0, .int 0, .int 0, .int 0]))] s.heap.size = A at hD hT ⊢
  have hA : ∀ q : Nat, s.heap.size ≤ q → A q := fun q h => by rw [← hAe]; exact Or.inr h
  have hS : va_S A s.heap s.heap [] := va_S.rf
  replace hP : va_P G.1 vwCl [(a0, .inr (4, [.null, .null, .null, .null, .int 0, .int 0, .int 0, .int 0]))] s.heap := hP
  have hl := lv_entry ([.ref a0]) (n := 1) (Nat.le_of_ble_eq_true rfl)
  rw [lg_entry_eq]
  generalize (lg_sl ([.ref a0]) ++ List.replicate (1 - (lg_sl ([.ref a0])).length) Slot.unset).toArray = ls at hl ⊢
  replace hl : lv_has ls 1 [(0, .ref a0)] := hl
  refine lv_aload_n hx hb dX4_init_0 rfl (lv_at hl 0 rfl) ?_
  refine W.objInit hx hb hown (hts _ oi_X4_3) (hts _ oi_im) (hts _ oi_cd) rfl (by rw [hml]; exact hl.1) rfl dX4_init_1 (Nat.le_of_ble_eq_true rfl) (Nat.le_of_ble_eq_true rfl) ?_
  refine W.eq (g2 := F0 m 4 ls []) rfl ?_
  refine lv_aload_n hx hb dX4_init_4 rfl (lv_at hl 0 rfl) ?_
  refine va_new (D := G.1) (ci := 8) (fs := [.null, .null, .null]) (C := RX8) (T := TX8) (N := 3) hx hb hts inG_X8 tyX8 tyX8_ok hown (hts _ cl_X4_9) (hts _ isn_X8) (hts _ ini_X8) hK hP hD hS hA rfl (fun j hj => by rcases (show j = 0 ∨ j = 1 ∨ j = 2 by omega) with rfl | rfl | rfl <;> rfl) (Nat.le_of_ble_eq_true rfl) (Nat.le_of_ble_eq_true rfl) dX4_init_5 (fun q1 H hP hD hS => ?_)
  refine g5_rs [(a0, .inr (4, [.null, .null, .null, .null, .int 0, .int 0, .int 0, .int 0])), (q1, .inr (8, [.null, .null, .null]))] hP hD ?_
  clear hP hD
  intro hP hD
  refine W.widen (k := 1) (n := 3) (Nat.le_of_ble_eq_true rfl) (Nat.le_of_ble_eq_true rfl) ?_
  refine lv_dup hx hb dX4_init_8 rfl ?_
  obtain ⟨hPc, hDc, hFc⟩ := g5_sub3 (wc := [(q1, .inr (8, [.null, .null, .null]))]) hP hD hS hA [1] (by decide +kernel) rfl
  refine va_callv (va_runIN (As := []) (rest := [.ref q1, .ref a0]) ⟨hx, hb, hml, hown, hts⟩ (kX8_init l G q1 H.size) ⟨va_cnB 0 hts gW_X8_init rfl rfl rfl (hN.1 _ g5_nw_X4_11) (hts _ ini_X8) hs_X8_init ⟨Nat.le_of_ble_eq_true rfl, Nat.le_of_ble_eq_true rfl⟩, rfl, hts _ im_X8_init⟩ (g5_preS hPc hK hDc hN hT hS hFc) rfl rfl hl.1 rfl (lv_room (Nat.le_of_ble_eq_true rfl)) dX4_init_9 ⟨Nat.le_of_ble_eq_true rfl, Nat.le_of_ble_eq_true rfl⟩) hS (fun q _ h => hFc q h) hFc (fun u t H locs ht hvm hw hB hz1 hk1 hS => ?_)
  obtain ⟨hP1, hD1⟩ := hB
  have hP1 := g5_ht ht hP1
  refine W.widen (k := 4) (n := 1206) (Nat.le_of_ble_eq_true rfl) (Nat.le_of_ble_eq_true rfl) ?_
  obtain ⟨q2, q3, q4, rfl⟩ := hw
  have hJ9 := va_join (wr := [(a0, .inr (4, [.null, .null, .null, .null, .int 0, .int 0, .int 0, .int 0]))]) hP hD [1] [0] rfl rfl (by decide +kernel) (by decide +kernel) hk1 hFc hP1 hD1
  clear hP hD hPc hDc hFc ht hvm hz1 hk1 hP1 hD1
  obtain ⟨hP, hD⟩ := hJ9
  refine g5_rs [(a0, .inr (4, [.null, .null, .null, .null, .int 0, .int 0, .int 0, .int 0])), (q1, (oc8 q2 q3 q4)), (q2, (arI G 401 (fun _ => 0))), (q3, (arI G 401 (fun _ => 0))), (q4, (arI G 401 (fun _ => 0)))] hP hD ?_
  clear hP hD
  intro hP hD
  refine va_putF (D := G.1) (ci := 4) (v := .ref q1) (ty := .object "LateGlass$Tokens") (C := RX4) (T := TX4) (N := 8) hx hb hts inG_X4 tyX4 tyX4_ok nmX4 hown hK hP hD hS 0 rfl rfl 0 (by decide +kernel) (hts _ fl_X4_12) (fun _ h9 => h9) rfl hin rfl (by decide +kernel) rfl rfl (Nat.le_of_ble_eq_true rfl) dX4_init_12 ?_
  clear hP hD hS
  intro H locs hP hD hS
  refine g5_rs [(a0, .inr (4, [.ref q1, .null, .null, .null, .int 0, .int 0, .int 0, .int 0])), (q1, (oc8 q2 q3 q4)), (q2, (arI G 401 (fun _ => 0))), (q3, (arI G 401 (fun _ => 0))), (q4, (arI G 401 (fun _ => 0)))] hP hD ?_
  clear hP hD
  intro hP hD
  refine lv_aload_n hx hb dX4_init_15 rfl (lv_at hl 0 rfl) ?_
  refine lv_bipush (v := 12) hx hb dX4_init_16 (by decide +kernel) ?_
  refine va_newa (D := G.1) (atype := .int) (ty := .int) hx hb (hts _ acl_I) rfl hK hP hD hS hA (n := 12) (N' := 12) (a0 := (12, .inl (fun _ => 0))) (fun _ => rfl) (by decide +kernel) (by decide +kernel) (by decide +kernel) (Nat.le_of_ble_eq_true rfl) (Nat.le_of_ble_eq_true rfl) dX4_init_18 (fun q5 cA H hKn hP hD hS => ?_)
  obtain rfl : cA = G.2 0 := g5_cI hKn
  refine g5_rs [(a0, .inr (4, [.ref q1, .null, .null, .null, .int 0, .int 0, .int 0, .int 0])), (q1, (oc8 q2 q3 q4)), (q2, (arI G 401 (fun _ => 0))), (q3, (arI G 401 (fun _ => 0))), (q4, (arI G 401 (fun _ => 0))), (q5, (arI G 12 (fun _ => 0)))] hP hD ?_
  clear hP hD
  intro hP hD
  refine W.widen (k := 5) (n := 1218) (Nat.le_of_ble_eq_true rfl) (Nat.le_of_ble_eq_true rfl) ?_
  refine va_putF (D := G.1) (ci := 4) (v := .ref q5) (ty := .array .int) (C := RX4) (T := TX4) (N := 8) hx hb hts inG_X4 tyX4 tyX4_ok nmX4 hown hK hP hD hS 0 rfl rfl 1 (by decide +kernel) (hts _ fl_X4_18) (fun _ h9 => h9) rfl hin rfl (by decide +kernel) rfl rfl (Nat.le_of_ble_eq_true rfl) dX4_init_20 ?_
  clear hP hD hS
  intro H locs hP hD hS
  refine g5_rs [(a0, .inr (4, [.ref q1, .ref q5, .null, .null, .int 0, .int 0, .int 0, .int 0])), (q1, (oc8 q2 q3 q4)), (q2, (arI G 401 (fun _ => 0))), (q3, (arI G 401 (fun _ => 0))), (q4, (arI G 401 (fun _ => 0))), (q5, (arI G 12 (fun _ => 0)))] hP hD ?_
  clear hP hD
  intro hP hD
  refine lv_aload_n hx hb dX4_init_23 rfl (lv_at hl 0 rfl) ?_
  refine lv_bipush (v := 13) hx hb dX4_init_24 (by decide +kernel) ?_
  refine va_newa (D := G.1) (atype := .int) (ty := .int) hx hb (hts _ acl_I) rfl hK hP hD hS hA (n := 13) (N' := 13) (a0 := (13, .inl (fun _ => 0))) (fun _ => rfl) (by decide +kernel) (by decide +kernel) (by decide +kernel) (Nat.le_of_ble_eq_true rfl) (Nat.le_of_ble_eq_true rfl) dX4_init_26 (fun q6 cA H hKn hP hD hS => ?_)
  obtain rfl : cA = G.2 0 := g5_cI hKn
  refine g5_rs [(a0, .inr (4, [.ref q1, .ref q5, .null, .null, .int 0, .int 0, .int 0, .int 0])), (q1, (oc8 q2 q3 q4)), (q2, (arI G 401 (fun _ => 0))), (q3, (arI G 401 (fun _ => 0))), (q4, (arI G 401 (fun _ => 0))), (q5, (arI G 12 (fun _ => 0))), (q6, (arI G 13 (fun _ => 0)))] hP hD ?_
  clear hP hD
  intro hP hD
  refine W.widen (k := 6) (n := 1231) (Nat.le_of_ble_eq_true rfl) (Nat.le_of_ble_eq_true rfl) ?_
  refine va_putF (D := G.1) (ci := 4) (v := .ref q6) (ty := .array .int) (C := RX4) (T := TX4) (N := 8) hx hb hts inG_X4 tyX4 tyX4_ok nmX4 hown hK hP hD hS 0 rfl rfl 2 (by decide +kernel) (hts _ fl_X4_22) (fun _ h9 => h9) rfl hin rfl (by decide +kernel) rfl rfl (Nat.le_of_ble_eq_true rfl) dX4_init_28 ?_
  clear hP hD hS
  intro H locs hP hD hS
  refine g5_rs [(a0, .inr (4, [.ref q1, .ref q5, .ref q6, .null, .int 0, .int 0, .int 0, .int 0])), (q1, (oc8 q2 q3 q4)), (q2, (arI G 401 (fun _ => 0))), (q3, (arI G 401 (fun _ => 0))), (q4, (arI G 401 (fun _ => 0))), (q5, (arI G 12 (fun _ => 0))), (q6, (arI G 13 (fun _ => 0)))] hP hD ?_
  clear hP hD
  intro hP hD
  refine lv_aload_n hx hb dX4_init_31 rfl (lv_at hl 0 rfl) ?_
  refine lv_sipush (v := 400) hx hb dX4_init_32 (by decide +kernel) ?_
  refine va_newa (D := G.1) (atype := .int) (ty := .int) hx hb (hts _ acl_I) rfl hK hP hD hS hA (n := 400) (N' := 400) (a0 := (400, .inl (fun _ => 0))) (fun _ => rfl) (by decide +kernel) (by decide +kernel) (by decide +kernel) (Nat.le_of_ble_eq_true rfl) (Nat.le_of_ble_eq_true rfl) dX4_init_35 (fun q7 cA H hKn hP hD hS => ?_)
  obtain rfl : cA = G.2 0 := g5_cI hKn
  refine g5_rs [(a0, .inr (4, [.ref q1, .ref q5, .ref q6, .null, .int 0, .int 0, .int 0, .int 0])), (q1, (oc8 q2 q3 q4)), (q2, (arI G 401 (fun _ => 0))), (q3, (arI G 401 (fun _ => 0))), (q4, (arI G 401 (fun _ => 0))), (q5, (arI G 12 (fun _ => 0))), (q6, (arI G 13 (fun _ => 0))), (q7, (arI G 400 (fun _ => 0)))] hP hD ?_
  clear hP hD
  intro hP hD
  refine W.widen (k := 7) (n := 1631) (Nat.le_of_ble_eq_true rfl) (Nat.le_of_ble_eq_true rfl) ?_
  refine va_putF (D := G.1) (ci := 4) (v := .ref q7) (ty := .array .int) (C := RX4) (T := TX4) (N := 8) hx hb hts inG_X4 tyX4 tyX4_ok nmX4 hown hK hP hD hS 0 rfl rfl 3 (by decide +kernel) (hts _ fl_X4_25) (fun _ h9 => h9) rfl hin rfl (by decide +kernel) rfl rfl (Nat.le_of_ble_eq_true rfl) dX4_init_37 ?_
  clear hP hD hS
  intro H locs hP hD hS
  refine g5_rs [(a0, (oc4 q1 q5 q6 q7 0 0 0 0)), (q1, (oc8 q2 q3 q4)), (q2, (arI G 401 (fun _ => 0))), (q3, (arI G 401 (fun _ => 0))), (q4, (arI G 401 (fun _ => 0))), (q5, (arI G 12 (fun _ => 0))), (q6, (arI G 13 (fun _ => 0))), (q7, (arI G 400 (fun _ => 0)))] hP hD ?_
  clear hP hD
  intro hP hD
  refine lv_aload_n hx hb dX4_init_40 rfl (lv_at hl 0 rfl) ?_
  refine lv_iconst (v := (-1)) hx hb dX4_init_41 (by decide +kernel) ?_
  refine va_put (D := G.1) (ci := 4) (v := .int (-1)) (ty := .int) (C := RX4) (T := TX4) (N := 8) hx hb hts inG_X4 tyX4 tyX4_ok nmX4 hown hK hP hD hS 0 rfl rfl 7 (by decide +kernel) (hts _ fl_X4_28) (fun _ h9 => h9) rfl (by decide +kernel) rfl rfl (Nat.le_of_ble_eq_true rfl) dX4_init_42 ?_
  clear hP hD hS
  intro H locs hP hD hS
  refine g5_rs [(a0, (oc4 q1 q5 q6 q7 0 0 0 (-1))), (q1, (oc8 q2 q3 q4)), (q2, (arI G 401 (fun _ => 0))), (q3, (arI G 401 (fun _ => 0))), (q4, (arI G 401 (fun _ => 0))), (q5, (arI G 12 (fun _ => 0))), (q6, (arI G 13 (fun _ => 0))), (q7, (arI G 400 (fun _ => 0)))] hP hD ?_
  clear hP hD
  intro hP hD
  exact W.vret hx hb hr (fun t ht hW => ⟨⟨[(a0, (oc4 q1 q5 q6 q7 0 0 0 (-1))), (q1, (oc8 q2 q3 q4)), (q2, (arI G 401 (fun _ => 0))), (q3, (arI G 401 (fun _ => 0))), (q4, (arI G 401 (fun _ => 0))), (q5, (arI G 12 (fun _ => 0))), (q6, (arI G 13 (fun _ => 0))), (q7, (arI G 400 (fun _ => 0)))], rfl, ⟨q1, q2, q3, q4, q5, q6, q7, rfl⟩, by rw [ht]; exact hP, hD⟩, hS.F ht⟩) hS.2.2 dX4_init_45
theorem cd_X4_init : Cond.code yX4_init cX4_init 1 none ∈ tblG := tg 397 (by decide +kernel) (by decide +kernel)
theorem gW_X4_init : GoodIn tblG (wsG yX4_init cX4_init 1 none) := tgi cd_X4_init
theorem hs_X4_init : yX4_init.cls ≠ "java/lang/invoke/MethodHandle" ∧ yX4_init.cls ≠ "java/lang/invoke/VarHandle" ∧ (parseMethodDescriptor yX4_init.desc).map (fun d => d.parameters.length) = some 0 := by decide +kernel
theorem im_X4_init : Cond.instanceMethod yX4_init ∈ tblG := tg 396 (by decide +kernel) (by decide +kernel)
theorem dgX11_init_0 : ∀ r ∈ ([(0, (.aload_n 0, 1)), (1, (.invokespecial 3, 3)), (4, (.aload_n 0, 1)), (5, (.new 9, 3)), (8, (.dup, 1)), (9, (.invokespecial 11, 3)), (12, (.putfield 12, 3)), (15, (.aload_n 0, 1)), (16, (.iconst 2, 1)), (17, (.anewarray 9, 3)), (20, (.dup, 1)), (21, (.iconst 0, 1)), (22, (.new 9, 3)), (25, (.dup, 1)), (26, (.invokespecial 11, 3)), (29, (.aastore, 1)), (30, (.dup, 1)), (31, (.iconst 1, 1)), (32, (.new 9, 3)), (35, (.dup, 1)), (36, (.invokespecial 11, 3)), (39, (.aastore, 1)), (40, (.putfield 16, 3)), (43, (.aload_n 0, 1)), (44, (.iconst 2, 1)), (45, (.newarray .boolean, 2)), (47, (.putfield 20, 3)), (50, (.aload_n 0, 1)), (51, (.new 24, 3)), (54, (.dup, 1)), (55, (.aload_n 0, 1)), (56, (.getfield 12, 3)), (59, (.invokespecial 26, 3)), (62, (.putfield 29, 3)), (65, (.aload_n 0, 1)), (66, (.new 33, 3)), (69, (.dup, 1)), (70, (.aload_n 0, 1)), (71, (.getfield 12, 3)), (74, (.aload_n 0, 1))] : List (Nat × (Instr × Nat))), decode cX11_init r.1 = .ok r.2 := by decide +kernel
theorem dX11_init_0 : decode cX11_init 0 = .ok (.aload_n 0, 1) := dgX11_init_0 (0, (.aload_n 0, 1)) (List.mem_of_getElem? (i := 0) rfl)
theorem dX11_init_1 : decode cX11_init 1 = .ok (.invokespecial 3, 3) := dgX11_init_0 (1, (.invokespecial 3, 3)) (List.mem_of_getElem? (i := 1) rfl)
theorem dX11_init_4 : decode cX11_init 4 = .ok (.aload_n 0, 1) := dgX11_init_0 (4, (.aload_n 0, 1)) (List.mem_of_getElem? (i := 2) rfl)
theorem dX11_init_5 : decode cX11_init 5 = .ok (.new 9, 3) := dgX11_init_0 (5, (.new 9, 3)) (List.mem_of_getElem? (i := 3) rfl)
theorem dX11_init_8 : decode cX11_init 8 = .ok (.dup, 1) := dgX11_init_0 (8, (.dup, 1)) (List.mem_of_getElem? (i := 4) rfl)
theorem dX11_init_9 : decode cX11_init 9 = .ok (.invokespecial 11, 3) := dgX11_init_0 (9, (.invokespecial 11, 3)) (List.mem_of_getElem? (i := 5) rfl)
theorem dX11_init_12 : decode cX11_init 12 = .ok (.putfield 12, 3) := dgX11_init_0 (12, (.putfield 12, 3)) (List.mem_of_getElem? (i := 6) rfl)
theorem dX11_init_15 : decode cX11_init 15 = .ok (.aload_n 0, 1) := dgX11_init_0 (15, (.aload_n 0, 1)) (List.mem_of_getElem? (i := 7) rfl)
theorem dX11_init_16 : decode cX11_init 16 = .ok (.iconst 2, 1) := dgX11_init_0 (16, (.iconst 2, 1)) (List.mem_of_getElem? (i := 8) rfl)
theorem dX11_init_17 : decode cX11_init 17 = .ok (.anewarray 9, 3) := dgX11_init_0 (17, (.anewarray 9, 3)) (List.mem_of_getElem? (i := 9) rfl)
theorem dX11_init_20 : decode cX11_init 20 = .ok (.dup, 1) := dgX11_init_0 (20, (.dup, 1)) (List.mem_of_getElem? (i := 10) rfl)
theorem dX11_init_21 : decode cX11_init 21 = .ok (.iconst 0, 1) := dgX11_init_0 (21, (.iconst 0, 1)) (List.mem_of_getElem? (i := 11) rfl)
theorem dX11_init_22 : decode cX11_init 22 = .ok (.new 9, 3) := dgX11_init_0 (22, (.new 9, 3)) (List.mem_of_getElem? (i := 12) rfl)
theorem dX11_init_25 : decode cX11_init 25 = .ok (.dup, 1) := dgX11_init_0 (25, (.dup, 1)) (List.mem_of_getElem? (i := 13) rfl)
theorem dX11_init_26 : decode cX11_init 26 = .ok (.invokespecial 11, 3) := dgX11_init_0 (26, (.invokespecial 11, 3)) (List.mem_of_getElem? (i := 14) rfl)
theorem dX11_init_29 : decode cX11_init 29 = .ok (.aastore, 1) := dgX11_init_0 (29, (.aastore, 1)) (List.mem_of_getElem? (i := 15) rfl)
theorem dX11_init_30 : decode cX11_init 30 = .ok (.dup, 1) := dgX11_init_0 (30, (.dup, 1)) (List.mem_of_getElem? (i := 16) rfl)
theorem dX11_init_31 : decode cX11_init 31 = .ok (.iconst 1, 1) := dgX11_init_0 (31, (.iconst 1, 1)) (List.mem_of_getElem? (i := 17) rfl)
theorem dX11_init_32 : decode cX11_init 32 = .ok (.new 9, 3) := dgX11_init_0 (32, (.new 9, 3)) (List.mem_of_getElem? (i := 18) rfl)
theorem dX11_init_35 : decode cX11_init 35 = .ok (.dup, 1) := dgX11_init_0 (35, (.dup, 1)) (List.mem_of_getElem? (i := 19) rfl)
theorem dX11_init_36 : decode cX11_init 36 = .ok (.invokespecial 11, 3) := dgX11_init_0 (36, (.invokespecial 11, 3)) (List.mem_of_getElem? (i := 20) rfl)
theorem dX11_init_39 : decode cX11_init 39 = .ok (.aastore, 1) := dgX11_init_0 (39, (.aastore, 1)) (List.mem_of_getElem? (i := 21) rfl)
theorem dX11_init_40 : decode cX11_init 40 = .ok (.putfield 16, 3) := dgX11_init_0 (40, (.putfield 16, 3)) (List.mem_of_getElem? (i := 22) rfl)
theorem dX11_init_43 : decode cX11_init 43 = .ok (.aload_n 0, 1) := dgX11_init_0 (43, (.aload_n 0, 1)) (List.mem_of_getElem? (i := 23) rfl)
theorem dX11_init_44 : decode cX11_init 44 = .ok (.iconst 2, 1) := dgX11_init_0 (44, (.iconst 2, 1)) (List.mem_of_getElem? (i := 24) rfl)
theorem dX11_init_45 : decode cX11_init 45 = .ok (.newarray .boolean, 2) := dgX11_init_0 (45, (.newarray .boolean, 2)) (List.mem_of_getElem? (i := 25) rfl)
theorem dX11_init_47 : decode cX11_init 47 = .ok (.putfield 20, 3) := dgX11_init_0 (47, (.putfield 20, 3)) (List.mem_of_getElem? (i := 26) rfl)
theorem dX11_init_50 : decode cX11_init 50 = .ok (.aload_n 0, 1) := dgX11_init_0 (50, (.aload_n 0, 1)) (List.mem_of_getElem? (i := 27) rfl)
theorem dX11_init_51 : decode cX11_init 51 = .ok (.new 24, 3) := dgX11_init_0 (51, (.new 24, 3)) (List.mem_of_getElem? (i := 28) rfl)
theorem dX11_init_54 : decode cX11_init 54 = .ok (.dup, 1) := dgX11_init_0 (54, (.dup, 1)) (List.mem_of_getElem? (i := 29) rfl)
theorem dX11_init_55 : decode cX11_init 55 = .ok (.aload_n 0, 1) := dgX11_init_0 (55, (.aload_n 0, 1)) (List.mem_of_getElem? (i := 30) rfl)
theorem dX11_init_56 : decode cX11_init 56 = .ok (.getfield 12, 3) := dgX11_init_0 (56, (.getfield 12, 3)) (List.mem_of_getElem? (i := 31) rfl)
theorem dX11_init_59 : decode cX11_init 59 = .ok (.invokespecial 26, 3) := dgX11_init_0 (59, (.invokespecial 26, 3)) (List.mem_of_getElem? (i := 32) rfl)
theorem dX11_init_62 : decode cX11_init 62 = .ok (.putfield 29, 3) := dgX11_init_0 (62, (.putfield 29, 3)) (List.mem_of_getElem? (i := 33) rfl)
theorem dX11_init_65 : decode cX11_init 65 = .ok (.aload_n 0, 1) := dgX11_init_0 (65, (.aload_n 0, 1)) (List.mem_of_getElem? (i := 34) rfl)
theorem dX11_init_66 : decode cX11_init 66 = .ok (.new 33, 3) := dgX11_init_0 (66, (.new 33, 3)) (List.mem_of_getElem? (i := 35) rfl)
theorem dX11_init_69 : decode cX11_init 69 = .ok (.dup, 1) := dgX11_init_0 (69, (.dup, 1)) (List.mem_of_getElem? (i := 36) rfl)
theorem dX11_init_70 : decode cX11_init 70 = .ok (.aload_n 0, 1) := dgX11_init_0 (70, (.aload_n 0, 1)) (List.mem_of_getElem? (i := 37) rfl)
theorem dX11_init_71 : decode cX11_init 71 = .ok (.getfield 12, 3) := dgX11_init_0 (71, (.getfield 12, 3)) (List.mem_of_getElem? (i := 38) rfl)
theorem dX11_init_74 : decode cX11_init 74 = .ok (.aload_n 0, 1) := dgX11_init_0 (74, (.aload_n 0, 1)) (List.mem_of_getElem? (i := 39) rfl)
theorem dgX11_init_1 : ∀ r ∈ ([(75, (.getfield 29, 3)), (78, (.invokespecial 35, 3)), (81, (.putfield 38, 3)), (84, (.aload_n 0, 1)), (85, (.new 42, 3)), (88, (.dup, 1)), (89, (.aload_n 0, 1)), (90, (.getfield 12, 3)), (93, (.aload_n 0, 1)), (94, (.getfield 29, 3)), (97, (.invokespecial 44, 3)), (100, (.putfield 45, 3)), (103, (.aload_n 0, 1)), (104, (.new 49, 3)), (107, (.dup, 1)), (108, (.aload_n 0, 1)), (109, (.getfield 12, 3)), (112, (.aload_n 0, 1)), (113, (.getfield 29, 3)), (116, (.invokespecial 51, 3)), (119, (.putfield 52, 3)), (122, (.aload_n 0, 1)), (123, (.new 56, 3)), (126, (.dup, 1)), (127, (.aload_n 0, 1)), (128, (.getfield 12, 3)), (131, (.aload_n 0, 1)), (132, (.getfield 29, 3)), (135, (.invokespecial 58, 3)), (138, (.putfield 59, 3)), (141, (.aload_n 0, 1)), (142, (.new 63, 3)), (145, (.dup, 1)), (146, (.invokespecial 65, 3)), (149, (.putfield 66, 3)), (152, (.aload_n 0, 1)), (153, (.sipush 400, 3)), (156, (.newarray .int, 2)), (158, (.putfield 70, 3)), (161, (.aload_n 0, 1))] : List (Nat × (Instr × Nat))), decode cX11_init r.1 = .ok r.2 := by decide +kernel
theorem dX11_init_75 : decode cX11_init 75 = .ok (.getfield 29, 3) := dgX11_init_1 (75, (.getfield 29, 3)) (List.mem_of_getElem? (i := 0) rfl)
theorem dX11_init_78 : decode cX11_init 78 = .ok (.invokespecial 35, 3) := dgX11_init_1 (78, (.invokespecial 35, 3)) (List.mem_of_getElem? (i := 1) rfl)
theorem dX11_init_81 : decode cX11_init 81 = .ok (.putfield 38, 3) := dgX11_init_1 (81, (.putfield 38, 3)) (List.mem_of_getElem? (i := 2) rfl)
theorem dX11_init_84 : decode cX11_init 84 = .ok (.aload_n 0, 1) := dgX11_init_1 (84, (.aload_n 0, 1)) (List.mem_of_getElem? (i := 3) rfl)
theorem dX11_init_85 : decode cX11_init 85 = .ok (.new 42, 3) := dgX11_init_1 (85, (.new 42, 3)) (List.mem_of_getElem? (i := 4) rfl)
theorem dX11_init_88 : decode cX11_init 88 = .ok (.dup, 1) := dgX11_init_1 (88, (.dup, 1)) (List.mem_of_getElem? (i := 5) rfl)
theorem dX11_init_89 : decode cX11_init 89 = .ok (.aload_n 0, 1) := dgX11_init_1 (89, (.aload_n 0, 1)) (List.mem_of_getElem? (i := 6) rfl)
theorem dX11_init_90 : decode cX11_init 90 = .ok (.getfield 12, 3) := dgX11_init_1 (90, (.getfield 12, 3)) (List.mem_of_getElem? (i := 7) rfl)
theorem dX11_init_93 : decode cX11_init 93 = .ok (.aload_n 0, 1) := dgX11_init_1 (93, (.aload_n 0, 1)) (List.mem_of_getElem? (i := 8) rfl)
theorem dX11_init_94 : decode cX11_init 94 = .ok (.getfield 29, 3) := dgX11_init_1 (94, (.getfield 29, 3)) (List.mem_of_getElem? (i := 9) rfl)
theorem dX11_init_97 : decode cX11_init 97 = .ok (.invokespecial 44, 3) := dgX11_init_1 (97, (.invokespecial 44, 3)) (List.mem_of_getElem? (i := 10) rfl)
theorem dX11_init_100 : decode cX11_init 100 = .ok (.putfield 45, 3) := dgX11_init_1 (100, (.putfield 45, 3)) (List.mem_of_getElem? (i := 11) rfl)
theorem dX11_init_103 : decode cX11_init 103 = .ok (.aload_n 0, 1) := dgX11_init_1 (103, (.aload_n 0, 1)) (List.mem_of_getElem? (i := 12) rfl)
theorem dX11_init_104 : decode cX11_init 104 = .ok (.new 49, 3) := dgX11_init_1 (104, (.new 49, 3)) (List.mem_of_getElem? (i := 13) rfl)
theorem dX11_init_107 : decode cX11_init 107 = .ok (.dup, 1) := dgX11_init_1 (107, (.dup, 1)) (List.mem_of_getElem? (i := 14) rfl)
theorem dX11_init_108 : decode cX11_init 108 = .ok (.aload_n 0, 1) := dgX11_init_1 (108, (.aload_n 0, 1)) (List.mem_of_getElem? (i := 15) rfl)
theorem dX11_init_109 : decode cX11_init 109 = .ok (.getfield 12, 3) := dgX11_init_1 (109, (.getfield 12, 3)) (List.mem_of_getElem? (i := 16) rfl)
theorem dX11_init_112 : decode cX11_init 112 = .ok (.aload_n 0, 1) := dgX11_init_1 (112, (.aload_n 0, 1)) (List.mem_of_getElem? (i := 17) rfl)
theorem dX11_init_113 : decode cX11_init 113 = .ok (.getfield 29, 3) := dgX11_init_1 (113, (.getfield 29, 3)) (List.mem_of_getElem? (i := 18) rfl)
theorem dX11_init_116 : decode cX11_init 116 = .ok (.invokespecial 51, 3) := dgX11_init_1 (116, (.invokespecial 51, 3)) (List.mem_of_getElem? (i := 19) rfl)
theorem dX11_init_119 : decode cX11_init 119 = .ok (.putfield 52, 3) := dgX11_init_1 (119, (.putfield 52, 3)) (List.mem_of_getElem? (i := 20) rfl)
theorem dX11_init_122 : decode cX11_init 122 = .ok (.aload_n 0, 1) := dgX11_init_1 (122, (.aload_n 0, 1)) (List.mem_of_getElem? (i := 21) rfl)
theorem dX11_init_123 : decode cX11_init 123 = .ok (.new 56, 3) := dgX11_init_1 (123, (.new 56, 3)) (List.mem_of_getElem? (i := 22) rfl)
theorem dX11_init_126 : decode cX11_init 126 = .ok (.dup, 1) := dgX11_init_1 (126, (.dup, 1)) (List.mem_of_getElem? (i := 23) rfl)
theorem dX11_init_127 : decode cX11_init 127 = .ok (.aload_n 0, 1) := dgX11_init_1 (127, (.aload_n 0, 1)) (List.mem_of_getElem? (i := 24) rfl)
theorem dX11_init_128 : decode cX11_init 128 = .ok (.getfield 12, 3) := dgX11_init_1 (128, (.getfield 12, 3)) (List.mem_of_getElem? (i := 25) rfl)
theorem dX11_init_131 : decode cX11_init 131 = .ok (.aload_n 0, 1) := dgX11_init_1 (131, (.aload_n 0, 1)) (List.mem_of_getElem? (i := 26) rfl)
theorem dX11_init_132 : decode cX11_init 132 = .ok (.getfield 29, 3) := dgX11_init_1 (132, (.getfield 29, 3)) (List.mem_of_getElem? (i := 27) rfl)
theorem dX11_init_135 : decode cX11_init 135 = .ok (.invokespecial 58, 3) := dgX11_init_1 (135, (.invokespecial 58, 3)) (List.mem_of_getElem? (i := 28) rfl)
theorem dX11_init_138 : decode cX11_init 138 = .ok (.putfield 59, 3) := dgX11_init_1 (138, (.putfield 59, 3)) (List.mem_of_getElem? (i := 29) rfl)
theorem dX11_init_141 : decode cX11_init 141 = .ok (.aload_n 0, 1) := dgX11_init_1 (141, (.aload_n 0, 1)) (List.mem_of_getElem? (i := 30) rfl)
theorem dX11_init_142 : decode cX11_init 142 = .ok (.new 63, 3) := dgX11_init_1 (142, (.new 63, 3)) (List.mem_of_getElem? (i := 31) rfl)
theorem dX11_init_145 : decode cX11_init 145 = .ok (.dup, 1) := dgX11_init_1 (145, (.dup, 1)) (List.mem_of_getElem? (i := 32) rfl)
theorem dX11_init_146 : decode cX11_init 146 = .ok (.invokespecial 65, 3) := dgX11_init_1 (146, (.invokespecial 65, 3)) (List.mem_of_getElem? (i := 33) rfl)
theorem dX11_init_149 : decode cX11_init 149 = .ok (.putfield 66, 3) := dgX11_init_1 (149, (.putfield 66, 3)) (List.mem_of_getElem? (i := 34) rfl)
theorem dX11_init_152 : decode cX11_init 152 = .ok (.aload_n 0, 1) := dgX11_init_1 (152, (.aload_n 0, 1)) (List.mem_of_getElem? (i := 35) rfl)
theorem dX11_init_153 : decode cX11_init 153 = .ok (.sipush 400, 3) := dgX11_init_1 (153, (.sipush 400, 3)) (List.mem_of_getElem? (i := 36) rfl)
theorem dX11_init_156 : decode cX11_init 156 = .ok (.newarray .int, 2) := dgX11_init_1 (156, (.newarray .int, 2)) (List.mem_of_getElem? (i := 37) rfl)
theorem dX11_init_158 : decode cX11_init 158 = .ok (.putfield 70, 3) := dgX11_init_1 (158, (.putfield 70, 3)) (List.mem_of_getElem? (i := 38) rfl)
theorem dX11_init_161 : decode cX11_init 161 = .ok (.aload_n 0, 1) := dgX11_init_1 (161, (.aload_n 0, 1)) (List.mem_of_getElem? (i := 39) rfl)
theorem dgX11_init_2 : ∀ r ∈ ([(162, (.iconst 0, 1)), (163, (.putfield 74, 3)), (166, (.aload_n 0, 1)), (167, (.iconst 0, 1)), (168, (.putfield 78, 3)), (171, (.aload_n 0, 1)), (172, (.iconst (-1), 1)), (173, (.putfield 81, 3)), (176, (.aload_n 0, 1)), (177, (.bipush 24, 2)), (179, (.newarray .int, 2)), (181, (.putfield 84, 3)), (184, (.aload_n 0, 1)), (185, (.iconst 0, 1)), (186, (.putfield 87, 3)), (189, (.aload_n 0, 1)), (190, (.iconst 5, 1)), (191, (.newarray .int, 2)), (193, (.putfield 91, 3)), (196, (.aload_n 0, 1)), (197, (.iconst 0, 1)), (198, (.putfield 94, 3)), (201, (.return_, 1))] : List (Nat × (Instr × Nat))), decode cX11_init r.1 = .ok r.2 := by decide +kernel
theorem dX11_init_162 : decode cX11_init 162 = .ok (.iconst 0, 1) := dgX11_init_2 (162, (.iconst 0, 1)) (List.mem_of_getElem? (i := 0) rfl)
theorem dX11_init_163 : decode cX11_init 163 = .ok (.putfield 74, 3) := dgX11_init_2 (163, (.putfield 74, 3)) (List.mem_of_getElem? (i := 1) rfl)
theorem dX11_init_166 : decode cX11_init 166 = .ok (.aload_n 0, 1) := dgX11_init_2 (166, (.aload_n 0, 1)) (List.mem_of_getElem? (i := 2) rfl)
theorem dX11_init_167 : decode cX11_init 167 = .ok (.iconst 0, 1) := dgX11_init_2 (167, (.iconst 0, 1)) (List.mem_of_getElem? (i := 3) rfl)
theorem dX11_init_168 : decode cX11_init 168 = .ok (.putfield 78, 3) := dgX11_init_2 (168, (.putfield 78, 3)) (List.mem_of_getElem? (i := 4) rfl)
theorem dX11_init_171 : decode cX11_init 171 = .ok (.aload_n 0, 1) := dgX11_init_2 (171, (.aload_n 0, 1)) (List.mem_of_getElem? (i := 5) rfl)
theorem dX11_init_172 : decode cX11_init 172 = .ok (.iconst (-1), 1) := dgX11_init_2 (172, (.iconst (-1), 1)) (List.mem_of_getElem? (i := 6) rfl)
theorem dX11_init_173 : decode cX11_init 173 = .ok (.putfield 81, 3) := dgX11_init_2 (173, (.putfield 81, 3)) (List.mem_of_getElem? (i := 7) rfl)
theorem dX11_init_176 : decode cX11_init 176 = .ok (.aload_n 0, 1) := dgX11_init_2 (176, (.aload_n 0, 1)) (List.mem_of_getElem? (i := 8) rfl)
theorem dX11_init_177 : decode cX11_init 177 = .ok (.bipush 24, 2) := dgX11_init_2 (177, (.bipush 24, 2)) (List.mem_of_getElem? (i := 9) rfl)
theorem dX11_init_179 : decode cX11_init 179 = .ok (.newarray .int, 2) := dgX11_init_2 (179, (.newarray .int, 2)) (List.mem_of_getElem? (i := 10) rfl)
theorem dX11_init_181 : decode cX11_init 181 = .ok (.putfield 84, 3) := dgX11_init_2 (181, (.putfield 84, 3)) (List.mem_of_getElem? (i := 11) rfl)
theorem dX11_init_184 : decode cX11_init 184 = .ok (.aload_n 0, 1) := dgX11_init_2 (184, (.aload_n 0, 1)) (List.mem_of_getElem? (i := 12) rfl)
theorem dX11_init_185 : decode cX11_init 185 = .ok (.iconst 0, 1) := dgX11_init_2 (185, (.iconst 0, 1)) (List.mem_of_getElem? (i := 13) rfl)
theorem dX11_init_186 : decode cX11_init 186 = .ok (.putfield 87, 3) := dgX11_init_2 (186, (.putfield 87, 3)) (List.mem_of_getElem? (i := 14) rfl)
theorem dX11_init_189 : decode cX11_init 189 = .ok (.aload_n 0, 1) := dgX11_init_2 (189, (.aload_n 0, 1)) (List.mem_of_getElem? (i := 15) rfl)
theorem dX11_init_190 : decode cX11_init 190 = .ok (.iconst 5, 1) := dgX11_init_2 (190, (.iconst 5, 1)) (List.mem_of_getElem? (i := 16) rfl)
theorem dX11_init_191 : decode cX11_init 191 = .ok (.newarray .int, 2) := dgX11_init_2 (191, (.newarray .int, 2)) (List.mem_of_getElem? (i := 17) rfl)
theorem dX11_init_193 : decode cX11_init 193 = .ok (.putfield 91, 3) := dgX11_init_2 (193, (.putfield 91, 3)) (List.mem_of_getElem? (i := 18) rfl)
theorem dX11_init_196 : decode cX11_init 196 = .ok (.aload_n 0, 1) := dgX11_init_2 (196, (.aload_n 0, 1)) (List.mem_of_getElem? (i := 19) rfl)
theorem dX11_init_197 : decode cX11_init 197 = .ok (.iconst 0, 1) := dgX11_init_2 (197, (.iconst 0, 1)) (List.mem_of_getElem? (i := 20) rfl)
theorem dX11_init_198 : decode cX11_init 198 = .ok (.putfield 94, 3) := dgX11_init_2 (198, (.putfield 94, 3)) (List.mem_of_getElem? (i := 21) rfl)
theorem dX11_init_201 : decode cX11_init 201 = .ok (.return_, 1) := dgX11_init_2 (201, (.return_, 1)) (List.mem_of_getElem? (i := 22) rfl)
set_option maxHeartbeats 4000000 in
set_option maxRecDepth 100000 in
theorem kX11_init (l : Launch) (G : g5_G) (a0 : Nat) (sz : Nat) : Met l yX11_init (wsG yX11_init cX11_init 1 none) ({ frames := 3, cells := 71, slots := 12258, locals := 54 }) (va_Pc [.ref a0] (g5_P G [(a0, .inr (11, [.null, .null, .null, .null, .null, .null, .null, .null, .null, .null, .int 0, .int 0, .int 0, .null, .int 0, .null, .int 0]))] sz)) (va_Qv (fun (u : va_W) => (∃ (q1 : Nat) (q2 : Nat) (q3 : Nat) (q4 : Nat) (q5 : Nat) (q6 : Nat) (q7 : Nat) (q8 : Nat) (q9 : Nat) (q10 : Nat) (q11 : Nat) (q12 : Nat) (q13 : Nat) (q14 : Nat) (q15 : Nat) (q16 : Nat) (q17 : Nat) (q18 : Nat) (q19 : Nat) (q20 : Nat) (q21 : Nat) (q22 : Nat) (q23 : Nat) (q24 : Nat) (q25 : Nat) (q26 : Nat) (q27 : Nat) (q28 : Nat) (q29 : Nat) (q30 : Nat) (q31 : Nat) (q32 : Nat) (q33 : Nat) (q34 : Nat) (q35 : Nat) (q36 : Nat) (q37 : Nat) (q38 : Nat) (q39 : Nat) (q40 : Nat) (q41 : Nat) (q42 : Nat) (q43 : Nat) (q44 : Nat) (q45 : Nat) (q46 : Nat) (q47 : Nat) (q48 : Nat) (q49 : Nat) (q50 : Nat) (q51 : Nat) (q52 : Nat) (q53 : Nat) (q54 : Nat) (q55 : Nat) (q56 : Nat) (q57 : Nat) (q58 : Nat) (q59 : Nat) (q60 : Nat) (q61 : Nat) (q62 : Nat) (q63 : Nat) (q64 : Nat) (q65 : Nat) (q66 : Nat) (q67 : Nat) (q68 : Nat) (q69 : Nat) (q70 : Nat) (q71 : Nat), (u = [(a0, (oc11 q1 q14 q41 q42 q47 q49 q57 q58 q61 q69 0 0 (-1) q70 0 q71 0)), (q1, (oc1 0 1000 (-1) (-1) 0 q2 q3 q5 q7 q9 q11 0 q13)), (q2, (arW G 6 (fun _ => none))), (q3, (oc6 6 5 q4 0)), (q4, (arI G 30 (fun _ => 0))), (q5, (oc6 5 24 q6 0)), (q6, (arI G 120 (fun _ => 0))), (q7, (oc6 10 4 q8 0)), (q8, (arI G 40 (fun _ => 0))), (q9, (oc6 8 5 q10 0)), (q10, (arI G 40 (fun _ => 0))), (q11, (oc6 6 6 q12 0)), (q12, (arI G 36 (fun _ => 0))), (q13, (arJ G 24 (fun _ => 0))), (q14, (arH G 2 (va_up (va_up (fun _ => none) 0 (some q15)) 1 (some q28)))), (q15, (oc1 0 1000 (-1) (-1) 0 q16 q17 q19 q21 q23 q25 0 q27)), (q16, (arW G 6 (fun _ => none))), (q17, (oc6 6 5 q18 0)), (q18, (arI G 30 (fun _ => 0))), (q19, (oc6 5 24 q20 0)), (q20, (arI G 120 (fun _ => 0))), (q21, (oc6 10 4 q22 0)), (q22, (arI G 40 (fun _ => 0))), (q23, (oc6 8 5 q24 0)), (q24, (arI G 40 (fun _ => 0))), (q25, (oc6 6 6 q26 0)), (q26, (arI G 36 (fun _ => 0))), (q27, (arJ G 24 (fun _ => 0))), (q28, (oc1 0 1000 (-1) (-1) 0 q29 q30 q32 q34 q36 q38 0 q40)), (q29, (arW G 6 (fun _ => none))), (q30, (oc6 6 5 q31 0)), (q31, (arI G 30 (fun _ => 0))), (q32, (oc6 5 24 q33 0)), (q33, (arI G 120 (fun _ => 0))), (q34, (oc6 10 4 q35 0)), (q35, (arI G 40 (fun _ => 0))), (q36, (oc6 8 5 q37 0)), (q37, (arI G 40 (fun _ => 0))), (q38, (oc6 6 6 q39 0)), (q39, (arI G 36 (fun _ => 0))), (q40, (arJ G 24 (fun _ => 0))), (q41, (arZ G 2 (fun _ => 0))), (q42, (oc5 q1 q43 q46 0 0 0 0 0 0 0 0 0 0)), (q43, (oc2 q44 q45)), (q44, (arI G 8 (fun _ => 0))), (q45, (arJ G 50 (fun _ => 0))), (q46, (arI G 200 (fun _ => 0))), (q47, (oc10 q1 q42 q48)), (q48, (arJ G 24 (fun _ => 0))), (q49, (oc7 q1 q42 q50 q51 0 q52 q53 q54 q55 q56)), (q50, (arJ G 24 (fun _ => 0))), (q51, (arI G 1536 (fun _ => 0))), (q52, (arJ G 2048 (fun _ => 0))), (q53, (arJ G 2048 (fun _ => 0))), (q54, (arI G 1536 (fun _ => 0))), (q55, (arI G 64 (fun _ => 0))), (q56, (arI G 64 (fun _ => 0))), (q57, (oc0 q1 q42 0 0 0)), (q58, (oc9 q1 q42 q59 q60)), (q59, (arJ G 24 (fun _ => 0))), (q60, (arI G 1536 (fun _ => 0))), (q61, (oc4 q62 q66 q67 q68 0 0 0 (-1))), (q62, (oc8 q63 q64 q65)), (q63, (arI G 401 (fun _ => 0))), (q64, (arI G 401 (fun _ => 0))), (q65, (arI G 401 (fun _ => 0))), (q66, (arI G 12 (fun _ => 0))), (q67, (arI G 13 (fun _ => 0))), (q68, (arI G 400 (fun _ => 0))), (q69, (arI G 400 (fun _ => 0))), (q70, (arI G 24 (fun _ => 0))), (q71, (arI G 5 (fun _ => 0)))]))) (g5_B G (va_A [(a0, .inr (11, [.null, .null, .null, .null, .null, .null, .null, .null, .null, .null, .int 0, .int 0, .int 0, .null, .int 0, .null, .int 0]))] sz)) (va_A [(a0, .inr (11, [.null, .null, .null, .null, .null, .null, .null, .null, .null, .null, .int 0, .int 0, .int 0, .null, .int 0, .null, .int 0]))] sz)) 71 12258 (va_A [(a0, .inr (11, [.null, .null, .null, .null, .null, .null, .null, .null, .null, .null, .int 0, .int 0, .int 0, .null, .int 0, .null, .int 0]))] sz) := by
  refine Met.ofW (cc := cX11_init) (maxL := 1) (ret := none) (by decide +kernel) rfl ?_
  intro p e s m args below meth c s₁ B hml hv
  obtain ⟨rfl, hsz, hP, hK, hD0, hN, hT⟩ := hv
  have hx := B.exec
  have hb := B.bytes
  have hr := B.returns
  have hts : ∀ w ∈ tblG, w.before _ s = true := fun w h => atoms_spec (ws := (wsG yX11_init cX11_init 1 none)) B.pre w (List.mem_cons_of_mem _ h)
  have hown : s.vm.findClass RX11 = some m.cls := findClass_of_methodNamed B.named
  have hlocks := B.notSynchronized
  have hin : meth.name = "<init>" := (name_of_methodNamed B.named B.method).1
  subst hsz
  have hD := hD0.self (sz := s.heap.size)
  generalize hAe : va_A [(a0, .inr (11, [.null, .null, .null, .null, .null, .null, .null, .null, .null, .null, .int 0, .int 0, .int 0, .null, .int 0, .null, .int 0]))] s.heap.size = A at hD hT ⊢
  have hA : ∀ q : Nat, s.heap.size ≤ q → A q := fun q h => by rw [← hAe]; exact Or.inr h
  have hS : va_S A s.heap s.heap [] := va_S.rf
  replace hP : va_P G.1 vwCl [(a0, .inr (11, [.null, .null, .null, .null, .null, .null, .null, .null, .null, .null, .int 0, .int 0, .int 0, .null, .int 0, .null, .int 0]))] s.heap := hP
  have hl := lv_entry ([.ref a0]) (n := 1) (Nat.le_of_ble_eq_true rfl)
  rw [lg_entry_eq]
  generalize (lg_sl ([.ref a0]) ++ List.replicate (1 - (lg_sl ([.ref a0])).length) Slot.unset).toArray = ls at hl ⊢
  replace hl : lv_has ls 1 [(0, .ref a0)] := hl
  refine lv_aload_n hx hb dX11_init_0 rfl (lv_at hl 0 rfl) ?_
  refine W.objInit hx hb hown (hts _ oi_X11_3) (hts _ oi_im) (hts _ oi_cd) rfl (by rw [hml]; exact hl.1) rfl dX11_init_1 (Nat.le_of_ble_eq_true rfl) (Nat.le_of_ble_eq_true rfl) ?_
  refine W.eq (g2 := F0 m 4 ls []) rfl ?_
  refine lv_aload_n hx hb dX11_init_4 rfl (lv_at hl 0 rfl) ?_
  refine va_new (D := G.1) (ci := 1) (fs := [.long 0, .int 0, .int 0, .int 0, .int 0, .null, .null, .null, .null, .null, .null, .long 0, .null]) (C := RX1) (T := TX1) (N := 13) hx hb hts inG_X1 tyX1 tyX1_ok hown (hts _ cl_X11_9) (hts _ isn_X1) (hts _ ini_X1) hK hP hD hS hA rfl (fun j hj => by rcases (show j = 0 ∨ j = 1 ∨ j = 2 ∨ j = 3 ∨ j = 4 ∨ j = 5 ∨ j = 6 ∨ j = 7 ∨ j = 8 ∨ j = 9 ∨ j = 10 ∨ j = 11 ∨ j = 12 by omega) with rfl | rfl | rfl | rfl | rfl | rfl | rfl | rfl | rfl | rfl | rfl | rfl | rfl <;> rfl) (Nat.le_of_ble_eq_true rfl) (Nat.le_of_ble_eq_true rfl) dX11_init_5 (fun q1 H hP hD hS => ?_)
  refine g5_rs [(a0, .inr (11, [.null, .null, .null, .null, .null, .null, .null, .null, .null, .null, .int 0, .int 0, .int 0, .null, .int 0, .null, .int 0])), (q1, .inr (1, [.long 0, .int 0, .int 0, .int 0, .int 0, .null, .null, .null, .null, .null, .null, .long 0, .null]))] hP hD ?_
  clear hP hD
  intro hP hD
  refine W.widen (k := 1) (n := 13) (Nat.le_of_ble_eq_true rfl) (Nat.le_of_ble_eq_true rfl) ?_
  refine lv_dup hx hb dX11_init_8 rfl ?_
  obtain ⟨hPc, hDc, hFc⟩ := g5_sub3 (wc := [(q1, .inr (1, [.long 0, .int 0, .int 0, .int 0, .int 0, .null, .null, .null, .null, .null, .null, .long 0, .null]))]) hP hD hS hA [1] (by decide +kernel) rfl
  refine va_callv (va_runIN (As := []) (rest := [.ref q1, .ref a0]) ⟨hx, hb, hml, hown, hts⟩ (kX1_init l G q1 H.size) ⟨va_cnB 0 hts gW_X1_init rfl rfl rfl (hN.1 _ g5_nw_X11_11) (hts _ ini_X1) hs_X1_init ⟨Nat.le_of_ble_eq_true rfl, Nat.le_of_ble_eq_true rfl⟩, rfl, hts _ im_X1_init⟩ (g5_preS hPc hK hDc hN hT hS hFc) rfl rfl hl.1 rfl (lv_room (Nat.le_of_ble_eq_true rfl)) dX11_init_9 ⟨Nat.le_of_ble_eq_true rfl, Nat.le_of_ble_eq_true rfl⟩) hS (fun q _ h => hFc q h) hFc (fun u t H locs ht hvm hw hB hz1 hk1 hS => ?_)
  obtain ⟨hP1, hD1⟩ := hB
  have hP1 := g5_ht ht hP1
  refine W.widen (k := 13) (n := 329) (Nat.le_of_ble_eq_true rfl) (Nat.le_of_ble_eq_true rfl) ?_
  obtain ⟨q2, q3, q4, q5, q6, q7, q8, q9, q10, q11, q12, q13, rfl⟩ := hw
  have hJ9 := va_join (wr := [(a0, .inr (11, [.null, .null, .null, .null, .null, .null, .null, .null, .null, .null, .int 0, .int 0, .int 0, .null, .int 0, .null, .int 0]))]) hP hD [1] [0] rfl rfl (by decide +kernel) (by decide +kernel) hk1 hFc hP1 hD1
  clear hP hD hPc hDc hFc ht hvm hz1 hk1 hP1 hD1
  obtain ⟨hP, hD⟩ := hJ9
  refine g5_rs [(a0, .inr (11, [.null, .null, .null, .null, .null, .null, .null, .null, .null, .null, .int 0, .int 0, .int 0, .null, .int 0, .null, .int 0])), (q1, (oc1 0 1000 (-1) (-1) 0 q2 q3 q5 q7 q9 q11 0 q13)), (q2, (arW G 6 (fun _ => none))), (q3, (oc6 6 5 q4 0)), (q4, (arI G 30 (fun _ => 0))), (q5, (oc6 5 24 q6 0)), (q6, (arI G 120 (fun _ => 0))), (q7, (oc6 10 4 q8 0)), (q8, (arI G 40 (fun _ => 0))), (q9, (oc6 8 5 q10 0)), (q10, (arI G 40 (fun _ => 0))), (q11, (oc6 6 6 q12 0)), (q12, (arI G 36 (fun _ => 0))), (q13, (arJ G 24 (fun _ => 0)))] hP hD ?_
  clear hP hD
  intro hP hD
  refine va_putF (D := G.1) (ci := 11) (v := .ref q1) (ty := .object "LateGlass$House") (C := RX11) (T := TX11) (N := 17) hx hb hts inG_X11 tyX11 tyX11_ok nmX11 hown hK hP hD hS 0 rfl rfl 0 (by decide +kernel) (hts _ fl_X11_12) (fun _ h9 => h9) rfl hin rfl (by decide +kernel) rfl rfl (Nat.le_of_ble_eq_true rfl) dX11_init_12 ?_
  clear hP hD hS
  intro H locs hP hD hS
  refine g5_rs [(a0, .inr (11, [.ref q1, .null, .null, .null, .null, .null, .null, .null, .null, .null, .int 0, .int 0, .int 0, .null, .int 0, .null, .int 0])), (q1, (oc1 0 1000 (-1) (-1) 0 q2 q3 q5 q7 q9 q11 0 q13)), (q2, (arW G 6 (fun _ => none))), (q3, (oc6 6 5 q4 0)), (q4, (arI G 30 (fun _ => 0))), (q5, (oc6 5 24 q6 0)), (q6, (arI G 120 (fun _ => 0))), (q7, (oc6 10 4 q8 0)), (q8, (arI G 40 (fun _ => 0))), (q9, (oc6 8 5 q10 0)), (q10, (arI G 40 (fun _ => 0))), (q11, (oc6 6 6 q12 0)), (q12, (arI G 36 (fun _ => 0))), (q13, (arJ G 24 (fun _ => 0)))] hP hD ?_
  clear hP hD
  intro hP hD
  refine lv_aload_n hx hb dX11_init_15 rfl (lv_at hl 0 rfl) ?_
  refine lv_iconst (v := 2) hx hb dX11_init_16 (by decide +kernel) ?_
  refine va_newq (D := G.1) hx hb hown (hts _ cl_X11_9) hN.2.1 hK hP hD hS hA (n := 2) (N' := 2) (by decide +kernel) (by decide +kernel) (by decide +kernel) (Nat.le_of_ble_eq_true rfl) (Nat.le_of_ble_eq_true rfl) dX11_init_17 (fun q14 cA H hKn hP hD hS => ?_)
  obtain rfl : cA = G.2 3 := g5_cH hKn
  refine g5_rs [(a0, .inr (11, [.ref q1, .null, .null, .null, .null, .null, .null, .null, .null, .null, .int 0, .int 0, .int 0, .null, .int 0, .null, .int 0])), (q1, (oc1 0 1000 (-1) (-1) 0 q2 q3 q5 q7 q9 q11 0 q13)), (q2, (arW G 6 (fun _ => none))), (q3, (oc6 6 5 q4 0)), (q4, (arI G 30 (fun _ => 0))), (q5, (oc6 5 24 q6 0)), (q6, (arI G 120 (fun _ => 0))), (q7, (oc6 10 4 q8 0)), (q8, (arI G 40 (fun _ => 0))), (q9, (oc6 8 5 q10 0)), (q10, (arI G 40 (fun _ => 0))), (q11, (oc6 6 6 q12 0)), (q12, (arI G 36 (fun _ => 0))), (q13, (arJ G 24 (fun _ => 0))), (q14, (arH G 2 (fun _ => none)))] hP hD ?_
  clear hP hD
  intro hP hD
  refine W.widen (k := 14) (n := 331) (Nat.le_of_ble_eq_true rfl) (Nat.le_of_ble_eq_true rfl) ?_
  refine lv_dup hx hb dX11_init_20 rfl ?_
  refine lv_iconst (v := 0) hx hb dX11_init_21 (by decide +kernel) ?_
  refine va_new (D := G.1) (ci := 1) (fs := [.long 0, .int 0, .int 0, .int 0, .int 0, .null, .null, .null, .null, .null, .null, .long 0, .null]) (C := RX1) (T := TX1) (N := 13) hx hb hts inG_X1 tyX1 tyX1_ok hown (hts _ cl_X11_9) (hts _ isn_X1) (hts _ ini_X1) hK hP hD hS hA rfl (fun j hj => by rcases (show j = 0 ∨ j = 1 ∨ j = 2 ∨ j = 3 ∨ j = 4 ∨ j = 5 ∨ j = 6 ∨ j = 7 ∨ j = 8 ∨ j = 9 ∨ j = 10 ∨ j = 11 ∨ j = 12 by omega) with rfl | rfl | rfl | rfl | rfl | rfl | rfl | rfl | rfl | rfl | rfl | rfl | rfl <;> rfl) (Nat.le_of_ble_eq_true rfl) (Nat.le_of_ble_eq_true rfl) dX11_init_22 (fun q15 H hP hD hS => ?_)
  refine g5_rs [(a0, .inr (11, [.ref q1, .null, .null, .null, .null, .null, .null, .null, .null, .null, .int 0, .int 0, .int 0, .null, .int 0, .null, .int 0])), (q1, (oc1 0 1000 (-1) (-1) 0 q2 q3 q5 q7 q9 q11 0 q13)), (q2, (arW G 6 (fun _ => none))), (q3, (oc6 6 5 q4 0)), (q4, (arI G 30 (fun _ => 0))), (q5, (oc6 5 24 q6 0)), (q6, (arI G 120 (fun _ => 0))), (q7, (oc6 10 4 q8 0)), (q8, (arI G 40 (fun _ => 0))), (q9, (oc6 8 5 q10 0)), (q10, (arI G 40 (fun _ => 0))), (q11, (oc6 6 6 q12 0)), (q12, (arI G 36 (fun _ => 0))), (q13, (arJ G 24 (fun _ => 0))), (q14, (arH G 2 (fun _ => none))), (q15, .inr (1, [.long 0, .int 0, .int 0, .int 0, .int 0, .null, .null, .null, .null, .null, .null, .long 0, .null]))] hP hD ?_
  clear hP hD
  intro hP hD
  refine W.widen (k := 15) (n := 344) (Nat.le_of_ble_eq_true rfl) (Nat.le_of_ble_eq_true rfl) ?_
  refine lv_dup hx hb dX11_init_25 rfl ?_
  obtain ⟨hPc, hDc, hFc⟩ := g5_sub3 (wc := [(q15, .inr (1, [.long 0, .int 0, .int 0, .int 0, .int 0, .null, .null, .null, .null, .null, .null, .long 0, .null]))]) hP hD hS hA [15] (by decide +kernel) rfl
  refine va_callv (va_runIN (As := []) (rest := [.ref q15, .int 0, .ref q14, .ref q14, .ref a0]) ⟨hx, hb, hml, hown, hts⟩ (kX1_init l G q15 H.size) ⟨va_cnB 0 hts gW_X1_init rfl rfl rfl (hN.1 _ g5_nw_X11_11) (hts _ ini_X1) hs_X1_init ⟨Nat.le_of_ble_eq_true rfl, Nat.le_of_ble_eq_true rfl⟩, rfl, hts _ im_X1_init⟩ (g5_preS hPc hK hDc hN hT hS hFc) rfl rfl hl.1 rfl (lv_room (Nat.le_of_ble_eq_true rfl)) dX11_init_26 ⟨Nat.le_of_ble_eq_true rfl, Nat.le_of_ble_eq_true rfl⟩) hS (fun q _ h => hFc q h) hFc (fun u t H locs ht hvm hw hB hz1 hk1 hS => ?_)
  obtain ⟨hP1, hD1⟩ := hB
  have hP1 := g5_ht ht hP1
  refine W.widen (k := 27) (n := 660) (Nat.le_of_ble_eq_true rfl) (Nat.le_of_ble_eq_true rfl) ?_
  obtain ⟨q16, q17, q18, q19, q20, q21, q22, q23, q24, q25, q26, q27, rfl⟩ := hw
  have hJ9 := va_join (wr := [(a0, .inr (11, [.ref q1, .null, .null, .null, .null, .null, .null, .null, .null, .null, .int 0, .int 0, .int 0, .null, .int 0, .null, .int 0])), (q1, (oc1 0 1000 (-1) (-1) 0 q2 q3 q5 q7 q9 q11 0 q13)), (q2, (arW G 6 (fun _ => none))), (q3, (oc6 6 5 q4 0)), (q4, (arI G 30 (fun _ => 0))), (q5, (oc6 5 24 q6 0)), (q6, (arI G 120 (fun _ => 0))), (q7, (oc6 10 4 q8 0)), (q8, (arI G 40 (fun _ => 0))), (q9, (oc6 8 5 q10 0)), (q10, (arI G 40 (fun _ => 0))), (q11, (oc6 6 6 q12 0)), (q12, (arI G 36 (fun _ => 0))), (q13, (arJ G 24 (fun _ => 0))), (q14, (arH G 2 (fun _ => none)))]) hP hD [15] [0, 1, 2, 3, 4, 5, 6, 7, 8, 9, 10, 11, 12, 13, 14] rfl rfl (by decide +kernel) (by decide +kernel) hk1 hFc hP1 hD1
  clear hP hD hPc hDc hFc ht hvm hz1 hk1 hP1 hD1
  obtain ⟨hP, hD⟩ := hJ9
  refine g5_rs [(a0, .inr (11, [.ref q1, .null, .null, .null, .null, .null, .null, .null, .null, .null, .int 0, .int 0, .int 0, .null, .int 0, .null, .int 0])), (q1, (oc1 0 1000 (-1) (-1) 0 q2 q3 q5 q7 q9 q11 0 q13)), (q2, (arW G 6 (fun _ => none))), (q3, (oc6 6 5 q4 0)), (q4, (arI G 30 (fun _ => 0))), (q5, (oc6 5 24 q6 0)), (q6, (arI G 120 (fun _ => 0))), (q7, (oc6 10 4 q8 0)), (q8, (arI G 40 (fun _ => 0))), (q9, (oc6 8 5 q10 0)), (q10, (arI G 40 (fun _ => 0))), (q11, (oc6 6 6 q12 0)), (q12, (arI G 36 (fun _ => 0))), (q13, (arJ G 24 (fun _ => 0))), (q14, (arH G 2 (fun _ => none))), (q15, (oc1 0 1000 (-1) (-1) 0 q16 q17 q19 q21 q23 q25 0 q27)), (q16, (arW G 6 (fun _ => none))), (q17, (oc6 6 5 q18 0)), (q18, (arI G 30 (fun _ => 0))), (q19, (oc6 5 24 q20 0)), (q20, (arI G 120 (fun _ => 0))), (q21, (oc6 10 4 q22 0)), (q22, (arI G 40 (fun _ => 0))), (q23, (oc6 8 5 q24 0)), (q24, (arI G 40 (fun _ => 0))), (q25, (oc6 6 6 q26 0)), (q26, (arI G 36 (fun _ => 0))), (q27, (arJ G 24 (fun _ => 0)))] hP hD ?_
  clear hP hD
  intro hP hD
  refine va_astq hx hb hK hP hD hS 14 3 15 1 rfl rfl rfl rfl (i := 0) (by unfold vp_in; decide) dX11_init_29 ?_
  clear hP hD hS
  intro H locs hP hD hS
  refine g5_rs [(a0, .inr (11, [.ref q1, .null, .null, .null, .null, .null, .null, .null, .null, .null, .int 0, .int 0, .int 0, .null, .int 0, .null, .int 0])), (q1, (oc1 0 1000 (-1) (-1) 0 q2 q3 q5 q7 q9 q11 0 q13)), (q2, (arW G 6 (fun _ => none))), (q3, (oc6 6 5 q4 0)), (q4, (arI G 30 (fun _ => 0))), (q5, (oc6 5 24 q6 0)), (q6, (arI G 120 (fun _ => 0))), (q7, (oc6 10 4 q8 0)), (q8, (arI G 40 (fun _ => 0))), (q9, (oc6 8 5 q10 0)), (q10, (arI G 40 (fun _ => 0))), (q11, (oc6 6 6 q12 0)), (q12, (arI G 36 (fun _ => 0))), (q13, (arJ G 24 (fun _ => 0))), (q14, (arH G 2 (va_up (fun _ => none) 0 (some q15)))), (q15, (oc1 0 1000 (-1) (-1) 0 q16 q17 q19 q21 q23 q25 0 q27)), (q16, (arW G 6 (fun _ => none))), (q17, (oc6 6 5 q18 0)), (q18, (arI G 30 (fun _ => 0))), (q19, (oc6 5 24 q20 0)), (q20, (arI G 120 (fun _ => 0))), (q21, (oc6 10 4 q22 0)), (q22, (arI G 40 (fun _ => 0))), (q23, (oc6 8 5 q24 0)), (q24, (arI G 40 (fun _ => 0))), (q25, (oc6 6 6 q26 0)), (q26, (arI G 36 (fun _ => 0))), (q27, (arJ G 24 (fun _ => 0)))] hP hD ?_
  clear hP hD
  intro hP hD
  refine lv_dup hx hb dX11_init_30 rfl ?_
  refine lv_iconst (v := 1) hx hb dX11_init_31 (by decide +kernel) ?_
  refine va_new (D := G.1) (ci := 1) (fs := [.long 0, .int 0, .int 0, .int 0, .int 0, .null, .null, .null, .null, .null, .null, .long 0, .null]) (C := RX1) (T := TX1) (N := 13) hx hb hts inG_X1 tyX1 tyX1_ok hown (hts _ cl_X11_9) (hts _ isn_X1) (hts _ ini_X1) hK hP hD hS hA rfl (fun j hj => by rcases (show j = 0 ∨ j = 1 ∨ j = 2 ∨ j = 3 ∨ j = 4 ∨ j = 5 ∨ j = 6 ∨ j = 7 ∨ j = 8 ∨ j = 9 ∨ j = 10 ∨ j = 11 ∨ j = 12 by omega) with rfl | rfl | rfl | rfl | rfl | rfl | rfl | rfl | rfl | rfl | rfl | rfl | rfl <;> rfl) (Nat.le_of_ble_eq_true rfl) (Nat.le_of_ble_eq_true rfl) dX11_init_32 (fun q28 H hP hD hS => ?_)
  refine g5_rs [(a0, .inr (11, [.ref q1, .null, .null, .null, .null, .null, .null, .null, .null, .null, .int 0, .int 0, .int 0, .null, .int 0, .null, .int 0])), (q1, (oc1 0 1000 (-1) (-1) 0 q2 q3 q5 q7 q9 q11 0 q13)), (q2, (arW G 6 (fun _ => none))), (q3, (oc6 6 5 q4 0)), (q4, (arI G 30 (fun _ => 0))), (q5, (oc6 5 24 q6 0)), (q6, (arI G 120 (fun _ => 0))), (q7, (oc6 10 4 q8 0)), (q8, (arI G 40 (fun _ => 0))), (q9, (oc6 8 5 q10 0)), (q10, (arI G 40 (fun _ => 0))), (q11, (oc6 6 6 q12 0)), (q12, (arI G 36 (fun _ => 0))), (q13, (arJ G 24 (fun _ => 0))), (q14, (arH G 2 (va_up (fun _ => none) 0 (some q15)))), (q15, (oc1 0 1000 (-1) (-1) 0 q16 q17 q19 q21 q23 q25 0 q27)), (q16, (arW G 6 (fun _ => none))), (q17, (oc6 6 5 q18 0)), (q18, (arI G 30 (fun _ => 0))), (q19, (oc6 5 24 q20 0)), (q20, (arI G 120 (fun _ => 0))), (q21, (oc6 10 4 q22 0)), (q22, (arI G 40 (fun _ => 0))), (q23, (oc6 8 5 q24 0)), (q24, (arI G 40 (fun _ => 0))), (q25, (oc6 6 6 q26 0)), (q26, (arI G 36 (fun _ => 0))), (q27, (arJ G 24 (fun _ => 0))), (q28, .inr (1, [.long 0, .int 0, .int 0, .int 0, .int 0, .null, .null, .null, .null, .null, .null, .long 0, .null]))] hP hD ?_
  clear hP hD
  intro hP hD
  refine W.widen (k := 28) (n := 673) (Nat.le_of_ble_eq_true rfl) (Nat.le_of_ble_eq_true rfl) ?_
  refine lv_dup hx hb dX11_init_35 rfl ?_
  obtain ⟨hPc, hDc, hFc⟩ := g5_sub3 (wc := [(q28, .inr (1, [.long 0, .int 0, .int 0, .int 0, .int 0, .null, .null, .null, .null, .null, .null, .long 0, .null]))]) hP hD hS hA [28] (by decide +kernel) rfl
  refine va_callv (va_runIN (As := []) (rest := [.ref q28, .int 1, .ref q14, .ref q14, .ref a0]) ⟨hx, hb, hml, hown, hts⟩ (kX1_init l G q28 H.size) ⟨va_cnB 0 hts gW_X1_init rfl rfl rfl (hN.1 _ g5_nw_X11_11) (hts _ ini_X1) hs_X1_init ⟨Nat.le_of_ble_eq_true rfl, Nat.le_of_ble_eq_true rfl⟩, rfl, hts _ im_X1_init⟩ (g5_preS hPc hK hDc hN hT hS hFc) rfl rfl hl.1 rfl (lv_room (Nat.le_of_ble_eq_true rfl)) dX11_init_36 ⟨Nat.le_of_ble_eq_true rfl, Nat.le_of_ble_eq_true rfl⟩) hS (fun q _ h => hFc q h) hFc (fun u t H locs ht hvm hw hB hz1 hk1 hS => ?_)
  obtain ⟨hP1, hD1⟩ := hB
  have hP1 := g5_ht ht hP1
  refine W.widen (k := 40) (n := 989) (Nat.le_of_ble_eq_true rfl) (Nat.le_of_ble_eq_true rfl) ?_
  obtain ⟨q29, q30, q31, q32, q33, q34, q35, q36, q37, q38, q39, q40, rfl⟩ := hw
  have hJ9 := va_join (wr := [(a0, .inr (11, [.ref q1, .null, .null, .null, .null, .null, .null, .null, .null, .null, .int 0, .int 0, .int 0, .null, .int 0, .null, .int 0])), (q1, (oc1 0 1000 (-1) (-1) 0 q2 q3 q5 q7 q9 q11 0 q13)), (q2, (arW G 6 (fun _ => none))), (q3, (oc6 6 5 q4 0)), (q4, (arI G 30 (fun _ => 0))), (q5, (oc6 5 24 q6 0)), (q6, (arI G 120 (fun _ => 0))), (q7, (oc6 10 4 q8 0)), (q8, (arI G 40 (fun _ => 0))), (q9, (oc6 8 5 q10 0)), (q10, (arI G 40 (fun _ => 0))), (q11, (oc6 6 6 q12 0)), (q12, (arI G 36 (fun _ => 0))), (q13, (arJ G 24 (fun _ => 0))), (q14, (arH G 2 (va_up (fun _ => none) 0 (some q15)))), (q15, (oc1 0 1000 (-1) (-1) 0 q16 q17 q19 q21 q23 q25 0 q27)), (q16, (arW G 6 (fun _ => none))), (q17, (oc6 6 5 q18 0)), (q18, (arI G 30 (fun _ => 0))), (q19, (oc6 5 24 q20 0)), (q20, (arI G 120 (fun _ => 0))), (q21, (oc6 10 4 q22 0)), (q22, (arI G 40 (fun _ => 0))), (q23, (oc6 8 5 q24 0)), (q24, (arI G 40 (fun _ => 0))), (q25, (oc6 6 6 q26 0)), (q26, (arI G 36 (fun _ => 0))), (q27, (arJ G 24 (fun _ => 0)))]) hP hD [28] [0, 1, 2, 3, 4, 5, 6, 7, 8, 9, 10, 11, 12, 13, 14, 15, 16, 17, 18, 19, 20, 21, 22, 23, 24, 25, 26, 27] rfl rfl (by decide +kernel) (by decide +kernel) hk1 hFc hP1 hD1
  clear hP hD hPc hDc hFc ht hvm hz1 hk1 hP1 hD1
  obtain ⟨hP, hD⟩ := hJ9
  refine g5_rs [(a0, .inr (11, [.ref q1, .null, .null, .null, .null, .null, .null, .null, .null, .null, .int 0, .int 0, .int 0, .null, .int 0, .null, .int 0])), (q1, (oc1 0 1000 (-1) (-1) 0 q2 q3 q5 q7 q9 q11 0 q13)), (q2, (arW G 6 (fun _ => none))), (q3, (oc6 6 5 q4 0)), (q4, (arI G 30 (fun _ => 0))), (q5, (oc6 5 24 q6 0)), (q6, (arI G 120 (fun _ => 0))), (q7, (oc6 10 4 q8 0)), (q8, (arI G 40 (fun _ => 0))), (q9, (oc6 8 5 q10 0)), (q10, (arI G 40 (fun _ => 0))), (q11, (oc6 6 6 q12 0)), (q12, (arI G 36 (fun _ => 0))), (q13, (arJ G 24 (fun _ => 0))), (q14, (arH G 2 (va_up (fun _ => none) 0 (some q15)))), (q15, (oc1 0 1000 (-1) (-1) 0 q16 q17 q19 q21 q23 q25 0 q27)), (q16, (arW G 6 (fun _ => none))), (q17, (oc6 6 5 q18 0)), (q18, (arI G 30 (fun _ => 0))), (q19, (oc6 5 24 q20 0)), (q20, (arI G 120 (fun _ => 0))), (q21, (oc6 10 4 q22 0)), (q22, (arI G 40 (fun _ => 0))), (q23, (oc6 8 5 q24 0)), (q24, (arI G 40 (fun _ => 0))), (q25, (oc6 6 6 q26 0)), (q26, (arI G 36 (fun _ => 0))), (q27, (arJ G 24 (fun _ => 0))), (q28, (oc1 0 1000 (-1) (-1) 0 q29 q30 q32 q34 q36 q38 0 q40)), (q29, (arW G 6 (fun _ => none))), (q30, (oc6 6 5 q31 0)), (q31, (arI G 30 (fun _ => 0))), (q32, (oc6 5 24 q33 0)), (q33, (arI G 120 (fun _ => 0))), (q34, (oc6 10 4 q35 0)), (q35, (arI G 40 (fun _ => 0))), (q36, (oc6 8 5 q37 0)), (q37, (arI G 40 (fun _ => 0))), (q38, (oc6 6 6 q39 0)), (q39, (arI G 36 (fun _ => 0))), (q40, (arJ G 24 (fun _ => 0)))] hP hD ?_
  clear hP hD
  intro hP hD
  refine va_astq hx hb hK hP hD hS 14 3 28 1 rfl rfl rfl rfl (i := 1) (by unfold vp_in; decide) dX11_init_39 ?_
  clear hP hD hS
  intro H locs hP hD hS
  refine g5_rs [(a0, .inr (11, [.ref q1, .null, .null, .null, .null, .null, .null, .null, .null, .null, .int 0, .int 0, .int 0, .null, .int 0, .null, .int 0])), (q1, (oc1 0 1000 (-1) (-1) 0 q2 q3 q5 q7 q9 q11 0 q13)), (q2, (arW G 6 (fun _ => none))), (q3, (oc6 6 5 q4 0)), (q4, (arI G 30 (fun _ => 0))), (q5, (oc6 5 24 q6 0)), (q6, (arI G 120 (fun _ => 0))), (q7, (oc6 10 4 q8 0)), (q8, (arI G 40 (fun _ => 0))), (q9, (oc6 8 5 q10 0)), (q10, (arI G 40 (fun _ => 0))), (q11, (oc6 6 6 q12 0)), (q12, (arI G 36 (fun _ => 0))), (q13, (arJ G 24 (fun _ => 0))), (q14, (arH G 2 (va_up (va_up (fun _ => none) 0 (some q15)) 1 (some q28)))), (q15, (oc1 0 1000 (-1) (-1) 0 q16 q17 q19 q21 q23 q25 0 q27)), (q16, (arW G 6 (fun _ => none))), (q17, (oc6 6 5 q18 0)), (q18, (arI G 30 (fun _ => 0))), (q19, (oc6 5 24 q20 0)), (q20, (arI G 120 (fun _ => 0))), (q21, (oc6 10 4 q22 0)), (q22, (arI G 40 (fun _ => 0))), (q23, (oc6 8 5 q24 0)), (q24, (arI G 40 (fun _ => 0))), (q25, (oc6 6 6 q26 0)), (q26, (arI G 36 (fun _ => 0))), (q27, (arJ G 24 (fun _ => 0))), (q28, (oc1 0 1000 (-1) (-1) 0 q29 q30 q32 q34 q36 q38 0 q40)), (q29, (arW G 6 (fun _ => none))), (q30, (oc6 6 5 q31 0)), (q31, (arI G 30 (fun _ => 0))), (q32, (oc6 5 24 q33 0)), (q33, (arI G 120 (fun _ => 0))), (q34, (oc6 10 4 q35 0)), (q35, (arI G 40 (fun _ => 0))), (q36, (oc6 8 5 q37 0)), (q37, (arI G 40 (fun _ => 0))), (q38, (oc6 6 6 q39 0)), (q39, (arI G 36 (fun _ => 0))), (q40, (arJ G 24 (fun _ => 0)))] hP hD ?_
  clear hP hD
  intro hP hD
  refine va_putF (D := G.1) (ci := 11) (v := .ref q14) (ty := .array (.object "LateGlass$House")) (C := RX11) (T := TX11) (N := 17) hx hb hts inG_X11 tyX11 tyX11_ok nmX11 hown hK hP hD hS 0 rfl rfl 1 (by decide +kernel) (hts _ fl_X11_16) (fun _ h9 => h9) rfl hin rfl (by decide +kernel) rfl rfl (Nat.le_of_ble_eq_true rfl) dX11_init_40 ?_
  clear hP hD hS
  intro H locs hP hD hS
  refine g5_rs [(a0, .inr (11, [.ref q1, .ref q14, .null, .null, .null, .null, .null, .null, .null, .null, .int 0, .int 0, .int 0, .null, .int 0, .null, .int 0])), (q1, (oc1 0 1000 (-1) (-1) 0 q2 q3 q5 q7 q9 q11 0 q13)), (q2, (arW G 6 (fun _ => none))), (q3, (oc6 6 5 q4 0)), (q4, (arI G 30 (fun _ => 0))), (q5, (oc6 5 24 q6 0)), (q6, (arI G 120 (fun _ => 0))), (q7, (oc6 10 4 q8 0)), (q8, (arI G 40 (fun _ => 0))), (q9, (oc6 8 5 q10 0)), (q10, (arI G 40 (fun _ => 0))), (q11, (oc6 6 6 q12 0)), (q12, (arI G 36 (fun _ => 0))), (q13, (arJ G 24 (fun _ => 0))), (q14, (arH G 2 (va_up (va_up (fun _ => none) 0 (some q15)) 1 (some q28)))), (q15, (oc1 0 1000 (-1) (-1) 0 q16 q17 q19 q21 q23 q25 0 q27)), (q16, (arW G 6 (fun _ => none))), (q17, (oc6 6 5 q18 0)), (q18, (arI G 30 (fun _ => 0))), (q19, (oc6 5 24 q20 0)), (q20, (arI G 120 (fun _ => 0))), (q21, (oc6 10 4 q22 0)), (q22, (arI G 40 (fun _ => 0))), (q23, (oc6 8 5 q24 0)), (q24, (arI G 40 (fun _ => 0))), (q25, (oc6 6 6 q26 0)), (q26, (arI G 36 (fun _ => 0))), (q27, (arJ G 24 (fun _ => 0))), (q28, (oc1 0 1000 (-1) (-1) 0 q29 q30 q32 q34 q36 q38 0 q40)), (q29, (arW G 6 (fun _ => none))), (q30, (oc6 6 5 q31 0)), (q31, (arI G 30 (fun _ => 0))), (q32, (oc6 5 24 q33 0)), (q33, (arI G 120 (fun _ => 0))), (q34, (oc6 10 4 q35 0)), (q35, (arI G 40 (fun _ => 0))), (q36, (oc6 8 5 q37 0)), (q37, (arI G 40 (fun _ => 0))), (q38, (oc6 6 6 q39 0)), (q39, (arI G 36 (fun _ => 0))), (q40, (arJ G 24 (fun _ => 0)))] hP hD ?_
  clear hP hD
  intro hP hD
  refine lv_aload_n hx hb dX11_init_43 rfl (lv_at hl 0 rfl) ?_
  refine lv_iconst (v := 2) hx hb dX11_init_44 (by decide +kernel) ?_
  refine va_newa (D := G.1) (atype := .boolean) (ty := .boolean) hx hb (hts _ acl_Z) rfl hK hP hD hS hA (n := 2) (N' := 2) (a0 := (2, .inl (fun _ => 0))) (fun _ => rfl) (by decide +kernel) (by decide +kernel) (by decide +kernel) (Nat.le_of_ble_eq_true rfl) (Nat.le_of_ble_eq_true rfl) dX11_init_45 (fun q41 cA H hKn hP hD hS => ?_)
  obtain rfl : cA = G.2 2 := g5_cZ hKn
  refine g5_rs [(a0, .inr (11, [.ref q1, .ref q14, .null, .null, .null, .null, .null, .null, .null, .null, .int 0, .int 0, .int 0, .null, .int 0, .null, .int 0])), (q1, (oc1 0 1000 (-1) (-1) 0 q2 q3 q5 q7 q9 q11 0 q13)), (q2, (arW G 6 (fun _ => none))), (q3, (oc6 6 5 q4 0)), (q4, (arI G 30 (fun _ => 0))), (q5, (oc6 5 24 q6 0)), (q6, (arI G 120 (fun _ => 0))), (q7, (oc6 10 4 q8 0)), (q8, (arI G 40 (fun _ => 0))), (q9, (oc6 8 5 q10 0)), (q10, (arI G 40 (fun _ => 0))), (q11, (oc6 6 6 q12 0)), (q12, (arI G 36 (fun _ => 0))), (q13, (arJ G 24 (fun _ => 0))), (q14, (arH G 2 (va_up (va_up (fun _ => none) 0 (some q15)) 1 (some q28)))), (q15, (oc1 0 1000 (-1) (-1) 0 q16 q17 q19 q21 q23 q25 0 q27)), (q16, (arW G 6 (fun _ => none))), (q17, (oc6 6 5 q18 0)), (q18, (arI G 30 (fun _ => 0))), (q19, (oc6 5 24 q20 0)), (q20, (arI G 120 (fun _ => 0))), (q21, (oc6 10 4 q22 0)), (q22, (arI G 40 (fun _ => 0))), (q23, (oc6 8 5 q24 0)), (q24, (arI G 40 (fun _ => 0))), (q25, (oc6 6 6 q26 0)), (q26, (arI G 36 (fun _ => 0))), (q27, (arJ G 24 (fun _ => 0))), (q28, (oc1 0 1000 (-1) (-1) 0 q29 q30 q32 q34 q36 q38 0 q40)), (q29, (arW G 6 (fun _ => none))), (q30, (oc6 6 5 q31 0)), (q31, (arI G 30 (fun _ => 0))), (q32, (oc6 5 24 q33 0)), (q33, (arI G 120 (fun _ => 0))), (q34, (oc6 10 4 q35 0)), (q35, (arI G 40 (fun _ => 0))), (q36, (oc6 8 5 q37 0)), (q37, (arI G 40 (fun _ => 0))), (q38, (oc6 6 6 q39 0)), (q39, (arI G 36 (fun _ => 0))), (q40, (arJ G 24 (fun _ => 0))), (q41, (arZ G 2 (fun _ => 0)))] hP hD ?_
  clear hP hD
  intro hP hD
  refine W.widen (k := 41) (n := 991) (Nat.le_of_ble_eq_true rfl) (Nat.le_of_ble_eq_true rfl) ?_
  refine va_putF (D := G.1) (ci := 11) (v := .ref q41) (ty := .array .boolean) (C := RX11) (T := TX11) (N := 17) hx hb hts inG_X11 tyX11 tyX11_ok nmX11 hown hK hP hD hS 0 rfl rfl 2 (by decide +kernel) (hts _ fl_X11_20) (fun _ h9 => h9) rfl hin rfl (by decide +kernel) rfl rfl (Nat.le_of_ble_eq_true rfl) dX11_init_47 ?_
  clear hP hD hS
  intro H locs hP hD hS
  refine g5_rs [(a0, .inr (11, [.ref q1, .ref q14, .ref q41, .null, .null, .null, .null, .null, .null, .null, .int 0, .int 0, .int 0, .null, .int 0, .null, .int 0])), (q1, (oc1 0 1000 (-1) (-1) 0 q2 q3 q5 q7 q9 q11 0 q13)), (q2, (arW G 6 (fun _ => none))), (q3, (oc6 6 5 q4 0)), (q4, (arI G 30 (fun _ => 0))), (q5, (oc6 5 24 q6 0)), (q6, (arI G 120 (fun _ => 0))), (q7, (oc6 10 4 q8 0)), (q8, (arI G 40 (fun _ => 0))), (q9, (oc6 8 5 q10 0)), (q10, (arI G 40 (fun _ => 0))), (q11, (oc6 6 6 q12 0)), (q12, (arI G 36 (fun _ => 0))), (q13, (arJ G 24 (fun _ => 0))), (q14, (arH G 2 (va_up (va_up (fun _ => none) 0 (some q15)) 1 (some q28)))), (q15, (oc1 0 1000 (-1) (-1) 0 q16 q17 q19 q21 q23 q25 0 q27)), (q16, (arW G 6 (fun _ => none))), (q17, (oc6 6 5 q18 0)), (q18, (arI G 30 (fun _ => 0))), (q19, (oc6 5 24 q20 0)), (q20, (arI G 120 (fun _ => 0))), (q21, (oc6 10 4 q22 0)), (q22, (arI G 40 (fun _ => 0))), (q23, (oc6 8 5 q24 0)), (q24, (arI G 40 (fun _ => 0))), (q25, (oc6 6 6 q26 0)), (q26, (arI G 36 (fun _ => 0))), (q27, (arJ G 24 (fun _ => 0))), (q28, (oc1 0 1000 (-1) (-1) 0 q29 q30 q32 q34 q36 q38 0 q40)), (q29, (arW G 6 (fun _ => none))), (q30, (oc6 6 5 q31 0)), (q31, (arI G 30 (fun _ => 0))), (q32, (oc6 5 24 q33 0)), (q33, (arI G 120 (fun _ => 0))), (q34, (oc6 10 4 q35 0)), (q35, (arI G 40 (fun _ => 0))), (q36, (oc6 8 5 q37 0)), (q37, (arI G 40 (fun _ => 0))), (q38, (oc6 6 6 q39 0)), (q39, (arI G 36 (fun _ => 0))), (q40, (arJ G 24 (fun _ => 0))), (q41, (arZ G 2 (fun _ => 0)))] hP hD ?_
  clear hP hD
  intro hP hD
  refine lv_aload_n hx hb dX11_init_50 rfl (lv_at hl 0 rfl) ?_
  refine va_new (D := G.1) (ci := 5) (fs := [.null, .null, .null, .int 0, .int 0, .int 0, .int 0, .int 0, .int 0, .int 0, .int 0, .int 0, .int 0]) (C := RX5) (T := TX5) (N := 13) hx hb hts inG_X5 tyX5 tyX5_ok hown (hts _ cl_X11_24) (hts _ isn_X5) (hts _ ini_X5) hK hP hD hS hA rfl (fun j hj => by rcases (show j = 0 ∨ j = 1 ∨ j = 2 ∨ j = 3 ∨ j = 4 ∨ j = 5 ∨ j = 6 ∨ j = 7 ∨ j = 8 ∨ j = 9 ∨ j = 10 ∨ j = 11 ∨ j = 12 by omega) with rfl | rfl | rfl | rfl | rfl | rfl | rfl | rfl | rfl | rfl | rfl | rfl | rfl <;> rfl) (Nat.le_of_ble_eq_true rfl) (Nat.le_of_ble_eq_true rfl) dX11_init_51 (fun q42 H hP hD hS => ?_)
  refine g5_rs [(a0, .inr (11, [.ref q1, .ref q14, .ref q41, .null, .null, .null, .null, .null, .null, .null, .int 0, .int 0, .int 0, .null, .int 0, .null, .int 0])), (q1, (oc1 0 1000 (-1) (-1) 0 q2 q3 q5 q7 q9 q11 0 q13)), (q2, (arW G 6 (fun _ => none))), (q3, (oc6 6 5 q4 0)), (q4, (arI G 30 (fun _ => 0))), (q5, (oc6 5 24 q6 0)), (q6, (arI G 120 (fun _ => 0))), (q7, (oc6 10 4 q8 0)), (q8, (arI G 40 (fun _ => 0))), (q9, (oc6 8 5 q10 0)), (q10, (arI G 40 (fun _ => 0))), (q11, (oc6 6 6 q12 0)), (q12, (arI G 36 (fun _ => 0))), (q13, (arJ G 24 (fun _ => 0))), (q14, (arH G 2 (va_up (va_up (fun _ => none) 0 (some q15)) 1 (some q28)))), (q15, (oc1 0 1000 (-1) (-1) 0 q16 q17 q19 q21 q23 q25 0 q27)), (q16, (arW G 6 (fun _ => none))), (q17, (oc6 6 5 q18 0)), (q18, (arI G 30 (fun _ => 0))), (q19, (oc6 5 24 q20 0)), (q20, (arI G 120 (fun _ => 0))), (q21, (oc6 10 4 q22 0)), (q22, (arI G 40 (fun _ => 0))), (q23, (oc6 8 5 q24 0)), (q24, (arI G 40 (fun _ => 0))), (q25, (oc6 6 6 q26 0)), (q26, (arI G 36 (fun _ => 0))), (q27, (arJ G 24 (fun _ => 0))), (q28, (oc1 0 1000 (-1) (-1) 0 q29 q30 q32 q34 q36 q38 0 q40)), (q29, (arW G 6 (fun _ => none))), (q30, (oc6 6 5 q31 0)), (q31, (arI G 30 (fun _ => 0))), (q32, (oc6 5 24 q33 0)), (q33, (arI G 120 (fun _ => 0))), (q34, (oc6 10 4 q35 0)), (q35, (arI G 40 (fun _ => 0))), (q36, (oc6 8 5 q37 0)), (q37, (arI G 40 (fun _ => 0))), (q38, (oc6 6 6 q39 0)), (q39, (arI G 36 (fun _ => 0))), (q40, (arJ G 24 (fun _ => 0))), (q41, (arZ G 2 (fun _ => 0))), (q42, .inr (5, [.null, .null, .null, .int 0, .int 0, .int 0, .int 0, .int 0, .int 0, .int 0, .int 0, .int 0, .int 0]))] hP hD ?_
  clear hP hD
  intro hP hD
  refine W.widen (k := 42) (n := 1004) (Nat.le_of_ble_eq_true rfl) (Nat.le_of_ble_eq_true rfl) ?_
  refine lv_dup hx hb dX11_init_54 rfl ?_
  refine lv_aload_n hx hb dX11_init_55 rfl (lv_at hl 0 rfl) ?_
  refine va_get (D := G.1) (ci := 11) (v := .ref q1) (C := RX11) (T := TX11) (N := 17) hx hb hts inG_X11 hown hK hP 0 rfl rfl 0 (by decide +kernel) (hts _ fl_X11_12) (fun _ h9 => h9) rfl dX11_init_56 ?_
  obtain ⟨hPc, hDc, hFc⟩ := g5_sub3 (wc := [(q42, .inr (5, [.null, .null, .null, .int 0, .int 0, .int 0, .int 0, .int 0, .int 0, .int 0, .int 0, .int 0, .int 0]))]) hP hD hS hA [42] (by decide +kernel) rfl
  refine va_callv (va_runI (As := [.ref q1]) (rest := [.ref q42, .ref a0]) ⟨hx, hb, hml, hown, hts⟩ (kX5_init l G q42 q1 H.size) (cwI 1 hts gW_X5_init rfl rfl rfl (hts _ ini_X5) (hts _ ml_X11_26) (hts _ im_X5_init) rfl hs_X5_init ⟨Nat.le_of_ble_eq_true rfl, Nat.le_of_ble_eq_true rfl⟩) (g5_preS hPc hK hDc hN hT hS hFc) rfl rfl hl.1 rfl (lv_room (Nat.le_of_ble_eq_true rfl)) dX11_init_59 ⟨Nat.le_of_ble_eq_true rfl, Nat.le_of_ble_eq_true rfl⟩) hS (fun q _ h => hFc q h) hFc (fun u t H locs ht hvm hw hB hz1 hk1 hS => ?_)
  obtain ⟨hP1, hD1⟩ := hB
  have hP1 := g5_ht ht hP1
  refine W.widen (k := 46) (n := 1264) (Nat.le_of_ble_eq_true rfl) (Nat.le_of_ble_eq_true rfl) ?_
  obtain ⟨q43, q44, q45, q46, rfl⟩ := hw
  have hJ9 := va_join (wr := [(a0, .inr (11, [.ref q1, .ref q14, .ref q41, .null, .null, .null, .null, .null, .null, .null, .int 0, .int 0, .int 0, .null, .int 0, .null, .int 0])), (q1, (oc1 0 1000 (-1) (-1) 0 q2 q3 q5 q7 q9 q11 0 q13)), (q2, (arW G 6 (fun _ => none))), (q3, (oc6 6 5 q4 0)), (q4, (arI G 30 (fun _ => 0))), (q5, (oc6 5 24 q6 0)), (q6, (arI G 120 (fun _ => 0))), (q7, (oc6 10 4 q8 0)), (q8, (arI G 40 (fun _ => 0))), (q9, (oc6 8 5 q10 0)), (q10, (arI G 40 (fun _ => 0))), (q11, (oc6 6 6 q12 0)), (q12, (arI G 36 (fun _ => 0))), (q13, (arJ G 24 (fun _ => 0))), (q14, (arH G 2 (va_up (va_up (fun _ => none) 0 (some q15)) 1 (some q28)))), (q15, (oc1 0 1000 (-1) (-1) 0 q16 q17 q19 q21 q23 q25 0 q27)), (q16, (arW G 6 (fun _ => none))), (q17, (oc6 6 5 q18 0)), (q18, (arI G 30 (fun _ => 0))), (q19, (oc6 5 24 q20 0)), (q20, (arI G 120 (fun _ => 0))), (q21, (oc6 10 4 q22 0)), (q22, (arI G 40 (fun _ => 0))), (q23, (oc6 8 5 q24 0)), (q24, (arI G 40 (fun _ => 0))), (q25, (oc6 6 6 q26 0)), (q26, (arI G 36 (fun _ => 0))), (q27, (arJ G 24 (fun _ => 0))), (q28, (oc1 0 1000 (-1) (-1) 0 q29 q30 q32 q34 q36 q38 0 q40)), (q29, (arW G 6 (fun _ => none))), (q30, (oc6 6 5 q31 0)), (q31, (arI G 30 (fun _ => 0))), (q32, (oc6 5 24 q33 0)), (q33, (arI G 120 (fun _ => 0))), (q34, (oc6 10 4 q35 0)), (q35, (arI G 40 (fun _ => 0))), (q36, (oc6 8 5 q37 0)), (q37, (arI G 40 (fun _ => 0))), (q38, (oc6 6 6 q39 0)), (q39, (arI G 36 (fun _ => 0))), (q40, (arJ G 24 (fun _ => 0))), (q41, (arZ G 2 (fun _ => 0)))]) hP hD [42] [0, 1, 2, 3, 4, 5, 6, 7, 8, 9, 10, 11, 12, 13, 14, 15, 16, 17, 18, 19, 20, 21, 22, 23, 24, 25, 26, 27, 28, 29, 30, 31, 32, 33, 34, 35, 36, 37, 38, 39, 40, 41] rfl rfl (by decide +kernel) (by decide +kernel) hk1 hFc hP1 hD1
  clear hP hD hPc hDc hFc ht hvm hz1 hk1 hP1 hD1
  obtain ⟨hP, hD⟩ := hJ9
  refine g5_rs [(a0, .inr (11, [.ref q1, .ref q14, .ref q41, .null, .null, .null, .null, .null, .null, .null, .int 0, .int 0, .int 0, .null, .int 0, .null, .int 0])), (q1, (oc1 0 1000 (-1) (-1) 0 q2 q3 q5 q7 q9 q11 0 q13)), (q2, (arW G 6 (fun _ => none))), (q3, (oc6 6 5 q4 0)), (q4, (arI G 30 (fun _ => 0))), (q5, (oc6 5 24 q6 0)), (q6, (arI G 120 (fun _ => 0))), (q7, (oc6 10 4 q8 0)), (q8, (arI G 40 (fun _ => 0))), (q9, (oc6 8 5 q10 0)), (q10, (arI G 40 (fun _ => 0))), (q11, (oc6 6 6 q12 0)), (q12, (arI G 36 (fun _ => 0))), (q13, (arJ G 24 (fun _ => 0))), (q14, (arH G 2 (va_up (va_up (fun _ => none) 0 (some q15)) 1 (some q28)))), (q15, (oc1 0 1000 (-1) (-1) 0 q16 q17 q19 q21 q23 q25 0 q27)), (q16, (arW G 6 (fun _ => none))), (q17, (oc6 6 5 q18 0)), (q18, (arI G 30 (fun _ => 0))), (q19, (oc6 5 24 q20 0)), (q20, (arI G 120 (fun _ => 0))), (q21, (oc6 10 4 q22 0)), (q22, (arI G 40 (fun _ => 0))), (q23, (oc6 8 5 q24 0)), (q24, (arI G 40 (fun _ => 0))), (q25, (oc6 6 6 q26 0)), (q26, (arI G 36 (fun _ => 0))), (q27, (arJ G 24 (fun _ => 0))), (q28, (oc1 0 1000 (-1) (-1) 0 q29 q30 q32 q34 q36 q38 0 q40)), (q29, (arW G 6 (fun _ => none))), (q30, (oc6 6 5 q31 0)), (q31, (arI G 30 (fun _ => 0))), (q32, (oc6 5 24 q33 0)), (q33, (arI G 120 (fun _ => 0))), (q34, (oc6 10 4 q35 0)), (q35, (arI G 40 (fun _ => 0))), (q36, (oc6 8 5 q37 0)), (q37, (arI G 40 (fun _ => 0))), (q38, (oc6 6 6 q39 0)), (q39, (arI G 36 (fun _ => 0))), (q40, (arJ G 24 (fun _ => 0))), (q41, (arZ G 2 (fun _ => 0))), (q42, (oc5 q1 q43 q46 0 0 0 0 0 0 0 0 0 0)), (q43, (oc2 q44 q45)), (q44, (arI G 8 (fun _ => 0))), (q45, (arJ G 50 (fun _ => 0))), (q46, (arI G 200 (fun _ => 0)))] hP hD ?_
  clear hP hD
  intro hP hD
  refine va_putF (D := G.1) (ci := 11) (v := .ref q42) (ty := .object "LateGlass$Look") (C := RX11) (T := TX11) (N := 17) hx hb hts inG_X11 tyX11 tyX11_ok nmX11 hown hK hP hD hS 0 rfl rfl 3 (by decide +kernel) (hts _ fl_X11_29) (fun _ h9 => h9) rfl hin rfl (by decide +kernel) rfl rfl (Nat.le_of_ble_eq_true rfl) dX11_init_62 ?_
  clear hP hD hS
  intro H locs hP hD hS
  refine g5_rs [(a0, .inr (11, [.ref q1, .ref q14, .ref q41, .ref q42, .null, .null, .null, .null, .null, .null, .int 0, .int 0, .int 0, .null, .int 0, .null, .int 0])), (q1, (oc1 0 1000 (-1) (-1) 0 q2 q3 q5 q7 q9 q11 0 q13)), (q2, (arW G 6 (fun _ => none))), (q3, (oc6 6 5 q4 0)), (q4, (arI G 30 (fun _ => 0))), (q5, (oc6 5 24 q6 0)), (q6, (arI G 120 (fun _ => 0))), (q7, (oc6 10 4 q8 0)), (q8, (arI G 40 (fun _ => 0))), (q9, (oc6 8 5 q10 0)), (q10, (arI G 40 (fun _ => 0))), (q11, (oc6 6 6 q12 0)), (q12, (arI G 36 (fun _ => 0))), (q13, (arJ G 24 (fun _ => 0))), (q14, (arH G 2 (va_up (va_up (fun _ => none) 0 (some q15)) 1 (some q28)))), (q15, (oc1 0 1000 (-1) (-1) 0 q16 q17 q19 q21 q23 q25 0 q27)), (q16, (arW G 6 (fun _ => none))), (q17, (oc6 6 5 q18 0)), (q18, (arI G 30 (fun _ => 0))), (q19, (oc6 5 24 q20 0)), (q20, (arI G 120 (fun _ => 0))), (q21, (oc6 10 4 q22 0)), (q22, (arI G 40 (fun _ => 0))), (q23, (oc6 8 5 q24 0)), (q24, (arI G 40 (fun _ => 0))), (q25, (oc6 6 6 q26 0)), (q26, (arI G 36 (fun _ => 0))), (q27, (arJ G 24 (fun _ => 0))), (q28, (oc1 0 1000 (-1) (-1) 0 q29 q30 q32 q34 q36 q38 0 q40)), (q29, (arW G 6 (fun _ => none))), (q30, (oc6 6 5 q31 0)), (q31, (arI G 30 (fun _ => 0))), (q32, (oc6 5 24 q33 0)), (q33, (arI G 120 (fun _ => 0))), (q34, (oc6 10 4 q35 0)), (q35, (arI G 40 (fun _ => 0))), (q36, (oc6 8 5 q37 0)), (q37, (arI G 40 (fun _ => 0))), (q38, (oc6 6 6 q39 0)), (q39, (arI G 36 (fun _ => 0))), (q40, (arJ G 24 (fun _ => 0))), (q41, (arZ G 2 (fun _ => 0))), (q42, (oc5 q1 q43 q46 0 0 0 0 0 0 0 0 0 0)), (q43, (oc2 q44 q45)), (q44, (arI G 8 (fun _ => 0))), (q45, (arJ G 50 (fun _ => 0))), (q46, (arI G 200 (fun _ => 0)))] hP hD ?_
  clear hP hD
  intro hP hD
  refine lv_aload_n hx hb dX11_init_65 rfl (lv_at hl 0 rfl) ?_
  refine va_new (D := G.1) (ci := 10) (fs := [.null, .null, .null]) (C := RX10) (T := TX10) (N := 3) hx hb hts inG_X10 tyX10 tyX10_ok hown (hts _ cl_X11_33) (hts _ isn_X10) (hts _ ini_X10) hK hP hD hS hA rfl (fun j hj => by rcases (show j = 0 ∨ j = 1 ∨ j = 2 by omega) with rfl | rfl | rfl <;> rfl) (Nat.le_of_ble_eq_true rfl) (Nat.le_of_ble_eq_true rfl) dX11_init_66 (fun q47 H hP hD hS => ?_)
  refine g5_rs [(a0, .inr (11, [.ref q1, .ref q14, .ref q41, .ref q42, .null, .null, .null, .null, .null, .null, .int 0, .int 0, .int 0, .null, .int 0, .null, .int 0])), (q1, (oc1 0 1000 (-1) (-1) 0 q2 q3 q5 q7 q9 q11 0 q13)), (q2, (arW G 6 (fun _ => none))), (q3, (oc6 6 5 q4 0)), (q4, (arI G 30 (fun _ => 0))), (q5, (oc6 5 24 q6 0)), (q6, (arI G 120 (fun _ => 0))), (q7, (oc6 10 4 q8 0)), (q8, (arI G 40 (fun _ => 0))), (q9, (oc6 8 5 q10 0)), (q10, (arI G 40 (fun _ => 0))), (q11, (oc6 6 6 q12 0)), (q12, (arI G 36 (fun _ => 0))), (q13, (arJ G 24 (fun _ => 0))), (q14, (arH G 2 (va_up (va_up (fun _ => none) 0 (some q15)) 1 (some q28)))), (q15, (oc1 0 1000 (-1) (-1) 0 q16 q17 q19 q21 q23 q25 0 q27)), (q16, (arW G 6 (fun _ => none))), (q17, (oc6 6 5 q18 0)), (q18, (arI G 30 (fun _ => 0))), (q19, (oc6 5 24 q20 0)), (q20, (arI G 120 (fun _ => 0))), (q21, (oc6 10 4 q22 0)), (q22, (arI G 40 (fun _ => 0))), (q23, (oc6 8 5 q24 0)), (q24, (arI G 40 (fun _ => 0))), (q25, (oc6 6 6 q26 0)), (q26, (arI G 36 (fun _ => 0))), (q27, (arJ G 24 (fun _ => 0))), (q28, (oc1 0 1000 (-1) (-1) 0 q29 q30 q32 q34 q36 q38 0 q40)), (q29, (arW G 6 (fun _ => none))), (q30, (oc6 6 5 q31 0)), (q31, (arI G 30 (fun _ => 0))), (q32, (oc6 5 24 q33 0)), (q33, (arI G 120 (fun _ => 0))), (q34, (oc6 10 4 q35 0)), (q35, (arI G 40 (fun _ => 0))), (q36, (oc6 8 5 q37 0)), (q37, (arI G 40 (fun _ => 0))), (q38, (oc6 6 6 q39 0)), (q39, (arI G 36 (fun _ => 0))), (q40, (arJ G 24 (fun _ => 0))), (q41, (arZ G 2 (fun _ => 0))), (q42, (oc5 q1 q43 q46 0 0 0 0 0 0 0 0 0 0)), (q43, (oc2 q44 q45)), (q44, (arI G 8 (fun _ => 0))), (q45, (arJ G 50 (fun _ => 0))), (q46, (arI G 200 (fun _ => 0))), (q47, .inr (10, [.null, .null, .null]))] hP hD ?_
  clear hP hD
  intro hP hD
  refine W.widen (k := 47) (n := 1267) (Nat.le_of_ble_eq_true rfl) (Nat.le_of_ble_eq_true rfl) ?_
  refine lv_dup hx hb dX11_init_69 rfl ?_
  refine lv_aload_n hx hb dX11_init_70 rfl (lv_at hl 0 rfl) ?_
  refine va_get (D := G.1) (ci := 11) (v := .ref q1) (C := RX11) (T := TX11) (N := 17) hx hb hts inG_X11 hown hK hP 0 rfl rfl 0 (by decide +kernel) (hts _ fl_X11_12) (fun _ h9 => h9) rfl dX11_init_71 ?_
  refine lv_aload_n hx hb dX11_init_74 rfl (lv_at hl 0 rfl) ?_
  refine va_get (D := G.1) (ci := 11) (v := .ref q42) (C := RX11) (T := TX11) (N := 17) hx hb hts inG_X11 hown hK hP 0 rfl rfl 3 (by decide +kernel) (hts _ fl_X11_29) (fun _ h9 => h9) rfl dX11_init_75 ?_
  obtain ⟨hPc, hDc, hFc⟩ := g5_sub3 (wc := [(q47, .inr (10, [.null, .null, .null]))]) hP hD hS hA [47] (by decide +kernel) rfl
  refine va_callv (va_runI (As := [.ref q1, .ref q42]) (rest := [.ref q47, .ref a0]) ⟨hx, hb, hml, hown, hts⟩ (kX10_init l G q47 q1 q42 H.size) (cwI 2 hts gW_X10_init rfl rfl rfl (hts _ ini_X10) (hts _ ml_X11_35) (hts _ im_X10_init) rfl hs_X10_init ⟨Nat.le_of_ble_eq_true rfl, Nat.le_of_ble_eq_true rfl⟩) (g5_preS hPc hK hDc hN hT hS hFc) rfl rfl hl.1 rfl (lv_room (Nat.le_of_ble_eq_true rfl)) dX11_init_78 ⟨Nat.le_of_ble_eq_true rfl, Nat.le_of_ble_eq_true rfl⟩) hS (fun q _ h => hFc q h) hFc (fun u t H locs ht hvm hw hB hz1 hk1 hS => ?_)
  obtain ⟨hP1, hD1⟩ := hB
  have hP1 := g5_ht ht hP1
  refine W.widen (k := 48) (n := 1291) (Nat.le_of_ble_eq_true rfl) (Nat.le_of_ble_eq_true rfl) ?_
  obtain ⟨q48, rfl⟩ := hw
  have hJ9 := va_join (wr := [(a0, .inr (11, [.ref q1, .ref q14, .ref q41, .ref q42, .null, .null, .null, .null, .null, .null, .int 0, .int 0, .int 0, .null, .int 0, .null, .int 0])), (q1, (oc1 0 1000 (-1) (-1) 0 q2 q3 q5 q7 q9 q11 0 q13)), (q2, (arW G 6 (fun _ => none))), (q3, (oc6 6 5 q4 0)), (q4, (arI G 30 (fun _ => 0))), (q5, (oc6 5 24 q6 0)), (q6, (arI G 120 (fun _ => 0))), (q7, (oc6 10 4 q8 0)), (q8, (arI G 40 (fun _ => 0))), (q9, (oc6 8 5 q10 0)), (q10, (arI G 40 (fun _ => 0))), (q11, (oc6 6 6 q12 0)), (q12, (arI G 36 (fun _ => 0))), (q13, (arJ G 24 (fun _ => 0))), (q14, (arH G 2 (va_up (va_up (fun _ => none) 0 (some q15)) 1 (some q28)))), (q15, (oc1 0 1000 (-1) (-1) 0 q16 q17 q19 q21 q23 q25 0 q27)), (q16, (arW G 6 (fun _ => none))), (q17, (oc6 6 5 q18 0)), (q18, (arI G 30 (fun _ => 0))), (q19, (oc6 5 24 q20 0)), (q20, (arI G 120 (fun _ => 0))), (q21, (oc6 10 4 q22 0)), (q22, (arI G 40 (fun _ => 0))), (q23, (oc6 8 5 q24 0)), (q24, (arI G 40 (fun _ => 0))), (q25, (oc6 6 6 q26 0)), (q26, (arI G 36 (fun _ => 0))), (q27, (arJ G 24 (fun _ => 0))), (q28, (oc1 0 1000 (-1) (-1) 0 q29 q30 q32 q34 q36 q38 0 q40)), (q29, (arW G 6 (fun _ => none))), (q30, (oc6 6 5 q31 0)), (q31, (arI G 30 (fun _ => 0))), (q32, (oc6 5 24 q33 0)), (q33, (arI G 120 (fun _ => 0))), (q34, (oc6 10 4 q35 0)), (q35, (arI G 40 (fun _ => 0))), (q36, (oc6 8 5 q37 0)), (q37, (arI G 40 (fun _ => 0))), (q38, (oc6 6 6 q39 0)), (q39, (arI G 36 (fun _ => 0))), (q40, (arJ G 24 (fun _ => 0))), (q41, (arZ G 2 (fun _ => 0))), (q42, (oc5 q1 q43 q46 0 0 0 0 0 0 0 0 0 0)), (q43, (oc2 q44 q45)), (q44, (arI G 8 (fun _ => 0))), (q45, (arJ G 50 (fun _ => 0))), (q46, (arI G 200 (fun _ => 0)))]) hP hD [47] [0, 1, 2, 3, 4, 5, 6, 7, 8, 9, 10, 11, 12, 13, 14, 15, 16, 17, 18, 19, 20, 21, 22, 23, 24, 25, 26, 27, 28, 29, 30, 31, 32, 33, 34, 35, 36, 37, 38, 39, 40, 41, 42, 43, 44, 45, 46] rfl rfl (by decide +kernel) (by decide +kernel) hk1 hFc hP1 hD1
  clear hP hD hPc hDc hFc ht hvm hz1 hk1 hP1 hD1
  obtain ⟨hP, hD⟩ := hJ9
  refine g5_rs [(a0, .inr (11, [.ref q1, .ref q14, .ref q41, .ref q42, .null, .null, .null, .null, .null, .null, .int 0, .int 0, .int 0, .null, .int 0, .null, .int 0])), (q1, (oc1 0 1000 (-1) (-1) 0 q2 q3 q5 q7 q9 q11 0 q13)), (q2, (arW G 6 (fun _ => none))), (q3, (oc6 6 5 q4 0)), (q4, (arI G 30 (fun _ => 0))), (q5, (oc6 5 24 q6 0)), (q6, (arI G 120 (fun _ => 0))), (q7, (oc6 10 4 q8 0)), (q8, (arI G 40 (fun _ => 0))), (q9, (oc6 8 5 q10 0)), (q10, (arI G 40 (fun _ => 0))), (q11, (oc6 6 6 q12 0)), (q12, (arI G 36 (fun _ => 0))), (q13, (arJ G 24 (fun _ => 0))), (q14, (arH G 2 (va_up (va_up (fun _ => none) 0 (some q15)) 1 (some q28)))), (q15, (oc1 0 1000 (-1) (-1) 0 q16 q17 q19 q21 q23 q25 0 q27)), (q16, (arW G 6 (fun _ => none))), (q17, (oc6 6 5 q18 0)), (q18, (arI G 30 (fun _ => 0))), (q19, (oc6 5 24 q20 0)), (q20, (arI G 120 (fun _ => 0))), (q21, (oc6 10 4 q22 0)), (q22, (arI G 40 (fun _ => 0))), (q23, (oc6 8 5 q24 0)), (q24, (arI G 40 (fun _ => 0))), (q25, (oc6 6 6 q26 0)), (q26, (arI G 36 (fun _ => 0))), (q27, (arJ G 24 (fun _ => 0))), (q28, (oc1 0 1000 (-1) (-1) 0 q29 q30 q32 q34 q36 q38 0 q40)), (q29, (arW G 6 (fun _ => none))), (q30, (oc6 6 5 q31 0)), (q31, (arI G 30 (fun _ => 0))), (q32, (oc6 5 24 q33 0)), (q33, (arI G 120 (fun _ => 0))), (q34, (oc6 10 4 q35 0)), (q35, (arI G 40 (fun _ => 0))), (q36, (oc6 8 5 q37 0)), (q37, (arI G 40 (fun _ => 0))), (q38, (oc6 6 6 q39 0)), (q39, (arI G 36 (fun _ => 0))), (q40, (arJ G 24 (fun _ => 0))), (q41, (arZ G 2 (fun _ => 0))), (q42, (oc5 q1 q43 q46 0 0 0 0 0 0 0 0 0 0)), (q43, (oc2 q44 q45)), (q44, (arI G 8 (fun _ => 0))), (q45, (arJ G 50 (fun _ => 0))), (q46, (arI G 200 (fun _ => 0))), (q47, (oc10 q1 q42 q48)), (q48, (arJ G 24 (fun _ => 0)))] hP hD ?_
  clear hP hD
  intro hP hD
  refine va_putF (D := G.1) (ci := 11) (v := .ref q47) (ty := .object "LateGlass$Watch") (C := RX11) (T := TX11) (N := 17) hx hb hts inG_X11 tyX11 tyX11_ok nmX11 hown hK hP hD hS 0 rfl rfl 4 (by decide +kernel) (hts _ fl_X11_38) (fun _ h9 => h9) rfl hin rfl (by decide +kernel) rfl rfl (Nat.le_of_ble_eq_true rfl) dX11_init_81 ?_
  clear hP hD hS
  intro H locs hP hD hS
  refine g5_rs [(a0, .inr (11, [.ref q1, .ref q14, .ref q41, .ref q42, .ref q47, .null, .null, .null, .null, .null, .int 0, .int 0, .int 0, .null, .int 0, .null, .int 0])), (q1, (oc1 0 1000 (-1) (-1) 0 q2 q3 q5 q7 q9 q11 0 q13)), (q2, (arW G 6 (fun _ => none))), (q3, (oc6 6 5 q4 0)), (q4, (arI G 30 (fun _ => 0))), (q5, (oc6 5 24 q6 0)), (q6, (arI G 120 (fun _ => 0))), (q7, (oc6 10 4 q8 0)), (q8, (arI G 40 (fun _ => 0))), (q9, (oc6 8 5 q10 0)), (q10, (arI G 40 (fun _ => 0))), (q11, (oc6 6 6 q12 0)), (q12, (arI G 36 (fun _ => 0))), (q13, (arJ G 24 (fun _ => 0))), (q14, (arH G 2 (va_up (va_up (fun _ => none) 0 (some q15)) 1 (some q28)))), (q15, (oc1 0 1000 (-1) (-1) 0 q16 q17 q19 q21 q23 q25 0 q27)), (q16, (arW G 6 (fun _ => none))), (q17, (oc6 6 5 q18 0)), (q18, (arI G 30 (fun _ => 0))), (q19, (oc6 5 24 q20 0)), (q20, (arI G 120 (fun _ => 0))), (q21, (oc6 10 4 q22 0)), (q22, (arI G 40 (fun _ => 0))), (q23, (oc6 8 5 q24 0)), (q24, (arI G 40 (fun _ => 0))), (q25, (oc6 6 6 q26 0)), (q26, (arI G 36 (fun _ => 0))), (q27, (arJ G 24 (fun _ => 0))), (q28, (oc1 0 1000 (-1) (-1) 0 q29 q30 q32 q34 q36 q38 0 q40)), (q29, (arW G 6 (fun _ => none))), (q30, (oc6 6 5 q31 0)), (q31, (arI G 30 (fun _ => 0))), (q32, (oc6 5 24 q33 0)), (q33, (arI G 120 (fun _ => 0))), (q34, (oc6 10 4 q35 0)), (q35, (arI G 40 (fun _ => 0))), (q36, (oc6 8 5 q37 0)), (q37, (arI G 40 (fun _ => 0))), (q38, (oc6 6 6 q39 0)), (q39, (arI G 36 (fun _ => 0))), (q40, (arJ G 24 (fun _ => 0))), (q41, (arZ G 2 (fun _ => 0))), (q42, (oc5 q1 q43 q46 0 0 0 0 0 0 0 0 0 0)), (q43, (oc2 q44 q45)), (q44, (arI G 8 (fun _ => 0))), (q45, (arJ G 50 (fun _ => 0))), (q46, (arI G 200 (fun _ => 0))), (q47, (oc10 q1 q42 q48)), (q48, (arJ G 24 (fun _ => 0)))] hP hD ?_
  clear hP hD
  intro hP hD
  refine lv_aload_n hx hb dX11_init_84 rfl (lv_at hl 0 rfl) ?_
  refine va_new (D := G.1) (ci := 7) (fs := [.null, .null, .null, .null, .int 0, .null, .null, .null, .null, .null]) (C := RX7) (T := TX7) (N := 10) hx hb hts inG_X7 tyX7 tyX7_ok hown (hts _ cl_X11_42) (hts _ isn_X7) (hts _ ini_X7) hK hP hD hS hA rfl (fun j hj => by rcases (show j = 0 ∨ j = 1 ∨ j = 2 ∨ j = 3 ∨ j = 4 ∨ j = 5 ∨ j = 6 ∨ j = 7 ∨ j = 8 ∨ j = 9 by omega) with rfl | rfl | rfl | rfl | rfl | rfl | rfl | rfl | rfl | rfl <;> rfl) (Nat.le_of_ble_eq_true rfl) (Nat.le_of_ble_eq_true rfl) dX11_init_85 (fun q49 H hP hD hS => ?_)
  refine g5_rs [(a0, .inr (11, [.ref q1, .ref q14, .ref q41, .ref q42, .ref q47, .null, .null, .null, .null, .null, .int 0, .int 0, .int 0, .null, .int 0, .null, .int 0])), (q1, (oc1 0 1000 (-1) (-1) 0 q2 q3 q5 q7 q9 q11 0 q13)), (q2, (arW G 6 (fun _ => none))), (q3, (oc6 6 5 q4 0)), (q4, (arI G 30 (fun _ => 0))), (q5, (oc6 5 24 q6 0)), (q6, (arI G 120 (fun _ => 0))), (q7, (oc6 10 4 q8 0)), (q8, (arI G 40 (fun _ => 0))), (q9, (oc6 8 5 q10 0)), (q10, (arI G 40 (fun _ => 0))), (q11, (oc6 6 6 q12 0)), (q12, (arI G 36 (fun _ => 0))), (q13, (arJ G 24 (fun _ => 0))), (q14, (arH G 2 (va_up (va_up (fun _ => none) 0 (some q15)) 1 (some q28)))), (q15, (oc1 0 1000 (-1) (-1) 0 q16 q17 q19 q21 q23 q25 0 q27)), (q16, (arW G 6 (fun _ => none))), (q17, (oc6 6 5 q18 0)), (q18, (arI G 30 (fun _ => 0))), (q19, (oc6 5 24 q20 0)), (q20, (arI G 120 (fun _ => 0))), (q21, (oc6 10 4 q22 0)), (q22, (arI G 40 (fun _ => 0))), (q23, (oc6 8 5 q24 0)), (q24, (arI G 40 (fun _ => 0))), (q25, (oc6 6 6 q26 0)), (q26, (arI G 36 (fun _ => 0))), (q27, (arJ G 24 (fun _ => 0))), (q28, (oc1 0 1000 (-1) (-1) 0 q29 q30 q32 q34 q36 q38 0 q40)), (q29, (arW G 6 (fun _ => none))), (q30, (oc6 6 5 q31 0)), (q31, (arI G 30 (fun _ => 0))), (q32, (oc6 5 24 q33 0)), (q33, (arI G 120 (fun _ => 0))), (q34, (oc6 10 4 q35 0)), (q35, (arI G 40 (fun _ => 0))), (q36, (oc6 8 5 q37 0)), (q37, (arI G 40 (fun _ => 0))), (q38, (oc6 6 6 q39 0)), (q39, (arI G 36 (fun _ => 0))), (q40, (arJ G 24 (fun _ => 0))), (q41, (arZ G 2 (fun _ => 0))), (q42, (oc5 q1 q43 q46 0 0 0 0 0 0 0 0 0 0)), (q43, (oc2 q44 q45)), (q44, (arI G 8 (fun _ => 0))), (q45, (arJ G 50 (fun _ => 0))), (q46, (arI G 200 (fun _ => 0))), (q47, (oc10 q1 q42 q48)), (q48, (arJ G 24 (fun _ => 0))), (q49, .inr (7, [.null, .null, .null, .null, .int 0, .null, .null, .null, .null, .null]))] hP hD ?_
  clear hP hD
  intro hP hD
  refine W.widen (k := 49) (n := 1301) (Nat.le_of_ble_eq_true rfl) (Nat.le_of_ble_eq_true rfl) ?_
  refine lv_dup hx hb dX11_init_88 rfl ?_
  refine lv_aload_n hx hb dX11_init_89 rfl (lv_at hl 0 rfl) ?_
  refine va_get (D := G.1) (ci := 11) (v := .ref q1) (C := RX11) (T := TX11) (N := 17) hx hb hts inG_X11 hown hK hP 0 rfl rfl 0 (by decide +kernel) (hts _ fl_X11_12) (fun _ h9 => h9) rfl dX11_init_90 ?_
  refine lv_aload_n hx hb dX11_init_93 rfl (lv_at hl 0 rfl) ?_
  refine va_get (D := G.1) (ci := 11) (v := .ref q42) (C := RX11) (T := TX11) (N := 17) hx hb hts inG_X11 hown hK hP 0 rfl rfl 3 (by decide +kernel) (hts _ fl_X11_29) (fun _ h9 => h9) rfl dX11_init_94 ?_
  obtain ⟨hPc, hDc, hFc⟩ := g5_sub3 (wc := [(q49, .inr (7, [.null, .null, .null, .null, .int 0, .null, .null, .null, .null, .null]))]) hP hD hS hA [49] (by decide +kernel) rfl
  refine va_callv (va_runI (As := [.ref q1, .ref q42]) (rest := [.ref q49, .ref a0]) ⟨hx, hb, hml, hown, hts⟩ (kX7_init l G q49 q1 q42 H.size) (cwI 2 hts gW_X7_init rfl rfl rfl (hts _ ini_X7) (hts _ ml_X11_44) (hts _ im_X7_init) rfl hs_X7_init ⟨Nat.le_of_ble_eq_true rfl, Nat.le_of_ble_eq_true rfl⟩) (g5_preS hPc hK hDc hN hT hS hFc) rfl rfl hl.1 rfl (lv_room (Nat.le_of_ble_eq_true rfl)) dX11_init_97 ⟨Nat.le_of_ble_eq_true rfl, Nat.le_of_ble_eq_true rfl⟩) hS (fun q _ h => hFc q h) hFc (fun u t H locs ht hvm hw hB hz1 hk1 hS => ?_)
  obtain ⟨hP1, hD1⟩ := hB
  have hP1 := g5_ht ht hP1
  refine W.widen (k := 56) (n := 8621) (Nat.le_of_ble_eq_true rfl) (Nat.le_of_ble_eq_true rfl) ?_
  obtain ⟨q50, q51, q52, q53, q54, q55, q56, rfl⟩ := hw
  have hJ9 := va_join (wr := [(a0, .inr (11, [.ref q1, .ref q14, .ref q41, .ref q42, .ref q47, .null, .null, .null, .null, .null, .int 0, .int 0, .int 0, .null, .int 0, .null, .int 0])), (q1, (oc1 0 1000 (-1) (-1) 0 q2 q3 q5 q7 q9 q11 0 q13)), (q2, (arW G 6 (fun _ => none))), (q3, (oc6 6 5 q4 0)), (q4, (arI G 30 (fun _ => 0))), (q5, (oc6 5 24 q6 0)), (q6, (arI G 120 (fun _ => 0))), (q7, (oc6 10 4 q8 0)), (q8, (arI G 40 (fun _ => 0))), (q9, (oc6 8 5 q10 0)), (q10, (arI G 40 (fun _ => 0))), (q11, (oc6 6 6 q12 0)), (q12, (arI G 36 (fun _ => 0))), (q13, (arJ G 24 (fun _ => 0))), (q14, (arH G 2 (va_up (va_up (fun _ => none) 0 (some q15)) 1 (some q28)))), (q15, (oc1 0 1000 (-1) (-1) 0 q16 q17 q19 q21 q23 q25 0 q27)), (q16, (arW G 6 (fun _ => none))), (q17, (oc6 6 5 q18 0)), (q18, (arI G 30 (fun _ => 0))), (q19, (oc6 5 24 q20 0)), (q20, (arI G 120 (fun _ => 0))), (q21, (oc6 10 4 q22 0)), (q22, (arI G 40 (fun _ => 0))), (q23, (oc6 8 5 q24 0)), (q24, (arI G 40 (fun _ => 0))), (q25, (oc6 6 6 q26 0)), (q26, (arI G 36 (fun _ => 0))), (q27, (arJ G 24 (fun _ => 0))), (q28, (oc1 0 1000 (-1) (-1) 0 q29 q30 q32 q34 q36 q38 0 q40)), (q29, (arW G 6 (fun _ => none))), (q30, (oc6 6 5 q31 0)), (q31, (arI G 30 (fun _ => 0))), (q32, (oc6 5 24 q33 0)), (q33, (arI G 120 (fun _ => 0))), (q34, (oc6 10 4 q35 0)), (q35, (arI G 40 (fun _ => 0))), (q36, (oc6 8 5 q37 0)), (q37, (arI G 40 (fun _ => 0))), (q38, (oc6 6 6 q39 0)), (q39, (arI G 36 (fun _ => 0))), (q40, (arJ G 24 (fun _ => 0))), (q41, (arZ G 2 (fun _ => 0))), (q42, (oc5 q1 q43 q46 0 0 0 0 0 0 0 0 0 0)), (q43, (oc2 q44 q45)), (q44, (arI G 8 (fun _ => 0))), (q45, (arJ G 50 (fun _ => 0))), (q46, (arI G 200 (fun _ => 0))), (q47, (oc10 q1 q42 q48)), (q48, (arJ G 24 (fun _ => 0)))]) hP hD [49] [0, 1, 2, 3, 4, 5, 6, 7, 8, 9, 10, 11, 12, 13, 14, 15, 16, 17, 18, 19, 20, 21, 22, 23, 24, 25, 26, 27, 28, 29, 30, 31, 32, 33, 34, 35, 36, 37, 38, 39, 40, 41, 42, 43, 44, 45, 46, 47, 48] rfl rfl (by decide +kernel) (by decide +kernel) hk1 hFc hP1 hD1
  clear hP hD hPc hDc hFc ht hvm hz1 hk1 hP1 hD1
  obtain ⟨hP, hD⟩ := hJ9
  refine g5_rs [(a0, .inr (11, [.ref q1, .ref q14, .ref q41, .ref q42, .ref q47, .null, .null, .null, .null, .null, .int 0, .int 0, .int 0, .null, .int 0, .null, .int 0])), (q1, (oc1 0 1000 (-1) (-1) 0 q2 q3 q5 q7 q9 q11 0 q13)), (q2, (arW G 6 (fun _ => none))), (q3, (oc6 6 5 q4 0)), (q4, (arI G 30 (fun _ => 0))), (q5, (oc6 5 24 q6 0)), (q6, (arI G 120 (fun _ => 0))), (q7, (oc6 10 4 q8 0)), (q8, (arI G 40 (fun _ => 0))), (q9, (oc6 8 5 q10 0)), (q10, (arI G 40 (fun _ => 0))), (q11, (oc6 6 6 q12 0)), (q12, (arI G 36 (fun _ => 0))), (q13, (arJ G 24 (fun _ => 0))), (q14, (arH G 2 (va_up (va_up (fun _ => none) 0 (some q15)) 1 (some q28)))), (q15, (oc1 0 1000 (-1) (-1) 0 q16 q17 q19 q21 q23 q25 0 q27)), (q16, (arW G 6 (fun _ => none))), (q17, (oc6 6 5 q18 0)), (q18, (arI G 30 (fun _ => 0))), (q19, (oc6 5 24 q20 0)), (q20, (arI G 120 (fun _ => 0))), (q21, (oc6 10 4 q22 0)), (q22, (arI G 40 (fun _ => 0))), (q23, (oc6 8 5 q24 0)), (q24, (arI G 40 (fun _ => 0))), (q25, (oc6 6 6 q26 0)), (q26, (arI G 36 (fun _ => 0))), (q27, (arJ G 24 (fun _ => 0))), (q28, (oc1 0 1000 (-1) (-1) 0 q29 q30 q32 q34 q36 q38 0 q40)), (q29, (arW G 6 (fun _ => none))), (q30, (oc6 6 5 q31 0)), (q31, (arI G 30 (fun _ => 0))), (q32, (oc6 5 24 q33 0)), (q33, (arI G 120 (fun _ => 0))), (q34, (oc6 10 4 q35 0)), (q35, (arI G 40 (fun _ => 0))), (q36, (oc6 8 5 q37 0)), (q37, (arI G 40 (fun _ => 0))), (q38, (oc6 6 6 q39 0)), (q39, (arI G 36 (fun _ => 0))), (q40, (arJ G 24 (fun _ => 0))), (q41, (arZ G 2 (fun _ => 0))), (q42, (oc5 q1 q43 q46 0 0 0 0 0 0 0 0 0 0)), (q43, (oc2 q44 q45)), (q44, (arI G 8 (fun _ => 0))), (q45, (arJ G 50 (fun _ => 0))), (q46, (arI G 200 (fun _ => 0))), (q47, (oc10 q1 q42 q48)), (q48, (arJ G 24 (fun _ => 0))), (q49, (oc7 q1 q42 q50 q51 0 q52 q53 q54 q55 q56)), (q50, (arJ G 24 (fun _ => 0))), (q51, (arI G 1536 (fun _ => 0))), (q52, (arJ G 2048 (fun _ => 0))), (q53, (arJ G 2048 (fun _ => 0))), (q54, (arI G 1536 (fun _ => 0))), (q55, (arI G 64 (fun _ => 0))), (q56, (arI G 64 (fun _ => 0)))] hP hD ?_
  clear hP hD
  intro hP hD
  refine va_putF (D := G.1) (ci := 11) (v := .ref q49) (ty := .object "LateGlass$Thief") (C := RX11) (T := TX11) (N := 17) hx hb hts inG_X11 tyX11 tyX11_ok nmX11 hown hK hP hD hS 0 rfl rfl 5 (by decide +kernel) (hts _ fl_X11_45) (fun _ h9 => h9) rfl hin rfl (by decide +kernel) rfl rfl (Nat.le_of_ble_eq_true rfl) dX11_init_100 ?_
  clear hP hD hS
  intro H locs hP hD hS
  refine g5_rs [(a0, .inr (11, [.ref q1, .ref q14, .ref q41, .ref q42, .ref q47, .ref q49, .null, .null, .null, .null, .int 0, .int 0, .int 0, .null, .int 0, .null, .int 0])), (q1, (oc1 0 1000 (-1) (-1) 0 q2 q3 q5 q7 q9 q11 0 q13)), (q2, (arW G 6 (fun _ => none))), (q3, (oc6 6 5 q4 0)), (q4, (arI G 30 (fun _ => 0))), (q5, (oc6 5 24 q6 0)), (q6, (arI G 120 (fun _ => 0))), (q7, (oc6 10 4 q8 0)), (q8, (arI G 40 (fun _ => 0))), (q9, (oc6 8 5 q10 0)), (q10, (arI G 40 (fun _ => 0))), (q11, (oc6 6 6 q12 0)), (q12, (arI G 36 (fun _ => 0))), (q13, (arJ G 24 (fun _ => 0))), (q14, (arH G 2 (va_up (va_up (fun _ => none) 0 (some q15)) 1 (some q28)))), (q15, (oc1 0 1000 (-1) (-1) 0 q16 q17 q19 q21 q23 q25 0 q27)), (q16, (arW G 6 (fun _ => none))), (q17, (oc6 6 5 q18 0)), (q18, (arI G 30 (fun _ => 0))), (q19, (oc6 5 24 q20 0)), (q20, (arI G 120 (fun _ => 0))), (q21, (oc6 10 4 q22 0)), (q22, (arI G 40 (fun _ => 0))), (q23, (oc6 8 5 q24 0)), (q24, (arI G 40 (fun _ => 0))), (q25, (oc6 6 6 q26 0)), (q26, (arI G 36 (fun _ => 0))), (q27, (arJ G 24 (fun _ => 0))), (q28, (oc1 0 1000 (-1) (-1) 0 q29 q30 q32 q34 q36 q38 0 q40)), (q29, (arW G 6 (fun _ => none))), (q30, (oc6 6 5 q31 0)), (q31, (arI G 30 (fun _ => 0))), (q32, (oc6 5 24 q33 0)), (q33, (arI G 120 (fun _ => 0))), (q34, (oc6 10 4 q35 0)), (q35, (arI G 40 (fun _ => 0))), (q36, (oc6 8 5 q37 0)), (q37, (arI G 40 (fun _ => 0))), (q38, (oc6 6 6 q39 0)), (q39, (arI G 36 (fun _ => 0))), (q40, (arJ G 24 (fun _ => 0))), (q41, (arZ G 2 (fun _ => 0))), (q42, (oc5 q1 q43 q46 0 0 0 0 0 0 0 0 0 0)), (q43, (oc2 q44 q45)), (q44, (arI G 8 (fun _ => 0))), (q45, (arJ G 50 (fun _ => 0))), (q46, (arI G 200 (fun _ => 0))), (q47, (oc10 q1 q42 q48)), (q48, (arJ G 24 (fun _ => 0))), (q49, (oc7 q1 q42 q50 q51 0 q52 q53 q54 q55 q56)), (q50, (arJ G 24 (fun _ => 0))), (q51, (arI G 1536 (fun _ => 0))), (q52, (arJ G 2048 (fun _ => 0))), (q53, (arJ G 2048 (fun _ => 0))), (q54, (arI G 1536 (fun _ => 0))), (q55, (arI G 64 (fun _ => 0))), (q56, (arI G 64 (fun _ => 0)))] hP hD ?_
  clear hP hD
  intro hP hD
  refine lv_aload_n hx hb dX11_init_103 rfl (lv_at hl 0 rfl) ?_
  refine va_new (D := G.1) (ci := 0) (fs := [.null, .null, .int 0, .int 0, .int 0]) (C := RX0) (T := TX0) (N := 5) hx hb hts inG_X0 tyX0 tyX0_ok hown (hts _ cl_X11_49) (hts _ isn_X0) (hts _ ini_X0) hK hP hD hS hA rfl (fun j hj => by rcases (show j = 0 ∨ j = 1 ∨ j = 2 ∨ j = 3 ∨ j = 4 by omega) with rfl | rfl | rfl | rfl | rfl <;> rfl) (Nat.le_of_ble_eq_true rfl) (Nat.le_of_ble_eq_true rfl) dX11_init_104 (fun q57 H hP hD hS => ?_)
  refine g5_rs [(a0, .inr (11, [.ref q1, .ref q14, .ref q41, .ref q42, .ref q47, .ref q49, .null, .null, .null, .null, .int 0, .int 0, .int 0, .null, .int 0, .null, .int 0])), (q1, (oc1 0 1000 (-1) (-1) 0 q2 q3 q5 q7 q9 q11 0 q13)), (q2, (arW G 6 (fun _ => none))), (q3, (oc6 6 5 q4 0)), (q4, (arI G 30 (fun _ => 0))), (q5, (oc6 5 24 q6 0)), (q6, (arI G 120 (fun _ => 0))), (q7, (oc6 10 4 q8 0)), (q8, (arI G 40 (fun _ => 0))), (q9, (oc6 8 5 q10 0)), (q10, (arI G 40 (fun _ => 0))), (q11, (oc6 6 6 q12 0)), (q12, (arI G 36 (fun _ => 0))), (q13, (arJ G 24 (fun _ => 0))), (q14, (arH G 2 (va_up (va_up (fun _ => none) 0 (some q15)) 1 (some q28)))), (q15, (oc1 0 1000 (-1) (-1) 0 q16 q17 q19 q21 q23 q25 0 q27)), (q16, (arW G 6 (fun _ => none))), (q17, (oc6 6 5 q18 0)), (q18, (arI G 30 (fun _ => 0))), (q19, (oc6 5 24 q20 0)), (q20, (arI G 120 (fun _ => 0))), (q21, (oc6 10 4 q22 0)), (q22, (arI G 40 (fun _ => 0))), (q23, (oc6 8 5 q24 0)), (q24, (arI G 40 (fun _ => 0))), (q25, (oc6 6 6 q26 0)), (q26, (arI G 36 (fun _ => 0))), (q27, (arJ G 24 (fun _ => 0))), (q28, (oc1 0 1000 (-1) (-1) 0 q29 q30 q32 q34 q36 q38 0 q40)), (q29, (arW G 6 (fun _ => none))), (q30, (oc6 6 5 q31 0)), (q31, (arI G 30 (fun _ => 0))), (q32, (oc6 5 24 q33 0)), (q33, (arI G 120 (fun _ => 0))), (q34, (oc6 10 4 q35 0)), (q35, (arI G 40 (fun _ => 0))), (q36, (oc6 8 5 q37 0)), (q37, (arI G 40 (fun _ => 0))), (q38, (oc6 6 6 q39 0)), (q39, (arI G 36 (fun _ => 0))), (q40, (arJ G 24 (fun _ => 0))), (q41, (arZ G 2 (fun _ => 0))), (q42, (oc5 q1 q43 q46 0 0 0 0 0 0 0 0 0 0)), (q43, (oc2 q44 q45)), (q44, (arI G 8 (fun _ => 0))), (q45, (arJ G 50 (fun _ => 0))), (q46, (arI G 200 (fun _ => 0))), (q47, (oc10 q1 q42 q48)), (q48, (arJ G 24 (fun _ => 0))), (q49, (oc7 q1 q42 q50 q51 0 q52 q53 q54 q55 q56)), (q50, (arJ G 24 (fun _ => 0))), (q51, (arI G 1536 (fun _ => 0))), (q52, (arJ G 2048 (fun _ => 0))), (q53, (arJ G 2048 (fun _ => 0))), (q54, (arI G 1536 (fun _ => 0))), (q55, (arI G 64 (fun _ => 0))), (q56, (arI G 64 (fun _ => 0))), (q57, .inr (0, [.null, .null, .int 0, .int 0, .int 0]))] hP hD ?_
  clear hP hD
  intro hP hD
  refine W.widen (k := 57) (n := 8626) (Nat.le_of_ble_eq_true rfl) (Nat.le_of_ble_eq_true rfl) ?_
  refine lv_dup hx hb dX11_init_107 rfl ?_
  refine lv_aload_n hx hb dX11_init_108 rfl (lv_at hl 0 rfl) ?_
  refine va_get (D := G.1) (ci := 11) (v := .ref q1) (C := RX11) (T := TX11) (N := 17) hx hb hts inG_X11 hown hK hP 0 rfl rfl 0 (by decide +kernel) (hts _ fl_X11_12) (fun _ h9 => h9) rfl dX11_init_109 ?_
  refine lv_aload_n hx hb dX11_init_112 rfl (lv_at hl 0 rfl) ?_
  refine va_get (D := G.1) (ci := 11) (v := .ref q42) (C := RX11) (T := TX11) (N := 17) hx hb hts inG_X11 hown hK hP 0 rfl rfl 3 (by decide +kernel) (hts _ fl_X11_29) (fun _ h9 => h9) rfl dX11_init_113 ?_
  obtain ⟨hPc, hDc, hFc⟩ := g5_sub3 (wc := [(q57, .inr (0, [.null, .null, .int 0, .int 0, .int 0]))]) hP hD hS hA [57] (by decide +kernel) rfl
  refine va_callv (va_runI (As := [.ref q1, .ref q42]) (rest := [.ref q57, .ref a0]) ⟨hx, hb, hml, hown, hts⟩ (kX0_init l G q57 q1 q42 H.size) (cwI 2 hts gW_X0_init rfl rfl rfl (hts _ ini_X0) (hts _ ml_X11_51) (hts _ im_X0_init) rfl hs_X0_init ⟨Nat.le_of_ble_eq_true rfl, Nat.le_of_ble_eq_true rfl⟩) (g5_preS hPc hK hDc hN hT hS hFc) rfl rfl hl.1 rfl (lv_room (Nat.le_of_ble_eq_true rfl)) dX11_init_116 ⟨Nat.le_of_ble_eq_true rfl, Nat.le_of_ble_eq_true rfl⟩) hS (fun q _ h => hFc q h) hFc (fun u t H locs ht hvm hw hB hz1 hk1 hS => ?_)
  obtain ⟨hP1, hD1⟩ := hB
  have hP1 := g5_ht ht hP1
  obtain rfl := hw
  have hJ9 := va_join (wr := [(a0, .inr (11, [.ref q1, .ref q14, .ref q41, .ref q42, .ref q47, .ref q49, .null, .null, .null, .null, .int 0, .int 0, .int 0, .null, .int 0, .null, .int 0])), (q1, (oc1 0 1000 (-1) (-1) 0 q2 q3 q5 q7 q9 q11 0 q13)), (q2, (arW G 6 (fun _ => none))), (q3, (oc6 6 5 q4 0)), (q4, (arI G 30 (fun _ => 0))), (q5, (oc6 5 24 q6 0)), (q6, (arI G 120 (fun _ => 0))), (q7, (oc6 10 4 q8 0)), (q8, (arI G 40 (fun _ => 0))), (q9, (oc6 8 5 q10 0)), (q10, (arI G 40 (fun _ => 0))), (q11, (oc6 6 6 q12 0)), (q12, (arI G 36 (fun _ => 0))), (q13, (arJ G 24 (fun _ => 0))), (q14, (arH G 2 (va_up (va_up (fun _ => none) 0 (some q15)) 1 (some q28)))), (q15, (oc1 0 1000 (-1) (-1) 0 q16 q17 q19 q21 q23 q25 0 q27)), (q16, (arW G 6 (fun _ => none))), (q17, (oc6 6 5 q18 0)), (q18, (arI G 30 (fun _ => 0))), (q19, (oc6 5 24 q20 0)), (q20, (arI G 120 (fun _ => 0))), (q21, (oc6 10 4 q22 0)), (q22, (arI G 40 (fun _ => 0))), (q23, (oc6 8 5 q24 0)), (q24, (arI G 40 (fun _ => 0))), (q25, (oc6 6 6 q26 0)), (q26, (arI G 36 (fun _ => 0))), (q27, (arJ G 24 (fun _ => 0))), (q28, (oc1 0 1000 (-1) (-1) 0 q29 q30 q32 q34 q36 q38 0 q40)), (q29, (arW G 6 (fun _ => none))), (q30, (oc6 6 5 q31 0)), (q31, (arI G 30 (fun _ => 0))), (q32, (oc6 5 24 q33 0)), (q33, (arI G 120 (fun _ => 0))), (q34, (oc6 10 4 q35 0)), (q35, (arI G 40 (fun _ => 0))), (q36, (oc6 8 5 q37 0)), (q37, (arI G 40 (fun _ => 0))), (q38, (oc6 6 6 q39 0)), (q39, (arI G 36 (fun _ => 0))), (q40, (arJ G 24 (fun _ => 0))), (q41, (arZ G 2 (fun _ => 0))), (q42, (oc5 q1 q43 q46 0 0 0 0 0 0 0 0 0 0)), (q43, (oc2 q44 q45)), (q44, (arI G 8 (fun _ => 0))), (q45, (arJ G 50 (fun _ => 0))), (q46, (arI G 200 (fun _ => 0))), (q47, (oc10 q1 q42 q48)), (q48, (arJ G 24 (fun _ => 0))), (q49, (oc7 q1 q42 q50 q51 0 q52 q53 q54 q55 q56)), (q50, (arJ G 24 (fun _ => 0))), (q51, (arI G 1536 (fun _ => 0))), (q52, (arJ G 2048 (fun _ => 0))), (q53, (arJ G 2048 (fun _ => 0))), (q54, (arI G 1536 (fun _ => 0))), (q55, (arI G 64 (fun _ => 0))), (q56, (arI G 64 (fun _ => 0)))]) hP hD [57] [0, 1, 2, 3, 4, 5, 6, 7, 8, 9, 10, 11, 12, 13, 14, 15, 16, 17, 18, 19, 20, 21, 22, 23, 24, 25, 26, 27, 28, 29, 30, 31, 32, 33, 34, 35, 36, 37, 38, 39, 40, 41, 42, 43, 44, 45, 46, 47, 48, 49, 50, 51, 52, 53, 54, 55, 56] rfl rfl (by decide +kernel) (by decide +kernel) hk1 hFc hP1 hD1
  clear hP hD hPc hDc hFc ht hvm hz1 hk1 hP1 hD1
  obtain ⟨hP, hD⟩ := hJ9
  refine g5_rs [(a0, .inr (11, [.ref q1, .ref q14, .ref q41, .ref q42, .ref q47, .ref q49, .null, .null, .null, .null, .int 0, .int 0, .int 0, .null, .int 0, .null, .int 0])), (q1, (oc1 0 1000 (-1) (-1) 0 q2 q3 q5 q7 q9 q11 0 q13)), (q2, (arW G 6 (fun _ => none))), (q3, (oc6 6 5 q4 0)), (q4, (arI G 30 (fun _ => 0))), (q5, (oc6 5 24 q6 0)), (q6, (arI G 120 (fun _ => 0))), (q7, (oc6 10 4 q8 0)), (q8, (arI G 40 (fun _ => 0))), (q9, (oc6 8 5 q10 0)), (q10, (arI G 40 (fun _ => 0))), (q11, (oc6 6 6 q12 0)), (q12, (arI G 36 (fun _ => 0))), (q13, (arJ G 24 (fun _ => 0))), (q14, (arH G 2 (va_up (va_up (fun _ => none) 0 (some q15)) 1 (some q28)))), (q15, (oc1 0 1000 (-1) (-1) 0 q16 q17 q19 q21 q23 q25 0 q27)), (q16, (arW G 6 (fun _ => none))), (q17, (oc6 6 5 q18 0)), (q18, (arI G 30 (fun _ => 0))), (q19, (oc6 5 24 q20 0)), (q20, (arI G 120 (fun _ => 0))), (q21, (oc6 10 4 q22 0)), (q22, (arI G 40 (fun _ => 0))), (q23, (oc6 8 5 q24 0)), (q24, (arI G 40 (fun _ => 0))), (q25, (oc6 6 6 q26 0)), (q26, (arI G 36 (fun _ => 0))), (q27, (arJ G 24 (fun _ => 0))), (q28, (oc1 0 1000 (-1) (-1) 0 q29 q30 q32 q34 q36 q38 0 q40)), (q29, (arW G 6 (fun _ => none))), (q30, (oc6 6 5 q31 0)), (q31, (arI G 30 (fun _ => 0))), (q32, (oc6 5 24 q33 0)), (q33, (arI G 120 (fun _ => 0))), (q34, (oc6 10 4 q35 0)), (q35, (arI G 40 (fun _ => 0))), (q36, (oc6 8 5 q37 0)), (q37, (arI G 40 (fun _ => 0))), (q38, (oc6 6 6 q39 0)), (q39, (arI G 36 (fun _ => 0))), (q40, (arJ G 24 (fun _ => 0))), (q41, (arZ G 2 (fun _ => 0))), (q42, (oc5 q1 q43 q46 0 0 0 0 0 0 0 0 0 0)), (q43, (oc2 q44 q45)), (q44, (arI G 8 (fun _ => 0))), (q45, (arJ G 50 (fun _ => 0))), (q46, (arI G 200 (fun _ => 0))), (q47, (oc10 q1 q42 q48)), (q48, (arJ G 24 (fun _ => 0))), (q49, (oc7 q1 q42 q50 q51 0 q52 q53 q54 q55 q56)), (q50, (arJ G 24 (fun _ => 0))), (q51, (arI G 1536 (fun _ => 0))), (q52, (arJ G 2048 (fun _ => 0))), (q53, (arJ G 2048 (fun _ => 0))), (q54, (arI G 1536 (fun _ => 0))), (q55, (arI G 64 (fun _ => 0))), (q56, (arI G 64 (fun _ => 0))), (q57, (oc0 q1 q42 0 0 0))] hP hD ?_
  clear hP hD
  intro hP hD
  refine va_putF (D := G.1) (ci := 11) (v := .ref q57) (ty := .object "LateGlass$Hanger") (C := RX11) (T := TX11) (N := 17) hx hb hts inG_X11 tyX11 tyX11_ok nmX11 hown hK hP hD hS 0 rfl rfl 6 (by decide +kernel) (hts _ fl_X11_52) (fun _ h9 => h9) rfl hin rfl (by decide +kernel) rfl rfl (Nat.le_of_ble_eq_true rfl) dX11_init_119 ?_
  clear hP hD hS
  intro H locs hP hD hS
  refine g5_rs [(a0, .inr (11, [.ref q1, .ref q14, .ref q41, .ref q42, .ref q47, .ref q49, .ref q57, .null, .null, .null, .int 0, .int 0, .int 0, .null, .int 0, .null, .int 0])), (q1, (oc1 0 1000 (-1) (-1) 0 q2 q3 q5 q7 q9 q11 0 q13)), (q2, (arW G 6 (fun _ => none))), (q3, (oc6 6 5 q4 0)), (q4, (arI G 30 (fun _ => 0))), (q5, (oc6 5 24 q6 0)), (q6, (arI G 120 (fun _ => 0))), (q7, (oc6 10 4 q8 0)), (q8, (arI G 40 (fun _ => 0))), (q9, (oc6 8 5 q10 0)), (q10, (arI G 40 (fun _ => 0))), (q11, (oc6 6 6 q12 0)), (q12, (arI G 36 (fun _ => 0))), (q13, (arJ G 24 (fun _ => 0))), (q14, (arH G 2 (va_up (va_up (fun _ => none) 0 (some q15)) 1 (some q28)))), (q15, (oc1 0 1000 (-1) (-1) 0 q16 q17 q19 q21 q23 q25 0 q27)), (q16, (arW G 6 (fun _ => none))), (q17, (oc6 6 5 q18 0)), (q18, (arI G 30 (fun _ => 0))), (q19, (oc6 5 24 q20 0)), (q20, (arI G 120 (fun _ => 0))), (q21, (oc6 10 4 q22 0)), (q22, (arI G 40 (fun _ => 0))), (q23, (oc6 8 5 q24 0)), (q24, (arI G 40 (fun _ => 0))), (q25, (oc6 6 6 q26 0)), (q26, (arI G 36 (fun _ => 0))), (q27, (arJ G 24 (fun _ => 0))), (q28, (oc1 0 1000 (-1) (-1) 0 q29 q30 q32 q34 q36 q38 0 q40)), (q29, (arW G 6 (fun _ => none))), (q30, (oc6 6 5 q31 0)), (q31, (arI G 30 (fun _ => 0))), (q32, (oc6 5 24 q33 0)), (q33, (arI G 120 (fun _ => 0))), (q34, (oc6 10 4 q35 0)), (q35, (arI G 40 (fun _ => 0))), (q36, (oc6 8 5 q37 0)), (q37, (arI G 40 (fun _ => 0))), (q38, (oc6 6 6 q39 0)), (q39, (arI G 36 (fun _ => 0))), (q40, (arJ G 24 (fun _ => 0))), (q41, (arZ G 2 (fun _ => 0))), (q42, (oc5 q1 q43 q46 0 0 0 0 0 0 0 0 0 0)), (q43, (oc2 q44 q45)), (q44, (arI G 8 (fun _ => 0))), (q45, (arJ G 50 (fun _ => 0))), (q46, (arI G 200 (fun _ => 0))), (q47, (oc10 q1 q42 q48)), (q48, (arJ G 24 (fun _ => 0))), (q49, (oc7 q1 q42 q50 q51 0 q52 q53 q54 q55 q56)), (q50, (arJ G 24 (fun _ => 0))), (q51, (arI G 1536 (fun _ => 0))), (q52, (arJ G 2048 (fun _ => 0))), (q53, (arJ G 2048 (fun _ => 0))), (q54, (arI G 1536 (fun _ => 0))), (q55, (arI G 64 (fun _ => 0))), (q56, (arI G 64 (fun _ => 0))), (q57, (oc0 q1 q42 0 0 0))] hP hD ?_
  clear hP hD
  intro hP hD
  refine lv_aload_n hx hb dX11_init_122 rfl (lv_at hl 0 rfl) ?_
  refine va_new (D := G.1) (ci := 9) (fs := [.null, .null, .null, .null]) (C := RX9) (T := TX9) (N := 4) hx hb hts inG_X9 tyX9 tyX9_ok hown (hts _ cl_X11_56) (hts _ isn_X9) (hts _ ini_X9) hK hP hD hS hA rfl (fun j hj => by rcases (show j = 0 ∨ j = 1 ∨ j = 2 ∨ j = 3 by omega) with rfl | rfl | rfl | rfl <;> rfl) (Nat.le_of_ble_eq_true rfl) (Nat.le_of_ble_eq_true rfl) dX11_init_123 (fun q58 H hP hD hS => ?_)
  refine g5_rs [(a0, .inr (11, [.ref q1, .ref q14, .ref q41, .ref q42, .ref q47, .ref q49, .ref q57, .null, .null, .null, .int 0, .int 0, .int 0, .null, .int 0, .null, .int 0])), (q1, (oc1 0 1000 (-1) (-1) 0 q2 q3 q5 q7 q9 q11 0 q13)), (q2, (arW G 6 (fun _ => none))), (q3, (oc6 6 5 q4 0)), (q4, (arI G 30 (fun _ => 0))), (q5, (oc6 5 24 q6 0)), (q6, (arI G 120 (fun _ => 0))), (q7, (oc6 10 4 q8 0)), (q8, (arI G 40 (fun _ => 0))), (q9, (oc6 8 5 q10 0)), (q10, (arI G 40 (fun _ => 0))), (q11, (oc6 6 6 q12 0)), (q12, (arI G 36 (fun _ => 0))), (q13, (arJ G 24 (fun _ => 0))), (q14, (arH G 2 (va_up (va_up (fun _ => none) 0 (some q15)) 1 (some q28)))), (q15, (oc1 0 1000 (-1) (-1) 0 q16 q17 q19 q21 q23 q25 0 q27)), (q16, (arW G 6 (fun _ => none))), (q17, (oc6 6 5 q18 0)), (q18, (arI G 30 (fun _ => 0))), (q19, (oc6 5 24 q20 0)), (q20, (arI G 120 (fun _ => 0))), (q21, (oc6 10 4 q22 0)), (q22, (arI G 40 (fun _ => 0))), (q23, (oc6 8 5 q24 0)), (q24, (arI G 40 (fun _ => 0))), (q25, (oc6 6 6 q26 0)), (q26, (arI G 36 (fun _ => 0))), (q27, (arJ G 24 (fun _ => 0))), (q28, (oc1 0 1000 (-1) (-1) 0 q29 q30 q32 q34 q36 q38 0 q40)), (q29, (arW G 6 (fun _ => none))), (q30, (oc6 6 5 q31 0)), (q31, (arI G 30 (fun _ => 0))), (q32, (oc6 5 24 q33 0)), (q33, (arI G 120 (fun _ => 0))), (q34, (oc6 10 4 q35 0)), (q35, (arI G 40 (fun _ => 0))), (q36, (oc6 8 5 q37 0)), (q37, (arI G 40 (fun _ => 0))), (q38, (oc6 6 6 q39 0)), (q39, (arI G 36 (fun _ => 0))), (q40, (arJ G 24 (fun _ => 0))), (q41, (arZ G 2 (fun _ => 0))), (q42, (oc5 q1 q43 q46 0 0 0 0 0 0 0 0 0 0)), (q43, (oc2 q44 q45)), (q44, (arI G 8 (fun _ => 0))), (q45, (arJ G 50 (fun _ => 0))), (q46, (arI G 200 (fun _ => 0))), (q47, (oc10 q1 q42 q48)), (q48, (arJ G 24 (fun _ => 0))), (q49, (oc7 q1 q42 q50 q51 0 q52 q53 q54 q55 q56)), (q50, (arJ G 24 (fun _ => 0))), (q51, (arI G 1536 (fun _ => 0))), (q52, (arJ G 2048 (fun _ => 0))), (q53, (arJ G 2048 (fun _ => 0))), (q54, (arI G 1536 (fun _ => 0))), (q55, (arI G 64 (fun _ => 0))), (q56, (arI G 64 (fun _ => 0))), (q57, (oc0 q1 q42 0 0 0)), (q58, .inr (9, [.null, .null, .null, .null]))] hP hD ?_
  clear hP hD
  intro hP hD
  refine W.widen (k := 58) (n := 8630) (Nat.le_of_ble_eq_true rfl) (Nat.le_of_ble_eq_true rfl) ?_
  refine lv_dup hx hb dX11_init_126 rfl ?_
  refine lv_aload_n hx hb dX11_init_127 rfl (lv_at hl 0 rfl) ?_
  refine va_get (D := G.1) (ci := 11) (v := .ref q1) (C := RX11) (T := TX11) (N := 17) hx hb hts inG_X11 hown hK hP 0 rfl rfl 0 (by decide +kernel) (hts _ fl_X11_12) (fun _ h9 => h9) rfl dX11_init_128 ?_
  refine lv_aload_n hx hb dX11_init_131 rfl (lv_at hl 0 rfl) ?_
  refine va_get (D := G.1) (ci := 11) (v := .ref q42) (C := RX11) (T := TX11) (N := 17) hx hb hts inG_X11 hown hK hP 0 rfl rfl 3 (by decide +kernel) (hts _ fl_X11_29) (fun _ h9 => h9) rfl dX11_init_132 ?_
  obtain ⟨hPc, hDc, hFc⟩ := g5_sub3 (wc := [(q58, .inr (9, [.null, .null, .null, .null]))]) hP hD hS hA [58] (by decide +kernel) rfl
  refine va_callv (va_runI (As := [.ref q1, .ref q42]) (rest := [.ref q58, .ref a0]) ⟨hx, hb, hml, hown, hts⟩ (kX9_init l G q58 q1 q42 H.size) (cwI 2 hts gW_X9_init rfl rfl rfl (hts _ ini_X9) (hts _ ml_X11_58) (hts _ im_X9_init) rfl hs_X9_init ⟨Nat.le_of_ble_eq_true rfl, Nat.le_of_ble_eq_true rfl⟩) (g5_preS hPc hK hDc hN hT hS hFc) rfl rfl hl.1 rfl (lv_room (Nat.le_of_ble_eq_true rfl)) dX11_init_135 ⟨Nat.le_of_ble_eq_true rfl, Nat.le_of_ble_eq_true rfl⟩) hS (fun q _ h => hFc q h) hFc (fun u t H locs ht hvm hw hB hz1 hk1 hS => ?_)
  obtain ⟨hP1, hD1⟩ := hB
  have hP1 := g5_ht ht hP1
  refine W.widen (k := 60) (n := 10190) (Nat.le_of_ble_eq_true rfl) (Nat.le_of_ble_eq_true rfl) ?_
  obtain ⟨q59, q60, rfl⟩ := hw
  have hJ9 := va_join (wr := [(a0, .inr (11, [.ref q1, .ref q14, .ref q41, .ref q42, .ref q47, .ref q49, .ref q57, .null, .null, .null, .int 0, .int 0, .int 0, .null, .int 0, .null, .int 0])), (q1, (oc1 0 1000 (-1) (-1) 0 q2 q3 q5 q7 q9 q11 0 q13)), (q2, (arW G 6 (fun _ => none))), (q3, (oc6 6 5 q4 0)), (q4, (arI G 30 (fun _ => 0))), (q5, (oc6 5 24 q6 0)), (q6, (arI G 120 (fun _ => 0))), (q7, (oc6 10 4 q8 0)), (q8, (arI G 40 (fun _ => 0))), (q9, (oc6 8 5 q10 0)), (q10, (arI G 40 (fun _ => 0))), (q11, (oc6 6 6 q12 0)), (q12, (arI G 36 (fun _ => 0))), (q13, (arJ G 24 (fun _ => 0))), (q14, (arH G 2 (va_up (va_up (fun _ => none) 0 (some q15)) 1 (some q28)))), (q15, (oc1 0 1000 (-1) (-1) 0 q16 q17 q19 q21 q23 q25 0 q27)), (q16, (arW G 6 (fun _ => none))), (q17, (oc6 6 5 q18 0)), (q18, (arI G 30 (fun _ => 0))), (q19, (oc6 5 24 q20 0)), (q20, (arI G 120 (fun _ => 0))), (q21, (oc6 10 4 q22 0)), (q22, (arI G 40 (fun _ => 0))), (q23, (oc6 8 5 q24 0)), (q24, (arI G 40 (fun _ => 0))), (q25, (oc6 6 6 q26 0)), (q26, (arI G 36 (fun _ => 0))), (q27, (arJ G 24 (fun _ => 0))), (q28, (oc1 0 1000 (-1) (-1) 0 q29 q30 q32 q34 q36 q38 0 q40)), (q29, (arW G 6 (fun _ => none))), (q30, (oc6 6 5 q31 0)), (q31, (arI G 30 (fun _ => 0))), (q32, (oc6 5 24 q33 0)), (q33, (arI G 120 (fun _ => 0))), (q34, (oc6 10 4 q35 0)), (q35, (arI G 40 (fun _ => 0))), (q36, (oc6 8 5 q37 0)), (q37, (arI G 40 (fun _ => 0))), (q38, (oc6 6 6 q39 0)), (q39, (arI G 36 (fun _ => 0))), (q40, (arJ G 24 (fun _ => 0))), (q41, (arZ G 2 (fun _ => 0))), (q42, (oc5 q1 q43 q46 0 0 0 0 0 0 0 0 0 0)), (q43, (oc2 q44 q45)), (q44, (arI G 8 (fun _ => 0))), (q45, (arJ G 50 (fun _ => 0))), (q46, (arI G 200 (fun _ => 0))), (q47, (oc10 q1 q42 q48)), (q48, (arJ G 24 (fun _ => 0))), (q49, (oc7 q1 q42 q50 q51 0 q52 q53 q54 q55 q56)), (q50, (arJ G 24 (fun _ => 0))), (q51, (arI G 1536 (fun _ => 0))), (q52, (arJ G 2048 (fun _ => 0))), (q53, (arJ G 2048 (fun _ => 0))), (q54, (arI G 1536 (fun _ => 0))), (q55, (arI G 64 (fun _ => 0))), (q56, (arI G 64 (fun _ => 0))), (q57, (oc0 q1 q42 0 0 0))]) hP hD [58] [0, 1, 2, 3, 4, 5, 6, 7, 8, 9, 10, 11, 12, 13, 14, 15, 16, 17, 18, 19, 20, 21, 22, 23, 24, 25, 26, 27, 28, 29, 30, 31, 32, 33, 34, 35, 36, 37, 38, 39, 40, 41, 42, 43, 44, 45, 46, 47, 48, 49, 50, 51, 52, 53, 54, 55, 56, 57] rfl rfl (by decide +kernel) (by decide +kernel) hk1 hFc hP1 hD1
  clear hP hD hPc hDc hFc ht hvm hz1 hk1 hP1 hD1
  obtain ⟨hP, hD⟩ := hJ9
  refine g5_rs [(a0, .inr (11, [.ref q1, .ref q14, .ref q41, .ref q42, .ref q47, .ref q49, .ref q57, .null, .null, .null, .int 0, .int 0, .int 0, .null, .int 0, .null, .int 0])), (q1, (oc1 0 1000 (-1) (-1) 0 q2 q3 q5 q7 q9 q11 0 q13)), (q2, (arW G 6 (fun _ => none))), (q3, (oc6 6 5 q4 0)), (q4, (arI G 30 (fun _ => 0))), (q5, (oc6 5 24 q6 0)), (q6, (arI G 120 (fun _ => 0))), (q7, (oc6 10 4 q8 0)), (q8, (arI G 40 (fun _ => 0))), (q9, (oc6 8 5 q10 0)), (q10, (arI G 40 (fun _ => 0))), (q11, (oc6 6 6 q12 0)), (q12, (arI G 36 (fun _ => 0))), (q13, (arJ G 24 (fun _ => 0))), (q14, (arH G 2 (va_up (va_up (fun _ => none) 0 (some q15)) 1 (some q28)))), (q15, (oc1 0 1000 (-1) (-1) 0 q16 q17 q19 q21 q23 q25 0 q27)), (q16, (arW G 6 (fun _ => none))), (q17, (oc6 6 5 q18 0)), (q18, (arI G 30 (fun _ => 0))), (q19, (oc6 5 24 q20 0)), (q20, (arI G 120 (fun _ => 0))), (q21, (oc6 10 4 q22 0)), (q22, (arI G 40 (fun _ => 0))), (q23, (oc6 8 5 q24 0)), (q24, (arI G 40 (fun _ => 0))), (q25, (oc6 6 6 q26 0)), (q26, (arI G 36 (fun _ => 0))), (q27, (arJ G 24 (fun _ => 0))), (q28, (oc1 0 1000 (-1) (-1) 0 q29 q30 q32 q34 q36 q38 0 q40)), (q29, (arW G 6 (fun _ => none))), (q30, (oc6 6 5 q31 0)), (q31, (arI G 30 (fun _ => 0))), (q32, (oc6 5 24 q33 0)), (q33, (arI G 120 (fun _ => 0))), (q34, (oc6 10 4 q35 0)), (q35, (arI G 40 (fun _ => 0))), (q36, (oc6 8 5 q37 0)), (q37, (arI G 40 (fun _ => 0))), (q38, (oc6 6 6 q39 0)), (q39, (arI G 36 (fun _ => 0))), (q40, (arJ G 24 (fun _ => 0))), (q41, (arZ G 2 (fun _ => 0))), (q42, (oc5 q1 q43 q46 0 0 0 0 0 0 0 0 0 0)), (q43, (oc2 q44 q45)), (q44, (arI G 8 (fun _ => 0))), (q45, (arJ G 50 (fun _ => 0))), (q46, (arI G 200 (fun _ => 0))), (q47, (oc10 q1 q42 q48)), (q48, (arJ G 24 (fun _ => 0))), (q49, (oc7 q1 q42 q50 q51 0 q52 q53 q54 q55 q56)), (q50, (arJ G 24 (fun _ => 0))), (q51, (arI G 1536 (fun _ => 0))), (q52, (arJ G 2048 (fun _ => 0))), (q53, (arJ G 2048 (fun _ => 0))), (q54, (arI G 1536 (fun _ => 0))), (q55, (arI G 64 (fun _ => 0))), (q56, (arI G 64 (fun _ => 0))), (q57, (oc0 q1 q42 0 0 0)), (q58, (oc9 q1 q42 q59 q60)), (q59, (arJ G 24 (fun _ => 0))), (q60, (arI G 1536 (fun _ => 0)))] hP hD ?_
  clear hP hD
  intro hP hD
  refine va_putF (D := G.1) (ci := 11) (v := .ref q58) (ty := .object "LateGlass$Walker") (C := RX11) (T := TX11) (N := 17) hx hb hts inG_X11 tyX11 tyX11_ok nmX11 hown hK hP hD hS 0 rfl rfl 7 (by decide +kernel) (hts _ fl_X11_59) (fun _ h9 => h9) rfl hin rfl (by decide +kernel) rfl rfl (Nat.le_of_ble_eq_true rfl) dX11_init_138 ?_
  clear hP hD hS
  intro H locs hP hD hS
  refine g5_rs [(a0, .inr (11, [.ref q1, .ref q14, .ref q41, .ref q42, .ref q47, .ref q49, .ref q57, .ref q58, .null, .null, .int 0, .int 0, .int 0, .null, .int 0, .null, .int 0])), (q1, (oc1 0 1000 (-1) (-1) 0 q2 q3 q5 q7 q9 q11 0 q13)), (q2, (arW G 6 (fun _ => none))), (q3, (oc6 6 5 q4 0)), (q4, (arI G 30 (fun _ => 0))), (q5, (oc6 5 24 q6 0)), (q6, (arI G 120 (fun _ => 0))), (q7, (oc6 10 4 q8 0)), (q8, (arI G 40 (fun _ => 0))), (q9, (oc6 8 5 q10 0)), (q10, (arI G 40 (fun _ => 0))), (q11, (oc6 6 6 q12 0)), (q12, (arI G 36 (fun _ => 0))), (q13, (arJ G 24 (fun _ => 0))), (q14, (arH G 2 (va_up (va_up (fun _ => none) 0 (some q15)) 1 (some q28)))), (q15, (oc1 0 1000 (-1) (-1) 0 q16 q17 q19 q21 q23 q25 0 q27)), (q16, (arW G 6 (fun _ => none))), (q17, (oc6 6 5 q18 0)), (q18, (arI G 30 (fun _ => 0))), (q19, (oc6 5 24 q20 0)), (q20, (arI G 120 (fun _ => 0))), (q21, (oc6 10 4 q22 0)), (q22, (arI G 40 (fun _ => 0))), (q23, (oc6 8 5 q24 0)), (q24, (arI G 40 (fun _ => 0))), (q25, (oc6 6 6 q26 0)), (q26, (arI G 36 (fun _ => 0))), (q27, (arJ G 24 (fun _ => 0))), (q28, (oc1 0 1000 (-1) (-1) 0 q29 q30 q32 q34 q36 q38 0 q40)), (q29, (arW G 6 (fun _ => none))), (q30, (oc6 6 5 q31 0)), (q31, (arI G 30 (fun _ => 0))), (q32, (oc6 5 24 q33 0)), (q33, (arI G 120 (fun _ => 0))), (q34, (oc6 10 4 q35 0)), (q35, (arI G 40 (fun _ => 0))), (q36, (oc6 8 5 q37 0)), (q37, (arI G 40 (fun _ => 0))), (q38, (oc6 6 6 q39 0)), (q39, (arI G 36 (fun _ => 0))), (q40, (arJ G 24 (fun _ => 0))), (q41, (arZ G 2 (fun _ => 0))), (q42, (oc5 q1 q43 q46 0 0 0 0 0 0 0 0 0 0)), (q43, (oc2 q44 q45)), (q44, (arI G 8 (fun _ => 0))), (q45, (arJ G 50 (fun _ => 0))), (q46, (arI G 200 (fun _ => 0))), (q47, (oc10 q1 q42 q48)), (q48, (arJ G 24 (fun _ => 0))), (q49, (oc7 q1 q42 q50 q51 0 q52 q53 q54 q55 q56)), (q50, (arJ G 24 (fun _ => 0))), (q51, (arI G 1536 (fun _ => 0))), (q52, (arJ G 2048 (fun _ => 0))), (q53, (arJ G 2048 (fun _ => 0))), (q54, (arI G 1536 (fun _ => 0))), (q55, (arI G 64 (fun _ => 0))), (q56, (arI G 64 (fun _ => 0))), (q57, (oc0 q1 q42 0 0 0)), (q58, (oc9 q1 q42 q59 q60)), (q59, (arJ G 24 (fun _ => 0))), (q60, (arI G 1536 (fun _ => 0)))] hP hD ?_
  clear hP hD
  intro hP hD
  refine lv_aload_n hx hb dX11_init_141 rfl (lv_at hl 0 rfl) ?_
  refine va_new (D := G.1) (ci := 4) (fs := [.null, .null, .null, .null, .int 0, .int 0, .int 0, .int 0]) (C := RX4) (T := TX4) (N := 8) hx hb hts inG_X4 tyX4 tyX4_ok hown (hts _ cl_X11_63) (hts _ isn_X4) (hts _ ini_X4) hK hP hD hS hA rfl (fun j hj => by rcases (show j = 0 ∨ j = 1 ∨ j = 2 ∨ j = 3 ∨ j = 4 ∨ j = 5 ∨ j = 6 ∨ j = 7 by omega) with rfl | rfl | rfl | rfl | rfl | rfl | rfl | rfl <;> rfl) (Nat.le_of_ble_eq_true rfl) (Nat.le_of_ble_eq_true rfl) dX11_init_142 (fun q61 H hP hD hS => ?_)
  refine g5_rs [(a0, .inr (11, [.ref q1, .ref q14, .ref q41, .ref q42, .ref q47, .ref q49, .ref q57, .ref q58, .null, .null, .int 0, .int 0, .int 0, .null, .int 0, .null, .int 0])), (q1, (oc1 0 1000 (-1) (-1) 0 q2 q3 q5 q7 q9 q11 0 q13)), (q2, (arW G 6 (fun _ => none))), (q3, (oc6 6 5 q4 0)), (q4, (arI G 30 (fun _ => 0))), (q5, (oc6 5 24 q6 0)), (q6, (arI G 120 (fun _ => 0))), (q7, (oc6 10 4 q8 0)), (q8, (arI G 40 (fun _ => 0))), (q9, (oc6 8 5 q10 0)), (q10, (arI G 40 (fun _ => 0))), (q11, (oc6 6 6 q12 0)), (q12, (arI G 36 (fun _ => 0))), (q13, (arJ G 24 (fun _ => 0))), (q14, (arH G 2 (va_up (va_up (fun _ => none) 0 (some q15)) 1 (some q28)))), (q15, (oc1 0 1000 (-1) (-1) 0 q16 q17 q19 q21 q23 q25 0 q27)), (q16, (arW G 6 (fun _ => none))), (q17, (oc6 6 5 q18 0)), (q18, (arI G 30 (fun _ => 0))), (q19, (oc6 5 24 q20 0)), (q20, (arI G 120 (fun _ => 0))), (q21, (oc6 10 4 q22 0)), (q22, (arI G 40 (fun _ => 0))), (q23, (oc6 8 5 q24 0)), (q24, (arI G 40 (fun _ => 0))), (q25, (oc6 6 6 q26 0)), (q26, (arI G 36 (fun _ => 0))), (q27, (arJ G 24 (fun _ => 0))), (q28, (oc1 0 1000 (-1) (-1) 0 q29 q30 q32 q34 q36 q38 0 q40)), (q29, (arW G 6 (fun _ => none))), (q30, (oc6 6 5 q31 0)), (q31, (arI G 30 (fun _ => 0))), (q32, (oc6 5 24 q33 0)), (q33, (arI G 120 (fun _ => 0))), (q34, (oc6 10 4 q35 0)), (q35, (arI G 40 (fun _ => 0))), (q36, (oc6 8 5 q37 0)), (q37, (arI G 40 (fun _ => 0))), (q38, (oc6 6 6 q39 0)), (q39, (arI G 36 (fun _ => 0))), (q40, (arJ G 24 (fun _ => 0))), (q41, (arZ G 2 (fun _ => 0))), (q42, (oc5 q1 q43 q46 0 0 0 0 0 0 0 0 0 0)), (q43, (oc2 q44 q45)), (q44, (arI G 8 (fun _ => 0))), (q45, (arJ G 50 (fun _ => 0))), (q46, (arI G 200 (fun _ => 0))), (q47, (oc10 q1 q42 q48)), (q48, (arJ G 24 (fun _ => 0))), (q49, (oc7 q1 q42 q50 q51 0 q52 q53 q54 q55 q56)), (q50, (arJ G 24 (fun _ => 0))), (q51, (arI G 1536 (fun _ => 0))), (q52, (arJ G 2048 (fun _ => 0))), (q53, (arJ G 2048 (fun _ => 0))), (q54, (arI G 1536 (fun _ => 0))), (q55, (arI G 64 (fun _ => 0))), (q56, (arI G 64 (fun _ => 0))), (q57, (oc0 q1 q42 0 0 0)), (q58, (oc9 q1 q42 q59 q60)), (q59, (arJ G 24 (fun _ => 0))), (q60, (arI G 1536 (fun _ => 0))), (q61, .inr (4, [.null, .null, .null, .null, .int 0, .int 0, .int 0, .int 0]))] hP hD ?_
  clear hP hD
  intro hP hD
  refine W.widen (k := 61) (n := 10198) (Nat.le_of_ble_eq_true rfl) (Nat.le_of_ble_eq_true rfl) ?_
  refine lv_dup hx hb dX11_init_145 rfl ?_
  obtain ⟨hPc, hDc, hFc⟩ := g5_sub3 (wc := [(q61, .inr (4, [.null, .null, .null, .null, .int 0, .int 0, .int 0, .int 0]))]) hP hD hS hA [61] (by decide +kernel) rfl
  refine va_callv (va_runIN (As := []) (rest := [.ref q61, .ref a0]) ⟨hx, hb, hml, hown, hts⟩ (kX4_init l G q61 H.size) ⟨va_cnB 0 hts gW_X4_init rfl rfl rfl (hN.1 _ g5_nw_X11_65) (hts _ ini_X4) hs_X4_init ⟨Nat.le_of_ble_eq_true rfl, Nat.le_of_ble_eq_true rfl⟩, rfl, hts _ im_X4_init⟩ (g5_preS hPc hK hDc hN hT hS hFc) rfl rfl hl.1 rfl (lv_room (Nat.le_of_ble_eq_true rfl)) dX11_init_146 ⟨Nat.le_of_ble_eq_true rfl, Nat.le_of_ble_eq_true rfl⟩) hS (fun q _ h => hFc q h) hFc (fun u t H locs ht hvm hw hB hz1 hk1 hS => ?_)
  obtain ⟨hP1, hD1⟩ := hB
  have hP1 := g5_ht ht hP1
  refine W.widen (k := 68) (n := 11829) (Nat.le_of_ble_eq_true rfl) (Nat.le_of_ble_eq_true rfl) ?_
  obtain ⟨q62, q63, q64, q65, q66, q67, q68, rfl⟩ := hw
  have hJ9 := va_join (wr := [(a0, .inr (11, [.ref q1, .ref q14, .ref q41, .ref q42, .ref q47, .ref q49, .ref q57, .ref q58, .null, .null, .int 0, .int 0, .int 0, .null, .int 0, .null, .int 0])), (q1, (oc1 0 1000 (-1) (-1) 0 q2 q3 q5 q7 q9 q11 0 q13)), (q2, (arW G 6 (fun _ => none))), (q3, (oc6 6 5 q4 0)), (q4, (arI G 30 (fun _ => 0))), (q5, (oc6 5 24 q6 0)), (q6, (arI G 120 (fun _ => 0))), (q7, (oc6 10 4 q8 0)), (q8, (arI G 40 (fun _ => 0))), (q9, (oc6 8 5 q10 0)), (q10, (arI G 40 (fun _ => 0))), (q11, (oc6 6 6 q12 0)), (q12, (arI G 36 (fun _ => 0))), (q13, (arJ G 24 (fun _ => 0))), (q14, (arH G 2 (va_up (va_up (fun _ => none) 0 (some q15)) 1 (some q28)))), (q15, (oc1 0 1000 (-1) (-1) 0 q16 q17 q19 q21 q23 q25 0 q27)), (q16, (arW G 6 (fun _ => none))), (q17, (oc6 6 5 q18 0)), (q18, (arI G 30 (fun _ => 0))), (q19, (oc6 5 24 q20 0)), (q20, (arI G 120 (fun _ => 0))), (q21, (oc6 10 4 q22 0)), (q22, (arI G 40 (fun _ => 0))), (q23, (oc6 8 5 q24 0)), (q24, (arI G 40 (fun _ => 0))), (q25, (oc6 6 6 q26 0)), (q26, (arI G 36 (fun _ => 0))), (q27, (arJ G 24 (fun _ => 0))), (q28, (oc1 0 1000 (-1) (-1) 0 q29 q30 q32 q34 q36 q38 0 q40)), (q29, (arW G 6 (fun _ => none))), (q30, (oc6 6 5 q31 0)), (q31, (arI G 30 (fun _ => 0))), (q32, (oc6 5 24 q33 0)), (q33, (arI G 120 (fun _ => 0))), (q34, (oc6 10 4 q35 0)), (q35, (arI G 40 (fun _ => 0))), (q36, (oc6 8 5 q37 0)), (q37, (arI G 40 (fun _ => 0))), (q38, (oc6 6 6 q39 0)), (q39, (arI G 36 (fun _ => 0))), (q40, (arJ G 24 (fun _ => 0))), (q41, (arZ G 2 (fun _ => 0))), (q42, (oc5 q1 q43 q46 0 0 0 0 0 0 0 0 0 0)), (q43, (oc2 q44 q45)), (q44, (arI G 8 (fun _ => 0))), (q45, (arJ G 50 (fun _ => 0))), (q46, (arI G 200 (fun _ => 0))), (q47, (oc10 q1 q42 q48)), (q48, (arJ G 24 (fun _ => 0))), (q49, (oc7 q1 q42 q50 q51 0 q52 q53 q54 q55 q56)), (q50, (arJ G 24 (fun _ => 0))), (q51, (arI G 1536 (fun _ => 0))), (q52, (arJ G 2048 (fun _ => 0))), (q53, (arJ G 2048 (fun _ => 0))), (q54, (arI G 1536 (fun _ => 0))), (q55, (arI G 64 (fun _ => 0))), (q56, (arI G 64 (fun _ => 0))), (q57, (oc0 q1 q42 0 0 0)), (q58, (oc9 q1 q42 q59 q60)), (q59, (arJ G 24 (fun _ => 0))), (q60, (arI G 1536 (fun _ => 0)))]) hP hD [61] [0, 1, 2, 3, 4, 5, 6, 7, 8, 9, 10, 11, 12, 13, 14, 15, 16, 17, 18, 19, 20, 21, 22, 23, 24, 25, 26, 27, 28, 29, 30, 31, 32, 33, 34, 35, 36, 37, 38, 39, 40, 41, 42, 43, 44, 45, 46, 47, 48, 49, 50, 51, 52, 53, 54, 55, 56, 57, 58, 59, 60] rfl rfl (by decide +kernel) (by decide +kernel) hk1 hFc hP1 hD1
  clear hP hD hPc hDc hFc ht hvm hz1 hk1 hP1 hD1
  obtain ⟨hP, hD⟩ := hJ9
  refine g5_rs [(a0, .inr (11, [.ref q1, .ref q14, .ref q41, .ref q42, .ref q47, .ref q49, .ref q57, .ref q58, .null, .null, .int 0, .int 0, .int 0, .null, .int 0, .null, .int 0])), (q1, (oc1 0 1000 (-1) (-1) 0 q2 q3 q5 q7 q9 q11 0 q13)), (q2, (arW G 6 (fun _ => none))), (q3, (oc6 6 5 q4 0)), (q4, (arI G 30 (fun _ => 0))), (q5, (oc6 5 24 q6 0)), (q6, (arI G 120 (fun _ => 0))), (q7, (oc6 10 4 q8 0)), (q8, (arI G 40 (fun _ => 0))), (q9, (oc6 8 5 q10 0)), (q10, (arI G 40 (fun _ => 0))), (q11, (oc6 6 6 q12 0)), (q12, (arI G 36 (fun _ => 0))), (q13, (arJ G 24 (fun _ => 0))), (q14, (arH G 2 (va_up (va_up (fun _ => none) 0 (some q15)) 1 (some q28)))), (q15, (oc1 0 1000 (-1) (-1) 0 q16 q17 q19 q21 q23 q25 0 q27)), (q16, (arW G 6 (fun _ => none))), (q17, (oc6 6 5 q18 0)), (q18, (arI G 30 (fun _ => 0))), (q19, (oc6 5 24 q20 0)), (q20, (arI G 120 (fun _ => 0))), (q21, (oc6 10 4 q22 0)), (q22, (arI G 40 (fun _ => 0))), (q23, (oc6 8 5 q24 0)), (q24, (arI G 40 (fun _ => 0))), (q25, (oc6 6 6 q26 0)), (q26, (arI G 36 (fun _ => 0))), (q27, (arJ G 24 (fun _ => 0))), (q28, (oc1 0 1000 (-1) (-1) 0 q29 q30 q32 q34 q36 q38 0 q40)), (q29, (arW G 6 (fun _ => none))), (q30, (oc6 6 5 q31 0)), (q31, (arI G 30 (fun _ => 0))), (q32, (oc6 5 24 q33 0)), (q33, (arI G 120 (fun _ => 0))), (q34, (oc6 10 4 q35 0)), (q35, (arI G 40 (fun _ => 0))), (q36, (oc6 8 5 q37 0)), (q37, (arI G 40 (fun _ => 0))), (q38, (oc6 6 6 q39 0)), (q39, (arI G 36 (fun _ => 0))), (q40, (arJ G 24 (fun _ => 0))), (q41, (arZ G 2 (fun _ => 0))), (q42, (oc5 q1 q43 q46 0 0 0 0 0 0 0 0 0 0)), (q43, (oc2 q44 q45)), (q44, (arI G 8 (fun _ => 0))), (q45, (arJ G 50 (fun _ => 0))), (q46, (arI G 200 (fun _ => 0))), (q47, (oc10 q1 q42 q48)), (q48, (arJ G 24 (fun _ => 0))), (q49, (oc7 q1 q42 q50 q51 0 q52 q53 q54 q55 q56)), (q50, (arJ G 24 (fun _ => 0))), (q51, (arI G 1536 (fun _ => 0))), (q52, (arJ G 2048 (fun _ => 0))), (q53, (arJ G 2048 (fun _ => 0))), (q54, (arI G 1536 (fun _ => 0))), (q55, (arI G 64 (fun _ => 0))), (q56, (arI G 64 (fun _ => 0))), (q57, (oc0 q1 q42 0 0 0)), (q58, (oc9 q1 q42 q59 q60)), (q59, (arJ G 24 (fun _ => 0))), (q60, (arI G 1536 (fun _ => 0))), (q61, (oc4 q62 q66 q67 q68 0 0 0 (-1))), (q62, (oc8 q63 q64 q65)), (q63, (arI G 401 (fun _ => 0))), (q64, (arI G 401 (fun _ => 0))), (q65, (arI G 401 (fun _ => 0))), (q66, (arI G 12 (fun _ => 0))), (q67, (arI G 13 (fun _ => 0))), (q68, (arI G 400 (fun _ => 0)))] hP hD ?_
  clear hP hD
  intro hP hD
  refine va_putF (D := G.1) (ci := 11) (v := .ref q61) (ty := .object "LateGlass$LawReader") (C := RX11) (T := TX11) (N := 17) hx hb hts inG_X11 tyX11 tyX11_ok nmX11 hown hK hP hD hS 0 rfl rfl 8 (by decide +kernel) (hts _ fl_X11_66) (fun _ h9 => h9) rfl hin rfl (by decide +kernel) rfl rfl (Nat.le_of_ble_eq_true rfl) dX11_init_149 ?_
  clear hP hD hS
  intro H locs hP hD hS
  refine g5_rs [(a0, .inr (11, [.ref q1, .ref q14, .ref q41, .ref q42, .ref q47, .ref q49, .ref q57, .ref q58, .ref q61, .null, .int 0, .int 0, .int 0, .null, .int 0, .null, .int 0])), (q1, (oc1 0 1000 (-1) (-1) 0 q2 q3 q5 q7 q9 q11 0 q13)), (q2, (arW G 6 (fun _ => none))), (q3, (oc6 6 5 q4 0)), (q4, (arI G 30 (fun _ => 0))), (q5, (oc6 5 24 q6 0)), (q6, (arI G 120 (fun _ => 0))), (q7, (oc6 10 4 q8 0)), (q8, (arI G 40 (fun _ => 0))), (q9, (oc6 8 5 q10 0)), (q10, (arI G 40 (fun _ => 0))), (q11, (oc6 6 6 q12 0)), (q12, (arI G 36 (fun _ => 0))), (q13, (arJ G 24 (fun _ => 0))), (q14, (arH G 2 (va_up (va_up (fun _ => none) 0 (some q15)) 1 (some q28)))), (q15, (oc1 0 1000 (-1) (-1) 0 q16 q17 q19 q21 q23 q25 0 q27)), (q16, (arW G 6 (fun _ => none))), (q17, (oc6 6 5 q18 0)), (q18, (arI G 30 (fun _ => 0))), (q19, (oc6 5 24 q20 0)), (q20, (arI G 120 (fun _ => 0))), (q21, (oc6 10 4 q22 0)), (q22, (arI G 40 (fun _ => 0))), (q23, (oc6 8 5 q24 0)), (q24, (arI G 40 (fun _ => 0))), (q25, (oc6 6 6 q26 0)), (q26, (arI G 36 (fun _ => 0))), (q27, (arJ G 24 (fun _ => 0))), (q28, (oc1 0 1000 (-1) (-1) 0 q29 q30 q32 q34 q36 q38 0 q40)), (q29, (arW G 6 (fun _ => none))), (q30, (oc6 6 5 q31 0)), (q31, (arI G 30 (fun _ => 0))), (q32, (oc6 5 24 q33 0)), (q33, (arI G 120 (fun _ => 0))), (q34, (oc6 10 4 q35 0)), (q35, (arI G 40 (fun _ => 0))), (q36, (oc6 8 5 q37 0)), (q37, (arI G 40 (fun _ => 0))), (q38, (oc6 6 6 q39 0)), (q39, (arI G 36 (fun _ => 0))), (q40, (arJ G 24 (fun _ => 0))), (q41, (arZ G 2 (fun _ => 0))), (q42, (oc5 q1 q43 q46 0 0 0 0 0 0 0 0 0 0)), (q43, (oc2 q44 q45)), (q44, (arI G 8 (fun _ => 0))), (q45, (arJ G 50 (fun _ => 0))), (q46, (arI G 200 (fun _ => 0))), (q47, (oc10 q1 q42 q48)), (q48, (arJ G 24 (fun _ => 0))), (q49, (oc7 q1 q42 q50 q51 0 q52 q53 q54 q55 q56)), (q50, (arJ G 24 (fun _ => 0))), (q51, (arI G 1536 (fun _ => 0))), (q52, (arJ G 2048 (fun _ => 0))), (q53, (arJ G 2048 (fun _ => 0))), (q54, (arI G 1536 (fun _ => 0))), (q55, (arI G 64 (fun _ => 0))), (q56, (arI G 64 (fun _ => 0))), (q57, (oc0 q1 q42 0 0 0)), (q58, (oc9 q1 q42 q59 q60)), (q59, (arJ G 24 (fun _ => 0))), (q60, (arI G 1536 (fun _ => 0))), (q61, (oc4 q62 q66 q67 q68 0 0 0 (-1))), (q62, (oc8 q63 q64 q65)), (q63, (arI G 401 (fun _ => 0))), (q64, (arI G 401 (fun _ => 0))), (q65, (arI G 401 (fun _ => 0))), (q66, (arI G 12 (fun _ => 0))), (q67, (arI G 13 (fun _ => 0))), (q68, (arI G 400 (fun _ => 0)))] hP hD ?_
  clear hP hD
  intro hP hD
  refine lv_aload_n hx hb dX11_init_152 rfl (lv_at hl 0 rfl) ?_
  refine lv_sipush (v := 400) hx hb dX11_init_153 (by decide +kernel) ?_
  refine va_newa (D := G.1) (atype := .int) (ty := .int) hx hb (hts _ acl_I) rfl hK hP hD hS hA (n := 400) (N' := 400) (a0 := (400, .inl (fun _ => 0))) (fun _ => rfl) (by decide +kernel) (by decide +kernel) (by decide +kernel) (Nat.le_of_ble_eq_true rfl) (Nat.le_of_ble_eq_true rfl) dX11_init_156 (fun q69 cA H hKn hP hD hS => ?_)
  obtain rfl : cA = G.2 0 := g5_cI hKn
  refine g5_rs [(a0, .inr (11, [.ref q1, .ref q14, .ref q41, .ref q42, .ref q47, .ref q49, .ref q57, .ref q58, .ref q61, .null, .int 0, .int 0, .int 0, .null, .int 0, .null, .int 0])), (q1, (oc1 0 1000 (-1) (-1) 0 q2 q3 q5 q7 q9 q11 0 q13)), (q2, (arW G 6 (fun _ => none))), (q3, (oc6 6 5 q4 0)), (q4, (arI G 30 (fun _ => 0))), (q5, (oc6 5 24 q6 0)), (q6, (arI G 120 (fun _ => 0))), (q7, (oc6 10 4 q8 0)), (q8, (arI G 40 (fun _ => 0))), (q9, (oc6 8 5 q10 0)), (q10, (arI G 40 (fun _ => 0))), (q11, (oc6 6 6 q12 0)), (q12, (arI G 36 (fun _ => 0))), (q13, (arJ G 24 (fun _ => 0))), (q14, (arH G 2 (va_up (va_up (fun _ => none) 0 (some q15)) 1 (some q28)))), (q15, (oc1 0 1000 (-1) (-1) 0 q16 q17 q19 q21 q23 q25 0 q27)), (q16, (arW G 6 (fun _ => none))), (q17, (oc6 6 5 q18 0)), (q18, (arI G 30 (fun _ => 0))), (q19, (oc6 5 24 q20 0)), (q20, (arI G 120 (fun _ => 0))), (q21, (oc6 10 4 q22 0)), (q22, (arI G 40 (fun _ => 0))), (q23, (oc6 8 5 q24 0)), (q24, (arI G 40 (fun _ => 0))), (q25, (oc6 6 6 q26 0)), (q26, (arI G 36 (fun _ => 0))), (q27, (arJ G 24 (fun _ => 0))), (q28, (oc1 0 1000 (-1) (-1) 0 q29 q30 q32 q34 q36 q38 0 q40)), (q29, (arW G 6 (fun _ => none))), (q30, (oc6 6 5 q31 0)), (q31, (arI G 30 (fun _ => 0))), (q32, (oc6 5 24 q33 0)), (q33, (arI G 120 (fun _ => 0))), (q34, (oc6 10 4 q35 0)), (q35, (arI G 40 (fun _ => 0))), (q36, (oc6 8 5 q37 0)), (q37, (arI G 40 (fun _ => 0))), (q38, (oc6 6 6 q39 0)), (q39, (arI G 36 (fun _ => 0))), (q40, (arJ G 24 (fun _ => 0))), (q41, (arZ G 2 (fun _ => 0))), (q42, (oc5 q1 q43 q46 0 0 0 0 0 0 0 0 0 0)), (q43, (oc2 q44 q45)), (q44, (arI G 8 (fun _ => 0))), (q45, (arJ G 50 (fun _ => 0))), (q46, (arI G 200 (fun _ => 0))), (q47, (oc10 q1 q42 q48)), (q48, (arJ G 24 (fun _ => 0))), (q49, (oc7 q1 q42 q50 q51 0 q52 q53 q54 q55 q56)), (q50, (arJ G 24 (fun _ => 0))), (q51, (arI G 1536 (fun _ => 0))), (q52, (arJ G 2048 (fun _ => 0))), (q53, (arJ G 2048 (fun _ => 0))), (q54, (arI G 1536 (fun _ => 0))), (q55, (arI G 64 (fun _ => 0))), (q56, (arI G 64 (fun _ => 0))), (q57, (oc0 q1 q42 0 0 0)), (q58, (oc9 q1 q42 q59 q60)), (q59, (arJ G 24 (fun _ => 0))), (q60, (arI G 1536 (fun _ => 0))), (q61, (oc4 q62 q66 q67 q68 0 0 0 (-1))), (q62, (oc8 q63 q64 q65)), (q63, (arI G 401 (fun _ => 0))), (q64, (arI G 401 (fun _ => 0))), (q65, (arI G 401 (fun _ => 0))), (q66, (arI G 12 (fun _ => 0))), (q67, (arI G 13 (fun _ => 0))), (q68, (arI G 400 (fun _ => 0))), (q69, (arI G 400 (fun _ => 0)))] hP hD ?_
  clear hP hD
  intro hP hD
  refine W.widen (k := 69) (n := 12229) (Nat.le_of_ble_eq_true rfl) (Nat.le_of_ble_eq_true rfl) ?_
  refine va_putF (D := G.1) (ci := 11) (v := .ref q69) (ty := .array .int) (C := RX11) (T := TX11) (N := 17) hx hb hts inG_X11 tyX11 tyX11_ok nmX11 hown hK hP hD hS 0 rfl rfl 9 (by decide +kernel) (hts _ fl_X11_70) (fun _ h9 => h9) rfl hin rfl (by decide +kernel) rfl rfl (Nat.le_of_ble_eq_true rfl) dX11_init_158 ?_
  clear hP hD hS
  intro H locs hP hD hS
  refine g5_rs [(a0, .inr (11, [.ref q1, .ref q14, .ref q41, .ref q42, .ref q47, .ref q49, .ref q57, .ref q58, .ref q61, .ref q69, .int 0, .int 0, .int 0, .null, .int 0, .null, .int 0])), (q1, (oc1 0 1000 (-1) (-1) 0 q2 q3 q5 q7 q9 q11 0 q13)), (q2, (arW G 6 (fun _ => none))), (q3, (oc6 6 5 q4 0)), (q4, (arI G 30 (fun _ => 0))), (q5, (oc6 5 24 q6 0)), (q6, (arI G 120 (fun _ => 0))), (q7, (oc6 10 4 q8 0)), (q8, (arI G 40 (fun _ => 0))), (q9, (oc6 8 5 q10 0)), (q10, (arI G 40 (fun _ => 0))), (q11, (oc6 6 6 q12 0)), (q12, (arI G 36 (fun _ => 0))), (q13, (arJ G 24 (fun _ => 0))), (q14, (arH G 2 (va_up (va_up (fun _ => none) 0 (some q15)) 1 (some q28)))), (q15, (oc1 0 1000 (-1) (-1) 0 q16 q17 q19 q21 q23 q25 0 q27)), (q16, (arW G 6 (fun _ => none))), (q17, (oc6 6 5 q18 0)), (q18, (arI G 30 (fun _ => 0))), (q19, (oc6 5 24 q20 0)), (q20, (arI G 120 (fun _ => 0))), (q21, (oc6 10 4 q22 0)), (q22, (arI G 40 (fun _ => 0))), (q23, (oc6 8 5 q24 0)), (q24, (arI G 40 (fun _ => 0))), (q25, (oc6 6 6 q26 0)), (q26, (arI G 36 (fun _ => 0))), (q27, (arJ G 24 (fun _ => 0))), (q28, (oc1 0 1000 (-1) (-1) 0 q29 q30 q32 q34 q36 q38 0 q40)), (q29, (arW G 6 (fun _ => none))), (q30, (oc6 6 5 q31 0)), (q31, (arI G 30 (fun _ => 0))), (q32, (oc6 5 24 q33 0)), (q33, (arI G 120 (fun _ => 0))), (q34, (oc6 10 4 q35 0)), (q35, (arI G 40 (fun _ => 0))), (q36, (oc6 8 5 q37 0)), (q37, (arI G 40 (fun _ => 0))), (q38, (oc6 6 6 q39 0)), (q39, (arI G 36 (fun _ => 0))), (q40, (arJ G 24 (fun _ => 0))), (q41, (arZ G 2 (fun _ => 0))), (q42, (oc5 q1 q43 q46 0 0 0 0 0 0 0 0 0 0)), (q43, (oc2 q44 q45)), (q44, (arI G 8 (fun _ => 0))), (q45, (arJ G 50 (fun _ => 0))), (q46, (arI G 200 (fun _ => 0))), (q47, (oc10 q1 q42 q48)), (q48, (arJ G 24 (fun _ => 0))), (q49, (oc7 q1 q42 q50 q51 0 q52 q53 q54 q55 q56)), (q50, (arJ G 24 (fun _ => 0))), (q51, (arI G 1536 (fun _ => 0))), (q52, (arJ G 2048 (fun _ => 0))), (q53, (arJ G 2048 (fun _ => 0))), (q54, (arI G 1536 (fun _ => 0))), (q55, (arI G 64 (fun _ => 0))), (q56, (arI G 64 (fun _ => 0))), (q57, (oc0 q1 q42 0 0 0)), (q58, (oc9 q1 q42 q59 q60)), (q59, (arJ G 24 (fun _ => 0))), (q60, (arI G 1536 (fun _ => 0))), (q61, (oc4 q62 q66 q67 q68 0 0 0 (-1))), (q62, (oc8 q63 q64 q65)), (q63, (arI G 401 (fun _ => 0))), (q64, (arI G 401 (fun _ => 0))), (q65, (arI G 401 (fun _ => 0))), (q66, (arI G 12 (fun _ => 0))), (q67, (arI G 13 (fun _ => 0))), (q68, (arI G 400 (fun _ => 0))), (q69, (arI G 400 (fun _ => 0)))] hP hD ?_
  clear hP hD
  intro hP hD
  refine lv_aload_n hx hb dX11_init_161 rfl (lv_at hl 0 rfl) ?_
  refine lv_iconst (v := 0) hx hb dX11_init_162 (by decide +kernel) ?_
  refine va_put (D := G.1) (ci := 11) (v := .int 0) (ty := .int) (C := RX11) (T := TX11) (N := 17) hx hb hts inG_X11 tyX11 tyX11_ok nmX11 hown hK hP hD hS 0 rfl rfl 10 (by decide +kernel) (hts _ fl_X11_74) (fun _ h9 => h9) rfl (by decide +kernel) rfl rfl (Nat.le_of_ble_eq_true rfl) dX11_init_163 ?_
  clear hP hD hS
  intro H locs hP hD hS
  refine g5_rs [(a0, .inr (11, [.ref q1, .ref q14, .ref q41, .ref q42, .ref q47, .ref q49, .ref q57, .ref q58, .ref q61, .ref q69, .int 0, .int 0, .int 0, .null, .int 0, .null, .int 0])), (q1, (oc1 0 1000 (-1) (-1) 0 q2 q3 q5 q7 q9 q11 0 q13)), (q2, (arW G 6 (fun _ => none))), (q3, (oc6 6 5 q4 0)), (q4, (arI G 30 (fun _ => 0))), (q5, (oc6 5 24 q6 0)), (q6, (arI G 120 (fun _ => 0))), (q7, (oc6 10 4 q8 0)), (q8, (arI G 40 (fun _ => 0))), (q9, (oc6 8 5 q10 0)), (q10, (arI G 40 (fun _ => 0))), (q11, (oc6 6 6 q12 0)), (q12, (arI G 36 (fun _ => 0))), (q13, (arJ G 24 (fun _ => 0))), (q14, (arH G 2 (va_up (va_up (fun _ => none) 0 (some q15)) 1 (some q28)))), (q15, (oc1 0 1000 (-1) (-1) 0 q16 q17 q19 q21 q23 q25 0 q27)), (q16, (arW G 6 (fun _ => none))), (q17, (oc6 6 5 q18 0)), (q18, (arI G 30 (fun _ => 0))), (q19, (oc6 5 24 q20 0)), (q20, (arI G 120 (fun _ => 0))), (q21, (oc6 10 4 q22 0)), (q22, (arI G 40 (fun _ => 0))), (q23, (oc6 8 5 q24 0)), (q24, (arI G 40 (fun _ => 0))), (q25, (oc6 6 6 q26 0)), (q26, (arI G 36 (fun _ => 0))), (q27, (arJ G 24 (fun _ => 0))), (q28, (oc1 0 1000 (-1) (-1) 0 q29 q30 q32 q34 q36 q38 0 q40)), (q29, (arW G 6 (fun _ => none))), (q30, (oc6 6 5 q31 0)), (q31, (arI G 30 (fun _ => 0))), (q32, (oc6 5 24 q33 0)), (q33, (arI G 120 (fun _ => 0))), (q34, (oc6 10 4 q35 0)), (q35, (arI G 40 (fun _ => 0))), (q36, (oc6 8 5 q37 0)), (q37, (arI G 40 (fun _ => 0))), (q38, (oc6 6 6 q39 0)), (q39, (arI G 36 (fun _ => 0))), (q40, (arJ G 24 (fun _ => 0))), (q41, (arZ G 2 (fun _ => 0))), (q42, (oc5 q1 q43 q46 0 0 0 0 0 0 0 0 0 0)), (q43, (oc2 q44 q45)), (q44, (arI G 8 (fun _ => 0))), (q45, (arJ G 50 (fun _ => 0))), (q46, (arI G 200 (fun _ => 0))), (q47, (oc10 q1 q42 q48)), (q48, (arJ G 24 (fun _ => 0))), (q49, (oc7 q1 q42 q50 q51 0 q52 q53 q54 q55 q56)), (q50, (arJ G 24 (fun _ => 0))), (q51, (arI G 1536 (fun _ => 0))), (q52, (arJ G 2048 (fun _ => 0))), (q53, (arJ G 2048 (fun _ => 0))), (q54, (arI G 1536 (fun _ => 0))), (q55, (arI G 64 (fun _ => 0))), (q56, (arI G 64 (fun _ => 0))), (q57, (oc0 q1 q42 0 0 0)), (q58, (oc9 q1 q42 q59 q60)), (q59, (arJ G 24 (fun _ => 0))), (q60, (arI G 1536 (fun _ => 0))), (q61, (oc4 q62 q66 q67 q68 0 0 0 (-1))), (q62, (oc8 q63 q64 q65)), (q63, (arI G 401 (fun _ => 0))), (q64, (arI G 401 (fun _ => 0))), (q65, (arI G 401 (fun _ => 0))), (q66, (arI G 12 (fun _ => 0))), (q67, (arI G 13 (fun _ => 0))), (q68, (arI G 400 (fun _ => 0))), (q69, (arI G 400 (fun _ => 0)))] hP hD ?_
  clear hP hD
  intro hP hD
  refine lv_aload_n hx hb dX11_init_166 rfl (lv_at hl 0 rfl) ?_
  refine lv_iconst (v := 0) hx hb dX11_init_167 (by decide +kernel) ?_
  refine va_put (D := G.1) (ci := 11) (v := .int 0) (ty := .int) (C := RX11) (T := TX11) (N := 17) hx hb hts inG_X11 tyX11 tyX11_ok nmX11 hown hK hP hD hS 0 rfl rfl 11 (by decide +kernel) (hts _ fl_X11_78) (fun _ h9 => h9) rfl (by decide +kernel) rfl rfl (Nat.le_of_ble_eq_true rfl) dX11_init_168 ?_
  clear hP hD hS
  intro H locs hP hD hS
  refine g5_rs [(a0, .inr (11, [.ref q1, .ref q14, .ref q41, .ref q42, .ref q47, .ref q49, .ref q57, .ref q58, .ref q61, .ref q69, .int 0, .int 0, .int 0, .null, .int 0, .null, .int 0])), (q1, (oc1 0 1000 (-1) (-1) 0 q2 q3 q5 q7 q9 q11 0 q13)), (q2, (arW G 6 (fun _ => none))), (q3, (oc6 6 5 q4 0)), (q4, (arI G 30 (fun _ => 0))), (q5, (oc6 5 24 q6 0)), (q6, (arI G 120 (fun _ => 0))), (q7, (oc6 10 4 q8 0)), (q8, (arI G 40 (fun _ => 0))), (q9, (oc6 8 5 q10 0)), (q10, (arI G 40 (fun _ => 0))), (q11, (oc6 6 6 q12 0)), (q12, (arI G 36 (fun _ => 0))), (q13, (arJ G 24 (fun _ => 0))), (q14, (arH G 2 (va_up (va_up (fun _ => none) 0 (some q15)) 1 (some q28)))), (q15, (oc1 0 1000 (-1) (-1) 0 q16 q17 q19 q21 q23 q25 0 q27)), (q16, (arW G 6 (fun _ => none))), (q17, (oc6 6 5 q18 0)), (q18, (arI G 30 (fun _ => 0))), (q19, (oc6 5 24 q20 0)), (q20, (arI G 120 (fun _ => 0))), (q21, (oc6 10 4 q22 0)), (q22, (arI G 40 (fun _ => 0))), (q23, (oc6 8 5 q24 0)), (q24, (arI G 40 (fun _ => 0))), (q25, (oc6 6 6 q26 0)), (q26, (arI G 36 (fun _ => 0))), (q27, (arJ G 24 (fun _ => 0))), (q28, (oc1 0 1000 (-1) (-1) 0 q29 q30 q32 q34 q36 q38 0 q40)), (q29, (arW G 6 (fun _ => none))), (q30, (oc6 6 5 q31 0)), (q31, (arI G 30 (fun _ => 0))), (q32, (oc6 5 24 q33 0)), (q33, (arI G 120 (fun _ => 0))), (q34, (oc6 10 4 q35 0)), (q35, (arI G 40 (fun _ => 0))), (q36, (oc6 8 5 q37 0)), (q37, (arI G 40 (fun _ => 0))), (q38, (oc6 6 6 q39 0)), (q39, (arI G 36 (fun _ => 0))), (q40, (arJ G 24 (fun _ => 0))), (q41, (arZ G 2 (fun _ => 0))), (q42, (oc5 q1 q43 q46 0 0 0 0 0 0 0 0 0 0)), (q43, (oc2 q44 q45)), (q44, (arI G 8 (fun _ => 0))), (q45, (arJ G 50 (fun _ => 0))), (q46, (arI G 200 (fun _ => 0))), (q47, (oc10 q1 q42 q48)), (q48, (arJ G 24 (fun _ => 0))), (q49, (oc7 q1 q42 q50 q51 0 q52 q53 q54 q55 q56)), (q50, (arJ G 24 (fun _ => 0))), (q51, (arI G 1536 (fun _ => 0))), (q52, (arJ G 2048 (fun _ => 0))), (q53, (arJ G 2048 (fun _ => 0))), (q54, (arI G 1536 (fun _ => 0))), (q55, (arI G 64 (fun _ => 0))), (q56, (arI G 64 (fun _ => 0))), (q57, (oc0 q1 q42 0 0 0)), (q58, (oc9 q1 q42 q59 q60)), (q59, (arJ G 24 (fun _ => 0))), (q60, (arI G 1536 (fun _ => 0))), (q61, (oc4 q62 q66 q67 q68 0 0 0 (-1))), (q62, (oc8 q63 q64 q65)), (q63, (arI G 401 (fun _ => 0))), (q64, (arI G 401 (fun _ => 0))), (q65, (arI G 401 (fun _ => 0))), (q66, (arI G 12 (fun _ => 0))), (q67, (arI G 13 (fun _ => 0))), (q68, (arI G 400 (fun _ => 0))), (q69, (arI G 400 (fun _ => 0)))] hP hD ?_
  clear hP hD
  intro hP hD
  refine lv_aload_n hx hb dX11_init_171 rfl (lv_at hl 0 rfl) ?_
  refine lv_iconst (v := (-1)) hx hb dX11_init_172 (by decide +kernel) ?_
  refine va_put (D := G.1) (ci := 11) (v := .int (-1)) (ty := .int) (C := RX11) (T := TX11) (N := 17) hx hb hts inG_X11 tyX11 tyX11_ok nmX11 hown hK hP hD hS 0 rfl rfl 12 (by decide +kernel) (hts _ fl_X11_81) (fun _ h9 => h9) rfl (by decide +kernel) rfl rfl (Nat.le_of_ble_eq_true rfl) dX11_init_173 ?_
  clear hP hD hS
  intro H locs hP hD hS
  refine g5_rs [(a0, .inr (11, [.ref q1, .ref q14, .ref q41, .ref q42, .ref q47, .ref q49, .ref q57, .ref q58, .ref q61, .ref q69, .int 0, .int 0, .int (-1), .null, .int 0, .null, .int 0])), (q1, (oc1 0 1000 (-1) (-1) 0 q2 q3 q5 q7 q9 q11 0 q13)), (q2, (arW G 6 (fun _ => none))), (q3, (oc6 6 5 q4 0)), (q4, (arI G 30 (fun _ => 0))), (q5, (oc6 5 24 q6 0)), (q6, (arI G 120 (fun _ => 0))), (q7, (oc6 10 4 q8 0)), (q8, (arI G 40 (fun _ => 0))), (q9, (oc6 8 5 q10 0)), (q10, (arI G 40 (fun _ => 0))), (q11, (oc6 6 6 q12 0)), (q12, (arI G 36 (fun _ => 0))), (q13, (arJ G 24 (fun _ => 0))), (q14, (arH G 2 (va_up (va_up (fun _ => none) 0 (some q15)) 1 (some q28)))), (q15, (oc1 0 1000 (-1) (-1) 0 q16 q17 q19 q21 q23 q25 0 q27)), (q16, (arW G 6 (fun _ => none))), (q17, (oc6 6 5 q18 0)), (q18, (arI G 30 (fun _ => 0))), (q19, (oc6 5 24 q20 0)), (q20, (arI G 120 (fun _ => 0))), (q21, (oc6 10 4 q22 0)), (q22, (arI G 40 (fun _ => 0))), (q23, (oc6 8 5 q24 0)), (q24, (arI G 40 (fun _ => 0))), (q25, (oc6 6 6 q26 0)), (q26, (arI G 36 (fun _ => 0))), (q27, (arJ G 24 (fun _ => 0))), (q28, (oc1 0 1000 (-1) (-1) 0 q29 q30 q32 q34 q36 q38 0 q40)), (q29, (arW G 6 (fun _ => none))), (q30, (oc6 6 5 q31 0)), (q31, (arI G 30 (fun _ => 0))), (q32, (oc6 5 24 q33 0)), (q33, (arI G 120 (fun _ => 0))), (q34, (oc6 10 4 q35 0)), (q35, (arI G 40 (fun _ => 0))), (q36, (oc6 8 5 q37 0)), (q37, (arI G 40 (fun _ => 0))), (q38, (oc6 6 6 q39 0)), (q39, (arI G 36 (fun _ => 0))), (q40, (arJ G 24 (fun _ => 0))), (q41, (arZ G 2 (fun _ => 0))), (q42, (oc5 q1 q43 q46 0 0 0 0 0 0 0 0 0 0)), (q43, (oc2 q44 q45)), (q44, (arI G 8 (fun _ => 0))), (q45, (arJ G 50 (fun _ => 0))), (q46, (arI G 200 (fun _ => 0))), (q47, (oc10 q1 q42 q48)), (q48, (arJ G 24 (fun _ => 0))), (q49, (oc7 q1 q42 q50 q51 0 q52 q53 q54 q55 q56)), (q50, (arJ G 24 (fun _ => 0))), (q51, (arI G 1536 (fun _ => 0))), (q52, (arJ G 2048 (fun _ => 0))), (q53, (arJ G 2048 (fun _ => 0))), (q54, (arI G 1536 (fun _ => 0))), (q55, (arI G 64 (fun _ => 0))), (q56, (arI G 64 (fun _ => 0))), (q57, (oc0 q1 q42 0 0 0)), (q58, (oc9 q1 q42 q59 q60)), (q59, (arJ G 24 (fun _ => 0))), (q60, (arI G 1536 (fun _ => 0))), (q61, (oc4 q62 q66 q67 q68 0 0 0 (-1))), (q62, (oc8 q63 q64 q65)), (q63, (arI G 401 (fun _ => 0))), (q64, (arI G 401 (fun _ => 0))), (q65, (arI G 401 (fun _ => 0))), (q66, (arI G 12 (fun _ => 0))), (q67, (arI G 13 (fun _ => 0))), (q68, (arI G 400 (fun _ => 0))), (q69, (arI G 400 (fun _ => 0)))] hP hD ?_
  clear hP hD
  intro hP hD
  refine lv_aload_n hx hb dX11_init_176 rfl (lv_at hl 0 rfl) ?_
  refine lv_bipush (v := 24) hx hb dX11_init_177 (by decide +kernel) ?_
  refine va_newa (D := G.1) (atype := .int) (ty := .int) hx hb (hts _ acl_I) rfl hK hP hD hS hA (n := 24) (N' := 24) (a0 := (24, .inl (fun _ => 0))) (fun _ => rfl) (by decide +kernel) (by decide +kernel) (by decide +kernel) (Nat.le_of_ble_eq_true rfl) (Nat.le_of_ble_eq_true rfl) dX11_init_179 (fun q70 cA H hKn hP hD hS => ?_)
  obtain rfl : cA = G.2 0 := g5_cI hKn
  refine g5_rs [(a0, .inr (11, [.ref q1, .ref q14, .ref q41, .ref q42, .ref q47, .ref q49, .ref q57, .ref q58, .ref q61, .ref q69, .int 0, .int 0, .int (-1), .null, .int 0, .null, .int 0])), (q1, (oc1 0 1000 (-1) (-1) 0 q2 q3 q5 q7 q9 q11 0 q13)), (q2, (arW G 6 (fun _ => none))), (q3, (oc6 6 5 q4 0)), (q4, (arI G 30 (fun _ => 0))), (q5, (oc6 5 24 q6 0)), (q6, (arI G 120 (fun _ => 0))), (q7, (oc6 10 4 q8 0)), (q8, (arI G 40 (fun _ => 0))), (q9, (oc6 8 5 q10 0)), (q10, (arI G 40 (fun _ => 0))), (q11, (oc6 6 6 q12 0)), (q12, (arI G 36 (fun _ => 0))), (q13, (arJ G 24 (fun _ => 0))), (q14, (arH G 2 (va_up (va_up (fun _ => none) 0 (some q15)) 1 (some q28)))), (q15, (oc1 0 1000 (-1) (-1) 0 q16 q17 q19 q21 q23 q25 0 q27)), (q16, (arW G 6 (fun _ => none))), (q17, (oc6 6 5 q18 0)), (q18, (arI G 30 (fun _ => 0))), (q19, (oc6 5 24 q20 0)), (q20, (arI G 120 (fun _ => 0))), (q21, (oc6 10 4 q22 0)), (q22, (arI G 40 (fun _ => 0))), (q23, (oc6 8 5 q24 0)), (q24, (arI G 40 (fun _ => 0))), (q25, (oc6 6 6 q26 0)), (q26, (arI G 36 (fun _ => 0))), (q27, (arJ G 24 (fun _ => 0))), (q28, (oc1 0 1000 (-1) (-1) 0 q29 q30 q32 q34 q36 q38 0 q40)), (q29, (arW G 6 (fun _ => none))), (q30, (oc6 6 5 q31 0)), (q31, (arI G 30 (fun _ => 0))), (q32, (oc6 5 24 q33 0)), (q33, (arI G 120 (fun _ => 0))), (q34, (oc6 10 4 q35 0)), (q35, (arI G 40 (fun _ => 0))), (q36, (oc6 8 5 q37 0)), (q37, (arI G 40 (fun _ => 0))), (q38, (oc6 6 6 q39 0)), (q39, (arI G 36 (fun _ => 0))), (q40, (arJ G 24 (fun _ => 0))), (q41, (arZ G 2 (fun _ => 0))), (q42, (oc5 q1 q43 q46 0 0 0 0 0 0 0 0 0 0)), (q43, (oc2 q44 q45)), (q44, (arI G 8 (fun _ => 0))), (q45, (arJ G 50 (fun _ => 0))), (q46, (arI G 200 (fun _ => 0))), (q47, (oc10 q1 q42 q48)), (q48, (arJ G 24 (fun _ => 0))), (q49, (oc7 q1 q42 q50 q51 0 q52 q53 q54 q55 q56)), (q50, (arJ G 24 (fun _ => 0))), (q51, (arI G 1536 (fun _ => 0))), (q52, (arJ G 2048 (fun _ => 0))), (q53, (arJ G 2048 (fun _ => 0))), (q54, (arI G 1536 (fun _ => 0))), (q55, (arI G 64 (fun _ => 0))), (q56, (arI G 64 (fun _ => 0))), (q57, (oc0 q1 q42 0 0 0)), (q58, (oc9 q1 q42 q59 q60)), (q59, (arJ G 24 (fun _ => 0))), (q60, (arI G 1536 (fun _ => 0))), (q61, (oc4 q62 q66 q67 q68 0 0 0 (-1))), (q62, (oc8 q63 q64 q65)), (q63, (arI G 401 (fun _ => 0))), (q64, (arI G 401 (fun _ => 0))), (q65, (arI G 401 (fun _ => 0))), (q66, (arI G 12 (fun _ => 0))), (q67, (arI G 13 (fun _ => 0))), (q68, (arI G 400 (fun _ => 0))), (q69, (arI G 400 (fun _ => 0))), (q70, (arI G 24 (fun _ => 0)))] hP hD ?_
  clear hP hD
  intro hP hD
  refine W.widen (k := 70) (n := 12253) (Nat.le_of_ble_eq_true rfl) (Nat.le_of_ble_eq_true rfl) ?_
  refine va_putF (D := G.1) (ci := 11) (v := .ref q70) (ty := .array .int) (C := RX11) (T := TX11) (N := 17) hx hb hts inG_X11 tyX11 tyX11_ok nmX11 hown hK hP hD hS 0 rfl rfl 13 (by decide +kernel) (hts _ fl_X11_84) (fun _ h9 => h9) rfl hin rfl (by decide +kernel) rfl rfl (Nat.le_of_ble_eq_true rfl) dX11_init_181 ?_
  clear hP hD hS
  intro H locs hP hD hS
  refine g5_rs [(a0, .inr (11, [.ref q1, .ref q14, .ref q41, .ref q42, .ref q47, .ref q49, .ref q57, .ref q58, .ref q61, .ref q69, .int 0, .int 0, .int (-1), .ref q70, .int 0, .null, .int 0])), (q1, (oc1 0 1000 (-1) (-1) 0 q2 q3 q5 q7 q9 q11 0 q13)), (q2, (arW G 6 (fun _ => none))), (q3, (oc6 6 5 q4 0)), (q4, (arI G 30 (fun _ => 0))), (q5, (oc6 5 24 q6 0)), (q6, (arI G 120 (fun _ => 0))), (q7, (oc6 10 4 q8 0)), (q8, (arI G 40 (fun _ => 0))), (q9, (oc6 8 5 q10 0)), (q10, (arI G 40 (fun _ => 0))), (q11, (oc6 6 6 q12 0)), (q12, (arI G 36 (fun _ => 0))), (q13, (arJ G 24 (fun _ => 0))), (q14, (arH G 2 (va_up (va_up (fun _ => none) 0 (some q15)) 1 (some q28)))), (q15, (oc1 0 1000 (-1) (-1) 0 q16 q17 q19 q21 q23 q25 0 q27)), (q16, (arW G 6 (fun _ => none))), (q17, (oc6 6 5 q18 0)), (q18, (arI G 30 (fun _ => 0))), (q19, (oc6 5 24 q20 0)), (q20, (arI G 120 (fun _ => 0))), (q21, (oc6 10 4 q22 0)), (q22, (arI G 40 (fun _ => 0))), (q23, (oc6 8 5 q24 0)), (q24, (arI G 40 (fun _ => 0))), (q25, (oc6 6 6 q26 0)), (q26, (arI G 36 (fun _ => 0))), (q27, (arJ G 24 (fun _ => 0))), (q28, (oc1 0 1000 (-1) (-1) 0 q29 q30 q32 q34 q36 q38 0 q40)), (q29, (arW G 6 (fun _ => none))), (q30, (oc6 6 5 q31 0)), (q31, (arI G 30 (fun _ => 0))), (q32, (oc6 5 24 q33 0)), (q33, (arI G 120 (fun _ => 0))), (q34, (oc6 10 4 q35 0)), (q35, (arI G 40 (fun _ => 0))), (q36, (oc6 8 5 q37 0)), (q37, (arI G 40 (fun _ => 0))), (q38, (oc6 6 6 q39 0)), (q39, (arI G 36 (fun _ => 0))), (q40, (arJ G 24 (fun _ => 0))), (q41, (arZ G 2 (fun _ => 0))), (q42, (oc5 q1 q43 q46 0 0 0 0 0 0 0 0 0 0)), (q43, (oc2 q44 q45)), (q44, (arI G 8 (fun _ => 0))), (q45, (arJ G 50 (fun _ => 0))), (q46, (arI G 200 (fun _ => 0))), (q47, (oc10 q1 q42 q48)), (q48, (arJ G 24 (fun _ => 0))), (q49, (oc7 q1 q42 q50 q51 0 q52 q53 q54 q55 q56)), (q50, (arJ G 24 (fun _ => 0))), (q51, (arI G 1536 (fun _ => 0))), (q52, (arJ G 2048 (fun _ => 0))), (q53, (arJ G 2048 (fun _ => 0))), (q54, (arI G 1536 (fun _ => 0))), (q55, (arI G 64 (fun _ => 0))), (q56, (arI G 64 (fun _ => 0))), (q57, (oc0 q1 q42 0 0 0)), (q58, (oc9 q1 q42 q59 q60)), (q59, (arJ G 24 (fun _ => 0))), (q60, (arI G 1536 (fun _ => 0))), (q61, (oc4 q62 q66 q67 q68 0 0 0 (-1))), (q62, (oc8 q63 q64 q65)), (q63, (arI G 401 (fun _ => 0))), (q64, (arI G 401 (fun _ => 0))), (q65, (arI G 401 (fun _ => 0))), (q66, (arI G 12 (fun _ => 0))), (q67, (arI G 13 (fun _ => 0))), (q68, (arI G 400 (fun _ => 0))), (q69, (arI G 400 (fun _ => 0))), (q70, (arI G 24 (fun _ => 0)))] hP hD ?_
  clear hP hD
  intro hP hD
  refine lv_aload_n hx hb dX11_init_184 rfl (lv_at hl 0 rfl) ?_
  refine lv_iconst (v := 0) hx hb dX11_init_185 (by decide +kernel) ?_
  refine va_put (D := G.1) (ci := 11) (v := .int 0) (ty := .boolean) (C := RX11) (T := TX11) (N := 17) hx hb hts inG_X11 tyX11 tyX11_ok nmX11 hown hK hP hD hS 0 rfl rfl 14 (by decide +kernel) (hts _ fl_X11_87) (fun _ h9 => h9) rfl (by decide +kernel) rfl rfl (Nat.le_of_ble_eq_true rfl) dX11_init_186 ?_
  clear hP hD hS
  intro H locs hP hD hS
  refine g5_rs [(a0, .inr (11, [.ref q1, .ref q14, .ref q41, .ref q42, .ref q47, .ref q49, .ref q57, .ref q58, .ref q61, .ref q69, .int 0, .int 0, .int (-1), .ref q70, .int 0, .null, .int 0])), (q1, (oc1 0 1000 (-1) (-1) 0 q2 q3 q5 q7 q9 q11 0 q13)), (q2, (arW G 6 (fun _ => none))), (q3, (oc6 6 5 q4 0)), (q4, (arI G 30 (fun _ => 0))), (q5, (oc6 5 24 q6 0)), (q6, (arI G 120 (fun _ => 0))), (q7, (oc6 10 4 q8 0)), (q8, (arI G 40 (fun _ => 0))), (q9, (oc6 8 5 q10 0)), (q10, (arI G 40 (fun _ => 0))), (q11, (oc6 6 6 q12 0)), (q12, (arI G 36 (fun _ => 0))), (q13, (arJ G 24 (fun _ => 0))), (q14, (arH G 2 (va_up (va_up (fun _ => none) 0 (some q15)) 1 (some q28)))), (q15, (oc1 0 1000 (-1) (-1) 0 q16 q17 q19 q21 q23 q25 0 q27)), (q16, (arW G 6 (fun _ => none))), (q17, (oc6 6 5 q18 0)), (q18, (arI G 30 (fun _ => 0))), (q19, (oc6 5 24 q20 0)), (q20, (arI G 120 (fun _ => 0))), (q21, (oc6 10 4 q22 0)), (q22, (arI G 40 (fun _ => 0))), (q23, (oc6 8 5 q24 0)), (q24, (arI G 40 (fun _ => 0))), (q25, (oc6 6 6 q26 0)), (q26, (arI G 36 (fun _ => 0))), (q27, (arJ G 24 (fun _ => 0))), (q28, (oc1 0 1000 (-1) (-1) 0 q29 q30 q32 q34 q36 q38 0 q40)), (q29, (arW G 6 (fun _ => none))), (q30, (oc6 6 5 q31 0)), (q31, (arI G 30 (fun _ => 0))), (q32, (oc6 5 24 q33 0)), (q33, (arI G 120 (fun _ => 0))), (q34, (oc6 10 4 q35 0)), (q35, (arI G 40 (fun _ => 0))), (q36, (oc6 8 5 q37 0)), (q37, (arI G 40 (fun _ => 0))), (q38, (oc6 6 6 q39 0)), (q39, (arI G 36 (fun _ => 0))), (q40, (arJ G 24 (fun _ => 0))), (q41, (arZ G 2 (fun _ => 0))), (q42, (oc5 q1 q43 q46 0 0 0 0 0 0 0 0 0 0)), (q43, (oc2 q44 q45)), (q44, (arI G 8 (fun _ => 0))), (q45, (arJ G 50 (fun _ => 0))), (q46, (arI G 200 (fun _ => 0))), (q47, (oc10 q1 q42 q48)), (q48, (arJ G 24 (fun _ => 0))), (q49, (oc7 q1 q42 q50 q51 0 q52 q53 q54 q55 q56)), (q50, (arJ G 24 (fun _ => 0))), (q51, (arI G 1536 (fun _ => 0))), (q52, (arJ G 2048 (fun _ => 0))), (q53, (arJ G 2048 (fun _ => 0))), (q54, (arI G 1536 (fun _ => 0))), (q55, (arI G 64 (fun _ => 0))), (q56, (arI G 64 (fun _ => 0))), (q57, (oc0 q1 q42 0 0 0)), (q58, (oc9 q1 q42 q59 q60)), (q59, (arJ G 24 (fun _ => 0))), (q60, (arI G 1536 (fun _ => 0))), (q61, (oc4 q62 q66 q67 q68 0 0 0 (-1))), (q62, (oc8 q63 q64 q65)), (q63, (arI G 401 (fun _ => 0))), (q64, (arI G 401 (fun _ => 0))), (q65, (arI G 401 (fun _ => 0))), (q66, (arI G 12 (fun _ => 0))), (q67, (arI G 13 (fun _ => 0))), (q68, (arI G 400 (fun _ => 0))), (q69, (arI G 400 (fun _ => 0))), (q70, (arI G 24 (fun _ => 0)))] hP hD ?_
  clear hP hD
  intro hP hD
  refine lv_aload_n hx hb dX11_init_189 rfl (lv_at hl 0 rfl) ?_
  refine lv_iconst (v := 5) hx hb dX11_init_190 (by decide +kernel) ?_
  refine va_newa (D := G.1) (atype := .int) (ty := .int) hx hb (hts _ acl_I) rfl hK hP hD hS hA (n := 5) (N' := 5) (a0 := (5, .inl (fun _ => 0))) (fun _ => rfl) (by decide +kernel) (by decide +kernel) (by decide +kernel) (Nat.le_of_ble_eq_true rfl) (Nat.le_of_ble_eq_true rfl) dX11_init_191 (fun q71 cA H hKn hP hD hS => ?_)
  obtain rfl : cA = G.2 0 := g5_cI hKn
  refine g5_rs [(a0, .inr (11, [.ref q1, .ref q14, .ref q41, .ref q42, .ref q47, .ref q49, .ref q57, .ref q58, .ref q61, .ref q69, .int 0, .int 0, .int (-1), .ref q70, .int 0, .null, .int 0])), (q1, (oc1 0 1000 (-1) (-1) 0 q2 q3 q5 q7 q9 q11 0 q13)), (q2, (arW G 6 (fun _ => none))), (q3, (oc6 6 5 q4 0)), (q4, (arI G 30 (fun _ => 0))), (q5, (oc6 5 24 q6 0)), (q6, (arI G 120 (fun _ => 0))), (q7, (oc6 10 4 q8 0)), (q8, (arI G 40 (fun _ => 0))), (q9, (oc6 8 5 q10 0)), (q10, (arI G 40 (fun _ => 0))), (q11, (oc6 6 6 q12 0)), (q12, (arI G 36 (fun _ => 0))), (q13, (arJ G 24 (fun _ => 0))), (q14, (arH G 2 (va_up (va_up (fun _ => none) 0 (some q15)) 1 (some q28)))), (q15, (oc1 0 1000 (-1) (-1) 0 q16 q17 q19 q21 q23 q25 0 q27)), (q16, (arW G 6 (fun _ => none))), (q17, (oc6 6 5 q18 0)), (q18, (arI G 30 (fun _ => 0))), (q19, (oc6 5 24 q20 0)), (q20, (arI G 120 (fun _ => 0))), (q21, (oc6 10 4 q22 0)), (q22, (arI G 40 (fun _ => 0))), (q23, (oc6 8 5 q24 0)), (q24, (arI G 40 (fun _ => 0))), (q25, (oc6 6 6 q26 0)), (q26, (arI G 36 (fun _ => 0))), (q27, (arJ G 24 (fun _ => 0))), (q28, (oc1 0 1000 (-1) (-1) 0 q29 q30 q32 q34 q36 q38 0 q40)), (q29, (arW G 6 (fun _ => none))), (q30, (oc6 6 5 q31 0)), (q31, (arI G 30 (fun _ => 0))), (q32, (oc6 5 24 q33 0)), (q33, (arI G 120 (fun _ => 0))), (q34, (oc6 10 4 q35 0)), (q35, (arI G 40 (fun _ => 0))), (q36, (oc6 8 5 q37 0)), (q37, (arI G 40 (fun _ => 0))), (q38, (oc6 6 6 q39 0)), (q39, (arI G 36 (fun _ => 0))), (q40, (arJ G 24 (fun _ => 0))), (q41, (arZ G 2 (fun _ => 0))), (q42, (oc5 q1 q43 q46 0 0 0 0 0 0 0 0 0 0)), (q43, (oc2 q44 q45)), (q44, (arI G 8 (fun _ => 0))), (q45, (arJ G 50 (fun _ => 0))), (q46, (arI G 200 (fun _ => 0))), (q47, (oc10 q1 q42 q48)), (q48, (arJ G 24 (fun _ => 0))), (q49, (oc7 q1 q42 q50 q51 0 q52 q53 q54 q55 q56)), (q50, (arJ G 24 (fun _ => 0))), (q51, (arI G 1536 (fun _ => 0))), (q52, (arJ G 2048 (fun _ => 0))), (q53, (arJ G 2048 (fun _ => 0))), (q54, (arI G 1536 (fun _ => 0))), (q55, (arI G 64 (fun _ => 0))), (q56, (arI G 64 (fun _ => 0))), (q57, (oc0 q1 q42 0 0 0)), (q58, (oc9 q1 q42 q59 q60)), (q59, (arJ G 24 (fun _ => 0))), (q60, (arI G 1536 (fun _ => 0))), (q61, (oc4 q62 q66 q67 q68 0 0 0 (-1))), (q62, (oc8 q63 q64 q65)), (q63, (arI G 401 (fun _ => 0))), (q64, (arI G 401 (fun _ => 0))), (q65, (arI G 401 (fun _ => 0))), (q66, (arI G 12 (fun _ => 0))), (q67, (arI G 13 (fun _ => 0))), (q68, (arI G 400 (fun _ => 0))), (q69, (arI G 400 (fun _ => 0))), (q70, (arI G 24 (fun _ => 0))), (q71, (arI G 5 (fun _ => 0)))] hP hD ?_
  clear hP hD
  intro hP hD
  refine W.widen (k := 71) (n := 12258) (Nat.le_of_ble_eq_true rfl) (Nat.le_of_ble_eq_true rfl) ?_
  refine va_putF (D := G.1) (ci := 11) (v := .ref q71) (ty := .array .int) (C := RX11) (T := TX11) (N := 17) hx hb hts inG_X11 tyX11 tyX11_ok nmX11 hown hK hP hD hS 0 rfl rfl 15 (by decide +kernel) (hts _ fl_X11_91) (fun _ h9 => h9) rfl hin rfl (by decide +kernel) rfl rfl (Nat.le_of_ble_eq_true rfl) dX11_init_193 ?_
  clear hP hD hS
  intro H locs hP hD hS
  refine g5_rs [(a0, (oc11 q1 q14 q41 q42 q47 q49 q57 q58 q61 q69 0 0 (-1) q70 0 q71 0)), (q1, (oc1 0 1000 (-1) (-1) 0 q2 q3 q5 q7 q9 q11 0 q13)), (q2, (arW G 6 (fun _ => none))), (q3, (oc6 6 5 q4 0)), (q4, (arI G 30 (fun _ => 0))), (q5, (oc6 5 24 q6 0)), (q6, (arI G 120 (fun _ => 0))), (q7, (oc6 10 4 q8 0)), (q8, (arI G 40 (fun _ => 0))), (q9, (oc6 8 5 q10 0)), (q10, (arI G 40 (fun _ => 0))), (q11, (oc6 6 6 q12 0)), (q12, (arI G 36 (fun _ => 0))), (q13, (arJ G 24 (fun _ => 0))), (q14, (arH G 2 (va_up (va_up (fun _ => none) 0 (some q15)) 1 (some q28)))), (q15, (oc1 0 1000 (-1) (-1) 0 q16 q17 q19 q21 q23 q25 0 q27)), (q16, (arW G 6 (fun _ => none))), (q17, (oc6 6 5 q18 0)), (q18, (arI G 30 (fun _ => 0))), (q19, (oc6 5 24 q20 0)), (q20, (arI G 120 (fun _ => 0))), (q21, (oc6 10 4 q22 0)), (q22, (arI G 40 (fun _ => 0))), (q23, (oc6 8 5 q24 0)), (q24, (arI G 40 (fun _ => 0))), (q25, (oc6 6 6 q26 0)), (q26, (arI G 36 (fun _ => 0))), (q27, (arJ G 24 (fun _ => 0))), (q28, (oc1 0 1000 (-1) (-1) 0 q29 q30 q32 q34 q36 q38 0 q40)), (q29, (arW G 6 (fun _ => none))), (q30, (oc6 6 5 q31 0)), (q31, (arI G 30 (fun _ => 0))), (q32, (oc6 5 24 q33 0)), (q33, (arI G 120 (fun _ => 0))), (q34, (oc6 10 4 q35 0)), (q35, (arI G 40 (fun _ => 0))), (q36, (oc6 8 5 q37 0)), (q37, (arI G 40 (fun _ => 0))), (q38, (oc6 6 6 q39 0)), (q39, (arI G 36 (fun _ => 0))), (q40, (arJ G 24 (fun _ => 0))), (q41, (arZ G 2 (fun _ => 0))), (q42, (oc5 q1 q43 q46 0 0 0 0 0 0 0 0 0 0)), (q43, (oc2 q44 q45)), (q44, (arI G 8 (fun _ => 0))), (q45, (arJ G 50 (fun _ => 0))), (q46, (arI G 200 (fun _ => 0))), (q47, (oc10 q1 q42 q48)), (q48, (arJ G 24 (fun _ => 0))), (q49, (oc7 q1 q42 q50 q51 0 q52 q53 q54 q55 q56)), (q50, (arJ G 24 (fun _ => 0))), (q51, (arI G 1536 (fun _ => 0))), (q52, (arJ G 2048 (fun _ => 0))), (q53, (arJ G 2048 (fun _ => 0))), (q54, (arI G 1536 (fun _ => 0))), (q55, (arI G 64 (fun _ => 0))), (q56, (arI G 64 (fun _ => 0))), (q57, (oc0 q1 q42 0 0 0)), (q58, (oc9 q1 q42 q59 q60)), (q59, (arJ G 24 (fun _ => 0))), (q60, (arI G 1536 (fun _ => 0))), (q61, (oc4 q62 q66 q67 q68 0 0 0 (-1))), (q62, (oc8 q63 q64 q65)), (q63, (arI G 401 (fun _ => 0))), (q64, (arI G 401 (fun _ => 0))), (q65, (arI G 401 (fun _ => 0))), (q66, (arI G 12 (fun _ => 0))), (q67, (arI G 13 (fun _ => 0))), (q68, (arI G 400 (fun _ => 0))), (q69, (arI G 400 (fun _ => 0))), (q70, (arI G 24 (fun _ => 0))), (q71, (arI G 5 (fun _ => 0)))] hP hD ?_
  clear hP hD
  intro hP hD
  refine lv_aload_n hx hb dX11_init_196 rfl (lv_at hl 0 rfl) ?_
  refine lv_iconst (v := 0) hx hb dX11_init_197 (by decide +kernel) ?_
  refine va_put (D := G.1) (ci := 11) (v := .int 0) (ty := .int) (C := RX11) (T := TX11) (N := 17) hx hb hts inG_X11 tyX11 tyX11_ok nmX11 hown hK hP hD hS 0 rfl rfl 16 (by decide +kernel) (hts _ fl_X11_94) (fun _ h9 => h9) rfl (by decide +kernel) rfl rfl (Nat.le_of_ble_eq_true rfl) dX11_init_198 ?_
  clear hP hD hS
  intro H locs hP hD hS
  refine g5_rs [(a0, (oc11 q1 q14 q41 q42 q47 q49 q57 q58 q61 q69 0 0 (-1) q70 0 q71 0)), (q1, (oc1 0 1000 (-1) (-1) 0 q2 q3 q5 q7 q9 q11 0 q13)), (q2, (arW G 6 (fun _ => none))), (q3, (oc6 6 5 q4 0)), (q4, (arI G 30 (fun _ => 0))), (q5, (oc6 5 24 q6 0)), (q6, (arI G 120 (fun _ => 0))), (q7, (oc6 10 4 q8 0)), (q8, (arI G 40 (fun _ => 0))), (q9, (oc6 8 5 q10 0)), (q10, (arI G 40 (fun _ => 0))), (q11, (oc6 6 6 q12 0)), (q12, (arI G 36 (fun _ => 0))), (q13, (arJ G 24 (fun _ => 0))), (q14, (arH G 2 (va_up (va_up (fun _ => none) 0 (some q15)) 1 (some q28)))), (q15, (oc1 0 1000 (-1) (-1) 0 q16 q17 q19 q21 q23 q25 0 q27)), (q16, (arW G 6 (fun _ => none))), (q17, (oc6 6 5 q18 0)), (q18, (arI G 30 (fun _ => 0))), (q19, (oc6 5 24 q20 0)), (q20, (arI G 120 (fun _ => 0))), (q21, (oc6 10 4 q22 0)), (q22, (arI G 40 (fun _ => 0))), (q23, (oc6 8 5 q24 0)), (q24, (arI G 40 (fun _ => 0))), (q25, (oc6 6 6 q26 0)), (q26, (arI G 36 (fun _ => 0))), (q27, (arJ G 24 (fun _ => 0))), (q28, (oc1 0 1000 (-1) (-1) 0 q29 q30 q32 q34 q36 q38 0 q40)), (q29, (arW G 6 (fun _ => none))), (q30, (oc6 6 5 q31 0)), (q31, (arI G 30 (fun _ => 0))), (q32, (oc6 5 24 q33 0)), (q33, (arI G 120 (fun _ => 0))), (q34, (oc6 10 4 q35 0)), (q35, (arI G 40 (fun _ => 0))), (q36, (oc6 8 5 q37 0)), (q37, (arI G 40 (fun _ => 0))), (q38, (oc6 6 6 q39 0)), (q39, (arI G 36 (fun _ => 0))), (q40, (arJ G 24 (fun _ => 0))), (q41, (arZ G 2 (fun _ => 0))), (q42, (oc5 q1 q43 q46 0 0 0 0 0 0 0 0 0 0)), (q43, (oc2 q44 q45)), (q44, (arI G 8 (fun _ => 0))), (q45, (arJ G 50 (fun _ => 0))), (q46, (arI G 200 (fun _ => 0))), (q47, (oc10 q1 q42 q48)), (q48, (arJ G 24 (fun _ => 0))), (q49, (oc7 q1 q42 q50 q51 0 q52 q53 q54 q55 q56)), (q50, (arJ G 24 (fun _ => 0))), (q51, (arI G 1536 (fun _ => 0))), (q52, (arJ G 2048 (fun _ => 0))), (q53, (arJ G 2048 (fun _ => 0))), (q54, (arI G 1536 (fun _ => 0))), (q55, (arI G 64 (fun _ => 0))), (q56, (arI G 64 (fun _ => 0))), (q57, (oc0 q1 q42 0 0 0)), (q58, (oc9 q1 q42 q59 q60)), (q59, (arJ G 24 (fun _ => 0))), (q60, (arI G 1536 (fun _ => 0))), (q61, (oc4 q62 q66 q67 q68 0 0 0 (-1))), (q62, (oc8 q63 q64 q65)), (q63, (arI G 401 (fun _ => 0))), (q64, (arI G 401 (fun _ => 0))), (q65, (arI G 401 (fun _ => 0))), (q66, (arI G 12 (fun _ => 0))), (q67, (arI G 13 (fun _ => 0))), (q68, (arI G 400 (fun _ => 0))), (q69, (arI G 400 (fun _ => 0))), (q70, (arI G 24 (fun _ => 0))), (q71, (arI G 5 (fun _ => 0)))] hP hD ?_
  clear hP hD
  intro hP hD
  exact W.vret hx hb hr (fun t ht hW => ⟨⟨[(a0, (oc11 q1 q14 q41 q42 q47 q49 q57 q58 q61 q69 0 0 (-1) q70 0 q71 0)), (q1, (oc1 0 1000 (-1) (-1) 0 q2 q3 q5 q7 q9 q11 0 q13)), (q2, (arW G 6 (fun _ => none))), (q3, (oc6 6 5 q4 0)), (q4, (arI G 30 (fun _ => 0))), (q5, (oc6 5 24 q6 0)), (q6, (arI G 120 (fun _ => 0))), (q7, (oc6 10 4 q8 0)), (q8, (arI G 40 (fun _ => 0))), (q9, (oc6 8 5 q10 0)), (q10, (arI G 40 (fun _ => 0))), (q11, (oc6 6 6 q12 0)), (q12, (arI G 36 (fun _ => 0))), (q13, (arJ G 24 (fun _ => 0))), (q14, (arH G 2 (va_up (va_up (fun _ => none) 0 (some q15)) 1 (some q28)))), (q15, (oc1 0 1000 (-1) (-1) 0 q16 q17 q19 q21 q23 q25 0 q27)), (q16, (arW G 6 (fun _ => none))), (q17, (oc6 6 5 q18 0)), (q18, (arI G 30 (fun _ => 0))), (q19, (oc6 5 24 q20 0)), (q20, (arI G 120 (fun _ => 0))), (q21, (oc6 10 4 q22 0)), (q22, (arI G 40 (fun _ => 0))), (q23, (oc6 8 5 q24 0)), (q24, (arI G 40 (fun _ => 0))), (q25, (oc6 6 6 q26 0)), (q26, (arI G 36 (fun _ => 0))), (q27, (arJ G 24 (fun _ => 0))), (q28, (oc1 0 1000 (-1) (-1) 0 q29 q30 q32 q34 q36 q38 0 q40)), (q29, (arW G 6 (fun _ => none))), (q30, (oc6 6 5 q31 0)), (q31, (arI G 30 (fun _ => 0))), (q32, (oc6 5 24 q33 0)), (q33, (arI G 120 (fun _ => 0))), (q34, (oc6 10 4 q35 0)), (q35, (arI G 40 (fun _ => 0))), (q36, (oc6 8 5 q37 0)), (q37, (arI G 40 (fun _ => 0))), (q38, (oc6 6 6 q39 0)), (q39, (arI G 36 (fun _ => 0))), (q40, (arJ G 24 (fun _ => 0))), (q41, (arZ G 2 (fun _ => 0))), (q42, (oc5 q1 q43 q46 0 0 0 0 0 0 0 0 0 0)), (q43, (oc2 q44 q45)), (q44, (arI G 8 (fun _ => 0))), (q45, (arJ G 50 (fun _ => 0))), (q46, (arI G 200 (fun _ => 0))), (q47, (oc10 q1 q42 q48)), (q48, (arJ G 24 (fun _ => 0))), (q49, (oc7 q1 q42 q50 q51 0 q52 q53 q54 q55 q56)), (q50, (arJ G 24 (fun _ => 0))), (q51, (arI G 1536 (fun _ => 0))), (q52, (arJ G 2048 (fun _ => 0))), (q53, (arJ G 2048 (fun _ => 0))), (q54, (arI G 1536 (fun _ => 0))), (q55, (arI G 64 (fun _ => 0))), (q56, (arI G 64 (fun _ => 0))), (q57, (oc0 q1 q42 0 0 0)), (q58, (oc9 q1 q42 q59 q60)), (q59, (arJ G 24 (fun _ => 0))), (q60, (arI G 1536 (fun _ => 0))), (q61, (oc4 q62 q66 q67 q68 0 0 0 (-1))), (q62, (oc8 q63 q64 q65)), (q63, (arI G 401 (fun _ => 0))), (q64, (arI G 401 (fun _ => 0))), (q65, (arI G 401 (fun _ => 0))), (q66, (arI G 12 (fun _ => 0))), (q67, (arI G 13 (fun _ => 0))), (q68, (arI G 400 (fun _ => 0))), (q69, (arI G 400 (fun _ => 0))), (q70, (arI G 24 (fun _ => 0))), (q71, (arI G 5 (fun _ => 0)))], rfl, ⟨q1, q2, q3, q4, q5, q6, q7, q8, q9, q10, q11, q12, q13, q14, q15, q16, q17, q18, q19, q20, q21, q22, q23, q24, q25, q26, q27, q28, q29, q30, q31, q32, q33, q34, q35, q36, q37, q38, q39, q40, q41, q42, q43, q44, q45, q46, q47, q48, q49, q50, q51, q52, q53, q54, q55, q56, q57, q58, q59, q60, q61, q62, q63, q64, q65, q66, q67, q68, q69, q70, q71, rfl⟩, by rw [ht]; exact hP, hD⟩, hS.F ht⟩) hS.2.2 dX11_init_201
theorem cd_X11_init : Cond.code yX11_init cX11_init 1 none ∈ tblG := tg 115 (by decide +kernel) (by decide +kernel)
theorem gW_X11_init : GoodIn tblG (wsG yX11_init cX11_init 1 none) := tgi cd_X11_init
theorem ml_L_9 : Cond.methodLink RL 9 yX11_init ∈ tblG := tg 113 (by decide +kernel) (by decide +kernel)
theorem im_X11_init : Cond.instanceMethod yX11_init ∈ tblG := tg 114 (by decide +kernel) (by decide +kernel)
theorem hs_X11_init : yX11_init.cls ≠ "java/lang/invoke/MethodHandle" ∧ yX11_init.cls ≠ "java/lang/invoke/VarHandle" ∧ (parseMethodDescriptor yX11_init.desc).map (fun d => d.parameters.length) = some 0 := by decide +kernel
theorem cl_L_10 : Cond.classLink RL 10 RX12 ∈ tblG := tg 1184 (by decide +kernel) (by decide +kernel)
theorem oi_X12_1 : Cond.methodLink RX12 1 objectInit ∈ tblG := tg 1189 (by decide +kernel) (by decide +kernel)
theorem kl_X12_45 : Cond.constantLong RX12 45 7734899 ∈ tblG := tg 1190 (by decide +kernel) (by decide +kernel)
theorem kl_X12_49 : Cond.constantLong RX12 49 25 ∈ tblG := tg 1192 (by decide +kernel) (by decide +kernel)
theorem kl_X12_51 : Cond.constantLong RX12 51 278194 ∈ tblG := tg 1193 (by decide +kernel) (by decide +kernel)
theorem kl_X12_53 : Cond.constantLong RX12 53 23609 ∈ tblG := tg 1194 (by decide +kernel) (by decide +kernel)
theorem kl_X12_55 : Cond.constantLong RX12 55 81049 ∈ tblG := tg 1195 (by decide +kernel) (by decide +kernel)
theorem kl_X12_57 : Cond.constantLong RX12 57 20583955 ∈ tblG := tg 1196 (by decide +kernel) (by decide +kernel)
theorem kl_X12_59 : Cond.constantLong RX12 59 86285588 ∈ tblG := tg 1197 (by decide +kernel) (by decide +kernel)
theorem kl_X12_65 : Cond.constantLong RX12 65 394885 ∈ tblG := tg 1198 (by decide +kernel) (by decide +kernel)
theorem kl_X12_67 : Cond.constantLong RX12 67 153204 ∈ tblG := tg 1199 (by decide +kernel) (by decide +kernel)
theorem kl_X12_69 : Cond.constantLong RX12 69 117118547 ∈ tblG := tg 1200 (by decide +kernel) (by decide +kernel)
theorem kl_X12_71 : Cond.constantLong RX12 71 3544114 ∈ tblG := tg 1201 (by decide +kernel) (by decide +kernel)
theorem dgX12_init_0 : ∀ r ∈ ([(0, (.aload_n 0, 1)), (1, (.invokespecial 1, 3)), (4, (.aload_n 0, 1)), (5, (.bipush 7, 2)), (7, (.newarray .int, 2)), (9, (.putfield 7, 3)), (12, (.aload_n 0, 1)), (13, (.sipush 5740, 3)), (16, (.newarray .int, 2)), (18, (.putfield 13, 3)), (21, (.aload_n 0, 1)), (22, (.sipush 11480, 3)), (25, (.newarray .int, 2)), (27, (.putfield 16, 3)), (30, (.aload_n 0, 1)), (31, (.iconst 2, 1)), (32, (.newarray .boolean, 2)), (34, (.putfield 19, 3)), (37, (.aload_n 0, 1)), (38, (.sipush 400, 3)), (41, (.newarray .int, 2)), (43, (.putfield 23, 3)), (46, (.aload_n 0, 1)), (47, (.iconst (-1), 1)), (48, (.putfield 26, 3)), (51, (.aload_n 0, 1)), (52, (.bipush 96, 2)), (54, (.newarray .int, 2)), (56, (.putfield 30, 3)), (59, (.aload_n 0, 1)), (60, (.sipush 400, 3)), (63, (.newarray .int, 2)), (65, (.putfield 33, 3)), (68, (.aload_n 0, 1)), (69, (.sipush 400, 3)), (72, (.newarray .int, 2)), (74, (.putfield 36, 3)), (77, (.aload_n 0, 1)), (78, (.sipush 400, 3)), (81, (.newarray .int, 2))] : List (Nat × (Instr × Nat))), decode cX12_init r.1 = .ok r.2 := by decide +kernel
theorem dX12_init_0 : decode cX12_init 0 = .ok (.aload_n 0, 1) := dgX12_init_0 (0, (.aload_n 0, 1)) (List.mem_of_getElem? (i := 0) rfl)
theorem dX12_init_1 : decode cX12_init 1 = .ok (.invokespecial 1, 3) := dgX12_init_0 (1, (.invokespecial 1, 3)) (List.mem_of_getElem? (i := 1) rfl)
theorem dX12_init_4 : decode cX12_init 4 = .ok (.aload_n 0, 1) := dgX12_init_0 (4, (.aload_n 0, 1)) (List.mem_of_getElem? (i := 2) rfl)
theorem dX12_init_5 : decode cX12_init 5 = .ok (.bipush 7, 2) := dgX12_init_0 (5, (.bipush 7, 2)) (List.mem_of_getElem? (i := 3) rfl)
theorem dX12_init_7 : decode cX12_init 7 = .ok (.newarray .int, 2) := dgX12_init_0 (7, (.newarray .int, 2)) (List.mem_of_getElem? (i := 4) rfl)
theorem dX12_init_9 : decode cX12_init 9 = .ok (.putfield 7, 3) := dgX12_init_0 (9, (.putfield 7, 3)) (List.mem_of_getElem? (i := 5) rfl)
theorem dX12_init_12 : decode cX12_init 12 = .ok (.aload_n 0, 1) := dgX12_init_0 (12, (.aload_n 0, 1)) (List.mem_of_getElem? (i := 6) rfl)
theorem dX12_init_13 : decode cX12_init 13 = .ok (.sipush 5740, 3) := dgX12_init_0 (13, (.sipush 5740, 3)) (List.mem_of_getElem? (i := 7) rfl)
theorem dX12_init_16 : decode cX12_init 16 = .ok (.newarray .int, 2) := dgX12_init_0 (16, (.newarray .int, 2)) (List.mem_of_getElem? (i := 8) rfl)
theorem dX12_init_18 : decode cX12_init 18 = .ok (.putfield 13, 3) := dgX12_init_0 (18, (.putfield 13, 3)) (List.mem_of_getElem? (i := 9) rfl)
theorem dX12_init_21 : decode cX12_init 21 = .ok (.aload_n 0, 1) := dgX12_init_0 (21, (.aload_n 0, 1)) (List.mem_of_getElem? (i := 10) rfl)
theorem dX12_init_22 : decode cX12_init 22 = .ok (.sipush 11480, 3) := dgX12_init_0 (22, (.sipush 11480, 3)) (List.mem_of_getElem? (i := 11) rfl)
theorem dX12_init_25 : decode cX12_init 25 = .ok (.newarray .int, 2) := dgX12_init_0 (25, (.newarray .int, 2)) (List.mem_of_getElem? (i := 12) rfl)
theorem dX12_init_27 : decode cX12_init 27 = .ok (.putfield 16, 3) := dgX12_init_0 (27, (.putfield 16, 3)) (List.mem_of_getElem? (i := 13) rfl)
theorem dX12_init_30 : decode cX12_init 30 = .ok (.aload_n 0, 1) := dgX12_init_0 (30, (.aload_n 0, 1)) (List.mem_of_getElem? (i := 14) rfl)
theorem dX12_init_31 : decode cX12_init 31 = .ok (.iconst 2, 1) := dgX12_init_0 (31, (.iconst 2, 1)) (List.mem_of_getElem? (i := 15) rfl)
theorem dX12_init_32 : decode cX12_init 32 = .ok (.newarray .boolean, 2) := dgX12_init_0 (32, (.newarray .boolean, 2)) (List.mem_of_getElem? (i := 16) rfl)
theorem dX12_init_34 : decode cX12_init 34 = .ok (.putfield 19, 3) := dgX12_init_0 (34, (.putfield 19, 3)) (List.mem_of_getElem? (i := 17) rfl)
theorem dX12_init_37 : decode cX12_init 37 = .ok (.aload_n 0, 1) := dgX12_init_0 (37, (.aload_n 0, 1)) (List.mem_of_getElem? (i := 18) rfl)
theorem dX12_init_38 : decode cX12_init 38 = .ok (.sipush 400, 3) := dgX12_init_0 (38, (.sipush 400, 3)) (List.mem_of_getElem? (i := 19) rfl)
theorem dX12_init_41 : decode cX12_init 41 = .ok (.newarray .int, 2) := dgX12_init_0 (41, (.newarray .int, 2)) (List.mem_of_getElem? (i := 20) rfl)
theorem dX12_init_43 : decode cX12_init 43 = .ok (.putfield 23, 3) := dgX12_init_0 (43, (.putfield 23, 3)) (List.mem_of_getElem? (i := 21) rfl)
theorem dX12_init_46 : decode cX12_init 46 = .ok (.aload_n 0, 1) := dgX12_init_0 (46, (.aload_n 0, 1)) (List.mem_of_getElem? (i := 22) rfl)
theorem dX12_init_47 : decode cX12_init 47 = .ok (.iconst (-1), 1) := dgX12_init_0 (47, (.iconst (-1), 1)) (List.mem_of_getElem? (i := 23) rfl)
theorem dX12_init_48 : decode cX12_init 48 = .ok (.putfield 26, 3) := dgX12_init_0 (48, (.putfield 26, 3)) (List.mem_of_getElem? (i := 24) rfl)
theorem dX12_init_51 : decode cX12_init 51 = .ok (.aload_n 0, 1) := dgX12_init_0 (51, (.aload_n 0, 1)) (List.mem_of_getElem? (i := 25) rfl)
theorem dX12_init_52 : decode cX12_init 52 = .ok (.bipush 96, 2) := dgX12_init_0 (52, (.bipush 96, 2)) (List.mem_of_getElem? (i := 26) rfl)
theorem dX12_init_54 : decode cX12_init 54 = .ok (.newarray .int, 2) := dgX12_init_0 (54, (.newarray .int, 2)) (List.mem_of_getElem? (i := 27) rfl)
theorem dX12_init_56 : decode cX12_init 56 = .ok (.putfield 30, 3) := dgX12_init_0 (56, (.putfield 30, 3)) (List.mem_of_getElem? (i := 28) rfl)
theorem dX12_init_59 : decode cX12_init 59 = .ok (.aload_n 0, 1) := dgX12_init_0 (59, (.aload_n 0, 1)) (List.mem_of_getElem? (i := 29) rfl)
theorem dX12_init_60 : decode cX12_init 60 = .ok (.sipush 400, 3) := dgX12_init_0 (60, (.sipush 400, 3)) (List.mem_of_getElem? (i := 30) rfl)
theorem dX12_init_63 : decode cX12_init 63 = .ok (.newarray .int, 2) := dgX12_init_0 (63, (.newarray .int, 2)) (List.mem_of_getElem? (i := 31) rfl)
theorem dX12_init_65 : decode cX12_init 65 = .ok (.putfield 33, 3) := dgX12_init_0 (65, (.putfield 33, 3)) (List.mem_of_getElem? (i := 32) rfl)
theorem dX12_init_68 : decode cX12_init 68 = .ok (.aload_n 0, 1) := dgX12_init_0 (68, (.aload_n 0, 1)) (List.mem_of_getElem? (i := 33) rfl)
theorem dX12_init_69 : decode cX12_init 69 = .ok (.sipush 400, 3) := dgX12_init_0 (69, (.sipush 400, 3)) (List.mem_of_getElem? (i := 34) rfl)
theorem dX12_init_72 : decode cX12_init 72 = .ok (.newarray .int, 2) := dgX12_init_0 (72, (.newarray .int, 2)) (List.mem_of_getElem? (i := 35) rfl)
theorem dX12_init_74 : decode cX12_init 74 = .ok (.putfield 36, 3) := dgX12_init_0 (74, (.putfield 36, 3)) (List.mem_of_getElem? (i := 36) rfl)
theorem dX12_init_77 : decode cX12_init 77 = .ok (.aload_n 0, 1) := dgX12_init_0 (77, (.aload_n 0, 1)) (List.mem_of_getElem? (i := 37) rfl)
theorem dX12_init_78 : decode cX12_init 78 = .ok (.sipush 400, 3) := dgX12_init_0 (78, (.sipush 400, 3)) (List.mem_of_getElem? (i := 38) rfl)
theorem dX12_init_81 : decode cX12_init 81 = .ok (.newarray .int, 2) := dgX12_init_0 (81, (.newarray .int, 2)) (List.mem_of_getElem? (i := 39) rfl)
theorem dgX12_init_1 : ∀ r ∈ ([(83, (.putfield 39, 3)), (86, (.aload_n 0, 1)), (87, (.sipush 400, 3)), (90, (.newarray .int, 2)), (92, (.putfield 42, 3)), (95, (.aload_n 0, 1)), (96, (.bipush 8, 2)), (98, (.newarray .long, 2)), (100, (.dup, 1)), (101, (.iconst 0, 1)), (102, (.ldc2_w 45, 3)), (105, (.lastore, 1)), (106, (.dup, 1)), (107, (.iconst 1, 1)), (108, (.ldc2_w 47, 3)), (111, (.lastore, 1)), (112, (.dup, 1)), (113, (.iconst 2, 1)), (114, (.ldc2_w 49, 3)), (117, (.lastore, 1)), (118, (.dup, 1)), (119, (.iconst 3, 1)), (120, (.ldc2_w 51, 3)), (123, (.lastore, 1)), (124, (.dup, 1)), (125, (.iconst 4, 1)), (126, (.ldc2_w 53, 3)), (129, (.lastore, 1)), (130, (.dup, 1)), (131, (.iconst 5, 1)), (132, (.ldc2_w 55, 3)), (135, (.lastore, 1)), (136, (.dup, 1)), (137, (.bipush 6, 2)), (139, (.ldc2_w 57, 3)), (142, (.lastore, 1)), (143, (.dup, 1)), (144, (.bipush 7, 2)), (146, (.ldc2_w 59, 3)), (149, (.lastore, 1))] : List (Nat × (Instr × Nat))), decode cX12_init r.1 = .ok r.2 := by decide +kernel
theorem dX12_init_83 : decode cX12_init 83 = .ok (.putfield 39, 3) := dgX12_init_1 (83, (.putfield 39, 3)) (List.mem_of_getElem? (i := 0) rfl)
theorem dX12_init_86 : decode cX12_init 86 = .ok (.aload_n 0, 1) := dgX12_init_1 (86, (.aload_n 0, 1)) (List.mem_of_getElem? (i := 1) rfl)
theorem dX12_init_87 : decode cX12_init 87 = .ok (.sipush 400, 3) := dgX12_init_1 (87, (.sipush 400, 3)) (List.mem_of_getElem? (i := 2) rfl)
theorem dX12_init_90 : decode cX12_init 90 = .ok (.newarray .int, 2) := dgX12_init_1 (90, (.newarray .int, 2)) (List.mem_of_getElem? (i := 3) rfl)
theorem dX12_init_92 : decode cX12_init 92 = .ok (.putfield 42, 3) := dgX12_init_1 (92, (.putfield 42, 3)) (List.mem_of_getElem? (i := 4) rfl)
theorem dX12_init_95 : decode cX12_init 95 = .ok (.aload_n 0, 1) := dgX12_init_1 (95, (.aload_n 0, 1)) (List.mem_of_getElem? (i := 5) rfl)
theorem dX12_init_96 : decode cX12_init 96 = .ok (.bipush 8, 2) := dgX12_init_1 (96, (.bipush 8, 2)) (List.mem_of_getElem? (i := 6) rfl)
theorem dX12_init_98 : decode cX12_init 98 = .ok (.newarray .long, 2) := dgX12_init_1 (98, (.newarray .long, 2)) (List.mem_of_getElem? (i := 7) rfl)
theorem dX12_init_100 : decode cX12_init 100 = .ok (.dup, 1) := dgX12_init_1 (100, (.dup, 1)) (List.mem_of_getElem? (i := 8) rfl)
theorem dX12_init_101 : decode cX12_init 101 = .ok (.iconst 0, 1) := dgX12_init_1 (101, (.iconst 0, 1)) (List.mem_of_getElem? (i := 9) rfl)
theorem dX12_init_102 : decode cX12_init 102 = .ok (.ldc2_w 45, 3) := dgX12_init_1 (102, (.ldc2_w 45, 3)) (List.mem_of_getElem? (i := 10) rfl)
theorem dX12_init_105 : decode cX12_init 105 = .ok (.lastore, 1) := dgX12_init_1 (105, (.lastore, 1)) (List.mem_of_getElem? (i := 11) rfl)
theorem dX12_init_106 : decode cX12_init 106 = .ok (.dup, 1) := dgX12_init_1 (106, (.dup, 1)) (List.mem_of_getElem? (i := 12) rfl)
theorem dX12_init_107 : decode cX12_init 107 = .ok (.iconst 1, 1) := dgX12_init_1 (107, (.iconst 1, 1)) (List.mem_of_getElem? (i := 13) rfl)
theorem dX12_init_108 : decode cX12_init 108 = .ok (.ldc2_w 47, 3) := dgX12_init_1 (108, (.ldc2_w 47, 3)) (List.mem_of_getElem? (i := 14) rfl)
theorem dX12_init_111 : decode cX12_init 111 = .ok (.lastore, 1) := dgX12_init_1 (111, (.lastore, 1)) (List.mem_of_getElem? (i := 15) rfl)
theorem dX12_init_112 : decode cX12_init 112 = .ok (.dup, 1) := dgX12_init_1 (112, (.dup, 1)) (List.mem_of_getElem? (i := 16) rfl)
theorem dX12_init_113 : decode cX12_init 113 = .ok (.iconst 2, 1) := dgX12_init_1 (113, (.iconst 2, 1)) (List.mem_of_getElem? (i := 17) rfl)
theorem dX12_init_114 : decode cX12_init 114 = .ok (.ldc2_w 49, 3) := dgX12_init_1 (114, (.ldc2_w 49, 3)) (List.mem_of_getElem? (i := 18) rfl)
theorem dX12_init_117 : decode cX12_init 117 = .ok (.lastore, 1) := dgX12_init_1 (117, (.lastore, 1)) (List.mem_of_getElem? (i := 19) rfl)
theorem dX12_init_118 : decode cX12_init 118 = .ok (.dup, 1) := dgX12_init_1 (118, (.dup, 1)) (List.mem_of_getElem? (i := 20) rfl)
theorem dX12_init_119 : decode cX12_init 119 = .ok (.iconst 3, 1) := dgX12_init_1 (119, (.iconst 3, 1)) (List.mem_of_getElem? (i := 21) rfl)
theorem dX12_init_120 : decode cX12_init 120 = .ok (.ldc2_w 51, 3) := dgX12_init_1 (120, (.ldc2_w 51, 3)) (List.mem_of_getElem? (i := 22) rfl)
theorem dX12_init_123 : decode cX12_init 123 = .ok (.lastore, 1) := dgX12_init_1 (123, (.lastore, 1)) (List.mem_of_getElem? (i := 23) rfl)
theorem dX12_init_124 : decode cX12_init 124 = .ok (.dup, 1) := dgX12_init_1 (124, (.dup, 1)) (List.mem_of_getElem? (i := 24) rfl)
theorem dX12_init_125 : decode cX12_init 125 = .ok (.iconst 4, 1) := dgX12_init_1 (125, (.iconst 4, 1)) (List.mem_of_getElem? (i := 25) rfl)
theorem dX12_init_126 : decode cX12_init 126 = .ok (.ldc2_w 53, 3) := dgX12_init_1 (126, (.ldc2_w 53, 3)) (List.mem_of_getElem? (i := 26) rfl)
theorem dX12_init_129 : decode cX12_init 129 = .ok (.lastore, 1) := dgX12_init_1 (129, (.lastore, 1)) (List.mem_of_getElem? (i := 27) rfl)
theorem dX12_init_130 : decode cX12_init 130 = .ok (.dup, 1) := dgX12_init_1 (130, (.dup, 1)) (List.mem_of_getElem? (i := 28) rfl)
theorem dX12_init_131 : decode cX12_init 131 = .ok (.iconst 5, 1) := dgX12_init_1 (131, (.iconst 5, 1)) (List.mem_of_getElem? (i := 29) rfl)
theorem dX12_init_132 : decode cX12_init 132 = .ok (.ldc2_w 55, 3) := dgX12_init_1 (132, (.ldc2_w 55, 3)) (List.mem_of_getElem? (i := 30) rfl)
theorem dX12_init_135 : decode cX12_init 135 = .ok (.lastore, 1) := dgX12_init_1 (135, (.lastore, 1)) (List.mem_of_getElem? (i := 31) rfl)
theorem dX12_init_136 : decode cX12_init 136 = .ok (.dup, 1) := dgX12_init_1 (136, (.dup, 1)) (List.mem_of_getElem? (i := 32) rfl)
theorem dX12_init_137 : decode cX12_init 137 = .ok (.bipush 6, 2) := dgX12_init_1 (137, (.bipush 6, 2)) (List.mem_of_getElem? (i := 33) rfl)
theorem dX12_init_139 : decode cX12_init 139 = .ok (.ldc2_w 57, 3) := dgX12_init_1 (139, (.ldc2_w 57, 3)) (List.mem_of_getElem? (i := 34) rfl)
theorem dX12_init_142 : decode cX12_init 142 = .ok (.lastore, 1) := dgX12_init_1 (142, (.lastore, 1)) (List.mem_of_getElem? (i := 35) rfl)
theorem dX12_init_143 : decode cX12_init 143 = .ok (.dup, 1) := dgX12_init_1 (143, (.dup, 1)) (List.mem_of_getElem? (i := 36) rfl)
theorem dX12_init_144 : decode cX12_init 144 = .ok (.bipush 7, 2) := dgX12_init_1 (144, (.bipush 7, 2)) (List.mem_of_getElem? (i := 37) rfl)
theorem dX12_init_146 : decode cX12_init 146 = .ok (.ldc2_w 59, 3) := dgX12_init_1 (146, (.ldc2_w 59, 3)) (List.mem_of_getElem? (i := 38) rfl)
theorem dX12_init_149 : decode cX12_init 149 = .ok (.lastore, 1) := dgX12_init_1 (149, (.lastore, 1)) (List.mem_of_getElem? (i := 39) rfl)
theorem dgX12_init_2 : ∀ r ∈ ([(150, (.putfield 61, 3)), (153, (.aload_n 0, 1)), (154, (.iconst 4, 1)), (155, (.newarray .long, 2)), (157, (.dup, 1)), (158, (.iconst 0, 1)), (159, (.ldc2_w 65, 3)), (162, (.lastore, 1)), (163, (.dup, 1)), (164, (.iconst 1, 1)), (165, (.ldc2_w 67, 3)), (168, (.lastore, 1)), (169, (.dup, 1)), (170, (.iconst 2, 1)), (171, (.ldc2_w 69, 3)), (174, (.lastore, 1)), (175, (.dup, 1)), (176, (.iconst 3, 1)), (177, (.ldc2_w 71, 3)), (180, (.lastore, 1)), (181, (.putfield 73, 3)), (184, (.aload_n 0, 1)), (185, (.bipush 13, 2)), (187, (.newarray .long, 2)), (189, (.putfield 76, 3)), (192, (.aload_n 0, 1)), (193, (.sipush 400, 3)), (196, (.newarray .long, 2)), (198, (.putfield 79, 3)), (201, (.aload_n 0, 1)), (202, (.sipush 200, 3)), (205, (.newarray .int, 2)), (207, (.putfield 82, 3)), (210, (.aload_n 0, 1)), (211, (.sipush 1536, 3)), (214, (.newarray .boolean, 2)), (216, (.putfield 85, 3)), (219, (.aload_n 0, 1)), (220, (.ldc 88, 2)), (222, (.newarray .long, 2))] : List (Nat × (Instr × Nat))), decode cX12_init r.1 = .ok r.2 := by decide +kernel
theorem dX12_init_150 : decode cX12_init 150 = .ok (.putfield 61, 3) := dgX12_init_2 (150, (.putfield 61, 3)) (List.mem_of_getElem? (i := 0) rfl)
theorem dX12_init_153 : decode cX12_init 153 = .ok (.aload_n 0, 1) := dgX12_init_2 (153, (.aload_n 0, 1)) (List.mem_of_getElem? (i := 1) rfl)
theorem dX12_init_154 : decode cX12_init 154 = .ok (.iconst 4, 1) := dgX12_init_2 (154, (.iconst 4, 1)) (List.mem_of_getElem? (i := 2) rfl)
theorem dX12_init_155 : decode cX12_init 155 = .ok (.newarray .long, 2) := dgX12_init_2 (155, (.newarray .long, 2)) (List.mem_of_getElem? (i := 3) rfl)
theorem dX12_init_157 : decode cX12_init 157 = .ok (.dup, 1) := dgX12_init_2 (157, (.dup, 1)) (List.mem_of_getElem? (i := 4) rfl)
theorem dX12_init_158 : decode cX12_init 158 = .ok (.iconst 0, 1) := dgX12_init_2 (158, (.iconst 0, 1)) (List.mem_of_getElem? (i := 5) rfl)
theorem dX12_init_159 : decode cX12_init 159 = .ok (.ldc2_w 65, 3) := dgX12_init_2 (159, (.ldc2_w 65, 3)) (List.mem_of_getElem? (i := 6) rfl)
theorem dX12_init_162 : decode cX12_init 162 = .ok (.lastore, 1) := dgX12_init_2 (162, (.lastore, 1)) (List.mem_of_getElem? (i := 7) rfl)
theorem dX12_init_163 : decode cX12_init 163 = .ok (.dup, 1) := dgX12_init_2 (163, (.dup, 1)) (List.mem_of_getElem? (i := 8) rfl)
theorem dX12_init_164 : decode cX12_init 164 = .ok (.iconst 1, 1) := dgX12_init_2 (164, (.iconst 1, 1)) (List.mem_of_getElem? (i := 9) rfl)
theorem dX12_init_165 : decode cX12_init 165 = .ok (.ldc2_w 67, 3) := dgX12_init_2 (165, (.ldc2_w 67, 3)) (List.mem_of_getElem? (i := 10) rfl)
theorem dX12_init_168 : decode cX12_init 168 = .ok (.lastore, 1) := dgX12_init_2 (168, (.lastore, 1)) (List.mem_of_getElem? (i := 11) rfl)
theorem dX12_init_169 : decode cX12_init 169 = .ok (.dup, 1) := dgX12_init_2 (169, (.dup, 1)) (List.mem_of_getElem? (i := 12) rfl)
theorem dX12_init_170 : decode cX12_init 170 = .ok (.iconst 2, 1) := dgX12_init_2 (170, (.iconst 2, 1)) (List.mem_of_getElem? (i := 13) rfl)
theorem dX12_init_171 : decode cX12_init 171 = .ok (.ldc2_w 69, 3) := dgX12_init_2 (171, (.ldc2_w 69, 3)) (List.mem_of_getElem? (i := 14) rfl)
theorem dX12_init_174 : decode cX12_init 174 = .ok (.lastore, 1) := dgX12_init_2 (174, (.lastore, 1)) (List.mem_of_getElem? (i := 15) rfl)
theorem dX12_init_175 : decode cX12_init 175 = .ok (.dup, 1) := dgX12_init_2 (175, (.dup, 1)) (List.mem_of_getElem? (i := 16) rfl)
theorem dX12_init_176 : decode cX12_init 176 = .ok (.iconst 3, 1) := dgX12_init_2 (176, (.iconst 3, 1)) (List.mem_of_getElem? (i := 17) rfl)
theorem dX12_init_177 : decode cX12_init 177 = .ok (.ldc2_w 71, 3) := dgX12_init_2 (177, (.ldc2_w 71, 3)) (List.mem_of_getElem? (i := 18) rfl)
theorem dX12_init_180 : decode cX12_init 180 = .ok (.lastore, 1) := dgX12_init_2 (180, (.lastore, 1)) (List.mem_of_getElem? (i := 19) rfl)
theorem dX12_init_181 : decode cX12_init 181 = .ok (.putfield 73, 3) := dgX12_init_2 (181, (.putfield 73, 3)) (List.mem_of_getElem? (i := 20) rfl)
theorem dX12_init_184 : decode cX12_init 184 = .ok (.aload_n 0, 1) := dgX12_init_2 (184, (.aload_n 0, 1)) (List.mem_of_getElem? (i := 21) rfl)
theorem dX12_init_185 : decode cX12_init 185 = .ok (.bipush 13, 2) := dgX12_init_2 (185, (.bipush 13, 2)) (List.mem_of_getElem? (i := 22) rfl)
theorem dX12_init_187 : decode cX12_init 187 = .ok (.newarray .long, 2) := dgX12_init_2 (187, (.newarray .long, 2)) (List.mem_of_getElem? (i := 23) rfl)
theorem dX12_init_189 : decode cX12_init 189 = .ok (.putfield 76, 3) := dgX12_init_2 (189, (.putfield 76, 3)) (List.mem_of_getElem? (i := 24) rfl)
theorem dX12_init_192 : decode cX12_init 192 = .ok (.aload_n 0, 1) := dgX12_init_2 (192, (.aload_n 0, 1)) (List.mem_of_getElem? (i := 25) rfl)
theorem dX12_init_193 : decode cX12_init 193 = .ok (.sipush 400, 3) := dgX12_init_2 (193, (.sipush 400, 3)) (List.mem_of_getElem? (i := 26) rfl)
theorem dX12_init_196 : decode cX12_init 196 = .ok (.newarray .long, 2) := dgX12_init_2 (196, (.newarray .long, 2)) (List.mem_of_getElem? (i := 27) rfl)
theorem dX12_init_198 : decode cX12_init 198 = .ok (.putfield 79, 3) := dgX12_init_2 (198, (.putfield 79, 3)) (List.mem_of_getElem? (i := 28) rfl)
theorem dX12_init_201 : decode cX12_init 201 = .ok (.aload_n 0, 1) := dgX12_init_2 (201, (.aload_n 0, 1)) (List.mem_of_getElem? (i := 29) rfl)
theorem dX12_init_202 : decode cX12_init 202 = .ok (.sipush 200, 3) := dgX12_init_2 (202, (.sipush 200, 3)) (List.mem_of_getElem? (i := 30) rfl)
theorem dX12_init_205 : decode cX12_init 205 = .ok (.newarray .int, 2) := dgX12_init_2 (205, (.newarray .int, 2)) (List.mem_of_getElem? (i := 31) rfl)
theorem dX12_init_207 : decode cX12_init 207 = .ok (.putfield 82, 3) := dgX12_init_2 (207, (.putfield 82, 3)) (List.mem_of_getElem? (i := 32) rfl)
theorem dX12_init_210 : decode cX12_init 210 = .ok (.aload_n 0, 1) := dgX12_init_2 (210, (.aload_n 0, 1)) (List.mem_of_getElem? (i := 33) rfl)
theorem dX12_init_211 : decode cX12_init 211 = .ok (.sipush 1536, 3) := dgX12_init_2 (211, (.sipush 1536, 3)) (List.mem_of_getElem? (i := 34) rfl)
theorem dX12_init_214 : decode cX12_init 214 = .ok (.newarray .boolean, 2) := dgX12_init_2 (214, (.newarray .boolean, 2)) (List.mem_of_getElem? (i := 35) rfl)
theorem dX12_init_216 : decode cX12_init 216 = .ok (.putfield 85, 3) := dgX12_init_2 (216, (.putfield 85, 3)) (List.mem_of_getElem? (i := 36) rfl)
theorem dX12_init_219 : decode cX12_init 219 = .ok (.aload_n 0, 1) := dgX12_init_2 (219, (.aload_n 0, 1)) (List.mem_of_getElem? (i := 37) rfl)
theorem dX12_init_220 : decode cX12_init 220 = .ok (.ldc 88, 2) := dgX12_init_2 (220, (.ldc 88, 2)) (List.mem_of_getElem? (i := 38) rfl)
theorem dX12_init_222 : decode cX12_init 222 = .ok (.newarray .long, 2) := dgX12_init_2 (222, (.newarray .long, 2)) (List.mem_of_getElem? (i := 39) rfl)
theorem dgX12_init_3 : ∀ r ∈ ([(224, (.putfield 89, 3)), (227, (.aload_n 0, 1)), (228, (.ldc 88, 2)), (230, (.newarray .long, 2)), (232, (.putfield 92, 3)), (235, (.aload_n 0, 1)), (236, (.sipush 1536, 3)), (239, (.newarray .int, 2)), (241, (.putfield 95, 3)), (244, (.aload_n 0, 1)), (245, (.sipush 1536, 3)), (248, (.newarray .boolean, 2)), (250, (.putfield 98, 3)), (253, (.aload_n 0, 1)), (254, (.sipush 1536, 3)), (257, (.newarray .boolean, 2)), (259, (.putfield 101, 3)), (262, (.aload_n 0, 1)), (263, (.bipush 24, 2)), (265, (.newarray .int, 2)), (267, (.putfield 104, 3)), (270, (.aload_n 0, 1)), (271, (.getfield 13, 3)), (274, (.iconst 3, 1)), (275, (.iconst (-1), 1)), (276, (.iastore, 1)), (277, (.aload_n 0, 1)), (278, (.getfield 13, 3)), (281, (.iconst 4, 1)), (282, (.sipush 1000, 3)), (285, (.iastore, 1)), (286, (.aload_n 0, 1)), (287, (.getfield 13, 3)), (290, (.bipush 6, 2)), (292, (.iconst (-1), 1)), (293, (.iastore, 1)), (294, (.return_, 1))] : List (Nat × (Instr × Nat))), decode cX12_init r.1 = .ok r.2 := by decide +kernel
theorem dX12_init_224 : decode cX12_init 224 = .ok (.putfield 89, 3) := dgX12_init_3 (224, (.putfield 89, 3)) (List.mem_of_getElem? (i := 0) rfl)
theorem dX12_init_227 : decode cX12_init 227 = .ok (.aload_n 0, 1) := dgX12_init_3 (227, (.aload_n 0, 1)) (List.mem_of_getElem? (i := 1) rfl)
theorem dX12_init_228 : decode cX12_init 228 = .ok (.ldc 88, 2) := dgX12_init_3 (228, (.ldc 88, 2)) (List.mem_of_getElem? (i := 2) rfl)
theorem dX12_init_230 : decode cX12_init 230 = .ok (.newarray .long, 2) := dgX12_init_3 (230, (.newarray .long, 2)) (List.mem_of_getElem? (i := 3) rfl)
theorem dX12_init_232 : decode cX12_init 232 = .ok (.putfield 92, 3) := dgX12_init_3 (232, (.putfield 92, 3)) (List.mem_of_getElem? (i := 4) rfl)
theorem dX12_init_235 : decode cX12_init 235 = .ok (.aload_n 0, 1) := dgX12_init_3 (235, (.aload_n 0, 1)) (List.mem_of_getElem? (i := 5) rfl)
theorem dX12_init_236 : decode cX12_init 236 = .ok (.sipush 1536, 3) := dgX12_init_3 (236, (.sipush 1536, 3)) (List.mem_of_getElem? (i := 6) rfl)
theorem dX12_init_239 : decode cX12_init 239 = .ok (.newarray .int, 2) := dgX12_init_3 (239, (.newarray .int, 2)) (List.mem_of_getElem? (i := 7) rfl)
theorem dX12_init_241 : decode cX12_init 241 = .ok (.putfield 95, 3) := dgX12_init_3 (241, (.putfield 95, 3)) (List.mem_of_getElem? (i := 8) rfl)
theorem dX12_init_244 : decode cX12_init 244 = .ok (.aload_n 0, 1) := dgX12_init_3 (244, (.aload_n 0, 1)) (List.mem_of_getElem? (i := 9) rfl)
theorem dX12_init_245 : decode cX12_init 245 = .ok (.sipush 1536, 3) := dgX12_init_3 (245, (.sipush 1536, 3)) (List.mem_of_getElem? (i := 10) rfl)
theorem dX12_init_248 : decode cX12_init 248 = .ok (.newarray .boolean, 2) := dgX12_init_3 (248, (.newarray .boolean, 2)) (List.mem_of_getElem? (i := 11) rfl)
theorem dX12_init_250 : decode cX12_init 250 = .ok (.putfield 98, 3) := dgX12_init_3 (250, (.putfield 98, 3)) (List.mem_of_getElem? (i := 12) rfl)
theorem dX12_init_253 : decode cX12_init 253 = .ok (.aload_n 0, 1) := dgX12_init_3 (253, (.aload_n 0, 1)) (List.mem_of_getElem? (i := 13) rfl)
theorem dX12_init_254 : decode cX12_init 254 = .ok (.sipush 1536, 3) := dgX12_init_3 (254, (.sipush 1536, 3)) (List.mem_of_getElem? (i := 14) rfl)
theorem dX12_init_257 : decode cX12_init 257 = .ok (.newarray .boolean, 2) := dgX12_init_3 (257, (.newarray .boolean, 2)) (List.mem_of_getElem? (i := 15) rfl)
theorem dX12_init_259 : decode cX12_init 259 = .ok (.putfield 101, 3) := dgX12_init_3 (259, (.putfield 101, 3)) (List.mem_of_getElem? (i := 16) rfl)
theorem dX12_init_262 : decode cX12_init 262 = .ok (.aload_n 0, 1) := dgX12_init_3 (262, (.aload_n 0, 1)) (List.mem_of_getElem? (i := 17) rfl)
theorem dX12_init_263 : decode cX12_init 263 = .ok (.bipush 24, 2) := dgX12_init_3 (263, (.bipush 24, 2)) (List.mem_of_getElem? (i := 18) rfl)
theorem dX12_init_265 : decode cX12_init 265 = .ok (.newarray .int, 2) := dgX12_init_3 (265, (.newarray .int, 2)) (List.mem_of_getElem? (i := 19) rfl)
theorem dX12_init_267 : decode cX12_init 267 = .ok (.putfield 104, 3) := dgX12_init_3 (267, (.putfield 104, 3)) (List.mem_of_getElem? (i := 20) rfl)
theorem dX12_init_270 : decode cX12_init 270 = .ok (.aload_n 0, 1) := dgX12_init_3 (270, (.aload_n 0, 1)) (List.mem_of_getElem? (i := 21) rfl)
theorem dX12_init_271 : decode cX12_init 271 = .ok (.getfield 13, 3) := dgX12_init_3 (271, (.getfield 13, 3)) (List.mem_of_getElem? (i := 22) rfl)
theorem dX12_init_274 : decode cX12_init 274 = .ok (.iconst 3, 1) := dgX12_init_3 (274, (.iconst 3, 1)) (List.mem_of_getElem? (i := 23) rfl)
theorem dX12_init_275 : decode cX12_init 275 = .ok (.iconst (-1), 1) := dgX12_init_3 (275, (.iconst (-1), 1)) (List.mem_of_getElem? (i := 24) rfl)
theorem dX12_init_276 : decode cX12_init 276 = .ok (.iastore, 1) := dgX12_init_3 (276, (.iastore, 1)) (List.mem_of_getElem? (i := 25) rfl)
theorem dX12_init_277 : decode cX12_init 277 = .ok (.aload_n 0, 1) := dgX12_init_3 (277, (.aload_n 0, 1)) (List.mem_of_getElem? (i := 26) rfl)
theorem dX12_init_278 : decode cX12_init 278 = .ok (.getfield 13, 3) := dgX12_init_3 (278, (.getfield 13, 3)) (List.mem_of_getElem? (i := 27) rfl)
theorem dX12_init_281 : decode cX12_init 281 = .ok (.iconst 4, 1) := dgX12_init_3 (281, (.iconst 4, 1)) (List.mem_of_getElem? (i := 28) rfl)
theorem dX12_init_282 : decode cX12_init 282 = .ok (.sipush 1000, 3) := dgX12_init_3 (282, (.sipush 1000, 3)) (List.mem_of_getElem? (i := 29) rfl)
theorem dX12_init_285 : decode cX12_init 285 = .ok (.iastore, 1) := dgX12_init_3 (285, (.iastore, 1)) (List.mem_of_getElem? (i := 30) rfl)
theorem dX12_init_286 : decode cX12_init 286 = .ok (.aload_n 0, 1) := dgX12_init_3 (286, (.aload_n 0, 1)) (List.mem_of_getElem? (i := 31) rfl)
theorem dX12_init_287 : decode cX12_init 287 = .ok (.getfield 13, 3) := dgX12_init_3 (287, (.getfield 13, 3)) (List.mem_of_getElem? (i := 32) rfl)
theorem dX12_init_290 : decode cX12_init 290 = .ok (.bipush 6, 2) := dgX12_init_3 (290, (.bipush 6, 2)) (List.mem_of_getElem? (i := 33) rfl)
theorem dX12_init_292 : decode cX12_init 292 = .ok (.iconst (-1), 1) := dgX12_init_3 (292, (.iconst (-1), 1)) (List.mem_of_getElem? (i := 34) rfl)
theorem dX12_init_293 : decode cX12_init 293 = .ok (.iastore, 1) := dgX12_init_3 (293, (.iastore, 1)) (List.mem_of_getElem? (i := 35) rfl)
theorem dX12_init_294 : decode cX12_init 294 = .ok (.return_, 1) := dgX12_init_3 (294, (.return_, 1)) (List.mem_of_getElem? (i := 36) rfl)
