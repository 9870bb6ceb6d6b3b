set_option maxHeartbeats 4000000 in
set_option maxRecDepth 100000 in
theorem sm_core {p : Program} {l : Launch} {e : Env} {s : State} {m : MethodId} {below : List Frame} {meth : Method} {c : Code} {b Ls : Nat} {xs : Nat → Int32} {G : g5_G} {A : Nat → Prop} {Q : State → Prop} {H : Heap} {locs : List Loc} {ls : Array Slot} {cells slots : Nat} {w pl : va_W} {b_o : Nat} {v_ro : Nat → Int32} {v_im : Nat → Int32} {v_ke : Nat → Int32} {v_tp : Nat → Int32} {u_td : Int32} {u_fd : Int32} {v_wn : Nat → Int32} {u_id : Int32} (C : lwC p s m meth c b Ls xs G) (hA : ∀ q : Nat, s.heap.size ≤ q → A q) (hT : g5_S A s s.heap) (hS : va_S A s.heap H locs) (hsz : ls.size = 4) (hrm : cells + 4 ≤ 600000 ∧ slots + 429 ≤ 7302250) (hI : MW G b_o v_ro v_im v_ke v_tp u_td u_fd v_wn u_id w) (hP : va_P G.1 vwCl (w ++ pl) H) (hD : va_D A (w ++ pl)) (kk : ∀ (r : Int32) (w2 : va_W), MW G b_o v_ro v_im v_ke v_tp u_td u_fd v_wn u_id w2 → ∀ {H : Heap} {locs : List Loc}, va_P G.1 vwCl (w2 ++ pl) H → va_D A (w2 ++ pl) → va_S A s.heap H locs → W p l e room_1 s m #[Value.ref b] below meth c H locs cells slots Q (F0 m 1127 ls [.int r])) : W p l e room_1 s m #[Value.ref b] below meth c H locs cells slots Q (F0 m 1124 ls [.ref b_o]) := by
  obtain ⟨⟨hx, hb, hr, hml, hown, hts0, hX, hbl, hlocks, hgv⟩, hK, hN⟩ := C
  have hown : s.vm.findClass RL = some m.cls := hown
  have hts : ∀ w ∈ tblG, w.before #[Value.ref b] s = true := fun w h => hts0 w (List.mem_filter.mp h).1
  refine mw_elim hI (fun b_rf b_ro b_im b_ke b_tp b_nl b_op b_ar b_pi b_pa b_ws b_hw b_se b_re b_pt b_ip b_ah b_be b_me b_tr b_ld b_wn u_th u_sa u_fr u_to u_so u_wo u_fa u_bd u_nc u_co u_le u_pd u_od u_la u_bk u_va u_su u_ce u_ho u_wy u_bt u_ps u_tg u_sn u_ic u_wd u_st v_rf v_nl v_op v_ar v_pi v_pa v_ws v_hw v_se v_re v_pt v_ip v_ah v_be v_me v_tr v_ld hw9 h0 h1 h2 h3 h4 h5 h6 h7 h8 h9 h10 h11 h12 h13 h14 h15 h16 h17 h18 h19 h20 h21 h22 => ?_)
  subst hw9
  have hPX := hP.fst
  have hDX := hD.fst
  obtain ⟨hPc, hDc, hFc⟩ := g5_sub3 (wc := [(b_o, (oc12 u_th u_sa b_rf b_ro b_im b_ke u_fd b_tp u_td u_fr u_to u_so u_wo u_fa u_bd u_nc b_nl u_co b_op b_ar u_le b_pi b_pa u_pd u_od b_ws b_hw u_la b_se b_re u_bk u_va u_su u_ce u_ho u_wy u_bt u_ps b_pt u_tg u_sn b_ip u_ic b_ah b_be b_me u_wd b_tr b_ld u_st b_wn u_id)), (b_ro, (arI G 5740 v_ro)), (b_se, (arJ G 13 v_se)), (b_re, (arJ G 400 v_re)), (b_pt, (arI G 200 v_pt)), (b_ah, (arJ G 49152 v_ah)), (b_be, (arJ G 49152 v_be)), (b_me, (arI G 1536 v_me))]) hPX hDX hS hA [0, 2, 11, 12, 13, 15, 16, 17] (by decide) rfl
  refine va_calli (va_runV (As := []) (rest := []) ⟨hx, hb, hml, hown, hts⟩ (n_coreP l G b_o b_ro b_se b_re b_pt b_ah b_be b_me b_rf b_im b_ke b_tp b_nl b_op b_ar b_pi b_pa b_ws b_hw b_ip b_tr b_ld b_wn H.size u_th u_sa u_fd u_td u_fr u_to u_so u_fa u_bd u_nc u_co u_le u_pd u_od u_la u_bk u_ce u_ho u_wy u_bt u_ps u_tg u_sn u_ic u_wd u_id u_wo u_va u_su u_st v_ro v_se v_re v_pt v_ah v_be v_me h0 h1 h2 h3 h4 h5 h6 h7 h8 h9 h10 h11 h12 h13 h14 h15 h16 h18 h19 h22) (cwV 0 hts gV_L_136 rfl rfl rfl hv_X12_core ⟨Nat.le_of_ble_eq_true rfl, Nat.le_of_ble_eq_true rfl⟩) (g5_preV hPc hK hDc hN hT hS hFc (ci := 12) (q0 := 0) rfl rfl) rfl rfl hsz rfl (lv_room (Nat.le_of_ble_eq_true rfl)) dL_law_1124 (show cells + 0 ≤ 600000 ∧ slots + 0 ≤ 7302250 from ⟨by omega, by omega⟩)) hS (fun q _ h => hFc q h) hFc (fun r u t H1 locs ht hvm hw hB hz1 hk1 hS => ?_)
  obtain ⟨hP1, hD1⟩ := hB
  rw [ht] at hP1
  obtain ⟨y0_o_r, y0_o_th, y0_o_la, y0_o_bk, y0_o_va, y0_o_su, y0_o_ce, y0_o_ho, y0_o_wy, y0_o_bt, y0_o_ps, y0_o_tg, y0_o_sn, y0_o_ic, y0_o_wd, y0_o_se, y0_o_re, y0_o_pt, y0_o_ah, y0_o_be, y0_o_me, j0_0, j0_1, j0_2, j0_3, j0_4, j0_5, j0_6, j0_7, j0_8, j0_9, j0_10, hret, rfl⟩ := hw
  obtain ⟨hP, hD⟩ := va_joinQ (X := [(b_o, (oc12 u_th u_sa b_rf b_ro b_im b_ke u_fd b_tp u_td u_fr u_to u_so u_wo u_fa u_bd u_nc b_nl u_co b_op b_ar u_le b_pi b_pa u_pd u_od b_ws b_hw u_la b_se b_re u_bk u_va u_su u_ce u_ho u_wy u_bt u_ps b_pt u_tg u_sn b_ip u_ic b_ah b_be b_me u_wd b_tr b_ld u_st b_wn u_id)), (b_rf, (arI G 7 v_rf)), (b_ro, (arI G 5740 v_ro)), (b_tp, (arI G 400 v_tp)), (b_nl, (arI G 96 v_nl)), (b_op, (arI G 400 v_op)), (b_ar, (arI G 400 v_ar)), (b_pi, (arI G 400 v_pi)), (b_pa, (arI G 400 v_pa)), (b_ws, (arJ G 8 v_ws)), (b_hw, (arJ G 4 v_hw)), (b_se, (arJ G 13 v_se)), (b_re, (arJ G 400 v_re)), (b_pt, (arI G 200 v_pt)), (b_ip, (arZ G 1536 v_ip)), (b_ah, (arJ G 49152 v_ah)), (b_be, (arJ G 49152 v_be)), (b_me, (arI G 1536 v_me)), (b_tr, (arZ G 1536 v_tr)), (b_ld, (arZ G 1536 v_ld)), (b_wn, (arI G 24 v_wn)), (b_im, (arI G 11480 v_im)), (b_ke, (arZ G 2 v_ke))]) (wr := [(b_rf, (arI G 7 v_rf)), (b_tp, (arI G 400 v_tp)), (b_nl, (arI G 96 v_nl)), (b_op, (arI G 400 v_op)), (b_ar, (arI G 400 v_ar)), (b_pi, (arI G 400 v_pi)), (b_pa, (arI G 400 v_pa)), (b_ws, (arJ G 8 v_ws)), (b_hw, (arJ G 4 v_hw)), (b_ip, (arZ G 1536 v_ip)), (b_tr, (arZ G 1536 v_tr)), (b_ld, (arZ G 1536 v_ld)), (b_wn, (arI G 24 v_wn)), (b_im, (arI G 11480 v_im)), (b_ke, (arZ G 2 v_ke))]) (w1 := [(b_o, (oc12 y0_o_th u_sa b_rf b_ro b_im b_ke u_fd b_tp u_td u_fr u_to u_so u_wo u_fa u_bd u_nc b_nl u_co b_op b_ar u_le b_pi b_pa u_pd u_od b_ws b_hw y0_o_la b_se b_re y0_o_bk y0_o_va y0_o_su y0_o_ce y0_o_ho y0_o_wy y0_o_bt y0_o_ps b_pt y0_o_tg y0_o_sn b_ip y0_o_ic b_ah b_be b_me y0_o_wd b_tr b_ld u_st b_wn u_id)), (b_ro, (arI G 5740 v_ro)), (b_se, (arJ G 13 y0_o_se)), (b_re, (arJ G 400 y0_o_re)), (b_pt, (arI G 200 y0_o_pt)), (b_ah, (arJ G 49152 y0_o_ah)), (b_be, (arJ G 49152 y0_o_be)), (b_me, (arI G 1536 y0_o_me))]) hP hD [0, 2, 11, 12, 13, 15, 16, 17] [1, 3, 4, 5, 6, 7, 8, 9, 10, 14, 18, 19, 20, 21, 22] rfl rfl (by decide +kernel) (by decide +kernel) hk1 hFc hP1 hD1
  have hP := va_P.part (cx := [(b_o, (oc12 y0_o_th u_sa b_rf b_ro b_im b_ke u_fd b_tp u_td u_fr u_to u_so u_wo u_fa u_bd u_nc b_nl u_co b_op b_ar u_le b_pi b_pa u_pd u_od b_ws b_hw y0_o_la b_se b_re y0_o_bk y0_o_va y0_o_su y0_o_ce y0_o_ho y0_o_wy y0_o_bt y0_o_ps b_pt y0_o_tg y0_o_sn b_ip y0_o_ic b_ah b_be b_me y0_o_wd b_tr b_ld u_st b_wn u_id)), (b_rf, (arI G 7 v_rf)), (b_ro, (arI G 5740 v_ro)), (b_tp, (arI G 400 v_tp)), (b_nl, (arI G 96 v_nl)), (b_op, (arI G 400 v_op)), (b_ar, (arI G 400 v_ar)), (b_pi, (arI G 400 v_pi)), (b_pa, (arI G 400 v_pa)), (b_ws, (arJ G 8 v_ws)), (b_hw, (arJ G 4 v_hw)), (b_se, (arJ G 13 y0_o_se)), (b_re, (arJ G 400 y0_o_re)), (b_pt, (arI G 200 y0_o_pt)), (b_ip, (arZ G 1536 v_ip)), (b_ah, (arJ G 49152 y0_o_ah)), (b_be, (arJ G 49152 y0_o_be)), (b_me, (arI G 1536 y0_o_me)), (b_tr, (arZ G 1536 v_tr)), (b_ld, (arZ G 1536 v_ld)), (b_wn, (arI G 24 v_wn)), (b_im, (arI G 11480 v_im)), (b_ke, (arZ G 2 v_ke))]) hP [15, 0, 16, 1, 2, 3, 4, 5, 6, 7, 8, 17, 18, 19, 9, 20, 21, 22, 10, 11, 12, 13, 14] rfl
  have hD := va_D.part (cx := [(b_o, (oc12 y0_o_th u_sa b_rf b_ro b_im b_ke u_fd b_tp u_td u_fr u_to u_so u_wo u_fa u_bd u_nc b_nl u_co b_op b_ar u_le b_pi b_pa u_pd u_od b_ws b_hw y0_o_la b_se b_re y0_o_bk y0_o_va y0_o_su y0_o_ce y0_o_ho y0_o_wy y0_o_bt y0_o_ps b_pt y0_o_tg y0_o_sn b_ip y0_o_ic b_ah b_be b_me y0_o_wd b_tr b_ld u_st b_wn u_id)), (b_rf, (arI G 7 v_rf)), (b_ro, (arI G 5740 v_ro)), (b_tp, (arI G 400 v_tp)), (b_nl, (arI G 96 v_nl)), (b_op, (arI G 400 v_op)), (b_ar, (arI G 400 v_ar)), (b_pi, (arI G 400 v_pi)), (b_pa, (arI G 400 v_pa)), (b_ws, (arJ G 8 v_ws)), (b_hw, (arJ G 4 v_hw)), (b_se, (arJ G 13 y0_o_se)), (b_re, (arJ G 400 y0_o_re)), (b_pt, (arI G 200 y0_o_pt)), (b_ip, (arZ G 1536 v_ip)), (b_ah, (arJ G 49152 y0_o_ah)), (b_be, (arJ G 49152 y0_o_be)), (b_me, (arI G 1536 y0_o_me)), (b_tr, (arZ G 1536 v_tr)), (b_ld, (arZ G 1536 v_ld)), (b_wn, (arI G 24 v_wn)), (b_im, (arI G 11480 v_im)), (b_ke, (arZ G 2 v_ke))]) hD [15, 0, 16, 1, 2, 3, 4, 5, 6, 7, 8, 17, 18, 19, 9, 20, 21, 22, 10, 11, 12, 13, 14] (by decide) rfl
  exact kk r [(b_o, (oc12 y0_o_th u_sa b_rf b_ro b_im b_ke u_fd b_tp u_td u_fr u_to u_so u_wo u_fa u_bd u_nc b_nl u_co b_op b_ar u_le b_pi b_pa u_pd u_od b_ws b_hw y0_o_la b_se b_re y0_o_bk y0_o_va y0_o_su y0_o_ce y0_o_ho y0_o_wy y0_o_bt y0_o_ps b_pt y0_o_tg y0_o_sn b_ip y0_o_ic b_ah b_be b_me y0_o_wd b_tr b_ld u_st b_wn u_id)), (b_rf, (arI G 7 v_rf)), (b_ro, (arI G 5740 v_ro)), (b_tp, (arI G 400 v_tp)), (b_nl, (arI G 96 v_nl)), (b_op, (arI G 400 v_op)), (b_ar, (arI G 400 v_ar)), (b_pi, (arI G 400 v_pi)), (b_pa, (arI G 400 v_pa)), (b_ws, (arJ G 8 v_ws)), (b_hw, (arJ G 4 v_hw)), (b_se, (arJ G 13 y0_o_se)), (b_re, (arJ G 400 y0_o_re)), (b_pt, (arI G 200 y0_o_pt)), (b_ip, (arZ G 1536 v_ip)), (b_ah, (arJ G 49152 y0_o_ah)), (b_be, (arJ G 49152 y0_o_be)), (b_me, (arI G 1536 y0_o_me)), (b_tr, (arZ G 1536 v_tr)), (b_ld, (arZ G 1536 v_ld)), (b_wn, (arI G 24 v_wn)), (b_im, (arI G 11480 v_im)), (b_ke, (arZ G 2 v_ke))] (mw_mk b_rf b_ro b_im b_ke b_tp b_nl b_op b_ar b_pi b_pa b_ws b_hw b_se b_re b_pt b_ip b_ah b_be b_me b_tr b_ld b_wn y0_o_th u_sa u_fr u_to u_so u_wo u_fa u_bd u_nc u_co u_le u_pd u_od y0_o_la y0_o_bk y0_o_va y0_o_su y0_o_ce y0_o_ho y0_o_wy y0_o_bt y0_o_ps y0_o_tg y0_o_sn y0_o_ic y0_o_wd u_st v_rf v_nl v_op v_ar v_pi v_pa v_ws v_hw y0_o_se y0_o_re y0_o_pt v_ip y0_o_ah y0_o_be y0_o_me v_tr v_ld (h0) (h1) (h2) (h3) (h4) (h5) (h6) (j0_0) (j0_1) (j0_2) (j0_3) (j0_4) (j0_5) (j0_6) (j0_8) (h15) (h16) (h17) (j0_7) (j0_9) (h20) (h21) (j0_10)) hP hD hS
set_option maxHeartbeats 4000000 in
set_option maxRecDepth 100000 in
theorem sm_tells {p : Program} {l : Launch} {e : Env} {s : State} {m : MethodId} {below : List Frame} {meth : Method} {c : Code} {b Ls : Nat} {xs : Nat → Int32} {G : g5_G} {A : Nat → Prop} {Q : State → Prop} {H : Heap} {locs : List Loc} {ls : Array Slot} {cells slots : Nat} {w pl : va_W} {b_o : Nat} {v_ro : Nat → Int32} {v_im : Nat → Int32} {v_ke : Nat → Int32} {v_tp : Nat → Int32} {u_td : Int32} {u_fd : Int32} {v_wn : Nat → Int32} {u_id : Int32} {p_1 p_2 p_3 : Int32} (C : lwC p s m meth c b Ls xs G) (hA : ∀ q : Nat, s.heap.size ≤ q → A q) (hT : g5_S A s s.heap) (hS : va_S A s.heap H locs) (hsz : ls.size = 4) (hrm : cells + 4 ≤ 600000 ∧ slots + 429 ≤ 7302250) (hI : MW G b_o v_ro v_im v_ke v_tp u_td u_fd v_wn u_id w) (hP : va_P G.1 vwCl (w ++ pl) H) (hD : va_D A (w ++ pl)) (kk : ∀ (r : Int64) (w2 : va_W), MW G b_o v_ro v_im v_ke v_tp u_td u_fd v_wn u_id w2 → ∀ {H : Heap} {locs : List Loc}, va_P G.1 vwCl (w2 ++ pl) H → va_D A (w2 ++ pl) → va_S A s.heap H locs → W p l e room_1 s m #[Value.ref b] below meth c H locs cells slots Q (F0 m 1170 ls [.long r])) : W p l e room_1 s m #[Value.ref b] below meth c H locs cells slots Q (F0 m 1167 ls [.int p_3, .int p_2, .int p_1, .ref b_o]) := by
  obtain ⟨⟨hx, hb, hr, hml, hown, hts0, hX, hbl, hlocks, hgv⟩, hK, hN⟩ := C
  have hown : s.vm.findClass RL = some m.cls := hown
  have hts : ∀ w ∈ tblG, w.before #[Value.ref b] s = true := fun w h => hts0 w (List.mem_filter.mp h).1
  refine mw_elim hI (fun b_rf b_ro b_im b_ke b_tp b_nl b_op b_ar b_pi b_pa b_ws b_hw b_se b_re b_pt b_ip b_ah b_be b_me b_tr b_ld b_wn u_th u_sa u_fr u_to u_so u_wo u_fa u_bd u_nc u_co u_le u_pd u_od u_la u_bk u_va u_su u_ce u_ho u_wy u_bt u_ps u_tg u_sn u_ic u_wd u_st v_rf v_nl v_op v_ar v_pi v_pa v_ws v_hw v_se v_re v_pt v_ip v_ah v_be v_me v_tr v_ld hw9 h0 h1 h2 h3 h4 h5 h6 h7 h8 h9 h10 h11 h12 h13 h14 h15 h16 h17 h18 h19 h20 h21 h22 => ?_)
  subst hw9
  have hPX := hP.fst
  have hDX := hD.fst
  obtain ⟨hPc, hDc, hFc⟩ := g5_sub3 (wc := [(b_o, (oc12 u_th u_sa b_rf b_ro b_im b_ke u_fd b_tp u_td u_fr u_to u_so u_wo u_fa u_bd u_nc b_nl u_co b_op b_ar u_le b_pi b_pa u_pd u_od b_ws b_hw u_la b_se b_re u_bk u_va u_su u_ce u_ho u_wy u_bt u_ps b_pt u_tg u_sn b_ip u_ic b_ah b_be b_me u_wd b_tr b_ld u_st b_wn u_id)), (b_ro, (arI G 5740 v_ro)), (b_se, (arJ G 13 v_se)), (b_re, (arJ G 400 v_re)), (b_pt, (arI G 200 v_pt)), (b_ah, (arJ G 49152 v_ah)), (b_be, (arJ G 49152 v_be)), (b_me, (arI G 1536 v_me))]) hPX hDX hS hA [0, 2, 11, 12, 13, 15, 16, 17] (by decide) rfl
  refine va_calll (va_runV (As := [.int p_1, .int p_2, .int p_3]) (rest := []) ⟨hx, hb, hml, hown, hts⟩ (n_tellsP l G b_o b_ro b_se b_re b_pt b_ah b_be b_me b_rf b_im b_ke b_tp b_nl b_op b_ar b_pi b_pa b_ws b_hw b_ip b_tr b_ld b_wn H.size u_th u_sa u_fd u_td u_fr u_to u_so u_fa u_bd u_nc u_co u_le u_pd u_od u_la u_bk u_ce u_ho u_wy u_bt u_ps u_tg u_sn u_ic u_wd u_id p_1 p_2 p_3 u_wo u_va u_su u_st v_ro v_se v_re v_pt v_ah v_be v_me h0 h1 h2 h3 h4 h5 h6 h7 h8 h9 h10 h11 h12 h13 h14 h15 h16 h18 h19 h22) (cwV 3 hts gV_L_141 rfl rfl rfl hv_X12_tells ⟨Nat.le_of_ble_eq_true rfl, Nat.le_of_ble_eq_true rfl⟩) (g5_preV hPc hK hDc hN hT hS hFc (ci := 12) (q0 := 0) rfl rfl) rfl rfl hsz rfl (lv_room (Nat.le_of_ble_eq_true rfl)) dL_law_1167 (show cells + 0 ≤ 600000 ∧ slots + 0 ≤ 7302250 from ⟨by omega, by omega⟩)) hS (fun q _ h => hFc q h) hFc (fun r u t H1 locs ht hvm hw hB hz1 hk1 hS => ?_)
  obtain ⟨hP1, hD1⟩ := hB
  rw [ht] at hP1
  obtain ⟨y0_o_r, y0_o_th, y0_o_la, y0_o_bk, y0_o_va, y0_o_su, y0_o_ce, y0_o_ho, y0_o_wy, y0_o_bt, y0_o_ps, y0_o_tg, y0_o_sn, y0_o_ic, y0_o_wd, y0_o_se, y0_o_re, y0_o_pt, y0_o_ah, y0_o_be, y0_o_me, j0_0, j0_1, j0_2, j0_3, j0_4, j0_5, j0_6, j0_7, j0_8, j0_9, j0_10, hret, rfl⟩ := hw
  obtain ⟨hP, hD⟩ := va_joinQ (X := [(b_o, (oc12 u_th u_sa b_rf b_ro b_im b_ke u_fd b_tp u_td u_fr u_to u_so u_wo u_fa u_bd u_nc b_nl u_co b_op b_ar u_le b_pi b_pa u_pd u_od b_ws b_hw u_la b_se b_re u_bk u_va u_su u_ce u_ho u_wy u_bt u_ps b_pt u_tg u_sn b_ip u_ic b_ah b_be b_me u_wd b_tr b_ld u_st b_wn u_id)), (b_rf, (arI G 7 v_rf)), (b_ro, (arI G 5740 v_ro)), (b_tp, (arI G 400 v_tp)), (b_nl, (arI G 96 v_nl)), (b_op, (arI G 400 v_op)), (b_ar, (arI G 400 v_ar)), (b_pi, (arI G 400 v_pi)), (b_pa, (arI G 400 v_pa)), (b_ws, (arJ G 8 v_ws)), (b_hw, (arJ G 4 v_hw)), (b_se, (arJ G 13 v_se)), (b_re, (arJ G 400 v_re)), (b_pt, (arI G 200 v_pt)), (b_ip, (arZ G 1536 v_ip)), (b_ah, (arJ G 49152 v_ah)), (b_be, (arJ G 49152 v_be)), (b_me, (arI G 1536 v_me)), (b_tr, (arZ G 1536 v_tr)), (b_ld, (arZ G 1536 v_ld)), (b_wn, (arI G 24 v_wn)), (b_im, (arI G 11480 v_im)), (b_ke, (arZ G 2 v_ke))]) (wr := [(b_rf, (arI G 7 v_rf)), (b_tp, (arI G 400 v_tp)), (b_nl, (arI G 96 v_nl)), (b_op, (arI G 400 v_op)), (b_ar, (arI G 400 v_ar)), (b_pi, (arI G 400 v_pi)), (b_pa, (arI G 400 v_pa)), (b_ws, (arJ G 8 v_ws)), (b_hw, (arJ G 4 v_hw)), (b_ip, (arZ G 1536 v_ip)), (b_tr, (arZ G 1536 v_tr)), (b_ld, (arZ G 1536 v_ld)), (b_wn, (arI G 24 v_wn)), (b_im, (arI G 11480 v_im)), (b_ke, (arZ G 2 v_ke))]) (w1 := [(b_o, (oc12 y0_o_th u_sa b_rf b_ro b_im b_ke u_fd b_tp u_td u_fr u_to u_so u_wo u_fa u_bd u_nc b_nl u_co b_op b_ar u_le b_pi b_pa u_pd u_od b_ws b_hw y0_o_la b_se b_re y0_o_bk y0_o_va y0_o_su y0_o_ce y0_o_ho y0_o_wy y0_o_bt y0_o_ps b_pt y0_o_tg y0_o_sn b_ip y0_o_ic b_ah b_be b_me y0_o_wd b_tr b_ld u_st b_wn u_id)), (b_ro, (arI G 5740 v_ro)), (b_se, (arJ G 13 y0_o_se)), (b_re, (arJ G 400 y0_o_re)), (b_pt, (arI G 200 y0_o_pt)), (b_ah, (arJ G 49152 y0_o_ah)), (b_be, (arJ G 49152 y0_o_be)), (b_me, (arI G 1536 y0_o_me))]) hP hD [0, 2, 11, 12, 13, 15, 16, 17] [1, 3, 4, 5, 6, 7, 8, 9, 10, 14, 18, 19, 20, 21, 22] rfl rfl (by decide +kernel) (by decide +kernel) hk1 hFc hP1 hD1
  have hP := va_P.part (cx := [(b_o, (oc12 y0_o_th u_sa b_rf b_ro b_im b_ke u_fd b_tp u_td u_fr u_to u_so u_wo u_fa u_bd u_nc b_nl u_co b_op b_ar u_le b_pi b_pa u_pd u_od b_ws b_hw y0_o_la b_se b_re y0_o_bk y0_o_va y0_o_su y0_o_ce y0_o_ho y0_o_wy y0_o_bt y0_o_ps b_pt y0_o_tg y0_o_sn b_ip y0_o_ic b_ah b_be b_me y0_o_wd b_tr b_ld u_st b_wn u_id)), (b_rf, (arI G 7 v_rf)), (b_ro, (arI G 5740 v_ro)), (b_tp, (arI G 400 v_tp)), (b_nl, (arI G 96 v_nl)), (b_op, (arI G 400 v_op)), (b_ar, (arI G 400 v_ar)), (b_pi, (arI G 400 v_pi)), (b_pa, (arI G 400 v_pa)), (b_ws, (arJ G 8 v_ws)), (b_hw, (arJ G 4 v_hw)), (b_se, (arJ G 13 y0_o_se)), (b_re, (arJ G 400 y0_o_re)), (b_pt, (arI G 200 y0_o_pt)), (b_ip, (arZ G 1536 v_ip)), (b_ah, (arJ G 49152 y0_o_ah)), (b_be, (arJ G 49152 y0_o_be)), (b_me, (arI G 1536 y0_o_me)), (b_tr, (arZ G 1536 v_tr)), (b_ld, (arZ G 1536 v_ld)), (b_wn, (arI G 24 v_wn)), (b_im, (arI G 11480 v_im)), (b_ke, (arZ G 2 v_ke))]) hP [15, 0, 16, 1, 2, 3, 4, 5, 6, 7, 8, 17, 18, 19, 9, 20, 21, 22, 10, 11, 12, 13, 14] rfl
  have hD := va_D.part (cx := [(b_o, (oc12 y0_o_th u_sa b_rf b_ro b_im b_ke u_fd b_tp u_td u_fr u_to u_so u_wo u_fa u_bd u_nc b_nl u_co b_op b_ar u_le b_pi b_pa u_pd u_od b_ws b_hw y0_o_la b_se b_re y0_o_bk y0_o_va y0_o_su y0_o_ce y0_o_ho y0_o_wy y0_o_bt y0_o_ps b_pt y0_o_tg y0_o_sn b_ip y0_o_ic b_ah b_be b_me y0_o_wd b_tr b_ld u_st b_wn u_id)), (b_rf, (arI G 7 v_rf)), (b_ro, (arI G 5740 v_ro)), (b_tp, (arI G 400 v_tp)), (b_nl, (arI G 96 v_nl)), (b_op, (arI G 400 v_op)), (b_ar, (arI G 400 v_ar)), (b_pi, (arI G 400 v_pi)), (b_pa, (arI G 400 v_pa)), (b_ws, (arJ G 8 v_ws)), (b_hw, (arJ G 4 v_hw)), (b_se, (arJ G 13 y0_o_se)), (b_re, (arJ G 400 y0_o_re)), (b_pt, (arI G 200 y0_o_pt)), (b_ip, (arZ G 1536 v_ip)), (b_ah, (arJ G 49152 y0_o_ah)), (b_be, (arJ G 49152 y0_o_be)), (b_me, (arI G 1536 y0_o_me)), (b_tr, (arZ G 1536 v_tr)), (b_ld, (arZ G 1536 v_ld)), (b_wn, (arI G 24 v_wn)), (b_im, (arI G 11480 v_im)), (b_ke, (arZ G 2 v_ke))]) hD [15, 0, 16, 1, 2, 3, 4, 5, 6, 7, 8, 17, 18, 19, 9, 20, 21, 22, 10, 11, 12, 13, 14] (by decide) rfl
  exact kk r [(b_o, (oc12 y0_o_th u_sa b_rf b_ro b_im b_ke u_fd b_tp u_td u_fr u_to u_so u_wo u_fa u_bd u_nc b_nl u_co b_op b_ar u_le b_pi b_pa u_pd u_od b_ws b_hw y0_o_la b_se b_re y0_o_bk y0_o_va y0_o_su y0_o_ce y0_o_ho y0_o_wy y0_o_bt y0_o_ps b_pt y0_o_tg y0_o_sn b_ip y0_o_ic b_ah b_be b_me y0_o_wd b_tr b_ld u_st b_wn u_id)), (b_rf, (arI G 7 v_rf)), (b_ro, (arI G 5740 v_ro)), (b_tp, (arI G 400 v_tp)), (b_nl, (arI G 96 v_nl)), (b_op, (arI G 400 v_op)), (b_ar, (arI G 400 v_ar)), (b_pi, (arI G 400 v_pi)), (b_pa, (arI G 400 v_pa)), (b_ws, (arJ G 8 v_ws)), (b_hw, (arJ G 4 v_hw)), (b_se, (arJ G 13 y0_o_se)), (b_re, (arJ G 400 y0_o_re)), (b_pt, (arI G 200 y0_o_pt)), (b_ip, (arZ G 1536 v_ip)), (b_ah, (arJ G 49152 y0_o_ah)), (b_be, (arJ G 49152 y0_o_be)), (b_me, (arI G 1536 y0_o_me)), (b_tr, (arZ G 1536 v_tr)), (b_ld, (arZ G 1536 v_ld)), (b_wn, (arI G 24 v_wn)), (b_im, (arI G 11480 v_im)), (b_ke, (arZ G 2 v_ke))] (mw_mk b_rf b_ro b_im b_ke b_tp b_nl b_op b_ar b_pi b_pa b_ws b_hw b_se b_re b_pt b_ip b_ah b_be b_me b_tr b_ld b_wn y0_o_th u_sa u_fr u_to u_so u_wo u_fa u_bd u_nc u_co u_le u_pd u_od y0_o_la y0_o_bk y0_o_va y0_o_su y0_o_ce y0_o_ho y0_o_wy y0_o_bt y0_o_ps y0_o_tg y0_o_sn y0_o_ic y0_o_wd u_st v_rf v_nl v_op v_ar v_pi v_pa v_ws v_hw y0_o_se y0_o_re y0_o_pt v_ip y0_o_ah y0_o_be y0_o_me v_tr v_ld (h0) (h1) (h2) (h3) (h4) (h5) (h6) (j0_0) (j0_1) (j0_2) (j0_3) (j0_4) (j0_5) (j0_6) (j0_8) (h15) (h16) (h17) (j0_7) (j0_9) (h20) (h21) (j0_10)) hP hD hS
set_option maxHeartbeats 4000000 in
set_option maxRecDepth 100000 in
theorem sm_surely {p : Program} {l : Launch} {e : Env} {s : State} {m : MethodId} {below : List Frame} {meth : Method} {c : Code} {b Ls : Nat} {xs : Nat → Int32} {G : g5_G} {A : Nat → Prop} {Q : State → Prop} {H : Heap} {locs : List Loc} {ls : Array Slot} {cells slots : Nat} {w pl : va_W} {b_o : Nat} {v_ro : Nat → Int32} {v_im : Nat → Int32} {v_ke : Nat → Int32} {v_tp : Nat → Int32} {u_td : Int32} {u_fd : Int32} {v_wn : Nat → Int32} {u_id : Int32} {p_1 : Int32} (C : lwC p s m meth c b Ls xs G) (hA : ∀ q : Nat, s.heap.size ≤ q → A q) (hT : g5_S A s s.heap) (hS : va_S A s.heap H locs) (hsz : ls.size = 4) (hrm : cells + 4 ≤ 600000 ∧ slots + 429 ≤ 7302250) (hI : MW G b_o v_ro v_im v_ke v_tp u_td u_fd v_wn u_id w) (hP : va_P G.1 vwCl (w ++ pl) H) (hD : va_D A (w ++ pl)) (kk : ∀ (r : Int32) (w2 : va_W), MW G b_o v_ro v_im v_ke v_tp u_td u_fd v_wn u_id w2 → ∀ {H : Heap} {locs : List Loc}, va_P G.1 vwCl (w2 ++ pl) H → va_D A (w2 ++ pl) → va_S A s.heap H locs → W p l e room_1 s m #[Value.ref b] below meth c H locs cells slots Q (F0 m 1193 ls [.int r])) : W p l e room_1 s m #[Value.ref b] below meth c H locs cells slots Q (F0 m 1190 ls [.int p_1, .ref b_o]) := by
  obtain ⟨⟨hx, hb, hr, hml, hown, hts0, hX, hbl, hlocks, hgv⟩, hK, hN⟩ := C
  have hown : s.vm.findClass RL = some m.cls := hown
  have hts : ∀ w ∈ tblG, w.before #[Value.ref b] s = true := fun w h => hts0 w (List.mem_filter.mp h).1
  refine mw_elim hI (fun b_rf b_ro b_im b_ke b_tp b_nl b_op b_ar b_pi b_pa b_ws b_hw b_se b_re b_pt b_ip b_ah b_be b_me b_tr b_ld b_wn u_th u_sa u_fr u_to u_so u_wo u_fa u_bd u_nc u_co u_le u_pd u_od u_la u_bk u_va u_su u_ce u_ho u_wy u_bt u_ps u_tg u_sn u_ic u_wd u_st v_rf v_nl v_op v_ar v_pi v_pa v_ws v_hw v_se v_re v_pt v_ip v_ah v_be v_me v_tr v_ld hw9 h0 h1 h2 h3 h4 h5 h6 h7 h8 h9 h10 h11 h12 h13 h14 h15 h16 h17 h18 h19 h20 h21 h22 => ?_)
  subst hw9
  have hPX := hP.fst
  have hDX := hD.fst
  obtain ⟨hPc, hDc, hFc⟩ := g5_sub3 (wc := [(b_o, (oc12 u_th u_sa b_rf b_ro b_im b_ke u_fd b_tp u_td u_fr u_to u_so u_wo u_fa u_bd u_nc b_nl u_co b_op b_ar u_le b_pi b_pa u_pd u_od b_ws b_hw u_la b_se b_re u_bk u_va u_su u_ce u_ho u_wy u_bt u_ps b_pt u_tg u_sn b_ip u_ic b_ah b_be b_me u_wd b_tr b_ld u_st b_wn u_id)), (b_ro, (arI G 5740 v_ro)), (b_se, (arJ G 13 v_se)), (b_re, (arJ G 400 v_re)), (b_pt, (arI G 200 v_pt)), (b_ah, (arJ G 49152 v_ah)), (b_be, (arJ G 49152 v_be)), (b_me, (arI G 1536 v_me))]) hPX hDX hS hA [0, 2, 11, 12, 13, 15, 16, 17] (by decide) rfl
  refine va_calli (va_runV (As := [.int p_1]) (rest := []) ⟨hx, hb, hml, hown, hts⟩ (n_surelyP l G b_o b_ro b_se b_re b_pt b_ah b_be b_me b_rf b_im b_ke b_tp b_nl b_op b_ar b_pi b_pa b_ws b_hw b_ip b_tr b_ld b_wn H.size u_th u_sa u_fd u_td u_fr u_to u_so u_fa u_bd u_nc u_co u_le u_pd u_od u_la u_bk u_ce u_ho u_wy u_bt u_ps u_tg u_sn u_ic u_wd u_id p_1 u_wo u_va u_su u_st v_ro v_se v_re v_pt v_ah v_be v_me h0 h1 h2 h3 h4 h5 h6 h7 h8 h9 h10 h11 h12 h13 h14 h15 h16 h18 h19 h22) (cwV 1 hts gV_L_145 rfl rfl rfl hv_X12_surely ⟨Nat.le_of_ble_eq_true rfl, Nat.le_of_ble_eq_true rfl⟩) (g5_preV hPc hK hDc hN hT hS hFc (ci := 12) (q0 := 0) rfl rfl) rfl rfl hsz rfl (lv_room (Nat.le_of_ble_eq_true rfl)) dL_law_1190 (show cells + 0 ≤ 600000 ∧ slots + 0 ≤ 7302250 from ⟨by omega, by omega⟩)) hS (fun q _ h => hFc q h) hFc (fun r u t H1 locs ht hvm hw hB hz1 hk1 hS => ?_)
  obtain ⟨hP1, hD1⟩ := hB
  rw [ht] at hP1
  obtain ⟨y0_o_r, y0_o_th, y0_o_la, y0_o_bk, y0_o_va, y0_o_su, y0_o_ce, y0_o_ho, y0_o_wy, y0_o_bt, y0_o_ps, y0_o_tg, y0_o_sn, y0_o_ic, y0_o_wd, y0_o_se, y0_o_re, y0_o_pt, y0_o_ah, y0_o_be, y0_o_me, j0_0, j0_1, j0_2, j0_3, j0_4, j0_5, j0_6, j0_7, j0_8, j0_9, j0_10, hret, rfl⟩ := hw
  obtain ⟨hP, hD⟩ := va_joinQ (X := [(b_o, (oc12 u_th u_sa b_rf b_ro b_im b_ke u_fd b_tp u_td u_fr u_to u_so u_wo u_fa u_bd u_nc b_nl u_co b_op b_ar u_le b_pi b_pa u_pd u_od b_ws b_hw u_la b_se b_re u_bk u_va u_su u_ce u_ho u_wy u_bt u_ps b_pt u_tg u_sn b_ip u_ic b_ah b_be b_me u_wd b_tr b_ld u_st b_wn u_id)), (b_rf, (arI G 7 v_rf)), (b_ro, (arI G 5740 v_ro)), (b_tp, (arI G 400 v_tp)), (b_nl, (arI G 96 v_nl)), (b_op, (arI G 400 v_op)), (b_ar, (arI G 400 v_ar)), (b_pi, (arI G 400 v_pi)), (b_pa, (arI G 400 v_pa)), (b_ws, (arJ G 8 v_ws)), (b_hw, (arJ G 4 v_hw)), (b_se, (arJ G 13 v_se)), (b_re, (arJ G 400 v_re)), (b_pt, (arI G 200 v_pt)), (b_ip, (arZ G 1536 v_ip)), (b_ah, (arJ G 49152 v_ah)), (b_be, (arJ G 49152 v_be)), (b_me, (arI G 1536 v_me)), (b_tr, (arZ G 1536 v_tr)), (b_ld, (arZ G 1536 v_ld)), (b_wn, (arI G 24 v_wn)), (b_im, (arI G 11480 v_im)), (b_ke, (arZ G 2 v_ke))]) (wr := [(b_rf, (arI G 7 v_rf)), (b_tp, (arI G 400 v_tp)), (b_nl, (arI G 96 v_nl)), (b_op, (arI G 400 v_op)), (b_ar, (arI G 400 v_ar)), (b_pi, (arI G 400 v_pi)), (b_pa, (arI G 400 v_pa)), (b_ws, (arJ G 8 v_ws)), (b_hw, (arJ G 4 v_hw)), (b_ip, (arZ G 1536 v_ip)), (b_tr, (arZ G 1536 v_tr)), (b_ld, (arZ G 1536 v_ld)), (b_wn, (arI G 24 v_wn)), (b_im, (arI G 11480 v_im)), (b_ke, (arZ G 2 v_ke))]) (w1 := [(b_o, (oc12 y0_o_th u_sa b_rf b_ro b_im b_ke u_fd b_tp u_td u_fr u_to u_so u_wo u_fa u_bd u_nc b_nl u_co b_op b_ar u_le b_pi b_pa u_pd u_od b_ws b_hw y0_o_la b_se b_re y0_o_bk y0_o_va y0_o_su y0_o_ce y0_o_ho y0_o_wy y0_o_bt y0_o_ps b_pt y0_o_tg y0_o_sn b_ip y0_o_ic b_ah b_be b_me y0_o_wd b_tr b_ld u_st b_wn u_id)), (b_ro, (arI G 5740 v_ro)), (b_se, (arJ G 13 y0_o_se)), (b_re, (arJ G 400 y0_o_re)), (b_pt, (arI G 200 y0_o_pt)), (b_ah, (arJ G 49152 y0_o_ah)), (b_be, (arJ G 49152 y0_o_be)), (b_me, (arI G 1536 y0_o_me))]) hP hD [0, 2, 11, 12, 13, 15, 16, 17] [1, 3, 4, 5, 6, 7, 8, 9, 10, 14, 18, 19, 20, 21, 22] rfl rfl (by decide +kernel) (by decide +kernel) hk1 hFc hP1 hD1
  have hP := va_P.part (cx := [(b_o, (oc12 y0_o_th u_sa b_rf b_ro b_im b_ke u_fd b_tp u_td u_fr u_to u_so u_wo u_fa u_bd u_nc b_nl u_co b_op b_ar u_le b_pi b_pa u_pd u_od b_ws b_hw y0_o_la b_se b_re y0_o_bk y0_o_va y0_o_su y0_o_ce y0_o_ho y0_o_wy y0_o_bt y0_o_ps b_pt y0_o_tg y0_o_sn b_ip y0_o_ic b_ah b_be b_me y0_o_wd b_tr b_ld u_st b_wn u_id)), (b_rf, (arI G 7 v_rf)), (b_ro, (arI G 5740 v_ro)), (b_tp, (arI G 400 v_tp)), (b_nl, (arI G 96 v_nl)), (b_op, (arI G 400 v_op)), (b_ar, (arI G 400 v_ar)), (b_pi, (arI G 400 v_pi)), (b_pa, (arI G 400 v_pa)), (b_ws, (arJ G 8 v_ws)), (b_hw, (arJ G 4 v_hw)), (b_se, (arJ G 13 y0_o_se)), (b_re, (arJ G 400 y0_o_re)), (b_pt, (arI G 200 y0_o_pt)), (b_ip, (arZ G 1536 v_ip)), (b_ah, (arJ G 49152 y0_o_ah)), (b_be, (arJ G 49152 y0_o_be)), (b_me, (arI G 1536 y0_o_me)), (b_tr, (arZ G 1536 v_tr)), (b_ld, (arZ G 1536 v_ld)), (b_wn, (arI G 24 v_wn)), (b_im, (arI G 11480 v_im)), (b_ke, (arZ G 2 v_ke))]) hP [15, 0, 16, 1, 2, 3, 4, 5, 6, 7, 8, 17, 18, 19, 9, 20, 21, 22, 10, 11, 12, 13, 14] rfl
  have hD := va_D.part (cx := [(b_o, (oc12 y0_o_th u_sa b_rf b_ro b_im b_ke u_fd b_tp u_td u_fr u_to u_so u_wo u_fa u_bd u_nc b_nl u_co b_op b_ar u_le b_pi b_pa u_pd u_od b_ws b_hw y0_o_la b_se b_re y0_o_bk y0_o_va y0_o_su y0_o_ce y0_o_ho y0_o_wy y0_o_bt y0_o_ps b_pt y0_o_tg y0_o_sn b_ip y0_o_ic b_ah b_be b_me y0_o_wd b_tr b_ld u_st b_wn u_id)), (b_rf, (arI G 7 v_rf)), (b_ro, (arI G 5740 v_ro)), (b_tp, (arI G 400 v_tp)), (b_nl, (arI G 96 v_nl)), (b_op, (arI G 400 v_op)), (b_ar, (arI G 400 v_ar)), (b_pi, (arI G 400 v_pi)), (b_pa, (arI G 400 v_pa)), (b_ws, (arJ G 8 v_ws)), (b_hw, (arJ G 4 v_hw)), (b_se, (arJ G 13 y0_o_se)), (b_re, (arJ G 400 y0_o_re)), (b_pt, (arI G 200 y0_o_pt)), (b_ip, (arZ G 1536 v_ip)), (b_ah, (arJ G 49152 y0_o_ah)), (b_be, (arJ G 49152 y0_o_be)), (b_me, (arI G 1536 y0_o_me)), (b_tr, (arZ G 1536 v_tr)), (b_ld, (arZ G 1536 v_ld)), (b_wn, (arI G 24 v_wn)), (b_im, (arI G 11480 v_im)), (b_ke, (arZ G 2 v_ke))]) hD [15, 0, 16, 1, 2, 3, 4, 5, 6, 7, 8, 17, 18, 19, 9, 20, 21, 22, 10, 11, 12, 13, 14] (by decide) rfl
  exact kk r [(b_o, (oc12 y0_o_th u_sa b_rf b_ro b_im b_ke u_fd b_tp u_td u_fr u_to u_so u_wo u_fa u_bd u_nc b_nl u_co b_op b_ar u_le b_pi b_pa u_pd u_od b_ws b_hw y0_o_la b_se b_re y0_o_bk y0_o_va y0_o_su y0_o_ce y0_o_ho y0_o_wy y0_o_bt y0_o_ps b_pt y0_o_tg y0_o_sn b_ip y0_o_ic b_ah b_be b_me y0_o_wd b_tr b_ld u_st b_wn u_id)), (b_rf, (arI G 7 v_rf)), (b_ro, (arI G 5740 v_ro)), (b_tp, (arI G 400 v_tp)), (b_nl, (arI G 96 v_nl)), (b_op, (arI G 400 v_op)), (b_ar, (arI G 400 v_ar)), (b_pi, (arI G 400 v_pi)), (b_pa, (arI G 400 v_pa)), (b_ws, (arJ G 8 v_ws)), (b_hw, (arJ G 4 v_hw)), (b_se, (arJ G 13 y0_o_se)), (b_re, (arJ G 400 y0_o_re)), (b_pt, (arI G 200 y0_o_pt)), (b_ip, (arZ G 1536 v_ip)), (b_ah, (arJ G 49152 y0_o_ah)), (b_be, (arJ G 49152 y0_o_be)), (b_me, (arI G 1536 y0_o_me)), (b_tr, (arZ G 1536 v_tr)), (b_ld, (arZ G 1536 v_ld)), (b_wn, (arI G 24 v_wn)), (b_im, (arI G 11480 v_im)), (b_ke, (arZ G 2 v_ke))] (mw_mk b_rf b_ro b_im b_ke b_tp b_nl b_op b_ar b_pi b_pa b_ws b_hw b_se b_re b_pt b_ip b_ah b_be b_me b_tr b_ld b_wn y0_o_th u_sa u_fr u_to u_so u_wo u_fa u_bd u_nc u_co u_le u_pd u_od y0_o_la y0_o_bk y0_o_va y0_o_su y0_o_ce y0_o_ho y0_o_wy y0_o_bt y0_o_ps y0_o_tg y0_o_sn y0_o_ic y0_o_wd u_st v_rf v_nl v_op v_ar v_pi v_pa v_ws v_hw y0_o_se y0_o_re y0_o_pt v_ip y0_o_ah y0_o_be y0_o_me v_tr v_ld (h0) (h1) (h2) (h3) (h4) (h5) (h6) (j0_0) (j0_1) (j0_2) (j0_3) (j0_4) (j0_5) (j0_6) (j0_8) (h15) (h16) (h17) (j0_7) (j0_9) (h20) (h21) (j0_10)) hP hD hS
set_option maxHeartbeats 4000000 in
set_option maxRecDepth 100000 in
theorem sm_spot {p : Program} {l : Launch} {e : Env} {s : State} {m : MethodId} {below : List Frame} {meth : Method} {c : Code} {b Ls : Nat} {xs : Nat → Int32} {G : g5_G} {A : Nat → Prop} {Q : State → Prop} {H : Heap} {locs : List Loc} {ls : Array Slot} {cells slots : Nat} {w pl : va_W} {b_o : Nat} {v_ro : Nat → Int32} {v_im : Nat → Int32} {v_ke : Nat → Int32} {v_tp : Nat → Int32} {u_td : Int32} {u_fd : Int32} {v_wn : Nat → Int32} {u_id : Int32} {p_1 p_2 p_3 : Int32} (C : lwC p s m meth c b Ls xs G) (hA : ∀ q : Nat, s.heap.size ≤ q → A q) (hT : g5_S A s s.heap) (hS : va_S A s.heap H locs) (hsz : ls.size = 4) (hrm : cells + 4 ≤ 600000 ∧ slots + 429 ≤ 7302250) (hI : MW G b_o v_ro v_im v_ke v_tp u_td u_fd v_wn u_id w) (hP : va_P G.1 vwCl (w ++ pl) H) (hD : va_D A (w ++ pl)) (kk : ∀ (r : Int32) (w2 : va_W), MW G b_o (sspot v_ro p_1 p_2 p_3) v_im v_ke v_tp u_td u_fd v_wn u_id w2 → ∀ {H : Heap} {locs : List Loc}, va_P G.1 vwCl (w2 ++ pl) H → va_D A (w2 ++ pl) → va_S A s.heap H locs → W p l e room_1 s m #[Value.ref b] below meth c H locs cells slots Q (F0 m 1236 ls [.int r])) : W p l e room_1 s m #[Value.ref b] below meth c H locs cells slots Q (F0 m 1233 ls [.int p_3, .int p_2, .int p_1, .ref b_o]) := by
  obtain ⟨⟨hx, hb, hr, hml, hown, hts0, hX, hbl, hlocks, hgv⟩, hK, hN⟩ := C
  have hown : s.vm.findClass RL = some m.cls := hown
  have hts : ∀ w ∈ tblG, w.before #[Value.ref b] s = true := fun w h => hts0 w (List.mem_filter.mp h).1
  refine mw_elim hI (fun b_rf b_ro b_im b_ke b_tp b_nl b_op b_ar b_pi b_pa b_ws b_hw b_se b_re b_pt b_ip b_ah b_be b_me b_tr b_ld b_wn u_th u_sa u_fr u_to u_so u_wo u_fa u_bd u_nc u_co u_le u_pd u_od u_la u_bk u_va u_su u_ce u_ho u_wy u_bt u_ps u_tg u_sn u_ic u_wd u_st v_rf v_nl v_op v_ar v_pi v_pa v_ws v_hw v_se v_re v_pt v_ip v_ah v_be v_me v_tr v_ld hw9 h0 h1 h2 h3 h4 h5 h6 h7 h8 h9 h10 h11 h12 h13 h14 h15 h16 h17 h18 h19 h20 h21 h22 => ?_)
  subst hw9
  have hPX := hP.fst
  have hDX := hD.fst
  obtain ⟨hPc, hDc, hFc⟩ := g5_sub3 (wc := [(b_o, (oc12 u_th u_sa b_rf b_ro b_im b_ke u_fd b_tp u_td u_fr u_to u_so u_wo u_fa u_bd u_nc b_nl u_co b_op b_ar u_le b_pi b_pa u_pd u_od b_ws b_hw u_la b_se b_re u_bk u_va u_su u_ce u_ho u_wy u_bt u_ps b_pt u_tg u_sn b_ip u_ic b_ah b_be b_me u_wd b_tr b_ld u_st b_wn u_id)), (b_rf, (arI G 7 v_rf)), (b_ro, (arI G 5740 v_ro))]) hPX hDX hS hA [0, 1, 2] (by decide) rfl
  refine va_calli (va_runV (As := [.int p_1, .int p_2, .int p_3]) (rest := []) ⟨hx, hb, hml, hown, hts⟩ (n_spotE l G b_o b_rf b_ro b_im b_ke b_tp b_nl b_op b_ar b_pi b_pa b_ws b_hw b_se b_re b_pt b_ip b_ah b_be b_me b_tr b_ld b_wn H.size u_th u_sa u_fd u_td u_fr u_to u_so u_fa u_bd u_nc u_co u_le u_pd u_od u_la u_bk u_ce u_ho u_wy u_bt u_ps u_tg u_sn u_ic u_wd u_id p_1 p_2 p_3 u_wo u_va u_su u_st v_rf v_ro h0 h1 h2 h3 h4 h5 h6 h7 h8 h9 h10 h11 h12 h13 h14 h15 h16) (cwV 3 hts gV_L_149 rfl rfl rfl hv_X12_spot ⟨Nat.le_of_ble_eq_true rfl, Nat.le_of_ble_eq_true rfl⟩) (g5_preV hPc hK hDc hN hT hS hFc (ci := 12) (q0 := 0) rfl rfl) rfl rfl hsz rfl (lv_room (Nat.le_of_ble_eq_true rfl)) dL_law_1233 (show cells + 0 ≤ 600000 ∧ slots + 0 ≤ 7302250 from ⟨by omega, by omega⟩)) hS (fun q _ h => hFc q h) hFc (fun r u t H1 locs ht hvm hw hB hz1 hk1 hS => ?_)
  obtain ⟨hP1, hD1⟩ := hB
  rw [ht] at hP1
  obtain ⟨y0_o_r, y0_o_th, y0_o_sa, y0_o_ic, y0_o_rf, y0_o_ro, j0_0, j0_1, j0_2, j0_3, hret, rfl⟩ := hw
  obtain ⟨hP, hD⟩ := va_joinQ (X := [(b_o, (oc12 u_th u_sa b_rf b_ro b_im b_ke u_fd b_tp u_td u_fr u_to u_so u_wo u_fa u_bd u_nc b_nl u_co b_op b_ar u_le b_pi b_pa u_pd u_od b_ws b_hw u_la b_se b_re u_bk u_va u_su u_ce u_ho u_wy u_bt u_ps b_pt u_tg u_sn b_ip u_ic b_ah b_be b_me u_wd b_tr b_ld u_st b_wn u_id)), (b_rf, (arI G 7 v_rf)), (b_ro, (arI G 5740 v_ro)), (b_tp, (arI G 400 v_tp)), (b_nl, (arI G 96 v_nl)), (b_op, (arI G 400 v_op)), (b_ar, (arI G 400 v_ar)), (b_pi, (arI G 400 v_pi)), (b_pa, (arI G 400 v_pa)), (b_ws, (arJ G 8 v_ws)), (b_hw, (arJ G 4 v_hw)), (b_se, (arJ G 13 v_se)), (b_re, (arJ G 400 v_re)), (b_pt, (arI G 200 v_pt)), (b_ip, (arZ G 1536 v_ip)), (b_ah, (arJ G 49152 v_ah)), (b_be, (arJ G 49152 v_be)), (b_me, (arI G 1536 v_me)), (b_tr, (arZ G 1536 v_tr)), (b_ld, (arZ G 1536 v_ld)), (b_wn, (arI G 24 v_wn)), (b_im, (arI G 11480 v_im)), (b_ke, (arZ G 2 v_ke))]) (wr := [(b_tp, (arI G 400 v_tp)), (b_nl, (arI G 96 v_nl)), (b_op, (arI G 400 v_op)), (b_ar, (arI G 400 v_ar)), (b_pi, (arI G 400 v_pi)), (b_pa, (arI G 400 v_pa)), (b_ws, (arJ G 8 v_ws)), (b_hw, (arJ G 4 v_hw)), (b_se, (arJ G 13 v_se)), (b_re, (arJ G 400 v_re)), (b_pt, (arI G 200 v_pt)), (b_ip, (arZ G 1536 v_ip)), (b_ah, (arJ G 49152 v_ah)), (b_be, (arJ G 49152 v_be)), (b_me, (arI G 1536 v_me)), (b_tr, (arZ G 1536 v_tr)), (b_ld, (arZ G 1536 v_ld)), (b_wn, (arI G 24 v_wn)), (b_im, (arI G 11480 v_im)), (b_ke, (arZ G 2 v_ke))]) (w1 := [(b_o, (oc12 y0_o_th y0_o_sa b_rf b_ro b_im b_ke u_fd b_tp u_td u_fr u_to u_so u_wo u_fa u_bd u_nc b_nl u_co b_op b_ar u_le b_pi b_pa u_pd u_od b_ws b_hw u_la b_se b_re u_bk u_va u_su u_ce u_ho u_wy u_bt u_ps b_pt u_tg u_sn b_ip y0_o_ic b_ah b_be b_me u_wd b_tr b_ld u_st b_wn u_id)), (b_rf, (arI G 7 y0_o_rf)), (b_ro, (arI G 5740 y0_o_ro))]) hP hD [0, 1, 2] [3, 4, 5, 6, 7, 8, 9, 10, 11, 12, 13, 14, 15, 16, 17, 18, 19, 20, 21, 22] rfl rfl (by decide +kernel) (by decide +kernel) hk1 hFc hP1 hD1
  have hP := va_P.part (cx := [(b_o, (oc12 y0_o_th y0_o_sa b_rf b_ro b_im b_ke u_fd b_tp u_td u_fr u_to u_so u_wo u_fa u_bd u_nc b_nl u_co b_op b_ar u_le b_pi b_pa u_pd u_od b_ws b_hw u_la b_se b_re u_bk u_va u_su u_ce u_ho u_wy u_bt u_ps b_pt u_tg u_sn b_ip y0_o_ic b_ah b_be b_me u_wd b_tr b_ld u_st b_wn u_id)), (b_rf, (arI G 7 y0_o_rf)), (b_ro, (arI G 5740 y0_o_ro)), (b_tp, (arI G 400 v_tp)), (b_nl, (arI G 96 v_nl)), (b_op, (arI G 400 v_op)), (b_ar, (arI G 400 v_ar)), (b_pi, (arI G 400 v_pi)), (b_pa, (arI G 400 v_pa)), (b_ws, (arJ G 8 v_ws)), (b_hw, (arJ G 4 v_hw)), (b_se, (arJ G 13 v_se)), (b_re, (arJ G 400 v_re)), (b_pt, (arI G 200 v_pt)), (b_ip, (arZ G 1536 v_ip)), (b_ah, (arJ G 49152 v_ah)), (b_be, (arJ G 49152 v_be)), (b_me, (arI G 1536 v_me)), (b_tr, (arZ G 1536 v_tr)), (b_ld, (arZ G 1536 v_ld)), (b_wn, (arI G 24 v_wn)), (b_im, (arI G 11480 v_im)), (b_ke, (arZ G 2 v_ke))]) hP [20, 21, 22, 0, 1, 2, 3, 4, 5, 6, 7, 8, 9, 10, 11, 12, 13, 14, 15, 16, 17, 18, 19] rfl
  have hD := va_D.part (cx := [(b_o, (oc12 y0_o_th y0_o_sa b_rf b_ro b_im b_ke u_fd b_tp u_td u_fr u_to u_so u_wo u_fa u_bd u_nc b_nl u_co b_op b_ar u_le b_pi b_pa u_pd u_od b_ws b_hw u_la b_se b_re u_bk u_va u_su u_ce u_ho u_wy u_bt u_ps b_pt u_tg u_sn b_ip y0_o_ic b_ah b_be b_me u_wd b_tr b_ld u_st b_wn u_id)), (b_rf, (arI G 7 y0_o_rf)), (b_ro, (arI G 5740 y0_o_ro)), (b_tp, (arI G 400 v_tp)), (b_nl, (arI G 96 v_nl)), (b_op, (arI G 400 v_op)), (b_ar, (arI G 400 v_ar)), (b_pi, (arI G 400 v_pi)), (b_pa, (arI G 400 v_pa)), (b_ws, (arJ G 8 v_ws)), (b_hw, (arJ G 4 v_hw)), (b_se, (arJ G 13 v_se)), (b_re, (arJ G 400 v_re)), (b_pt, (arI G 200 v_pt)), (b_ip, (arZ G 1536 v_ip)), (b_ah, (arJ G 49152 v_ah)), (b_be, (arJ G 49152 v_be)), (b_me, (arI G 1536 v_me)), (b_tr, (arZ G 1536 v_tr)), (b_ld, (arZ G 1536 v_ld)), (b_wn, (arI G 24 v_wn)), (b_im, (arI G 11480 v_im)), (b_ke, (arZ G 2 v_ke))]) hD [20, 21, 22, 0, 1, 2, 3, 4, 5, 6, 7, 8, 9, 10, 11, 12, 13, 14, 15, 16, 17, 18, 19] (by decide) rfl
  exact kk r [(b_o, (oc12 y0_o_th y0_o_sa b_rf b_ro b_im b_ke u_fd b_tp u_td u_fr u_to u_so u_wo u_fa u_bd u_nc b_nl u_co b_op b_ar u_le b_pi b_pa u_pd u_od b_ws b_hw u_la b_se b_re u_bk u_va u_su u_ce u_ho u_wy u_bt u_ps b_pt u_tg u_sn b_ip y0_o_ic b_ah b_be b_me u_wd b_tr b_ld u_st b_wn u_id)), (b_rf, (arI G 7 y0_o_rf)), (b_ro, (arI G 5740 y0_o_ro)), (b_tp, (arI G 400 v_tp)), (b_nl, (arI G 96 v_nl)), (b_op, (arI G 400 v_op)), (b_ar, (arI G 400 v_ar)), (b_pi, (arI G 400 v_pi)), (b_pa, (arI G 400 v_pa)), (b_ws, (arJ G 8 v_ws)), (b_hw, (arJ G 4 v_hw)), (b_se, (arJ G 13 v_se)), (b_re, (arJ G 400 v_re)), (b_pt, (arI G 200 v_pt)), (b_ip, (arZ G 1536 v_ip)), (b_ah, (arJ G 49152 v_ah)), (b_be, (arJ G 49152 v_be)), (b_me, (arI G 1536 v_me)), (b_tr, (arZ G 1536 v_tr)), (b_ld, (arZ G 1536 v_ld)), (b_wn, (arI G 24 v_wn)), (b_im, (arI G 11480 v_im)), (b_ke, (arZ G 2 v_ke))] (mw_cast j0_3 rfl rfl rfl rfl rfl rfl rfl (mw_mk b_rf b_ro b_im b_ke b_tp b_nl b_op b_ar b_pi b_pa b_ws b_hw b_se b_re b_pt b_ip b_ah b_be b_me b_tr b_ld b_wn y0_o_th y0_o_sa u_fr u_to u_so u_wo u_fa u_bd u_nc u_co u_le u_pd u_od u_la u_bk u_va u_su u_ce u_ho u_wy u_bt u_ps u_tg u_sn y0_o_ic u_wd u_st y0_o_rf v_nl v_op v_ar v_pi v_pa v_ws v_hw v_se v_re v_pt v_ip v_ah v_be v_me v_tr v_ld (h0) (h1) (h2) (h3) (h4) (h5) (h6) (h7) (h8) (h9) (h10) (h11) (h12) (h13) (j0_1) (h15) (j0_0) (h17) (h18) (h19) (h20) (h21) (h22))) hP hD hS
set_option maxHeartbeats 4000000 in
set_option maxRecDepth 100000 in
theorem sm_wish {p : Program} {l : Launch} {e : Env} {s : State} {m : MethodId} {below : List Frame} {meth : Method} {c : Code} {b Ls : Nat} {xs : Nat → Int32} {G : g5_G} {A : Nat → Prop} {Q : State → Prop} {H : Heap} {locs : List Loc} {ls : Array Slot} {cells slots : Nat} {w pl : va_W} {b_o : Nat} {v_ro : Nat → Int32} {v_im : Nat → Int32} {v_ke : Nat → Int32} {v_tp : Nat → Int32} {u_td : Int32} {u_fd : Int32} {v_wn : Nat → Int32} {u_id : Int32} {p_1 p_2 p_3 p_4 p_5 p_6 : Int32} (C : lwC p s m meth c b Ls xs G) (hA : ∀ q : Nat, s.heap.size ≤ q → A q) (hT : g5_S A s s.heap) (hS : va_S A s.heap H locs) (hsz : ls.size = 4) (hrm : cells + 4 ≤ 600000 ∧ slots + 429 ≤ 7302250) (hI : MW G b_o v_ro v_im v_ke v_tp u_td u_fd v_wn u_id w) (hP : va_P G.1 vwCl (w ++ pl) H) (hD : va_D A (w ++ pl)) (kk : ∀ (r : Int32) (w2 : va_W), MW G b_o (swish v_ro p_1 p_2 p_3 p_4 p_5 p_6) v_im v_ke v_tp u_td u_fd v_wn u_id w2 → ∀ {H : Heap} {locs : List Loc}, va_P G.1 vwCl (w2 ++ pl) H → va_D A (w2 ++ pl) → va_S A s.heap H locs → W p l e room_1 s m #[Value.ref b] below meth c H locs cells slots Q (F0 m 1311 ls [.int r])) : W p l e room_1 s m #[Value.ref b] below meth c H locs cells slots Q (F0 m 1308 ls [.int p_6, .int p_5, .int p_4, .int p_3, .int p_2, .int p_1, .ref b_o]) := by
  obtain ⟨⟨hx, hb, hr, hml, hown, hts0, hX, hbl, hlocks, hgv⟩, hK, hN⟩ := C
  have hown : s.vm.findClass RL = some m.cls := hown
  have hts : ∀ w ∈ tblG, w.before #[Value.ref b] s = true := fun w h => hts0 w (List.mem_filter.mp h).1
  refine mw_elim hI (fun b_rf b_ro b_im b_ke b_tp b_nl b_op b_ar b_pi b_pa b_ws b_hw b_se b_re b_pt b_ip b_ah b_be b_me b_tr b_ld b_wn u_th u_sa u_fr u_to u_so u_wo u_fa u_bd u_nc u_co u_le u_pd u_od u_la u_bk u_va u_su u_ce u_ho u_wy u_bt u_ps u_tg u_sn u_ic u_wd u_st v_rf v_nl v_op v_ar v_pi v_pa v_ws v_hw v_se v_re v_pt v_ip v_ah v_be v_me v_tr v_ld hw9 h0 h1 h2 h3 h4 h5 h6 h7 h8 h9 h10 h11 h12 h13 h14 h15 h16 h17 h18 h19 h20 h21 h22 => ?_)
  subst hw9
  have hPX := hP.fst
  have hDX := hD.fst
  obtain ⟨hPc, hDc, hFc⟩ := g5_sub3 (wc := [(b_o, (oc12 u_th u_sa b_rf b_ro b_im b_ke u_fd b_tp u_td u_fr u_to u_so u_wo u_fa u_bd u_nc b_nl u_co b_op b_ar u_le b_pi b_pa u_pd u_od b_ws b_hw u_la b_se b_re u_bk u_va u_su u_ce u_ho u_wy u_bt u_ps b_pt u_tg u_sn b_ip u_ic b_ah b_be b_me u_wd b_tr b_ld u_st b_wn u_id)), (b_rf, (arI G 7 v_rf)), (b_ro, (arI G 5740 v_ro))]) hPX hDX hS hA [0, 1, 2] (by decide) rfl
  refine va_calli (va_runV (As := [.int p_1, .int p_2, .int p_3, .int p_4, .int p_5, .int p_6]) (rest := []) ⟨hx, hb, hml, hown, hts⟩ (n_wishE l G b_o b_rf b_ro b_im b_ke b_tp b_nl b_op b_ar b_pi b_pa b_ws b_hw b_se b_re b_pt b_ip b_ah b_be b_me b_tr b_ld b_wn H.size u_th u_sa u_fd u_td u_fr u_to u_so u_fa u_bd u_nc u_co u_le u_pd u_od u_la u_bk u_ce u_ho u_wy u_bt u_ps u_tg u_sn u_ic u_wd u_id p_1 p_2 p_3 p_4 p_5 p_6 u_wo u_va u_su u_st v_rf v_ro h0 h1 h2 h3 h4 h5 h6 h7 h8 h9 h10 h11 h12 h13 h14 h15 h16) (cwV 6 hts gV_L_154 rfl rfl rfl hv_X12_wish ⟨Nat.le_of_ble_eq_true rfl, Nat.le_of_ble_eq_true rfl⟩) (g5_preV hPc hK hDc hN hT hS hFc (ci := 12) (q0 := 0) rfl rfl) rfl rfl hsz rfl (lv_room (Nat.le_of_ble_eq_true rfl)) dL_law_1308 (show cells + 0 ≤ 600000 ∧ slots + 0 ≤ 7302250 from ⟨by omega, by omega⟩)) hS (fun q _ h => hFc q h) hFc (fun r u t H1 locs ht hvm hw hB hz1 hk1 hS => ?_)
  obtain ⟨hP1, hD1⟩ := hB
  rw [ht] at hP1
  obtain ⟨y0_o_r, y0_o_th, y0_o_sa, y0_o_ic, y0_o_rf, y0_o_ro, j0_0, j0_1, j0_2, j0_3, hret, rfl⟩ := hw
  obtain ⟨hP, hD⟩ := va_joinQ (X := [(b_o, (oc12 u_th u_sa b_rf b_ro b_im b_ke u_fd b_tp u_td u_fr u_to u_so u_wo u_fa u_bd u_nc b_nl u_co b_op b_ar u_le b_pi b_pa u_pd u_od b_ws b_hw u_la b_se b_re u_bk u_va u_su u_ce u_ho u_wy u_bt u_ps b_pt u_tg u_sn b_ip u_ic b_ah b_be b_me u_wd b_tr b_ld u_st b_wn u_id)), (b_rf, (arI G 7 v_rf)), (b_ro, (arI G 5740 v_ro)), (b_tp, (arI G 400 v_tp)), (b_nl, (arI G 96 v_nl)), (b_op, (arI G 400 v_op)), (b_ar, (arI G 400 v_ar)), (b_pi, (arI G 400 v_pi)), (b_pa, (arI G 400 v_pa)), (b_ws, (arJ G 8 v_ws)), (b_hw, (arJ G 4 v_hw)), (b_se, (arJ G 13 v_se)), (b_re, (arJ G 400 v_re)), (b_pt, (arI G 200 v_pt)), (b_ip, (arZ G 1536 v_ip)), (b_ah, (arJ G 49152 v_ah)), (b_be, (arJ G 49152 v_be)), (b_me, (arI G 1536 v_me)), (b_tr, (arZ G 1536 v_tr)), (b_ld, (arZ G 1536 v_ld)), (b_wn, (arI G 24 v_wn)), (b_im, (arI G 11480 v_im)), (b_ke, (arZ G 2 v_ke))]) (wr := [(b_tp, (arI G 400 v_tp)), (b_nl, (arI G 96 v_nl)), (b_op, (arI G 400 v_op)), (b_ar, (arI G 400 v_ar)), (b_pi, (arI G 400 v_pi)), (b_pa, (arI G 400 v_pa)), (b_ws, (arJ G 8 v_ws)), (b_hw, (arJ G 4 v_hw)), (b_se, (arJ G 13 v_se)), (b_re, (arJ G 400 v_re)), (b_pt, (arI G 200 v_pt)), (b_ip, (arZ G 1536 v_ip)), (b_ah, (arJ G 49152 v_ah)), (b_be, (arJ G 49152 v_be)), (b_me, (arI G 1536 v_me)), (b_tr, (arZ G 1536 v_tr)), (b_ld, (arZ G 1536 v_ld)), (b_wn, (arI G 24 v_wn)), (b_im, (arI G 11480 v_im)), (b_ke, (arZ G 2 v_ke))]) (w1 := [(b_o, (oc12 y0_o_th y0_o_sa b_rf b_ro b_im b_ke u_fd b_tp u_td u_fr u_to u_so u_wo u_fa u_bd u_nc b_nl u_co b_op b_ar u_le b_pi b_pa u_pd u_od b_ws b_hw u_la b_se b_re u_bk u_va u_su u_ce u_ho u_wy u_bt u_ps b_pt u_tg u_sn b_ip y0_o_ic b_ah b_be b_me u_wd b_tr b_ld u_st b_wn u_id)), (b_rf, (arI G 7 y0_o_rf)), (b_ro, (arI G 5740 y0_o_ro))]) hP hD [0, 1, 2] [3, 4, 5, 6, 7, 8, 9, 10, 11, 12, 13, 14, 15, 16, 17, 18, 19, 20, 21, 22] rfl rfl (by decide +kernel) (by decide +kernel) hk1 hFc hP1 hD1
  have hP := va_P.part (cx := [(b_o, (oc12 y0_o_th y0_o_sa b_rf b_ro b_im b_ke u_fd b_tp u_td u_fr u_to u_so u_wo u_fa u_bd u_nc b_nl u_co b_op b_ar u_le b_pi b_pa u_pd u_od b_ws b_hw u_la b_se b_re u_bk u_va u_su u_ce u_ho u_wy u_bt u_ps b_pt u_tg u_sn b_ip y0_o_ic b_ah b_be b_me u_wd b_tr b_ld u_st b_wn u_id)), (b_rf, (arI G 7 y0_o_rf)), (b_ro, (arI G 5740 y0_o_ro)), (b_tp, (arI G 400 v_tp)), (b_nl, (arI G 96 v_nl)), (b_op, (arI G 400 v_op)), (b_ar, (arI G 400 v_ar)), (b_pi, (arI G 400 v_pi)), (b_pa, (arI G 400 v_pa)), (b_ws, (arJ G 8 v_ws)), (b_hw, (arJ G 4 v_hw)), (b_se, (arJ G 13 v_se)), (b_re, (arJ G 400 v_re)), (b_pt, (arI G 200 v_pt)), (b_ip, (arZ G 1536 v_ip)), (b_ah, (arJ G 49152 v_ah)), (b_be, (arJ G 49152 v_be)), (b_me, (arI G 1536 v_me)), (b_tr, (arZ G 1536 v_tr)), (b_ld, (arZ G 1536 v_ld)), (b_wn, (arI G 24 v_wn)), (b_im, (arI G 11480 v_im)), (b_ke, (arZ G 2 v_ke))]) hP [20, 21, 22, 0, 1, 2, 3, 4, 5, 6, 7, 8, 9, 10, 11, 12, 13, 14, 15, 16, 17, 18, 19] rfl
  have hD := va_D.part (cx := [(b_o, (oc12 y0_o_th y0_o_sa b_rf b_ro b_im b_ke u_fd b_tp u_td u_fr u_to u_so u_wo u_fa u_bd u_nc b_nl u_co b_op b_ar u_le b_pi b_pa u_pd u_od b_ws b_hw u_la b_se b_re u_bk u_va u_su u_ce u_ho u_wy u_bt u_ps b_pt u_tg u_sn b_ip y0_o_ic b_ah b_be b_me u_wd b_tr b_ld u_st b_wn u_id)), (b_rf, (arI G 7 y0_o_rf)), (b_ro, (arI G 5740 y0_o_ro)), (b_tp, (arI G 400 v_tp)), (b_nl, (arI G 96 v_nl)), (b_op, (arI G 400 v_op)), (b_ar, (arI G 400 v_ar)), (b_pi, (arI G 400 v_pi)), (b_pa, (arI G 400 v_pa)), (b_ws, (arJ G 8 v_ws)), (b_hw, (arJ G 4 v_hw)), (b_se, (arJ G 13 v_se)), (b_re, (arJ G 400 v_re)), (b_pt, (arI G 200 v_pt)), (b_ip, (arZ G 1536 v_ip)), (b_ah, (arJ G 49152 v_ah)), (b_be, (arJ G 49152 v_be)), (b_me, (arI G 1536 v_me)), (b_tr, (arZ G 1536 v_tr)), (b_ld, (arZ G 1536 v_ld)), (b_wn, (arI G 24 v_wn)), (b_im, (arI G 11480 v_im)), (b_ke, (arZ G 2 v_ke))]) hD [20, 21, 22, 0, 1, 2, 3, 4, 5, 6, 7, 8, 9, 10, 11, 12, 13, 14, 15, 16, 17, 18, 19] (by decide) rfl
  exact kk r [(b_o, (oc12 y0_o_th y0_o_sa b_rf b_ro b_im b_ke u_fd b_tp u_td u_fr u_to u_so u_wo u_fa u_bd u_nc b_nl u_co b_op b_ar u_le b_pi b_pa u_pd u_od b_ws b_hw u_la b_se b_re u_bk u_va u_su u_ce u_ho u_wy u_bt u_ps b_pt u_tg u_sn b_ip y0_o_ic b_ah b_be b_me u_wd b_tr b_ld u_st b_wn u_id)), (b_rf, (arI G 7 y0_o_rf)), (b_ro, (arI G 5740 y0_o_ro)), (b_tp, (arI G 400 v_tp)), (b_nl, (arI G 96 v_nl)), (b_op, (arI G 400 v_op)), (b_ar, (arI G 400 v_ar)), (b_pi, (arI G 400 v_pi)), (b_pa, (arI G 400 v_pa)), (b_ws, (arJ G 8 v_ws)), (b_hw, (arJ G 4 v_hw)), (b_se, (arJ G 13 v_se)), (b_re, (arJ G 400 v_re)), (b_pt, (arI G 200 v_pt)), (b_ip, (arZ G 1536 v_ip)), (b_ah, (arJ G 49152 v_ah)), (b_be, (arJ G 49152 v_be)), (b_me, (arI G 1536 v_me)), (b_tr, (arZ G 1536 v_tr)), (b_ld, (arZ G 1536 v_ld)), (b_wn, (arI G 24 v_wn)), (b_im, (arI G 11480 v_im)), (b_ke, (arZ G 2 v_ke))] (mw_cast j0_3 rfl rfl rfl rfl rfl rfl rfl (mw_mk b_rf b_ro b_im b_ke b_tp b_nl b_op b_ar b_pi b_pa b_ws b_hw b_se b_re b_pt b_ip b_ah b_be b_me b_tr b_ld b_wn y0_o_th y0_o_sa u_fr u_to u_so u_wo u_fa u_bd u_nc u_co u_le u_pd u_od u_la u_bk u_va u_su u_ce u_ho u_wy u_bt u_ps u_tg u_sn y0_o_ic u_wd u_st y0_o_rf v_nl v_op v_ar v_pi v_pa v_ws v_hw v_se v_re v_pt v_ip v_ah v_be v_me v_tr v_ld (h0) (h1) (h2) (h3) (h4) (h5) (h6) (h7) (h8) (h9) (h10) (h11) (h12) (h13) (j0_1) (h15) (j0_0) (h17) (h18) (h19) (h20) (h21) (h22))) hP hD hS
set_option maxHeartbeats 4000000 in
set_option maxRecDepth 100000 in
theorem sm_lacks {p : Program} {l : Launch} {e : Env} {s : State} {m : MethodId} {below : List Frame} {meth : Method} {c : Code} {b Ls : Nat} {xs : Nat → Int32} {G : g5_G} {A : Nat → Prop} {Q : State → Prop} {H : Heap} {locs : List Loc} {ls : Array Slot} {cells slots : Nat} {w pl : va_W} {b_o : Nat} {v_ro : Nat → Int32} {v_im : Nat → Int32} {v_ke : Nat → Int32} {v_tp : Nat → Int32} {u_td : Int32} {u_fd : Int32} {v_wn : Nat → Int32} {u_id : Int32} {p_1 : Int32} (C : lwC p s m meth c b Ls xs G) (hA : ∀ q : Nat, s.heap.size ≤ q → A q) (hT : g5_S A s s.heap) (hS : va_S A s.heap H locs) (hsz : ls.size = 4) (hrm : cells + 4 ≤ 600000 ∧ slots + 429 ≤ 7302250) (hI : MW G b_o v_ro v_im v_ke v_tp u_td u_fd v_wn u_id w) (hP : va_P G.1 vwCl (w ++ pl) H) (hD : va_D A (w ++ pl)) (kk : ∀ (r : Int32) (w2 : va_W), MW G b_o v_ro v_im v_ke v_tp u_td u_fd v_wn u_id w2 → ∀ {H : Heap} {locs : List Loc}, va_P G.1 vwCl (w2 ++ pl) H → va_D A (w2 ++ pl) → va_S A s.heap H locs → W p l e room_1 s m #[Value.ref b] below meth c H locs cells slots Q (F0 m 1334 ls [.int r])) : W p l e room_1 s m #[Value.ref b] below meth c H locs cells slots Q (F0 m 1331 ls [.int p_1, .ref b_o]) := by
  obtain ⟨⟨hx, hb, hr, hml, hown, hts0, hX, hbl, hlocks, hgv⟩, hK, hN⟩ := C
  have hown : s.vm.findClass RL = some m.cls := hown
  have hts : ∀ w ∈ tblG, w.before #[Value.ref b] s = true := fun w h => hts0 w (List.mem_filter.mp h).1
  refine mw_elim hI (fun b_rf b_ro b_im b_ke b_tp b_nl b_op b_ar b_pi b_pa b_ws b_hw b_se b_re b_pt b_ip b_ah b_be b_me b_tr b_ld b_wn u_th u_sa u_fr u_to u_so u_wo u_fa u_bd u_nc u_co u_le u_pd u_od u_la u_bk u_va u_su u_ce u_ho u_wy u_bt u_ps u_tg u_sn u_ic u_wd u_st v_rf v_nl v_op v_ar v_pi v_pa v_ws v_hw v_se v_re v_pt v_ip v_ah v_be v_me v_tr v_ld hw9 h0 h1 h2 h3 h4 h5 h6 h7 h8 h9 h10 h11 h12 h13 h14 h15 h16 h17 h18 h19 h20 h21 h22 => ?_)
  subst hw9
  have hPX := hP.fst
  have hDX := hD.fst
  obtain ⟨hPc, hDc, hFc⟩ := g5_sub3 (wc := [(b_o, (oc12 u_th u_sa b_rf b_ro b_im b_ke u_fd b_tp u_td u_fr u_to u_so u_wo u_fa u_bd u_nc b_nl u_co b_op b_ar u_le b_pi b_pa u_pd u_od b_ws b_hw u_la b_se b_re u_bk u_va u_su u_ce u_ho u_wy u_bt u_ps b_pt u_tg u_sn b_ip u_ic b_ah b_be b_me u_wd b_tr b_ld u_st b_wn u_id)), (b_ro, (arI G 5740 v_ro)), (b_se, (arJ G 13 v_se)), (b_re, (arJ G 400 v_re)), (b_pt, (arI G 200 v_pt))]) hPX hDX hS hA [0, 2, 11, 12, 13] (by decide) rfl
  refine va_calli (va_runV (As := [.int p_1]) (rest := []) ⟨hx, hb, hml, hown, hts⟩ (n_lacks l G b_o b_ro b_se b_re b_pt b_rf b_im b_ke b_tp b_nl b_op b_ar b_pi b_pa b_ws b_hw b_ip b_ah b_be b_me b_tr b_ld b_wn H.size u_th u_sa u_fd u_td u_fr u_to u_so u_fa u_bd u_nc u_co u_le u_pd u_od u_la u_bk u_ce u_ho u_wy u_bt u_ps u_tg u_sn u_ic u_wd u_id p_1 u_wo u_va u_su u_st v_ro v_se v_re v_pt h0 h1 h2 h3 h4 h5 h6 h7 h8 h9 h10 h11 h12 h13 h14 h15 h16 h18) (cwV 1 hts gV_L_158 rfl rfl rfl hv_X12_lacks ⟨Nat.le_of_ble_eq_true rfl, Nat.le_of_ble_eq_true rfl⟩) (g5_preV hPc hK hDc hN hT hS hFc (ci := 12) (q0 := 0) rfl rfl) rfl rfl hsz rfl (lv_room (Nat.le_of_ble_eq_true rfl)) dL_law_1331 (show cells + 0 ≤ 600000 ∧ slots + 0 ≤ 7302250 from ⟨by omega, by omega⟩)) hS (fun q _ h => hFc q h) hFc (fun r u t H1 locs ht hvm hw hB hz1 hk1 hS => ?_)
  obtain ⟨hP1, hD1⟩ := hB
  rw [ht] at hP1
  obtain ⟨y0_o_r, y0_o_th, y0_o_la, y0_o_bk, y0_o_va, y0_o_su, y0_o_ce, y0_o_ho, y0_o_wy, y0_o_bt, y0_o_ps, y0_o_tg, y0_o_sn, y0_o_se, y0_o_re, y0_o_pt, j0_0, j0_1, j0_2, j0_3, j0_4, j0_5, j0_6, j0_7, hret, rfl⟩ := hw
  obtain ⟨hP, hD⟩ := va_joinQ (X := [(b_o, (oc12 u_th u_sa b_rf b_ro b_im b_ke u_fd b_tp u_td u_fr u_to u_so u_wo u_fa u_bd u_nc b_nl u_co b_op b_ar u_le b_pi b_pa u_pd u_od b_ws b_hw u_la b_se b_re u_bk u_va u_su u_ce u_ho u_wy u_bt u_ps b_pt u_tg u_sn b_ip u_ic b_ah b_be b_me u_wd b_tr b_ld u_st b_wn u_id)), (b_rf, (arI G 7 v_rf)), (b_ro, (arI G 5740 v_ro)), (b_tp, (arI G 400 v_tp)), (b_nl, (arI G 96 v_nl)), (b_op, (arI G 400 v_op)), (b_ar, (arI G 400 v_ar)), (b_pi, (arI G 400 v_pi)), (b_pa, (arI G 400 v_pa)), (b_ws, (arJ G 8 v_ws)), (b_hw, (arJ G 4 v_hw)), (b_se, (arJ G 13 v_se)), (b_re, (arJ G 400 v_re)), (b_pt, (arI G 200 v_pt)), (b_ip, (arZ G 1536 v_ip)), (b_ah, (arJ G 49152 v_ah)), (b_be, (arJ G 49152 v_be)), (b_me, (arI G 1536 v_me)), (b_tr, (arZ G 1536 v_tr)), (b_ld, (arZ G 1536 v_ld)), (b_wn, (arI G 24 v_wn)), (b_im, (arI G 11480 v_im)), (b_ke, (arZ G 2 v_ke))]) (wr := [(b_rf, (arI G 7 v_rf)), (b_tp, (arI G 400 v_tp)), (b_nl, (arI G 96 v_nl)), (b_op, (arI G 400 v_op)), (b_ar, (arI G 400 v_ar)), (b_pi, (arI G 400 v_pi)), (b_pa, (arI G 400 v_pa)), (b_ws, (arJ G 8 v_ws)), (b_hw, (arJ G 4 v_hw)), (b_ip, (arZ G 1536 v_ip)), (b_ah, (arJ G 49152 v_ah)), (b_be, (arJ G 49152 v_be)), (b_me, (arI G 1536 v_me)), (b_tr, (arZ G 1536 v_tr)), (b_ld, (arZ G 1536 v_ld)), (b_wn, (arI G 24 v_wn)), (b_im, (arI G 11480 v_im)), (b_ke, (arZ G 2 v_ke))]) (w1 := [(b_o, (oc12 y0_o_th u_sa b_rf b_ro b_im b_ke u_fd b_tp u_td u_fr u_to u_so u_wo u_fa u_bd u_nc b_nl u_co b_op b_ar u_le b_pi b_pa u_pd u_od b_ws b_hw y0_o_la b_se b_re y0_o_bk y0_o_va y0_o_su y0_o_ce y0_o_ho y0_o_wy y0_o_bt y0_o_ps b_pt y0_o_tg y0_o_sn b_ip u_ic b_ah b_be b_me u_wd b_tr b_ld u_st b_wn u_id)), (b_ro, (arI G 5740 v_ro)), (b_se, (arJ G 13 y0_o_se)), (b_re, (arJ G 400 y0_o_re)), (b_pt, (arI G 200 y0_o_pt))]) hP hD [0, 2, 11, 12, 13] [1, 3, 4, 5, 6, 7, 8, 9, 10, 14, 15, 16, 17, 18, 19, 20, 21, 22] rfl rfl (by decide +kernel) (by decide +kernel) hk1 hFc hP1 hD1
  have hP := va_P.part (cx := [(b_o, (oc12 y0_o_th u_sa b_rf b_ro b_im b_ke u_fd b_tp u_td u_fr u_to u_so u_wo u_fa u_bd u_nc b_nl u_co b_op b_ar u_le b_pi b_pa u_pd u_od b_ws b_hw y0_o_la b_se b_re y0_o_bk y0_o_va y0_o_su y0_o_ce y0_o_ho y0_o_wy y0_o_bt y0_o_ps b_pt y0_o_tg y0_o_sn b_ip u_ic b_ah b_be b_me u_wd b_tr b_ld u_st b_wn u_id)), (b_rf, (arI G 7 v_rf)), (b_ro, (arI G 5740 v_ro)), (b_tp, (arI G 400 v_tp)), (b_nl, (arI G 96 v_nl)), (b_op, (arI G 400 v_op)), (b_ar, (arI G 400 v_ar)), (b_pi, (arI G 400 v_pi)), (b_pa, (arI G 400 v_pa)), (b_ws, (arJ G 8 v_ws)), (b_hw, (arJ G 4 v_hw)), (b_se, (arJ G 13 y0_o_se)), (b_re, (arJ G 400 y0_o_re)), (b_pt, (arI G 200 y0_o_pt)), (b_ip, (arZ G 1536 v_ip)), (b_ah, (arJ G 49152 v_ah)), (b_be, (arJ G 49152 v_be)), (b_me, (arI G 1536 v_me)), (b_tr, (arZ G 1536 v_tr)), (b_ld, (arZ G 1536 v_ld)), (b_wn, (arI G 24 v_wn)), (b_im, (arI G 11480 v_im)), (b_ke, (arZ G 2 v_ke))]) hP [18, 0, 19, 1, 2, 3, 4, 5, 6, 7, 8, 20, 21, 22, 9, 10, 11, 12, 13, 14, 15, 16, 17] rfl
  have hD := va_D.part (cx := [(b_o, (oc12 y0_o_th u_sa b_rf b_ro b_im b_ke u_fd b_tp u_td u_fr u_to u_so u_wo u_fa u_bd u_nc b_nl u_co b_op b_ar u_le b_pi b_pa u_pd u_od b_ws b_hw y0_o_la b_se b_re y0_o_bk y0_o_va y0_o_su y0_o_ce y0_o_ho y0_o_wy y0_o_bt y0_o_ps b_pt y0_o_tg y0_o_sn b_ip u_ic b_ah b_be b_me u_wd b_tr b_ld u_st b_wn u_id)), (b_rf, (arI G 7 v_rf)), (b_ro, (arI G 5740 v_ro)), (b_tp, (arI G 400 v_tp)), (b_nl, (arI G 96 v_nl)), (b_op, (arI G 400 v_op)), (b_ar, (arI G 400 v_ar)), (b_pi, (arI G 400 v_pi)), (b_pa, (arI G 400 v_pa)), (b_ws, (arJ G 8 v_ws)), (b_hw, (arJ G 4 v_hw)), (b_se, (arJ G 13 y0_o_se)), (b_re, (arJ G 400 y0_o_re)), (b_pt, (arI G 200 y0_o_pt)), (b_ip, (arZ G 1536 v_ip)), (b_ah, (arJ G 49152 v_ah)), (b_be, (arJ G 49152 v_be)), (b_me, (arI G 1536 v_me)), (b_tr, (arZ G 1536 v_tr)), (b_ld, (arZ G 1536 v_ld)), (b_wn, (arI G 24 v_wn)), (b_im, (arI G 11480 v_im)), (b_ke, (arZ G 2 v_ke))]) hD [18, 0, 19, 1, 2, 3, 4, 5, 6, 7, 8, 20, 21, 22, 9, 10, 11, 12, 13, 14, 15, 16, 17] (by decide) rfl
  exact kk r [(b_o, (oc12 y0_o_th u_sa b_rf b_ro b_im b_ke u_fd b_tp u_td u_fr u_to u_so u_wo u_fa u_bd u_nc b_nl u_co b_op b_ar u_le b_pi b_pa u_pd u_od b_ws b_hw y0_o_la b_se b_re y0_o_bk y0_o_va y0_o_su y0_o_ce y0_o_ho y0_o_wy y0_o_bt y0_o_ps b_pt y0_o_tg y0_o_sn b_ip u_ic b_ah b_be b_me u_wd b_tr b_ld u_st b_wn u_id)), (b_rf, (arI G 7 v_rf)), (b_ro, (arI G 5740 v_ro)), (b_tp, (arI G 400 v_tp)), (b_nl, (arI G 96 v_nl)), (b_op, (arI G 400 v_op)), (b_ar, (arI G 400 v_ar)), (b_pi, (arI G 400 v_pi)), (b_pa, (arI G 400 v_pa)), (b_ws, (arJ G 8 v_ws)), (b_hw, (arJ G 4 v_hw)), (b_se, (arJ G 13 y0_o_se)), (b_re, (arJ G 400 y0_o_re)), (b_pt, (arI G 200 y0_o_pt)), (b_ip, (arZ G 1536 v_ip)), (b_ah, (arJ G 49152 v_ah)), (b_be, (arJ G 49152 v_be)), (b_me, (arI G 1536 v_me)), (b_tr, (arZ G 1536 v_tr)), (b_ld, (arZ G 1536 v_ld)), (b_wn, (arI G 24 v_wn)), (b_im, (arI G 11480 v_im)), (b_ke, (arZ G 2 v_ke))] (mw_mk b_rf b_ro b_im b_ke b_tp b_nl b_op b_ar b_pi b_pa b_ws b_hw b_se b_re b_pt b_ip b_ah b_be b_me b_tr b_ld b_wn y0_o_th u_sa u_fr u_to u_so u_wo u_fa u_bd u_nc u_co u_le u_pd u_od y0_o_la y0_o_bk y0_o_va y0_o_su y0_o_ce y0_o_ho y0_o_wy y0_o_bt y0_o_ps y0_o_tg y0_o_sn u_ic u_wd u_st v_rf v_nl v_op v_ar v_pi v_pa v_ws v_hw y0_o_se y0_o_re y0_o_pt v_ip v_ah v_be v_me v_tr v_ld (h0) (h1) (h2) (h3) (h4) (h5) (h6) (j0_0) (j0_1) (j0_2) (j0_3) (j0_4) (j0_5) (j0_6) (h14) (h15) (h16) (h17) (j0_7) (h19) (h20) (h21) (h22)) hP hD hS
set_option maxHeartbeats 4000000 in
set_option maxRecDepth 100000 in
theorem sm_hang {p : Program} {l : Launch} {e : Env} {s : State} {m : MethodId} {below : List Frame} {meth : Method} {c : Code} {b Ls : Nat} {xs : Nat → Int32} {G : g5_G} {A : Nat → Prop} {Q : State → Prop} {H : Heap} {locs : List Loc} {ls : Array Slot} {cells slots : Nat} {w pl : va_W} {b_o : Nat} {v_ro : Nat → Int32} {v_im : Nat → Int32} {v_ke : Nat → Int32} {v_tp : Nat → Int32} {u_td : Int32} {u_fd : Int32} {v_wn : Nat → Int32} {u_id : Int32} {p_1 : Int32} (C : lwC p s m meth c b Ls xs G) (hA : ∀ q : Nat, s.heap.size ≤ q → A q) (hT : g5_S A s s.heap) (hS : va_S A s.heap H locs) (hsz : ls.size = 4) (hrm : cells + 4 ≤ 600000 ∧ slots + 429 ≤ 7302250) (hI : MW G b_o v_ro v_im v_ke v_tp u_td u_fd v_wn u_id w) (hP : va_P G.1 vwCl (w ++ pl) H) (hD : va_D A (w ++ pl)) (kk : ∀ (r : Int32) (w2 : va_W), MW G b_o v_ro v_im v_ke v_tp u_td u_fd v_wn u_id w2 → ∀ {H : Heap} {locs : List Loc}, va_P G.1 vwCl (w2 ++ pl) H → va_D A (w2 ++ pl) → va_S A s.heap H locs → W p l e room_1 s m #[Value.ref b] below meth c H locs cells slots Q (F0 m 1357 ls [.int r])) : W p l e room_1 s m #[Value.ref b] below meth c H locs cells slots Q (F0 m 1354 ls [.int p_1, .ref b_o]) := by
  obtain ⟨⟨hx, hb, hr, hml, hown, hts0, hX, hbl, hlocks, hgv⟩, hK, hN⟩ := C
  have hown : s.vm.findClass RL = some m.cls := hown
  have hts : ∀ w ∈ tblG, w.before #[Value.ref b] s = true := fun w h => hts0 w (List.mem_filter.mp h).1
  refine mw_elim hI (fun b_rf b_ro b_im b_ke b_tp b_nl b_op b_ar b_pi b_pa b_ws b_hw b_se b_re b_pt b_ip b_ah b_be b_me b_tr b_ld b_wn u_th u_sa u_fr u_to u_so u_wo u_fa u_bd u_nc u_co u_le u_pd u_od u_la u_bk u_va u_su u_ce u_ho u_wy u_bt u_ps u_tg u_sn u_ic u_wd u_st v_rf v_nl v_op v_ar v_pi v_pa v_ws v_hw v_se v_re v_pt v_ip v_ah v_be v_me v_tr v_ld hw9 h0 h1 h2 h3 h4 h5 h6 h7 h8 h9 h10 h11 h12 h13 h14 h15 h16 h17 h18 h19 h20 h21 h22 => ?_)
  subst hw9
  have hPX := hP.fst
  have hDX := hD.fst
  obtain ⟨hPc, hDc, hFc⟩ := g5_sub3 (wc := [(b_o, (oc12 u_th u_sa b_rf b_ro b_im b_ke u_fd b_tp u_td u_fr u_to u_so u_wo u_fa u_bd u_nc b_nl u_co b_op b_ar u_le b_pi b_pa u_pd u_od b_ws b_hw u_la b_se b_re u_bk u_va u_su u_ce u_ho u_wy u_bt u_ps b_pt u_tg u_sn b_ip u_ic b_ah b_be b_me u_wd b_tr b_ld u_st b_wn u_id)), (b_ro, (arI G 5740 v_ro)), (b_se, (arJ G 13 v_se)), (b_re, (arJ G 400 v_re)), (b_pt, (arI G 200 v_pt))]) hPX hDX hS hA [0, 2, 11, 12, 13] (by decide) rfl
  refine va_calli (va_runV (As := [.int p_1]) (rest := []) ⟨hx, hb, hml, hown, hts⟩ (n_hang l G b_o b_ro b_se b_re b_pt b_rf b_im b_ke b_tp b_nl b_op b_ar b_pi b_pa b_ws b_hw b_ip b_ah b_be b_me b_tr b_ld b_wn H.size u_th u_sa u_fd u_td u_fr u_to u_so u_fa u_bd u_nc u_co u_le u_pd u_od u_la u_bk u_ce u_ho u_wy u_bt u_ps u_tg u_sn u_ic u_wd u_id p_1 u_wo u_va u_su u_st v_ro v_se v_re v_pt h0 h1 h2 h3 h4 h5 h6 h7 h8 h9 h10 h11 h12 h13 h14 h15 h16 h18) (cwV 1 hts gV_L_162 rfl rfl rfl hv_X12_hang ⟨Nat.le_of_ble_eq_true rfl, Nat.le_of_ble_eq_true rfl⟩) (g5_preV hPc hK hDc hN hT hS hFc (ci := 12) (q0 := 0) rfl rfl) rfl rfl hsz rfl (lv_room (Nat.le_of_ble_eq_true rfl)) dL_law_1354 (show cells + 0 ≤ 600000 ∧ slots + 0 ≤ 7302250 from ⟨by omega, by omega⟩)) hS (fun q _ h => hFc q h) hFc (fun r u t H1 locs ht hvm hw hB hz1 hk1 hS => ?_)
  obtain ⟨hP1, hD1⟩ := hB
  rw [ht] at hP1
  obtain ⟨y0_o_r, y0_o_th, y0_o_la, y0_o_bk, y0_o_va, y0_o_su, y0_o_ce, y0_o_ho, y0_o_wy, y0_o_bt, y0_o_ps, y0_o_tg, y0_o_sn, y0_o_se, y0_o_re, y0_o_pt, j0_0, j0_1, j0_2, j0_3, j0_4, j0_5, j0_6, j0_7, hret, rfl⟩ := hw
  obtain ⟨hP, hD⟩ := va_joinQ (X := [(b_o, (oc12 u_th u_sa b_rf b_ro b_im b_ke u_fd b_tp u_td u_fr u_to u_so u_wo u_fa u_bd u_nc b_nl u_co b_op b_ar u_le b_pi b_pa u_pd u_od b_ws b_hw u_la b_se b_re u_bk u_va u_su u_ce u_ho u_wy u_bt u_ps b_pt u_tg u_sn b_ip u_ic b_ah b_be b_me u_wd b_tr b_ld u_st b_wn u_id)), (b_rf, (arI G 7 v_rf)), (b_ro, (arI G 5740 v_ro)), (b_tp, (arI G 400 v_tp)), (b_nl, (arI G 96 v_nl)), (b_op, (arI G 400 v_op)), (b_ar, (arI G 400 v_ar)), (b_pi, (arI G 400 v_pi)), (b_pa, (arI G 400 v_pa)), (b_ws, (arJ G 8 v_ws)), (b_hw, (arJ G 4 v_hw)), (b_se, (arJ G 13 v_se)), (b_re, (arJ G 400 v_re)), (b_pt, (arI G 200 v_pt)), (b_ip, (arZ G 1536 v_ip)), (b_ah, (arJ G 49152 v_ah)), (b_be, (arJ G 49152 v_be)), (b_me, (arI G 1536 v_me)), (b_tr, (arZ G 1536 v_tr)), (b_ld, (arZ G 1536 v_ld)), (b_wn, (arI G 24 v_wn)), (b_im, (arI G 11480 v_im)), (b_ke, (arZ G 2 v_ke))]) (wr := [(b_rf, (arI G 7 v_rf)), (b_tp, (arI G 400 v_tp)), (b_nl, (arI G 96 v_nl)), (b_op, (arI G 400 v_op)), (b_ar, (arI G 400 v_ar)), (b_pi, (arI G 400 v_pi)), (b_pa, (arI G 400 v_pa)), (b_ws, (arJ G 8 v_ws)), (b_hw, (arJ G 4 v_hw)), (b_ip, (arZ G 1536 v_ip)), (b_ah, (arJ G 49152 v_ah)), (b_be, (arJ G 49152 v_be)), (b_me, (arI G 1536 v_me)), (b_tr, (arZ G 1536 v_tr)), (b_ld, (arZ G 1536 v_ld)), (b_wn, (arI G 24 v_wn)), (b_im, (arI G 11480 v_im)), (b_ke, (arZ G 2 v_ke))]) (w1 := [(b_o, (oc12 y0_o_th u_sa b_rf b_ro b_im b_ke u_fd b_tp u_td u_fr u_to u_so u_wo u_fa u_bd u_nc b_nl u_co b_op b_ar u_le b_pi b_pa u_pd u_od b_ws b_hw y0_o_la b_se b_re y0_o_bk y0_o_va y0_o_su y0_o_ce y0_o_ho y0_o_wy y0_o_bt y0_o_ps b_pt y0_o_tg y0_o_sn b_ip u_ic b_ah b_be b_me u_wd b_tr b_ld u_st b_wn u_id)), (b_ro, (arI G 5740 v_ro)), (b_se, (arJ G 13 y0_o_se)), (b_re, (arJ G 400 y0_o_re)), (b_pt, (arI G 200 y0_o_pt))]) hP hD [0, 2, 11, 12, 13] [1, 3, 4, 5, 6, 7, 8, 9, 10, 14, 15, 16, 17, 18, 19, 20, 21, 22] rfl rfl (by decide +kernel) (by decide +kernel) hk1 hFc hP1 hD1
  have hP := va_P.part (cx := [(b_o, (oc12 y0_o_th u_sa b_rf b_ro b_im b_ke u_fd b_tp u_td u_fr u_to u_so u_wo u_fa u_bd u_nc b_nl u_co b_op b_ar u_le b_pi b_pa u_pd u_od b_ws b_hw y0_o_la b_se b_re y0_o_bk y0_o_va y0_o_su y0_o_ce y0_o_ho y0_o_wy y0_o_bt y0_o_ps b_pt y0_o_tg y0_o_sn b_ip u_ic b_ah b_be b_me u_wd b_tr b_ld u_st b_wn u_id)), (b_rf, (arI G 7 v_rf)), (b_ro, (arI G 5740 v_ro)), (b_tp, (arI G 400 v_tp)), (b_nl, (arI G 96 v_nl)), (b_op, (arI G 400 v_op)), (b_ar, (arI G 400 v_ar)), (b_pi, (arI G 400 v_pi)), (b_pa, (arI G 400 v_pa)), (b_ws, (arJ G 8 v_ws)), (b_hw, (arJ G 4 v_hw)), (b_se, (arJ G 13 y0_o_se)), (b_re, (arJ G 400 y0_o_re)), (b_pt, (arI G 200 y0_o_pt)), (b_ip, (arZ G 1536 v_ip)), (b_ah, (arJ G 49152 v_ah)), (b_be, (arJ G 49152 v_be)), (b_me, (arI G 1536 v_me)), (b_tr, (arZ G 1536 v_tr)), (b_ld, (arZ G 1536 v_ld)), (b_wn, (arI G 24 v_wn)), (b_im, (arI G 11480 v_im)), (b_ke, (arZ G 2 v_ke))]) hP [18, 0, 19, 1, 2, 3, 4, 5, 6, 7, 8, 20, 21, 22, 9, 10, 11, 12, 13, 14, 15, 16, 17] rfl
  have hD := va_D.part (cx := [(b_o, (oc12 y0_o_th u_sa b_rf b_ro b_im b_ke u_fd b_tp u_td u_fr u_to u_so u_wo u_fa u_bd u_nc b_nl u_co b_op b_ar u_le b_pi b_pa u_pd u_od b_ws b_hw y0_o_la b_se b_re y0_o_bk y0_o_va y0_o_su y0_o_ce y0_o_ho y0_o_wy y0_o_bt y0_o_ps b_pt y0_o_tg y0_o_sn b_ip u_ic b_ah b_be b_me u_wd b_tr b_ld u_st b_wn u_id)), (b_rf, (arI G 7 v_rf)), (b_ro, (arI G 5740 v_ro)), (b_tp, (arI G 400 v_tp)), (b_nl, (arI G 96 v_nl)), (b_op, (arI G 400 v_op)), (b_ar, (arI G 400 v_ar)), (b_pi, (arI G 400 v_pi)), (b_pa, (arI G 400 v_pa)), (b_ws, (arJ G 8 v_ws)), (b_hw, (arJ G 4 v_hw)), (b_se, (arJ G 13 y0_o_se)), (b_re, (arJ G 400 y0_o_re)), (b_pt, (arI G 200 y0_o_pt)), (b_ip, (arZ G 1536 v_ip)), (b_ah, (arJ G 49152 v_ah)), (b_be, (arJ G 49152 v_be)), (b_me, (arI G 1536 v_me)), (b_tr, (arZ G 1536 v_tr)), (b_ld, (arZ G 1536 v_ld)), (b_wn, (arI G 24 v_wn)), (b_im, (arI G 11480 v_im)), (b_ke, (arZ G 2 v_ke))]) hD [18, 0, 19, 1, 2, 3, 4, 5, 6, 7, 8, 20, 21, 22, 9, 10, 11, 12, 13, 14, 15, 16, 17] (by decide) rfl
  exact kk r [(b_o, (oc12 y0_o_th u_sa b_rf b_ro b_im b_ke u_fd b_tp u_td u_fr u_to u_so u_wo u_fa u_bd u_nc b_nl u_co b_op b_ar u_le b_pi b_pa u_pd u_od b_ws b_hw y0_o_la b_se b_re y0_o_bk y0_o_va y0_o_su y0_o_ce y0_o_ho y0_o_wy y0_o_bt y0_o_ps b_pt y0_o_tg y0_o_sn b_ip u_ic b_ah b_be b_me u_wd b_tr b_ld u_st b_wn u_id)), (b_rf, (arI G 7 v_rf)), (b_ro, (arI G 5740 v_ro)), (b_tp, (arI G 400 v_tp)), (b_nl, (arI G 96 v_nl)), (b_op, (arI G 400 v_op)), (b_ar, (arI G 400 v_ar)), (b_pi, (arI G 400 v_pi)), (b_pa, (arI G 400 v_pa)), (b_ws, (arJ G 8 v_ws)), (b_hw, (arJ G 4 v_hw)), (b_se, (arJ G 13 y0_o_se)), (b_re, (arJ G 400 y0_o_re)), (b_pt, (arI G 200 y0_o_pt)), (b_ip, (arZ G 1536 v_ip)), (b_ah, (arJ G 49152 v_ah)), (b_be, (arJ G 49152 v_be)), (b_me, (arI G 1536 v_me)), (b_tr, (arZ G 1536 v_tr)), (b_ld, (arZ G 1536 v_ld)), (b_wn, (arI G 24 v_wn)), (b_im, (arI G 11480 v_im)), (b_ke, (arZ G 2 v_ke))] (mw_mk b_rf b_ro b_im b_ke b_tp b_nl b_op b_ar b_pi b_pa b_ws b_hw b_se b_re b_pt b_ip b_ah b_be b_me b_tr b_ld b_wn y0_o_th u_sa u_fr u_to u_so u_wo u_fa u_bd u_nc u_co u_le u_pd u_od y0_o_la y0_o_bk y0_o_va y0_o_su y0_o_ce y0_o_ho y0_o_wy y0_o_bt y0_o_ps y0_o_tg y0_o_sn u_ic u_wd u_st v_rf v_nl v_op v_ar v_pi v_pa v_ws v_hw y0_o_se y0_o_re y0_o_pt v_ip v_ah v_be v_me v_tr v_ld (h0) (h1) (h2) (h3) (h4) (h5) (h6) (j0_0) (j0_1) (j0_2) (j0_3) (j0_4) (j0_5) (j0_6) (h14) (h15) (h16) (h17) (j0_7) (h19) (h20) (h21) (h22)) hP hD hS
set_option maxHeartbeats 4000000 in
set_option maxRecDepth 100000 in
theorem sm_soonest {p : Program} {l : Launch} {e : Env} {s : State} {m : MethodId} {below : List Frame} {meth : Method} {c : Code} {b Ls : Nat} {xs : Nat → Int32} {G : g5_G} {A : Nat → Prop} {Q : State → Prop} {H : Heap} {locs : List Loc} {ls : Array Slot} {cells slots : Nat} {w pl : va_W} {b_o : Nat} {v_ro : Nat → Int32} {v_im : Nat → Int32} {v_ke : Nat → Int32} {v_tp : Nat → Int32} {u_td : Int32} {u_fd : Int32} {v_wn : Nat → Int32} {u_id : Int32} {p_1 p_2 p_3 : Int32} (C : lwC p s m meth c b Ls xs G) (hA : ∀ q : Nat, s.heap.size ≤ q → A q) (hT : g5_S A s s.heap) (hS : va_S A s.heap H locs) (hsz : ls.size = 4) (hrm : cells + 4 ≤ 600000 ∧ slots + 429 ≤ 7302250) (hI : MW G b_o v_ro v_im v_ke v_tp u_td u_fd v_wn u_id w) (hP : va_P G.1 vwCl (w ++ pl) H) (hD : va_D A (w ++ pl)) (kk : ∀ (r : Int32) (w2 : va_W), MW G b_o v_ro v_im v_ke v_tp u_td u_fd v_wn u_id w2 → ∀ {H : Heap} {locs : List Loc}, va_P G.1 vwCl (w2 ++ pl) H → va_D A (w2 ++ pl) → va_S A s.heap H locs → W p l e room_1 s m #[Value.ref b] below meth c H locs cells slots Q (F0 m 1400 ls [.int r])) : W p l e room_1 s m #[Value.ref b] below meth c H locs cells slots Q (F0 m 1397 ls [.int p_3, .int p_2, .int p_1, .ref b_o]) := by
  obtain ⟨⟨hx, hb, hr, hml, hown, hts0, hX, hbl, hlocks, hgv⟩, hK, hN⟩ := C
  have hown : s.vm.findClass RL = some m.cls := hown
  have hts : ∀ w ∈ tblG, w.before #[Value.ref b] s = true := fun w h => hts0 w (List.mem_filter.mp h).1
  refine mw_elim hI (fun b_rf b_ro b_im b_ke b_tp b_nl b_op b_ar b_pi b_pa b_ws b_hw b_se b_re b_pt b_ip b_ah b_be b_me b_tr b_ld b_wn u_th u_sa u_fr u_to u_so u_wo u_fa u_bd u_nc u_co u_le u_pd u_od u_la u_bk u_va u_su u_ce u_ho u_wy u_bt u_ps u_tg u_sn u_ic u_wd u_st v_rf v_nl v_op v_ar v_pi v_pa v_ws v_hw v_se v_re v_pt v_ip v_ah v_be v_me v_tr v_ld hw9 h0 h1 h2 h3 h4 h5 h6 h7 h8 h9 h10 h11 h12 h13 h14 h15 h16 h17 h18 h19 h20 h21 h22 => ?_)
  subst hw9
  have hPX := hP.fst
  have hDX := hD.fst
  obtain ⟨hPc, hDc, hFc⟩ := g5_sub3 (wc := [(b_o, (oc12 u_th u_sa b_rf b_ro b_im b_ke u_fd b_tp u_td u_fr u_to u_so u_wo u_fa u_bd u_nc b_nl u_co b_op b_ar u_le b_pi b_pa u_pd u_od b_ws b_hw u_la b_se b_re u_bk u_va u_su u_ce u_ho u_wy u_bt u_ps b_pt u_tg u_sn b_ip u_ic b_ah b_be b_me u_wd b_tr b_ld u_st b_wn u_id)), (b_ro, (arI G 5740 v_ro)), (b_se, (arJ G 13 v_se)), (b_re, (arJ G 400 v_re)), (b_pt, (arI G 200 v_pt)), (b_tr, (arZ G 1536 v_tr)), (b_ld, (arZ G 1536 v_ld))]) hPX hDX hS hA [0, 2, 11, 12, 13, 18, 19] (by decide) rfl
  refine va_calli (va_runV (As := [.int p_1, .int p_2, .int p_3]) (rest := []) ⟨hx, hb, hml, hown, hts⟩ (n_soonest l G b_o b_ro b_se b_re b_pt b_tr b_ld b_rf b_im b_ke b_tp b_nl b_op b_ar b_pi b_pa b_ws b_hw b_ip b_ah b_be b_me b_wn H.size u_th u_sa u_fd u_td u_fr u_to u_so u_fa u_bd u_nc u_co u_le u_pd u_od u_la u_bk u_ce u_ho u_wy u_bt u_ps u_tg u_sn u_ic u_wd u_id p_1 p_2 p_3 u_wo u_va u_su u_st v_ro v_se v_re v_pt v_tr v_ld h0 h1 h2 h3 h4 h5 h6 h7 h8 h9 h10 h11 h12 h13 h14 h15 h16 h18) (cwV 3 hts gV_L_166 rfl rfl rfl hv_X12_soonest ⟨Nat.le_of_ble_eq_true rfl, Nat.le_of_ble_eq_true rfl⟩) (g5_preV hPc hK hDc hN hT hS hFc (ci := 12) (q0 := 0) rfl rfl) rfl rfl hsz rfl (lv_room (Nat.le_of_ble_eq_true rfl)) dL_law_1397 (show cells + 0 ≤ 600000 ∧ slots + 0 ≤ 7302250 from ⟨by omega, by omega⟩)) hS (fun q _ h => hFc q h) hFc (fun r u t H1 locs ht hvm hw hB hz1 hk1 hS => ?_)
  obtain ⟨hP1, hD1⟩ := hB
  rw [ht] at hP1
  obtain ⟨y0_o_r, y0_o_th, y0_o_la, y0_o_bk, y0_o_va, y0_o_su, y0_o_ce, y0_o_ho, y0_o_wy, y0_o_bt, y0_o_ps, y0_o_tg, y0_o_sn, y0_o_se, y0_o_re, y0_o_pt, y0_o_tr, y0_o_ld, j0_0, j0_1, j0_2, j0_3, j0_4, j0_5, j0_6, j0_7, hret, rfl⟩ := hw
  obtain ⟨hP, hD⟩ := va_joinQ (X := [(b_o, (oc12 u_th u_sa b_rf b_ro b_im b_ke u_fd b_tp u_td u_fr u_to u_so u_wo u_fa u_bd u_nc b_nl u_co b_op b_ar u_le b_pi b_pa u_pd u_od b_ws b_hw u_la b_se b_re u_bk u_va u_su u_ce u_ho u_wy u_bt u_ps b_pt u_tg u_sn b_ip u_ic b_ah b_be b_me u_wd b_tr b_ld u_st b_wn u_id)), (b_rf, (arI G 7 v_rf)), (b_ro, (arI G 5740 v_ro)), (b_tp, (arI G 400 v_tp)), (b_nl, (arI G 96 v_nl)), (b_op, (arI G 400 v_op)), (b_ar, (arI G 400 v_ar)), (b_pi, (arI G 400 v_pi)), (b_pa, (arI G 400 v_pa)), (b_ws, (arJ G 8 v_ws)), (b_hw, (arJ G 4 v_hw)), (b_se, (arJ G 13 v_se)), (b_re, (arJ G 400 v_re)), (b_pt, (arI G 200 v_pt)), (b_ip, (arZ G 1536 v_ip)), (b_ah, (arJ G 49152 v_ah)), (b_be, (arJ G 49152 v_be)), (b_me, (arI G 1536 v_me)), (b_tr, (arZ G 1536 v_tr)), (b_ld, (arZ G 1536 v_ld)), (b_wn, (arI G 24 v_wn)), (b_im, (arI G 11480 v_im)), (b_ke, (arZ G 2 v_ke))]) (wr := [(b_rf, (arI G 7 v_rf)), (b_tp, (arI G 400 v_tp)), (b_nl, (arI G 96 v_nl)), (b_op, (arI G 400 v_op)), (b_ar, (arI G 400 v_ar)), (b_pi, (arI G 400 v_pi)), (b_pa, (arI G 400 v_pa)), (b_ws, (arJ G 8 v_ws)), (b_hw, (arJ G 4 v_hw)), (b_ip, (arZ G 1536 v_ip)), (b_ah, (arJ G 49152 v_ah)), (b_be, (arJ G 49152 v_be)), (b_me, (arI G 1536 v_me)), (b_wn, (arI G 24 v_wn)), (b_im, (arI G 11480 v_im)), (b_ke, (arZ G 2 v_ke))]) (w1 := [(b_o, (oc12 y0_o_th u_sa b_rf b_ro b_im b_ke u_fd b_tp u_td u_fr u_to u_so u_wo u_fa u_bd u_nc b_nl u_co b_op b_ar u_le b_pi b_pa u_pd u_od b_ws b_hw y0_o_la b_se b_re y0_o_bk y0_o_va y0_o_su y0_o_ce y0_o_ho y0_o_wy y0_o_bt y0_o_ps b_pt y0_o_tg y0_o_sn b_ip u_ic b_ah b_be b_me u_wd b_tr b_ld u_st b_wn u_id)), (b_ro, (arI G 5740 v_ro)), (b_se, (arJ G 13 y0_o_se)), (b_re, (arJ G 400 y0_o_re)), (b_pt, (arI G 200 y0_o_pt)), (b_tr, (arZ G 1536 y0_o_tr)), (b_ld, (arZ G 1536 y0_o_ld))]) hP hD [0, 2, 11, 12, 13, 18, 19] [1, 3, 4, 5, 6, 7, 8, 9, 10, 14, 15, 16, 17, 20, 21, 22] rfl rfl (by decide +kernel) (by decide +kernel) hk1 hFc hP1 hD1
  have hP := va_P.part (cx := [(b_o, (oc12 y0_o_th u_sa b_rf b_ro b_im b_ke u_fd b_tp u_td u_fr u_to u_so u_wo u_fa u_bd u_nc b_nl u_co b_op b_ar u_le b_pi b_pa u_pd u_od b_ws b_hw y0_o_la b_se b_re y0_o_bk y0_o_va y0_o_su y0_o_ce y0_o_ho y0_o_wy y0_o_bt y0_o_ps b_pt y0_o_tg y0_o_sn b_ip u_ic b_ah b_be b_me u_wd b_tr b_ld u_st b_wn u_id)), (b_rf, (arI G 7 v_rf)), (b_ro, (arI G 5740 v_ro)), (b_tp, (arI G 400 v_tp)), (b_nl, (arI G 96 v_nl)), (b_op, (arI G 400 v_op)), (b_ar, (arI G 400 v_ar)), (b_pi, (arI G 400 v_pi)), (b_pa, (arI G 400 v_pa)), (b_ws, (arJ G 8 v_ws)), (b_hw, (arJ G 4 v_hw)), (b_se, (arJ G 13 y0_o_se)), (b_re, (arJ G 400 y0_o_re)), (b_pt, (arI G 200 y0_o_pt)), (b_ip, (arZ G 1536 v_ip)), (b_ah, (arJ G 49152 v_ah)), (b_be, (arJ G 49152 v_be)), (b_me, (arI G 1536 v_me)), (b_tr, (arZ G 1536 y0_o_tr)), (b_ld, (arZ G 1536 y0_o_ld)), (b_wn, (arI G 24 v_wn)), (b_im, (arI G 11480 v_im)), (b_ke, (arZ G 2 v_ke))]) hP [16, 0, 17, 1, 2, 3, 4, 5, 6, 7, 8, 18, 19, 20, 9, 10, 11, 12, 21, 22, 13, 14, 15] rfl
  have hD := va_D.part (cx := [(b_o, (oc12 y0_o_th u_sa b_rf b_ro b_im b_ke u_fd b_tp u_td u_fr u_to u_so u_wo u_fa u_bd u_nc b_nl u_co b_op b_ar u_le b_pi b_pa u_pd u_od b_ws b_hw y0_o_la b_se b_re y0_o_bk y0_o_va y0_o_su y0_o_ce y0_o_ho y0_o_wy y0_o_bt y0_o_ps b_pt y0_o_tg y0_o_sn b_ip u_ic b_ah b_be b_me u_wd b_tr b_ld u_st b_wn u_id)), (b_rf, (arI G 7 v_rf)), (b_ro, (arI G 5740 v_ro)), (b_tp, (arI G 400 v_tp)), (b_nl, (arI G 96 v_nl)), (b_op, (arI G 400 v_op)), (b_ar, (arI G 400 v_ar)), (b_pi, (arI G 400 v_pi)), (b_pa, (arI G 400 v_pa)), (b_ws, (arJ G 8 v_ws)), (b_hw, (arJ G 4 v_hw)), (b_se, (arJ G 13 y0_o_se)), (b_re, (arJ G 400 y0_o_re)), (b_pt, (arI G 200 y0_o_pt)), (b_ip, (arZ G 1536 v_ip)), (b_ah, (arJ G 49152 v_ah)), (b_be, (arJ G 49152 v_be)), (b_me, (arI G 1536 v_me)), (b_tr, (arZ G 1536 y0_o_tr)), (b_ld, (arZ G 1536 y0_o_ld)), (b_wn, (arI G 24 v_wn)), (b_im, (arI G 11480 v_im)), (b_ke, (arZ G 2 v_ke))]) hD [16, 0, 17, 1, 2, 3, 4, 5, 6, 7, 8, 18, 19, 20, 9, 10, 11, 12, 21, 22, 13, 14, 15] (by decide) rfl
  exact kk r [(b_o, (oc12 y0_o_th u_sa b_rf b_ro b_im b_ke u_fd b_tp u_td u_fr u_to u_so u_wo u_fa u_bd u_nc b_nl u_co b_op b_ar u_le b_pi b_pa u_pd u_od b_ws b_hw y0_o_la b_se b_re y0_o_bk y0_o_va y0_o_su y0_o_ce y0_o_ho y0_o_wy y0_o_bt y0_o_ps b_pt y0_o_tg y0_o_sn b_ip u_ic b_ah b_be b_me u_wd b_tr b_ld u_st b_wn u_id)), (b_rf, (arI G 7 v_rf)), (b_ro, (arI G 5740 v_ro)), (b_tp, (arI G 400 v_tp)), (b_nl, (arI G 96 v_nl)), (b_op, (arI G 400 v_op)), (b_ar, (arI G 400 v_ar)), (b_pi, (arI G 400 v_pi)), (b_pa, (arI G 400 v_pa)), (b_ws, (arJ G 8 v_ws)), (b_hw, (arJ G 4 v_hw)), (b_se, (arJ G 13 y0_o_se)), (b_re, (arJ G 400 y0_o_re)), (b_pt, (arI G 200 y0_o_pt)), (b_ip, (arZ G 1536 v_ip)), (b_ah, (arJ G 49152 v_ah)), (b_be, (arJ G 49152 v_be)), (b_me, (arI G 1536 v_me)), (b_tr, (arZ G 1536 y0_o_tr)), (b_ld, (arZ G 1536 y0_o_ld)), (b_wn, (arI G 24 v_wn)), (b_im, (arI G 11480 v_im)), (b_ke, (arZ G 2 v_ke))] (mw_mk b_rf b_ro b_im b_ke b_tp b_nl b_op b_ar b_pi b_pa b_ws b_hw b_se b_re b_pt b_ip b_ah b_be b_me b_tr b_ld b_wn y0_o_th u_sa u_fr u_to u_so u_wo u_fa u_bd u_nc u_co u_le u_pd u_od y0_o_la y0_o_bk y0_o_va y0_o_su y0_o_ce y0_o_ho y0_o_wy y0_o_bt y0_o_ps y0_o_tg y0_o_sn u_ic u_wd u_st v_rf v_nl v_op v_ar v_pi v_pa v_ws v_hw y0_o_se y0_o_re y0_o_pt v_ip v_ah v_be v_me y0_o_tr y0_o_ld (h0) (h1) (h2) (h3) (h4) (h5) (h6) (j0_0) (j0_1) (j0_2) (j0_3) (j0_4) (j0_5) (j0_6) (h14) (h15) (h16) (h17) (j0_7) (h19) (h20) (h21) (h22)) hP hD hS
set_option maxHeartbeats 4000000 in
set_option maxRecDepth 100000 in
theorem sm_way {p : Program} {l : Launch} {e : Env} {s : State} {m : MethodId} {below : List Frame} {meth : Method} {c : Code} {b Ls : Nat} {xs : Nat → Int32} {G : g5_G} {A : Nat → Prop} {Q : State → Prop} {H : Heap} {locs : List Loc} {ls : Array Slot} {cells slots : Nat} {w pl : va_W} {b_o : Nat} {v_ro : Nat → Int32} {v_im : Nat → Int32} {v_ke : Nat → Int32} {v_tp : Nat → Int32} {u_td : Int32} {u_fd : Int32} {v_wn : Nat → Int32} {u_id : Int32} {p_1 p_2 p_3 p_4 : Int32} (C : lwC p s m meth c b Ls xs G) (hA : ∀ q : Nat, s.heap.size ≤ q → A q) (hT : g5_S A s s.heap) (hS : va_S A s.heap H locs) (hsz : ls.size = 4) (hrm : cells + 4 ≤ 600000 ∧ slots + 429 ≤ 7302250) (hI : MW G b_o v_ro v_im v_ke v_tp u_td u_fd v_wn u_id w) (hP : va_P G.1 vwCl (w ++ pl) H) (hD : va_D A (w ++ pl)) (kk : ∀ (r : Int32) (w2 : va_W), MW G b_o v_ro v_im v_ke v_tp u_td u_fd v_wn u_id w2 → ∀ {H : Heap} {locs : List Loc}, va_P G.1 vwCl (w2 ++ pl) H → va_D A (w2 ++ pl) → va_S A s.heap H locs → W p l e room_1 s m #[Value.ref b] below meth c H locs cells slots Q (F0 m 1453 ls [.int r])) : W p l e room_1 s m #[Value.ref b] below meth c H locs cells slots Q (F0 m 1450 ls [.int p_4, .int p_3, .int p_2, .int p_1, .ref b_o]) := by
  obtain ⟨⟨hx, hb, hr, hml, hown, hts0, hX, hbl, hlocks, hgv⟩, hK, hN⟩ := C
  have hown : s.vm.findClass RL = some m.cls := hown
  have hts : ∀ w ∈ tblG, w.before #[Value.ref b] s = true := fun w h => hts0 w (List.mem_filter.mp h).1
  refine mw_elim hI (fun b_rf b_ro b_im b_ke b_tp b_nl b_op b_ar b_pi b_pa b_ws b_hw b_se b_re b_pt b_ip b_ah b_be b_me b_tr b_ld b_wn u_th u_sa u_fr u_to u_so u_wo u_fa u_bd u_nc u_co u_le u_pd u_od u_la u_bk u_va u_su u_ce u_ho u_wy u_bt u_ps u_tg u_sn u_ic u_wd u_st v_rf v_nl v_op v_ar v_pi v_pa v_ws v_hw v_se v_re v_pt v_ip v_ah v_be v_me v_tr v_ld hw9 h0 h1 h2 h3 h4 h5 h6 h7 h8 h9 h10 h11 h12 h13 h14 h15 h16 h17 h18 h19 h20 h21 h22 => ?_)
  subst hw9
  have hPX := hP.fst
  have hDX := hD.fst
  obtain ⟨hPc, hDc, hFc⟩ := g5_sub3 (wc := [(b_o, (oc12 u_th u_sa b_rf b_ro b_im b_ke u_fd b_tp u_td u_fr u_to u_so u_wo u_fa u_bd u_nc b_nl u_co b_op b_ar u_le b_pi b_pa u_pd u_od b_ws b_hw u_la b_se b_re u_bk u_va u_su u_ce u_ho u_wy u_bt u_ps b_pt u_tg u_sn b_ip u_ic b_ah b_be b_me u_wd b_tr b_ld u_st b_wn u_id)), (b_ro, (arI G 5740 v_ro)), (b_se, (arJ G 13 v_se)), (b_re, (arJ G 400 v_re)), (b_pt, (arI G 200 v_pt)), (b_tr, (arZ G 1536 v_tr)), (b_ld, (arZ G 1536 v_ld))]) hPX hDX hS hA [0, 2, 11, 12, 13, 18, 19] (by decide) rfl
  refine va_calli (va_runV (As := [.int p_1, .int p_2, .int p_3, .int p_4]) (rest := []) ⟨hx, hb, hml, hown, hts⟩ (n_way l G b_o b_ro b_se b_re b_pt b_tr b_ld b_rf b_im b_ke b_tp b_nl b_op b_ar b_pi b_pa b_ws b_hw b_ip b_ah b_be b_me b_wn H.size u_th u_sa u_fd u_td u_fr u_to u_so u_fa u_bd u_nc u_co u_le u_pd u_od u_la u_bk u_ce u_ho u_wy u_bt u_ps u_tg u_sn u_ic u_wd u_id p_1 p_2 p_3 p_4 u_wo u_va u_su u_st v_ro v_se v_re v_pt v_tr v_ld h0 h1 h2 h3 h4 h5 h6 h7 h8 h9 h10 h11 h12 h13 h14 h15 h16 h18) (cwV 4 hts gV_L_170 rfl rfl rfl hv_X12_way ⟨Nat.le_of_ble_eq_true rfl, Nat.le_of_ble_eq_true rfl⟩) (g5_preV hPc hK hDc hN hT hS hFc (ci := 12) (q0 := 0) rfl rfl) rfl rfl hsz rfl (lv_room (Nat.le_of_ble_eq_true rfl)) dL_law_1450 (show cells + 0 ≤ 600000 ∧ slots + 0 ≤ 7302250 from ⟨by omega, by omega⟩)) hS (fun q _ h => hFc q h) hFc (fun r u t H1 locs ht hvm hw hB hz1 hk1 hS => ?_)
  obtain ⟨hP1, hD1⟩ := hB
  rw [ht] at hP1
  obtain ⟨y0_o_r, y0_o_th, y0_o_la, y0_o_bk, y0_o_va, y0_o_su, y0_o_ce, y0_o_ho, y0_o_wy, y0_o_bt, y0_o_ps, y0_o_tg, y0_o_sn, y0_o_se, y0_o_re, y0_o_pt, y0_o_tr, y0_o_ld, j0_0, j0_1, j0_2, j0_3, j0_4, j0_5, j0_6, j0_7, hret, rfl⟩ := hw
  obtain ⟨hP, hD⟩ := va_joinQ (X := [(b_o, (oc12 u_th u_sa b_rf b_ro b_im b_ke u_fd b_tp u_td u_fr u_to u_so u_wo u_fa u_bd u_nc b_nl u_co b_op b_ar u_le b_pi b_pa u_pd u_od b_ws b_hw u_la b_se b_re u_bk u_va u_su u_ce u_ho u_wy u_bt u_ps b_pt u_tg u_sn b_ip u_ic b_ah b_be b_me u_wd b_tr b_ld u_st b_wn u_id)), (b_rf, (arI G 7 v_rf)), (b_ro, (arI G 5740 v_ro)), (b_tp, (arI G 400 v_tp)), (b_nl, (arI G 96 v_nl)), (b_op, (arI G 400 v_op)), (b_ar, (arI G 400 v_ar)), (b_pi, (arI G 400 v_pi)), (b_pa, (arI G 400 v_pa)), (b_ws, (arJ G 8 v_ws)), (b_hw, (arJ G 4 v_hw)), (b_se, (arJ G 13 v_se)), (b_re, (arJ G 400 v_re)), (b_pt, (arI G 200 v_pt)), (b_ip, (arZ G 1536 v_ip)), (b_ah, (arJ G 49152 v_ah)), (b_be, (arJ G 49152 v_be)), (b_me, (arI G 1536 v_me)), (b_tr, (arZ G 1536 v_tr)), (b_ld, (arZ G 1536 v_ld)), (b_wn, (arI G 24 v_wn)), (b_im, (arI G 11480 v_im)), (b_ke, (arZ G 2 v_ke))]) (wr := [(b_rf, (arI G 7 v_rf)), (b_tp, (arI G 400 v_tp)), (b_nl, (arI G 96 v_nl)), (b_op, (arI G 400 v_op)), (b_ar, (arI G 400 v_ar)), (b_pi, (arI G 400 v_pi)), (b_pa, (arI G 400 v_pa)), (b_ws, (arJ G 8 v_ws)), (b_hw, (arJ G 4 v_hw)), (b_ip, (arZ G 1536 v_ip)), (b_ah, (arJ G 49152 v_ah)), (b_be, (arJ G 49152 v_be)), (b_me, (arI G 1536 v_me)), (b_wn, (arI G 24 v_wn)), (b_im, (arI G 11480 v_im)), (b_ke, (arZ G 2 v_ke))]) (w1 := [(b_o, (oc12 y0_o_th u_sa b_rf b_ro b_im b_ke u_fd b_tp u_td u_fr u_to u_so u_wo u_fa u_bd u_nc b_nl u_co b_op b_ar u_le b_pi b_pa u_pd u_od b_ws b_hw y0_o_la b_se b_re y0_o_bk y0_o_va y0_o_su y0_o_ce y0_o_ho y0_o_wy y0_o_bt y0_o_ps b_pt y0_o_tg y0_o_sn b_ip u_ic b_ah b_be b_me u_wd b_tr b_ld u_st b_wn u_id)), (b_ro, (arI G 5740 v_ro)), (b_se, (arJ G 13 y0_o_se)), (b_re, (arJ G 400 y0_o_re)), (b_pt, (arI G 200 y0_o_pt)), (b_tr, (arZ G 1536 y0_o_tr)), (b_ld, (arZ G 1536 y0_o_ld))]) hP hD [0, 2, 11, 12, 13, 18, 19] [1, 3, 4, 5, 6, 7, 8, 9, 10, 14, 15, 16, 17, 20, 21, 22] rfl rfl (by decide +kernel) (by decide +kernel) hk1 hFc hP1 hD1
  have hP := va_P.part (cx := [(b_o, (oc12 y0_o_th u_sa b_rf b_ro b_im b_ke u_fd b_tp u_td u_fr u_to u_so u_wo u_fa u_bd u_nc b_nl u_co b_op b_ar u_le b_pi b_pa u_pd u_od b_ws b_hw y0_o_la b_se b_re y0_o_bk y0_o_va y0_o_su y0_o_ce y0_o_ho y0_o_wy y0_o_bt y0_o_ps b_pt y0_o_tg y0_o_sn b_ip u_ic b_ah b_be b_me u_wd b_tr b_ld u_st b_wn u_id)), (b_rf, (arI G 7 v_rf)), (b_ro, (arI G 5740 v_ro)), (b_tp, (arI G 400 v_tp)), (b_nl, (arI G 96 v_nl)), (b_op, (arI G 400 v_op)), (b_ar, (arI G 400 v_ar)), (b_pi, (arI G 400 v_pi)), (b_pa, (arI G 400 v_pa)), (b_ws, (arJ G 8 v_ws)), (b_hw, (arJ G 4 v_hw)), (b_se, (arJ G 13 y0_o_se)), (b_re, (arJ G 400 y0_o_re)), (b_pt, (arI G 200 y0_o_pt)), (b_ip, (arZ G 1536 v_ip)), (b_ah, (arJ G 49152 v_ah)), (b_be, (arJ G 49152 v_be)), (b_me, (arI G 1536 v_me)), (b_tr, (arZ G 1536 y0_o_tr)), (b_ld, (arZ G 1536 y0_o_ld)), (b_wn, (arI G 24 v_wn)), (b_im, (arI G 11480 v_im)), (b_ke, (arZ G 2 v_ke))]) hP [16, 0, 17, 1, 2, 3, 4, 5, 6, 7, 8, 18, 19, 20, 9, 10, 11, 12, 21, 22, 13, 14, 15] rfl
  have hD := va_D.part (cx := [(b_o, (oc12 y0_o_th u_sa b_rf b_ro b_im b_ke u_fd b_tp u_td u_fr u_to u_so u_wo u_fa u_bd u_nc b_nl u_co b_op b_ar u_le b_pi b_pa u_pd u_od b_ws b_hw y0_o_la b_se b_re y0_o_bk y0_o_va y0_o_su y0_o_ce y0_o_ho y0_o_wy y0_o_bt y0_o_ps b_pt y0_o_tg y0_o_sn b_ip u_ic b_ah b_be b_me u_wd b_tr b_ld u_st b_wn u_id)), (b_rf, (arI G 7 v_rf)), (b_ro, (arI G 5740 v_ro)), (b_tp, (arI G 400 v_tp)), (b_nl, (arI G 96 v_nl)), (b_op, (arI G 400 v_op)), (b_ar, (arI G 400 v_ar)), (b_pi, (arI G 400 v_pi)), (b_pa, (arI G 400 v_pa)), (b_ws, (arJ G 8 v_ws)), (b_hw, (arJ G 4 v_hw)), (b_se, (arJ G 13 y0_o_se)), (b_re, (arJ G 400 y0_o_re)), (b_pt, (arI G 200 y0_o_pt)), (b_ip, (arZ G 1536 v_ip)), (b_ah, (arJ G 49152 v_ah)), (b_be, (arJ G 49152 v_be)), (b_me, (arI G 1536 v_me)), (b_tr, (arZ G 1536 y0_o_tr)), (b_ld, (arZ G 1536 y0_o_ld)), (b_wn, (arI G 24 v_wn)), (b_im, (arI G 11480 v_im)), (b_ke, (arZ G 2 v_ke))]) hD [16, 0, 17, 1, 2, 3, 4, 5, 6, 7, 8, 18, 19, 20, 9, 10, 11, 12, 21, 22, 13, 14, 15] (by decide) rfl
  exact kk r [(b_o, (oc12 y0_o_th u_sa b_rf b_ro b_im b_ke u_fd b_tp u_td u_fr u_to u_so u_wo u_fa u_bd u_nc b_nl u_co b_op b_ar u_le b_pi b_pa u_pd u_od b_ws b_hw y0_o_la b_se b_re y0_o_bk y0_o_va y0_o_su y0_o_ce y0_o_ho y0_o_wy y0_o_bt y0_o_ps b_pt y0_o_tg y0_o_sn b_ip u_ic b_ah b_be b_me u_wd b_tr b_ld u_st b_wn u_id)), (b_rf, (arI G 7 v_rf)), (b_ro, (arI G 5740 v_ro)), (b_tp, (arI G 400 v_tp)), (b_nl, (arI G 96 v_nl)), (b_op, (arI G 400 v_op)), (b_ar, (arI G 400 v_ar)), (b_pi, (arI G 400 v_pi)), (b_pa, (arI G 400 v_pa)), (b_ws, (arJ G 8 v_ws)), (b_hw, (arJ G 4 v_hw)), (b_se, (arJ G 13 y0_o_se)), (b_re, (arJ G 400 y0_o_re)), (b_pt, (arI G 200 y0_o_pt)), (b_ip, (arZ G 1536 v_ip)), (b_ah, (arJ G 49152 v_ah)), (b_be, (arJ G 49152 v_be)), (b_me, (arI G 1536 v_me)), (b_tr, (arZ G 1536 y0_o_tr)), (b_ld, (arZ G 1536 y0_o_ld)), (b_wn, (arI G 24 v_wn)), (b_im, (arI G 11480 v_im)), (b_ke, (arZ G 2 v_ke))] (mw_mk b_rf b_ro b_im b_ke b_tp b_nl b_op b_ar b_pi b_pa b_ws b_hw b_se b_re b_pt b_ip b_ah b_be b_me b_tr b_ld b_wn y0_o_th u_sa u_fr u_to u_so u_wo u_fa u_bd u_nc u_co u_le u_pd u_od y0_o_la y0_o_bk y0_o_va y0_o_su y0_o_ce y0_o_ho y0_o_wy y0_o_bt y0_o_ps y0_o_tg y0_o_sn u_ic u_wd u_st v_rf v_nl v_op v_ar v_pi v_pa v_ws v_hw y0_o_se y0_o_re y0_o_pt v_ip v_ah v_be v_me y0_o_tr y0_o_ld (h0) (h1) (h2) (h3) (h4) (h5) (h6) (j0_0) (j0_1) (j0_2) (j0_3) (j0_4) (j0_5) (j0_6) (h14) (h15) (h16) (h17) (j0_7) (h19) (h20) (h21) (h22)) hP hD hS
set_option maxHeartbeats 4000000 in
set_option maxRecDepth 100000 in
theorem sm_sooner {p : Program} {l : Launch} {e : Env} {s : State} {m : MethodId} {below : List Frame} {meth : Method} {c : Code} {b Ls : Nat} {xs : Nat → Int32} {G : g5_G} {A : Nat → Prop} {Q : State → Prop} {H : Heap} {locs : List Loc} {ls : Array Slot} {cells slots : Nat} {w pl : va_W} {b_o : Nat} {v_ro : Nat → Int32} {v_im : Nat → Int32} {v_ke : Nat → Int32} {v_tp : Nat → Int32} {u_td : Int32} {u_fd : Int32} {v_wn : Nat → Int32} {u_id : Int32} {p_1 p_2 p_3 p_4 : Int32} (C : lwC p s m meth c b Ls xs G) (hA : ∀ q : Nat, s.heap.size ≤ q → A q) (hT : g5_S A s s.heap) (hS : va_S A s.heap H locs) (hsz : ls.size = 4) (hrm : cells + 4 ≤ 600000 ∧ slots + 429 ≤ 7302250) (hI : MW G b_o v_ro v_im v_ke v_tp u_td u_fd v_wn u_id w) (hP : va_P G.1 vwCl (w ++ pl) H) (hD : va_D A (w ++ pl)) (kk : ∀ (r : Int32) (w2 : va_W), MW G b_o v_ro v_im v_ke v_tp u_td u_fd v_wn u_id w2 → ∀ {H : Heap} {locs : List Loc}, va_P G.1 vwCl (w2 ++ pl) H → va_D A (w2 ++ pl) → va_S A s.heap H locs → W p l e room_1 s m #[Value.ref b] below meth c H locs cells slots Q (F0 m 1506 ls [.int r])) : W p l e room_1 s m #[Value.ref b] below meth c H locs cells slots Q (F0 m 1503 ls [.int p_4, .int p_3, .int p_2, .int p_1, .ref b_o]) := by
  obtain ⟨⟨hx, hb, hr, hml, hown, hts0, hX, hbl, hlocks, hgv⟩, hK, hN⟩ := C
  have hown : s.vm.findClass RL = some m.cls := hown
  have hts : ∀ w ∈ tblG, w.before #[Value.ref b] s = true := fun w h => hts0 w (List.mem_filter.mp h).1
  refine mw_elim hI (fun b_rf b_ro b_im b_ke b_tp b_nl b_op b_ar b_pi b_pa b_ws b_hw b_se b_re b_pt b_ip b_ah b_be b_me b_tr b_ld b_wn u_th u_sa u_fr u_to u_so u_wo u_fa u_bd u_nc u_co u_le u_pd u_od u_la u_bk u_va u_su u_ce u_ho u_wy u_bt u_ps u_tg u_sn u_ic u_wd u_st v_rf v_nl v_op v_ar v_pi v_pa v_ws v_hw v_se v_re v_pt v_ip v_ah v_be v_me v_tr v_ld hw9 h0 h1 h2 h3 h4 h5 h6 h7 h8 h9 h10 h11 h12 h13 h14 h15 h16 h17 h18 h19 h20 h21 h22 => ?_)
  subst hw9
  have hPX := hP.fst
  have hDX := hD.fst
  obtain ⟨hPc, hDc, hFc⟩ := g5_sub3 (wc := [(b_o, (oc12 u_th u_sa b_rf b_ro b_im b_ke u_fd b_tp u_td u_fr u_to u_so u_wo u_fa u_bd u_nc b_nl u_co b_op b_ar u_le b_pi b_pa u_pd u_od b_ws b_hw u_la b_se b_re u_bk u_va u_su u_ce u_ho u_wy u_bt u_ps b_pt u_tg u_sn b_ip u_ic b_ah b_be b_me u_wd b_tr b_ld u_st b_wn u_id)), (b_ro, (arI G 5740 v_ro)), (b_se, (arJ G 13 v_se)), (b_re, (arJ G 400 v_re)), (b_pt, (arI G 200 v_pt)), (b_tr, (arZ G 1536 v_tr)), (b_ld, (arZ G 1536 v_ld))]) hPX hDX hS hA [0, 2, 11, 12, 13, 18, 19] (by decide) rfl
  refine va_calli (va_runV (As := [.int p_1, .int p_2, .int p_3, .int p_4]) (rest := []) ⟨hx, hb, hml, hown, hts⟩ (n_sooner l G b_o b_ro b_se b_re b_pt b_tr b_ld b_rf b_im b_ke b_tp b_nl b_op b_ar b_pi b_pa b_ws b_hw b_ip b_ah b_be b_me b_wn H.size u_th u_sa u_fd u_td u_fr u_to u_so u_fa u_bd u_nc u_co u_le u_pd u_od u_la u_bk u_ce u_ho u_wy u_bt u_ps u_tg u_sn u_ic u_wd u_id p_1 p_2 p_3 p_4 u_wo u_va u_su u_st v_ro v_se v_re v_pt v_tr v_ld h0 h1 h2 h3 h4 h5 h6 h7 h8 h9 h10 h11 h12 h13 h14 h15 h16 h18) (cwV 4 hts gV_L_174 rfl rfl rfl hv_X12_sooner ⟨Nat.le_of_ble_eq_true rfl, Nat.le_of_ble_eq_true rfl⟩) (g5_preV hPc hK hDc hN hT hS hFc (ci := 12) (q0 := 0) rfl rfl) rfl rfl hsz rfl (lv_room (Nat.le_of_ble_eq_true rfl)) dL_law_1503 (show cells + 0 ≤ 600000 ∧ slots + 0 ≤ 7302250 from ⟨by omega, by omega⟩)) hS (fun q _ h => hFc q h) hFc (fun r u t H1 locs ht hvm hw hB hz1 hk1 hS => ?_)
  obtain ⟨hP1, hD1⟩ := hB
  rw [ht] at hP1
  obtain ⟨y0_o_r, y0_o_th, y0_o_la, y0_o_bk, y0_o_va, y0_o_su, y0_o_ce, y0_o_ho, y0_o_wy, y0_o_bt, y0_o_ps, y0_o_tg, y0_o_sn, y0_o_ro, y0_o_se, y0_o_re, y0_o_pt, y0_o_tr, y0_o_ld, j0_0, j0_1, j0_2, j0_3, j0_4, j0_5, j0_6, j0_7, j0_8, j0_9, hret, rfl⟩ := hw
  obtain ⟨hP, hD⟩ := va_joinQ (X := [(b_o, (oc12 u_th u_sa b_rf b_ro b_im b_ke u_fd b_tp u_td u_fr u_to u_so u_wo u_fa u_bd u_nc b_nl u_co b_op b_ar u_le b_pi b_pa u_pd u_od b_ws b_hw u_la b_se b_re u_bk u_va u_su u_ce u_ho u_wy u_bt u_ps b_pt u_tg u_sn b_ip u_ic b_ah b_be b_me u_wd b_tr b_ld u_st b_wn u_id)), (b_rf, (arI G 7 v_rf)), (b_ro, (arI G 5740 v_ro)), (b_tp, (arI G 400 v_tp)), (b_nl, (arI G 96 v_nl)), (b_op, (arI G 400 v_op)), (b_ar, (arI G 400 v_ar)), (b_pi, (arI G 400 v_pi)), (b_pa, (arI G 400 v_pa)), (b_ws, (arJ G 8 v_ws)), (b_hw, (arJ G 4 v_hw)), (b_se, (arJ G 13 v_se)), (b_re, (arJ G 400 v_re)), (b_pt, (arI G 200 v_pt)), (b_ip, (arZ G 1536 v_ip)), (b_ah, (arJ G 49152 v_ah)), (b_be, (arJ G 49152 v_be)), (b_me, (arI G 1536 v_me)), (b_tr, (arZ G 1536 v_tr)), (b_ld, (arZ G 1536 v_ld)), (b_wn, (arI G 24 v_wn)), (b_im, (arI G 11480 v_im)), (b_ke, (arZ G 2 v_ke))]) (wr := [(b_rf, (arI G 7 v_rf)), (b_tp, (arI G 400 v_tp)), (b_nl, (arI G 96 v_nl)), (b_op, (arI G 400 v_op)), (b_ar, (arI G 400 v_ar)), (b_pi, (arI G 400 v_pi)), (b_pa, (arI G 400 v_pa)), (b_ws, (arJ G 8 v_ws)), (b_hw, (arJ G 4 v_hw)), (b_ip, (arZ G 1536 v_ip)), (b_ah, (arJ G 49152 v_ah)), (b_be, (arJ G 49152 v_be)), (b_me, (arI G 1536 v_me)), (b_wn, (arI G 24 v_wn)), (b_im, (arI G 11480 v_im)), (b_ke, (arZ G 2 v_ke))]) (w1 := [(b_o, (oc12 y0_o_th u_sa b_rf b_ro b_im b_ke u_fd b_tp u_td u_fr u_to u_so u_wo u_fa u_bd u_nc b_nl u_co b_op b_ar u_le b_pi b_pa u_pd u_od b_ws b_hw y0_o_la b_se b_re y0_o_bk y0_o_va y0_o_su y0_o_ce y0_o_ho y0_o_wy y0_o_bt y0_o_ps b_pt y0_o_tg y0_o_sn b_ip u_ic b_ah b_be b_me u_wd b_tr b_ld u_st b_wn u_id)), (b_ro, (arI G 5740 y0_o_ro)), (b_se, (arJ G 13 y0_o_se)), (b_re, (arJ G 400 y0_o_re)), (b_pt, (arI G 200 y0_o_pt)), (b_tr, (arZ G 1536 y0_o_tr)), (b_ld, (arZ G 1536 y0_o_ld))]) hP hD [0, 2, 11, 12, 13, 18, 19] [1, 3, 4, 5, 6, 7, 8, 9, 10, 14, 15, 16, 17, 20, 21, 22] rfl rfl (by decide +kernel) (by decide +kernel) hk1 hFc hP1 hD1
  have hP := va_P.part (cx := [(b_o, (oc12 y0_o_th u_sa b_rf b_ro b_im b_ke u_fd b_tp u_td u_fr u_to u_so u_wo u_fa u_bd u_nc b_nl u_co b_op b_ar u_le b_pi b_pa u_pd u_od b_ws b_hw y0_o_la b_se b_re y0_o_bk y0_o_va y0_o_su y0_o_ce y0_o_ho y0_o_wy y0_o_bt y0_o_ps b_pt y0_o_tg y0_o_sn b_ip u_ic b_ah b_be b_me u_wd b_tr b_ld u_st b_wn u_id)), (b_rf, (arI G 7 v_rf)), (b_ro, (arI G 5740 y0_o_ro)), (b_tp, (arI G 400 v_tp)), (b_nl, (arI G 96 v_nl)), (b_op, (arI G 400 v_op)), (b_ar, (arI G 400 v_ar)), (b_pi, (arI G 400 v_pi)), (b_pa, (arI G 400 v_pa)), (b_ws, (arJ G 8 v_ws)), (b_hw, (arJ G 4 v_hw)), (b_se, (arJ G 13 y0_o_se)), (b_re, (arJ G 400 y0_o_re)), (b_pt, (arI G 200 y0_o_pt)), (b_ip, (arZ G 1536 v_ip)), (b_ah, (arJ G 49152 v_ah)), (b_be, (arJ G 49152 v_be)), (b_me, (arI G 1536 v_me)), (b_tr, (arZ G 1536 y0_o_tr)), (b_ld, (arZ G 1536 y0_o_ld)), (b_wn, (arI G 24 v_wn)), (b_im, (arI G 11480 v_im)), (b_ke, (arZ G 2 v_ke))]) hP [16, 0, 17, 1, 2, 3, 4, 5, 6, 7, 8, 18, 19, 20, 9, 10, 11, 12, 21, 22, 13, 14, 15] rfl
  have hD := va_D.part (cx := [(b_o, (oc12 y0_o_th u_sa b_rf b_ro b_im b_ke u_fd b_tp u_td u_fr u_to u_so u_wo u_fa u_bd u_nc b_nl u_co b_op b_ar u_le b_pi b_pa u_pd u_od b_ws b_hw y0_o_la b_se b_re y0_o_bk y0_o_va y0_o_su y0_o_ce y0_o_ho y0_o_wy y0_o_bt y0_o_ps b_pt y0_o_tg y0_o_sn b_ip u_ic b_ah b_be b_me u_wd b_tr b_ld u_st b_wn u_id)), (b_rf, (arI G 7 v_rf)), (b_ro, (arI G 5740 y0_o_ro)), (b_tp, (arI G 400 v_tp)), (b_nl, (arI G 96 v_nl)), (b_op, (arI G 400 v_op)), (b_ar, (arI G 400 v_ar)), (b_pi, (arI G 400 v_pi)), (b_pa, (arI G 400 v_pa)), (b_ws, (arJ G 8 v_ws)), (b_hw, (arJ G 4 v_hw)), (b_se, (arJ G 13 y0_o_se)), (b_re, (arJ G 400 y0_o_re)), (b_pt, (arI G 200 y0_o_pt)), (b_ip, (arZ G 1536 v_ip)), (b_ah, (arJ G 49152 v_ah)), (b_be, (arJ G 49152 v_be)), (b_me, (arI G 1536 v_me)), (b_tr, (arZ G 1536 y0_o_tr)), (b_ld, (arZ G 1536 y0_o_ld)), (b_wn, (arI G 24 v_wn)), (b_im, (arI G 11480 v_im)), (b_ke, (arZ G 2 v_ke))]) hD [16, 0, 17, 1, 2, 3, 4, 5, 6, 7, 8, 18, 19, 20, 9, 10, 11, 12, 21, 22, 13, 14, 15] (by decide) rfl
  exact kk r [(b_o, (oc12 y0_o_th u_sa b_rf b_ro b_im b_ke u_fd b_tp u_td u_fr u_to u_so u_wo u_fa u_bd u_nc b_nl u_co b_op b_ar u_le b_pi b_pa u_pd u_od b_ws b_hw y0_o_la b_se b_re y0_o_bk y0_o_va y0_o_su y0_o_ce y0_o_ho y0_o_wy y0_o_bt y0_o_ps b_pt y0_o_tg y0_o_sn b_ip u_ic b_ah b_be b_me u_wd b_tr b_ld u_st b_wn u_id)), (b_rf, (arI G 7 v_rf)), (b_ro, (arI G 5740 y0_o_ro)), (b_tp, (arI G 400 v_tp)), (b_nl, (arI G 96 v_nl)), (b_op, (arI G 400 v_op)), (b_ar, (arI G 400 v_ar)), (b_pi, (arI G 400 v_pi)), (b_pa, (arI G 400 v_pa)), (b_ws, (arJ G 8 v_ws)), (b_hw, (arJ G 4 v_hw)), (b_se, (arJ G 13 y0_o_se)), (b_re, (arJ G 400 y0_o_re)), (b_pt, (arI G 200 y0_o_pt)), (b_ip, (arZ G 1536 v_ip)), (b_ah, (arJ G 49152 v_ah)), (b_be, (arJ G 49152 v_be)), (b_me, (arI G 1536 v_me)), (b_tr, (arZ G 1536 y0_o_tr)), (b_ld, (arZ G 1536 y0_o_ld)), (b_wn, (arI G 24 v_wn)), (b_im, (arI G 11480 v_im)), (b_ke, (arZ G 2 v_ke))] (mw_cast j0_9 rfl rfl rfl rfl rfl rfl rfl (mw_mk b_rf b_ro b_im b_ke b_tp b_nl b_op b_ar b_pi b_pa b_ws b_hw b_se b_re b_pt b_ip b_ah b_be b_me b_tr b_ld b_wn y0_o_th u_sa u_fr u_to u_so u_wo u_fa u_bd u_nc u_co u_le u_pd u_od y0_o_la y0_o_bk y0_o_va y0_o_su y0_o_ce y0_o_ho y0_o_wy y0_o_bt y0_o_ps y0_o_tg y0_o_sn u_ic u_wd u_st v_rf v_nl v_op v_ar v_pi v_pa v_ws v_hw y0_o_se y0_o_re y0_o_pt v_ip v_ah v_be v_me y0_o_tr y0_o_ld (h0) (h1) (h2) (h3) (h4) (h5) (h6) (j0_1) (j0_2) (j0_3) (j0_4) (j0_5) (j0_6) (j0_7) (h14) (h15) (j0_0) (h17) (j0_8) (h19) (h20) (h21) (h22))) hP hD hS
set_option maxHeartbeats 4000000 in
set_option maxRecDepth 100000 in
theorem sm_wander {p : Program} {l : Launch} {e : Env} {s : State} {m : MethodId} {below : List Frame} {meth : Method} {c : Code} {b Ls : Nat} {xs : Nat → Int32} {G : g5_G} {A : Nat → Prop} {Q : State → Prop} {H : Heap} {locs : List Loc} {ls : Array Slot} {cells slots : Nat} {w pl : va_W} {b_o : Nat} {v_ro : Nat → Int32} {v_im : Nat → Int32} {v_ke : Nat → Int32} {v_tp : Nat → Int32} {u_td : Int32} {u_fd : Int32} {v_wn : Nat → Int32} {u_id : Int32} {p_1 p_2 : Int32} (C : lwC p s m meth c b Ls xs G) (hA : ∀ q : Nat, s.heap.size ≤ q → A q) (hT : g5_S A s s.heap) (hS : va_S A s.heap H locs) (hsz : ls.size = 4) (hrm : cells + 4 ≤ 600000 ∧ slots + 429 ≤ 7302250) (hI : MW G b_o v_ro v_im v_ke v_tp u_td u_fd v_wn u_id w) (hP : va_P G.1 vwCl (w ++ pl) H) (hD : va_D A (w ++ pl)) (kk : ∀ (r : Int32) (w2 : va_W), MW G b_o v_ro v_im v_ke v_tp u_td u_fd (swand v_ro v_wn p_1 p_2) (swanf v_ro u_id p_1 p_2) w2 → ∀ {H : Heap} {locs : List Loc}, va_P G.1 vwCl (w2 ++ pl) H → va_D A (w2 ++ pl) → va_S A s.heap H locs → W p l e room_1 s m #[Value.ref b] below meth c H locs cells slots Q (F0 m 1539 ls [.int r])) : W p l e room_1 s m #[Value.ref b] below meth c H locs cells slots Q (F0 m 1536 ls [.int p_2, .int p_1, .ref b_o]) := by
  obtain ⟨⟨hx, hb, hr, hml, hown, hts0, hX, hbl, hlocks, hgv⟩, hK, hN⟩ := C
  have hown : s.vm.findClass RL = some m.cls := hown
  have hts : ∀ w ∈ tblG, w.before #[Value.ref b] s = true := fun w h => hts0 w (List.mem_filter.mp h).1
  refine mw_elim hI (fun b_rf b_ro b_im b_ke b_tp b_nl b_op b_ar b_pi b_pa b_ws b_hw b_se b_re b_pt b_ip b_ah b_be b_me b_tr b_ld b_wn u_th u_sa u_fr u_to u_so u_wo u_fa u_bd u_nc u_co u_le u_pd u_od u_la u_bk u_va u_su u_ce u_ho u_wy u_bt u_ps u_tg u_sn u_ic u_wd u_st v_rf v_nl v_op v_ar v_pi v_pa v_ws v_hw v_se v_re v_pt v_ip v_ah v_be v_me v_tr v_ld hw9 h0 h1 h2 h3 h4 h5 h6 h7 h8 h9 h10 h11 h12 h13 h14 h15 h16 h17 h18 h19 h20 h21 h22 => ?_)
  subst hw9
  have hPX := hP.fst
  have hDX := hD.fst
  obtain ⟨hPc, hDc, hFc⟩ := g5_sub3 (wc := [(b_o, (oc12 u_th u_sa b_rf b_ro b_im b_ke u_fd b_tp u_td u_fr u_to u_so u_wo u_fa u_bd u_nc b_nl u_co b_op b_ar u_le b_pi b_pa u_pd u_od b_ws b_hw u_la b_se b_re u_bk u_va u_su u_ce u_ho u_wy u_bt u_ps b_pt u_tg u_sn b_ip u_ic b_ah b_be b_me u_wd b_tr b_ld u_st b_wn u_id)), (b_rf, (arI G 7 v_rf)), (b_ro, (arI G 5740 v_ro)), (b_se, (arJ G 13 v_se)), (b_re, (arJ G 400 v_re)), (b_pt, (arI G 200 v_pt)), (b_ip, (arZ G 1536 v_ip)), (b_wn, (arI G 24 v_wn))]) hPX hDX hS hA [0, 1, 2, 11, 12, 13, 14, 20] (by decide) rfl
  refine va_calli (va_runV (As := [.int p_1, .int p_2]) (rest := []) ⟨hx, hb, hml, hown, hts⟩ (n_wanderE l G b_o b_rf b_ro b_se b_re b_pt b_ip b_wn b_im b_ke b_tp b_nl b_op b_ar b_pi b_pa b_ws b_hw b_ah b_be b_me b_tr b_ld H.size u_th u_sa u_fd u_td u_fr u_to u_so u_fa u_bd u_nc u_co u_le u_pd u_od u_la u_bk u_ce u_ho u_wy u_bt u_ps u_tg u_sn u_ic u_wd u_id p_1 p_2 u_wo u_va u_su u_st v_rf v_ro v_se v_re v_pt v_ip v_wn h0 h1 h2 h3 h4 h5 h6 h7 h8 h9 h10 h11 h12 h13 h14 h15 h16 h18 h20) (cwV 2 hts gV_L_178 rfl rfl rfl hv_X12_wander ⟨Nat.le_of_ble_eq_true rfl, Nat.le_of_ble_eq_true rfl⟩) (g5_preV hPc hK hDc hN hT hS hFc (ci := 12) (q0 := 0) rfl rfl) rfl rfl hsz rfl (lv_room (Nat.le_of_ble_eq_true rfl)) dL_law_1536 (show cells + 0 ≤ 600000 ∧ slots + 0 ≤ 7302250 from ⟨by omega, by omega⟩)) hS (fun q _ h => hFc q h) hFc (fun r u t H1 locs ht hvm hw hB hz1 hk1 hS => ?_)
  obtain ⟨hP1, hD1⟩ := hB
  rw [ht] at hP1
  obtain ⟨y0_o_r, y0_o_th, y0_o_sa, y0_o_la, y0_o_bk, y0_o_va, y0_o_su, y0_o_ce, y0_o_ho, y0_o_wy, y0_o_bt, y0_o_ps, y0_o_tg, y0_o_sn, y0_o_ic, y0_o_st, y0_o_id, y0_o_rf, y0_o_se, y0_o_re, y0_o_pt, y0_o_ip, y0_o_wn, j0_0, j0_1, j0_2, j0_3, j0_4, j0_5, j0_6, j0_7, j0_8, j0_9, j0_10, j0_11, j0_12, hret, rfl⟩ := hw
  obtain ⟨hP, hD⟩ := va_joinQ (X := [(b_o, (oc12 u_th u_sa b_rf b_ro b_im b_ke u_fd b_tp u_td u_fr u_to u_so u_wo u_fa u_bd u_nc b_nl u_co b_op b_ar u_le b_pi b_pa u_pd u_od b_ws b_hw u_la b_se b_re u_bk u_va u_su u_ce u_ho u_wy u_bt u_ps b_pt u_tg u_sn b_ip u_ic b_ah b_be b_me u_wd b_tr b_ld u_st b_wn u_id)), (b_rf, (arI G 7 v_rf)), (b_ro, (arI G 5740 v_ro)), (b_tp, (arI G 400 v_tp)), (b_nl, (arI G 96 v_nl)), (b_op, (arI G 400 v_op)), (b_ar, (arI G 400 v_ar)), (b_pi, (arI G 400 v_pi)), (b_pa, (arI G 400 v_pa)), (b_ws, (arJ G 8 v_ws)), (b_hw, (arJ G 4 v_hw)), (b_se, (arJ G 13 v_se)), (b_re, (arJ G 400 v_re)), (b_pt, (arI G 200 v_pt)), (b_ip, (arZ G 1536 v_ip)), (b_ah, (arJ G 49152 v_ah)), (b_be, (arJ G 49152 v_be)), (b_me, (arI G 1536 v_me)), (b_tr, (arZ G 1536 v_tr)), (b_ld, (arZ G 1536 v_ld)), (b_wn, (arI G 24 v_wn)), (b_im, (arI G 11480 v_im)), (b_ke, (arZ G 2 v_ke))]) (wr := [(b_tp, (arI G 400 v_tp)), (b_nl, (arI G 96 v_nl)), (b_op, (arI G 400 v_op)), (b_ar, (arI G 400 v_ar)), (b_pi, (arI G 400 v_pi)), (b_pa, (arI G 400 v_pa)), (b_ws, (arJ G 8 v_ws)), (b_hw, (arJ G 4 v_hw)), (b_ah, (arJ G 49152 v_ah)), (b_be, (arJ G 49152 v_be)), (b_me, (arI G 1536 v_me)), (b_tr, (arZ G 1536 v_tr)), (b_ld, (arZ G 1536 v_ld)), (b_im, (arI G 11480 v_im)), (b_ke, (arZ G 2 v_ke))]) (w1 := [(b_o, (oc12 y0_o_th y0_o_sa b_rf b_ro b_im b_ke u_fd b_tp u_td u_fr u_to u_so u_wo u_fa u_bd u_nc b_nl u_co b_op b_ar u_le b_pi b_pa u_pd u_od b_ws b_hw y0_o_la b_se b_re y0_o_bk y0_o_va y0_o_su y0_o_ce y0_o_ho y0_o_wy y0_o_bt y0_o_ps b_pt y0_o_tg y0_o_sn b_ip y0_o_ic b_ah b_be b_me u_wd b_tr b_ld y0_o_st b_wn y0_o_id)), (b_rf, (arI G 7 y0_o_rf)), (b_ro, (arI G 5740 v_ro)), (b_se, (arJ G 13 y0_o_se)), (b_re, (arJ G 400 y0_o_re)), (b_pt, (arI G 200 y0_o_pt)), (b_ip, (arZ G 1536 y0_o_ip)), (b_wn, (arI G 24 y0_o_wn))]) hP hD [0, 1, 2, 11, 12, 13, 14, 20] [3, 4, 5, 6, 7, 8, 9, 10, 15, 16, 17, 18, 19, 21, 22] rfl rfl (by decide +kernel) (by decide +kernel) hk1 hFc hP1 hD1
  have hP := va_P.part (cx := [(b_o, (oc12 y0_o_th y0_o_sa b_rf b_ro b_im b_ke u_fd b_tp u_td u_fr u_to u_so u_wo u_fa u_bd u_nc b_nl u_co b_op b_ar u_le b_pi b_pa u_pd u_od b_ws b_hw y0_o_la b_se b_re y0_o_bk y0_o_va y0_o_su y0_o_ce y0_o_ho y0_o_wy y0_o_bt y0_o_ps b_pt y0_o_tg y0_o_sn b_ip y0_o_ic b_ah b_be b_me u_wd b_tr b_ld y0_o_st b_wn y0_o_id)), (b_rf, (arI G 7 y0_o_rf)), (b_ro, (arI G 5740 v_ro)), (b_tp, (arI G 400 v_tp)), (b_nl, (arI G 96 v_nl)), (b_op, (arI G 400 v_op)), (b_ar, (arI G 400 v_ar)), (b_pi, (arI G 400 v_pi)), (b_pa, (arI G 400 v_pa)), (b_ws, (arJ G 8 v_ws)), (b_hw, (arJ G 4 v_hw)), (b_se, (arJ G 13 y0_o_se)), (b_re, (arJ G 400 y0_o_re)), (b_pt, (arI G 200 y0_o_pt)), (b_ip, (arZ G 1536 y0_o_ip)), (b_ah, (arJ G 49152 v_ah)), (b_be, (arJ G 49152 v_be)), (b_me, (arI G 1536 v_me)), (b_tr, (arZ G 1536 v_tr)), (b_ld, (arZ G 1536 v_ld)), (b_wn, (arI G 24 y0_o_wn)), (b_im, (arI G 11480 v_im)), (b_ke, (arZ G 2 v_ke))]) hP [15, 16, 17, 0, 1, 2, 3, 4, 5, 6, 7, 18, 19, 20, 21, 8, 9, 10, 11, 12, 22, 13, 14] rfl
  have hD := va_D.part (cx := [(b_o, (oc12 y0_o_th y0_o_sa b_rf b_ro b_im b_ke u_fd b_tp u_td u_fr u_to u_so u_wo u_fa u_bd u_nc b_nl u_co b_op b_ar u_le b_pi b_pa u_pd u_od b_ws b_hw y0_o_la b_se b_re y0_o_bk y0_o_va y0_o_su y0_o_ce y0_o_ho y0_o_wy y0_o_bt y0_o_ps b_pt y0_o_tg y0_o_sn b_ip y0_o_ic b_ah b_be b_me u_wd b_tr b_ld y0_o_st b_wn y0_o_id)), (b_rf, (arI G 7 y0_o_rf)), (b_ro, (arI G 5740 v_ro)), (b_tp, (arI G 400 v_tp)), (b_nl, (arI G 96 v_nl)), (b_op, (arI G 400 v_op)), (b_ar, (arI G 400 v_ar)), (b_pi, (arI G 400 v_pi)), (b_pa, (arI G 400 v_pa)), (b_ws, (arJ G 8 v_ws)), (b_hw, (arJ G 4 v_hw)), (b_se, (arJ G 13 y0_o_se)), (b_re, (arJ G 400 y0_o_re)), (b_pt, (arI G 200 y0_o_pt)), (b_ip, (arZ G 1536 y0_o_ip)), (b_ah, (arJ G 49152 v_ah)), (b_be, (arJ G 49152 v_be)), (b_me, (arI G 1536 v_me)), (b_tr, (arZ G 1536 v_tr)), (b_ld, (arZ G 1536 v_ld)), (b_wn, (arI G 24 y0_o_wn)), (b_im, (arI G 11480 v_im)), (b_ke, (arZ G 2 v_ke))]) hD [15, 16, 17, 0, 1, 2, 3, 4, 5, 6, 7, 18, 19, 20, 21, 8, 9, 10, 11, 12, 22, 13, 14] (by decide) rfl
  exact kk r [(b_o, (oc12 y0_o_th y0_o_sa b_rf b_ro b_im b_ke u_fd b_tp u_td u_fr u_to u_so u_wo u_fa u_bd u_nc b_nl u_co b_op b_ar u_le b_pi b_pa u_pd u_od b_ws b_hw y0_o_la b_se b_re y0_o_bk y0_o_va y0_o_su y0_o_ce y0_o_ho y0_o_wy y0_o_bt y0_o_ps b_pt y0_o_tg y0_o_sn b_ip y0_o_ic b_ah b_be b_me u_wd b_tr b_ld y0_o_st b_wn y0_o_id)), (b_rf, (arI G 7 y0_o_rf)), (b_ro, (arI G 5740 v_ro)), (b_tp, (arI G 400 v_tp)), (b_nl, (arI G 96 v_nl)), (b_op, (arI G 400 v_op)), (b_ar, (arI G 400 v_ar)), (b_pi, (arI G 400 v_pi)), (b_pa, (arI G 400 v_pa)), (b_ws, (arJ G 8 v_ws)), (b_hw, (arJ G 4 v_hw)), (b_se, (arJ G 13 y0_o_se)), (b_re, (arJ G 400 y0_o_re)), (b_pt, (arI G 200 y0_o_pt)), (b_ip, (arZ G 1536 y0_o_ip)), (b_ah, (arJ G 49152 v_ah)), (b_be, (arJ G 49152 v_be)), (b_me, (arI G 1536 v_me)), (b_tr, (arZ G 1536 v_tr)), (b_ld, (arZ G 1536 v_ld)), (b_wn, (arI G 24 y0_o_wn)), (b_im, (arI G 11480 v_im)), (b_ke, (arZ G 2 v_ke))] (mw_cast rfl rfl rfl rfl rfl rfl j0_11 j0_12 (mw_mk b_rf b_ro b_im b_ke b_tp b_nl b_op b_ar b_pi b_pa b_ws b_hw b_se b_re b_pt b_ip b_ah b_be b_me b_tr b_ld b_wn y0_o_th y0_o_sa u_fr u_to u_so u_wo u_fa u_bd u_nc u_co u_le u_pd u_od y0_o_la y0_o_bk y0_o_va y0_o_su y0_o_ce y0_o_ho y0_o_wy y0_o_bt y0_o_ps y0_o_tg y0_o_sn y0_o_ic u_wd y0_o_st y0_o_rf v_nl v_op v_ar v_pi v_pa v_ws v_hw y0_o_se y0_o_re y0_o_pt y0_o_ip v_ah v_be v_me v_tr v_ld (h0) (h1) (h2) (h3) (h4) (h5) (h6) (j0_0) (j0_1) (j0_2) (j0_3) (j0_4) (j0_5) (j0_6) (j0_8) (j0_10) (h16) (h17) (j0_7) (h19) (j0_9) (h21) (h22))) hP hD hS
set_option maxHeartbeats 4000000 in
set_option maxRecDepth 100000 in
theorem sm_drawn {p : Program} {l : Launch} {e : Env} {s : State} {m : MethodId} {below : List Frame} {meth : Method} {c : Code} {b Ls : Nat} {xs : Nat → Int32} {G : g5_G} {A : Nat → Prop} {Q : State → Prop} {H : Heap} {locs : List Loc} {ls : Array Slot} {cells slots : Nat} {w pl : va_W} {b_o : Nat} {v_ro : Nat → Int32} {v_im : Nat → Int32} {v_ke : Nat → Int32} {v_tp : Nat → Int32} {u_td : Int32} {u_fd : Int32} {v_wn : Nat → Int32} {u_id : Int32} {p_1 : Int32} (C : lwC p s m meth c b Ls xs G) (hA : ∀ q : Nat, s.heap.size ≤ q → A q) (hT : g5_S A s s.heap) (hS : va_S A s.heap H locs) (hsz : ls.size = 4) (hrm : cells + 4 ≤ 600000 ∧ slots + 429 ≤ 7302250) (hI : MW G b_o v_ro v_im v_ke v_tp u_td u_fd v_wn u_id w) (hP : va_P G.1 vwCl (w ++ pl) H) (hD : va_D A (w ++ pl)) (kk : ∀ (r : Int32) (w2 : va_W), MW G b_o v_ro v_im v_ke v_tp u_td u_fd v_wn u_id w2 → ∀ {H : Heap} {locs : List Loc}, va_P G.1 vwCl (w2 ++ pl) H → va_D A (w2 ++ pl) → va_S A s.heap H locs → W p l e room_1 s m #[Value.ref b] below meth c H locs cells slots Q (F0 m 1562 ls [.int r])) : W p l e room_1 s m #[Value.ref b] below meth c H locs cells slots Q (F0 m 1559 ls [.int p_1, .ref b_o]) := by
  obtain ⟨⟨hx, hb, hr, hml, hown, hts0, hX, hbl, hlocks, hgv⟩, hK, hN⟩ := C
  have hown : s.vm.findClass RL = some m.cls := hown
  have hts : ∀ w ∈ tblG, w.before #[Value.ref b] s = true := fun w h => hts0 w (List.mem_filter.mp h).1
  refine mw_elim hI (fun b_rf b_ro b_im b_ke b_tp b_nl b_op b_ar b_pi b_pa b_ws b_hw b_se b_re b_pt b_ip b_ah b_be b_me b_tr b_ld b_wn u_th u_sa u_fr u_to u_so u_wo u_fa u_bd u_nc u_co u_le u_pd u_od u_la u_bk u_va u_su u_ce u_ho u_wy u_bt u_ps u_tg u_sn u_ic u_wd u_st v_rf v_nl v_op v_ar v_pi v_pa v_ws v_hw v_se v_re v_pt v_ip v_ah v_be v_me v_tr v_ld hw9 h0 h1 h2 h3 h4 h5 h6 h7 h8 h9 h10 h11 h12 h13 h14 h15 h16 h17 h18 h19 h20 h21 h22 => ?_)
  subst hw9
  have hPX := hP.fst
  have hDX := hD.fst
  obtain ⟨hPc, hDc, hFc⟩ := g5_sub3 (wc := [(b_o, (oc12 u_th u_sa b_rf b_ro b_im b_ke u_fd b_tp u_td u_fr u_to u_so u_wo u_fa u_bd u_nc b_nl u_co b_op b_ar u_le b_pi b_pa u_pd u_od b_ws b_hw u_la b_se b_re u_bk u_va u_su u_ce u_ho u_wy u_bt u_ps b_pt u_tg u_sn b_ip u_ic b_ah b_be b_me u_wd b_tr b_ld u_st b_wn u_id)), (b_wn, (arI G 24 v_wn))]) hPX hDX hS hA [0, 20] (by decide) rfl
  refine va_calli (va_runV (As := [.int p_1]) (rest := []) ⟨hx, hb, hml, hown, hts⟩ (n_drawnE l G b_o b_wn b_rf b_ro b_im b_ke b_tp b_nl b_op b_ar b_pi b_pa b_ws b_hw b_se b_re b_pt b_ip b_ah b_be b_me b_tr b_ld H.size u_th u_sa u_fd u_td u_fr u_to u_so u_fa u_bd u_nc u_co u_le u_pd u_od u_la u_bk u_ce u_ho u_wy u_bt u_ps u_tg u_sn u_ic u_wd u_id p_1 u_wo u_va u_su u_st v_wn h0 h1 h2 h3 h4 h5 h6 h7 h8 h9 h10 h11 h12 h13 h14 h15 h20) (cwV 1 hts gV_L_182 rfl rfl rfl hv_X12_drawn ⟨Nat.le_of_ble_eq_true rfl, Nat.le_of_ble_eq_true rfl⟩) (g5_preV hPc hK hDc hN hT hS hFc (ci := 12) (q0 := 0) rfl rfl) rfl rfl hsz rfl (lv_room (Nat.le_of_ble_eq_true rfl)) dL_law_1559 (show cells + 0 ≤ 600000 ∧ slots + 0 ≤ 7302250 from ⟨by omega, by omega⟩)) hS (fun q _ h => hFc q h) hFc (fun r u t H1 locs ht hvm hw hB hz1 hk1 hS => ?_)
  obtain ⟨hP1, hD1⟩ := hB
  rw [ht] at hP1
  obtain ⟨y0_o_r, y0_o_th, j0_0, hret, rfl⟩ := hw
  obtain ⟨hP, hD⟩ := va_joinQ (X := [(b_o, (oc12 u_th u_sa b_rf b_ro b_im b_ke u_fd b_tp u_td u_fr u_to u_so u_wo u_fa u_bd u_nc b_nl u_co b_op b_ar u_le b_pi b_pa u_pd u_od b_ws b_hw u_la b_se b_re u_bk u_va u_su u_ce u_ho u_wy u_bt u_ps b_pt u_tg u_sn b_ip u_ic b_ah b_be b_me u_wd b_tr b_ld u_st b_wn u_id)), (b_rf, (arI G 7 v_rf)), (b_ro, (arI G 5740 v_ro)), (b_tp, (arI G 400 v_tp)), (b_nl, (arI G 96 v_nl)), (b_op, (arI G 400 v_op)), (b_ar, (arI G 400 v_ar)), (b_pi, (arI G 400 v_pi)), (b_pa, (arI G 400 v_pa)), (b_ws, (arJ G 8 v_ws)), (b_hw, (arJ G 4 v_hw)), (b_se, (arJ G 13 v_se)), (b_re, (arJ G 400 v_re)), (b_pt, (arI G 200 v_pt)), (b_ip, (arZ G 1536 v_ip)), (b_ah, (arJ G 49152 v_ah)), (b_be, (arJ G 49152 v_be)), (b_me, (arI G 1536 v_me)), (b_tr, (arZ G 1536 v_tr)), (b_ld, (arZ G 1536 v_ld)), (b_wn, (arI G 24 v_wn)), (b_im, (arI G 11480 v_im)), (b_ke, (arZ G 2 v_ke))]) (wr := [(b_rf, (arI G 7 v_rf)), (b_ro, (arI G 5740 v_ro)), (b_tp, (arI G 400 v_tp)), (b_nl, (arI G 96 v_nl)), (b_op, (arI G 400 v_op)), (b_ar, (arI G 400 v_ar)), (b_pi, (arI G 400 v_pi)), (b_pa, (arI G 400 v_pa)), (b_ws, (arJ G 8 v_ws)), (b_hw, (arJ G 4 v_hw)), (b_se, (arJ G 13 v_se)), (b_re, (arJ G 400 v_re)), (b_pt, (arI G 200 v_pt)), (b_ip, (arZ G 1536 v_ip)), (b_ah, (arJ G 49152 v_ah)), (b_be, (arJ G 49152 v_be)), (b_me, (arI G 1536 v_me)), (b_tr, (arZ G 1536 v_tr)), (b_ld, (arZ G 1536 v_ld)), (b_im, (arI G 11480 v_im)), (b_ke, (arZ G 2 v_ke))]) (w1 := [(b_o, (oc12 y0_o_th u_sa b_rf b_ro b_im b_ke u_fd b_tp u_td u_fr u_to u_so u_wo u_fa u_bd u_nc b_nl u_co b_op b_ar u_le b_pi b_pa u_pd u_od b_ws b_hw u_la b_se b_re u_bk u_va u_su u_ce u_ho u_wy u_bt u_ps b_pt u_tg u_sn b_ip u_ic b_ah b_be b_me u_wd b_tr b_ld u_st b_wn u_id)), (b_wn, (arI G 24 v_wn))]) hP hD [0, 20] [1, 2, 3, 4, 5, 6, 7, 8, 9, 10, 11, 12, 13, 14, 15, 16, 17, 18, 19, 21, 22] rfl rfl (by decide +kernel) (by decide +kernel) hk1 hFc hP1 hD1
  have hP := va_P.part (cx := [(b_o, (oc12 y0_o_th u_sa b_rf b_ro b_im b_ke u_fd b_tp u_td u_fr u_to u_so u_wo u_fa u_bd u_nc b_nl u_co b_op b_ar u_le b_pi b_pa u_pd u_od b_ws b_hw u_la b_se b_re u_bk u_va u_su u_ce u_ho u_wy u_bt u_ps b_pt u_tg u_sn b_ip u_ic b_ah b_be b_me u_wd b_tr b_ld u_st b_wn u_id)), (b_rf, (arI G 7 v_rf)), (b_ro, (arI G 5740 v_ro)), (b_tp, (arI G 400 v_tp)), (b_nl, (arI G 96 v_nl)), (b_op, (arI G 400 v_op)), (b_ar, (arI G 400 v_ar)), (b_pi, (arI G 400 v_pi)), (b_pa, (arI G 400 v_pa)), (b_ws, (arJ G 8 v_ws)), (b_hw, (arJ G 4 v_hw)), (b_se, (arJ G 13 v_se)), (b_re, (arJ G 400 v_re)), (b_pt, (arI G 200 v_pt)), (b_ip, (arZ G 1536 v_ip)), (b_ah, (arJ G 49152 v_ah)), (b_be, (arJ G 49152 v_be)), (b_me, (arI G 1536 v_me)), (b_tr, (arZ G 1536 v_tr)), (b_ld, (arZ G 1536 v_ld)), (b_wn, (arI G 24 v_wn)), (b_im, (arI G 11480 v_im)), (b_ke, (arZ G 2 v_ke))]) hP [21, 0, 1, 2, 3, 4, 5, 6, 7, 8, 9, 10, 11, 12, 13, 14, 15, 16, 17, 18, 22, 19, 20] rfl
  have hD := va_D.part (cx := [(b_o, (oc12 y0_o_th u_sa b_rf b_ro b_im b_ke u_fd b_tp u_td u_fr u_to u_so u_wo u_fa u_bd u_nc b_nl u_co b_op b_ar u_le b_pi b_pa u_pd u_od b_ws b_hw u_la b_se b_re u_bk u_va u_su u_ce u_ho u_wy u_bt u_ps b_pt u_tg u_sn b_ip u_ic b_ah b_be b_me u_wd b_tr b_ld u_st b_wn u_id)), (b_rf, (arI G 7 v_rf)), (b_ro, (arI G 5740 v_ro)), (b_tp, (arI G 400 v_tp)), (b_nl, (arI G 96 v_nl)), (b_op, (arI G 400 v_op)), (b_ar, (arI G 400 v_ar)), (b_pi, (arI G 400 v_pi)), (b_pa, (arI G 400 v_pa)), (b_ws, (arJ G 8 v_ws)), (b_hw, (arJ G 4 v_hw)), (b_se, (arJ G 13 v_se)), (b_re, (arJ G 400 v_re)), (b_pt, (arI G 200 v_pt)), (b_ip, (arZ G 1536 v_ip)), (b_ah, (arJ G 49152 v_ah)), (b_be, (arJ G 49152 v_be)), (b_me, (arI G 1536 v_me)), (b_tr, (arZ G 1536 v_tr)), (b_ld, (arZ G 1536 v_ld)), (b_wn, (arI G 24 v_wn)), (b_im, (arI G 11480 v_im)), (b_ke, (arZ G 2 v_ke))]) hD [21, 0, 1, 2, 3, 4, 5, 6, 7, 8, 9, 10, 11, 12, 13, 14, 15, 16, 17, 18, 22, 19, 20] (by decide) rfl
  exact kk r [(b_o, (oc12 y0_o_th u_sa b_rf b_ro b_im b_ke u_fd b_tp u_td u_fr u_to u_so u_wo u_fa u_bd u_nc b_nl u_co b_op b_ar u_le b_pi b_pa u_pd u_od b_ws b_hw u_la b_se b_re u_bk u_va u_su u_ce u_ho u_wy u_bt u_ps b_pt u_tg u_sn b_ip u_ic b_ah b_be b_me u_wd b_tr b_ld u_st b_wn u_id)), (b_rf, (arI G 7 v_rf)), (b_ro, (arI G 5740 v_ro)), (b_tp, (arI G 400 v_tp)), (b_nl, (arI G 96 v_nl)), (b_op, (arI G 400 v_op)), (b_ar, (arI G 400 v_ar)), (b_pi, (arI G 400 v_pi)), (b_pa, (arI G 400 v_pa)), (b_ws, (arJ G 8 v_ws)), (b_hw, (arJ G 4 v_hw)), (b_se, (arJ G 13 v_se)), (b_re, (arJ G 400 v_re)), (b_pt, (arI G 200 v_pt)), (b_ip, (arZ G 1536 v_ip)), (b_ah, (arJ G 49152 v_ah)), (b_be, (arJ G 49152 v_be)), (b_me, (arI G 1536 v_me)), (b_tr, (arZ G 1536 v_tr)), (b_ld, (arZ G 1536 v_ld)), (b_wn, (arI G 24 v_wn)), (b_im, (arI G 11480 v_im)), (b_ke, (arZ G 2 v_ke))] (mw_mk b_rf b_ro b_im b_ke b_tp b_nl b_op b_ar b_pi b_pa b_ws b_hw b_se b_re b_pt b_ip b_ah b_be b_me b_tr b_ld b_wn y0_o_th u_sa u_fr u_to u_so u_wo u_fa u_bd u_nc u_co u_le u_pd u_od u_la u_bk u_va u_su u_ce u_ho u_wy u_bt u_ps u_tg u_sn u_ic u_wd u_st v_rf v_nl v_op v_ar v_pi v_pa v_ws v_hw v_se v_re v_pt v_ip v_ah v_be v_me v_tr v_ld (h0) (h1) (h2) (h3) (h4) (h5) (h6) (h7) (h8) (h9) (h10) (h11) (h12) (h13) (h14) (h15) (h16) (h17) (h18) (h19) (h20) (h21) (h22)) hP hD hS
set_option maxHeartbeats 4000000 in
set_option maxRecDepth 100000 in
theorem sm_image {p : Program} {l : Launch} {e : Env} {s : State} {m : MethodId} {below : List Frame} {meth : Method} {c : Code} {b Ls : Nat} {xs : Nat → Int32} {G : g5_G} {A : Nat → Prop} {Q : State → Prop} {H : Heap} {locs : List Loc} {ls : Array Slot} {cells slots : Nat} {w pl : va_W} {b_o : Nat} {v_ro : Nat → Int32} {v_im : Nat → Int32} {v_ke : Nat → Int32} {v_tp : Nat → Int32} {u_td : Int32} {u_fd : Int32} {v_wn : Nat → Int32} {u_id : Int32} {p_1 r1 : Int32} (C : lwC p s m meth c b Ls xs G) (hA : ∀ q : Nat, s.heap.size ≤ q → A q) (hT : g5_S A s s.heap) (hS : va_S A s.heap H locs) (hsz : ls.size = 4) (hrm : cells + 4 ≤ 600000 ∧ slots + 429 ≤ 7302250) (hI : MW G b_o v_ro v_im v_ke v_tp u_td u_fd v_wn u_id w) (hP : va_P G.1 vwCl (w ++ pl) H) (hD : va_D A (w ++ pl)) (kk : ∀ (r : Int32) (w2 : va_W), MW G b_o v_ro (simg v_im v_ro p_1) (skep v_ke p_1) v_tp u_td u_fd v_wn u_id w2 → (r = aimg p_1) → ∀ {H : Heap} {locs : List Loc}, va_P G.1 vwCl (w2 ++ pl) H → va_D A (w2 ++ pl) → va_S A s.heap H locs → W p l e room_1 s m #[Value.ref b] below meth c H locs cells slots Q (F0 m 1584 ls [.int r, .int r1])) : W p l e room_1 s m #[Value.ref b] below meth c H locs cells slots Q (F0 m 1581 ls [.int p_1, .ref b_o, .int r1]) := by
  obtain ⟨⟨hx, hb, hr, hml, hown, hts0, hX, hbl, hlocks, hgv⟩, hK, hN⟩ := C
  have hown : s.vm.findClass RL = some m.cls := hown
  have hts : ∀ w ∈ tblG, w.before #[Value.ref b] s = true := fun w h => hts0 w (List.mem_filter.mp h).1
  refine mw_elim hI (fun b_rf b_ro b_im b_ke b_tp b_nl b_op b_ar b_pi b_pa b_ws b_hw b_se b_re b_pt b_ip b_ah b_be b_me b_tr b_ld b_wn u_th u_sa u_fr u_to u_so u_wo u_fa u_bd u_nc u_co u_le u_pd u_od u_la u_bk u_va u_su u_ce u_ho u_wy u_bt u_ps u_tg u_sn u_ic u_wd u_st v_rf v_nl v_op v_ar v_pi v_pa v_ws v_hw v_se v_re v_pt v_ip v_ah v_be v_me v_tr v_ld hw9 h0 h1 h2 h3 h4 h5 h6 h7 h8 h9 h10 h11 h12 h13 h14 h15 h16 h17 h18 h19 h20 h21 h22 => ?_)
  subst hw9
  have hPX := hP.fst
  have hDX := hD.fst
  obtain ⟨hPc, hDc, hFc⟩ := g5_sub3 (wc := [(b_o, (oc12 u_th u_sa b_rf b_ro b_im b_ke u_fd b_tp u_td u_fr u_to u_so u_wo u_fa u_bd u_nc b_nl u_co b_op b_ar u_le b_pi b_pa u_pd u_od b_ws b_hw u_la b_se b_re u_bk u_va u_su u_ce u_ho u_wy u_bt u_ps b_pt u_tg u_sn b_ip u_ic b_ah b_be b_me u_wd b_tr b_ld u_st b_wn u_id)), (b_rf, (arI G 7 v_rf)), (b_ro, (arI G 5740 v_ro)), (b_im, (arI G 11480 v_im)), (b_ke, (arZ G 2 v_ke))]) hPX hDX hS hA [0, 1, 2, 21, 22] (by decide) rfl
  refine va_calli (va_runV (As := [.int p_1]) (rest := [.int r1]) ⟨hx, hb, hml, hown, hts⟩ (n_imageE l G b_o b_rf b_ro b_im b_ke b_tp b_nl b_op b_ar b_pi b_pa b_ws b_hw b_se b_re b_pt b_ip b_ah b_be b_me b_tr b_ld b_wn H.size u_th u_sa u_fd u_td u_fr u_to u_so u_fa u_bd u_nc u_co u_le u_pd u_od u_la u_bk u_ce u_ho u_wy u_bt u_ps u_tg u_sn u_ic u_wd u_id p_1 u_wo u_va u_su u_st v_rf v_ro v_im v_ke h0 h1 h2 h3 h4 h5 h6 h7 h8 h9 h10 h11 h12 h13 h14 h15 h16 h21) (cwV 1 hts gV_L_186 rfl rfl rfl hv_X12_image ⟨Nat.le_of_ble_eq_true rfl, Nat.le_of_ble_eq_true rfl⟩) (g5_preV hPc hK hDc hN hT hS hFc (ci := 12) (q0 := 0) rfl rfl) rfl rfl hsz rfl (lv_room (Nat.le_of_ble_eq_true rfl)) dL_law_1581 (show cells + 0 ≤ 600000 ∧ slots + 0 ≤ 7302250 from ⟨by omega, by omega⟩)) hS (fun q _ h => hFc q h) hFc (fun r u t H1 locs ht hvm hw hB hz1 hk1 hS => ?_)
  obtain ⟨hP1, hD1⟩ := hB
  rw [ht] at hP1
  obtain ⟨y0_o_r, y0_o_th, y0_o_sa, y0_o_ic, y0_o_rf, y0_o_im, y0_o_ke, j0_0, j0_1, j0_2, j0_3, j0_4, hret, rfl⟩ := hw
  obtain ⟨hP, hD⟩ := va_joinQ (X := [(b_o, (oc12 u_th u_sa b_rf b_ro b_im b_ke u_fd b_tp u_td u_fr u_to u_so u_wo u_fa u_bd u_nc b_nl u_co b_op b_ar u_le b_pi b_pa u_pd u_od b_ws b_hw u_la b_se b_re u_bk u_va u_su u_ce u_ho u_wy u_bt u_ps b_pt u_tg u_sn b_ip u_ic b_ah b_be b_me u_wd b_tr b_ld u_st b_wn u_id)), (b_rf, (arI G 7 v_rf)), (b_ro, (arI G 5740 v_ro)), (b_tp, (arI G 400 v_tp)), (b_nl, (arI G 96 v_nl)), (b_op, (arI G 400 v_op)), (b_ar, (arI G 400 v_ar)), (b_pi, (arI G 400 v_pi)), (b_pa, (arI G 400 v_pa)), (b_ws, (arJ G 8 v_ws)), (b_hw, (arJ G 4 v_hw)), (b_se, (arJ G 13 v_se)), (b_re, (arJ G 400 v_re)), (b_pt, (arI G 200 v_pt)), (b_ip, (arZ G 1536 v_ip)), (b_ah, (arJ G 49152 v_ah)), (b_be, (arJ G 49152 v_be)), (b_me, (arI G 1536 v_me)), (b_tr, (arZ G 1536 v_tr)), (b_ld, (arZ G 1536 v_ld)), (b_wn, (arI G 24 v_wn)), (b_im, (arI G 11480 v_im)), (b_ke, (arZ G 2 v_ke))]) (wr := [(b_tp, (arI G 400 v_tp)), (b_nl, (arI G 96 v_nl)), (b_op, (arI G 400 v_op)), (b_ar, (arI G 400 v_ar)), (b_pi, (arI G 400 v_pi)), (b_pa, (arI G 400 v_pa)), (b_ws, (arJ G 8 v_ws)), (b_hw, (arJ G 4 v_hw)), (b_se, (arJ G 13 v_se)), (b_re, (arJ G 400 v_re)), (b_pt, (arI G 200 v_pt)), (b_ip, (arZ G 1536 v_ip)), (b_ah, (arJ G 49152 v_ah)), (b_be, (arJ G 49152 v_be)), (b_me, (arI G 1536 v_me)), (b_tr, (arZ G 1536 v_tr)), (b_ld, (arZ G 1536 v_ld)), (b_wn, (arI G 24 v_wn))]) (w1 := [(b_o, (oc12 y0_o_th y0_o_sa b_rf b_ro b_im b_ke u_fd b_tp u_td u_fr u_to u_so u_wo u_fa u_bd u_nc b_nl u_co b_op b_ar u_le b_pi b_pa u_pd u_od b_ws b_hw u_la b_se b_re u_bk u_va u_su u_ce u_ho u_wy u_bt u_ps b_pt u_tg u_sn b_ip y0_o_ic b_ah b_be b_me u_wd b_tr b_ld u_st b_wn u_id)), (b_rf, (arI G 7 y0_o_rf)), (b_ro, (arI G 5740 v_ro)), (b_im, (arI G 11480 y0_o_im)), (b_ke, (arZ G 2 y0_o_ke))]) hP hD [0, 1, 2, 21, 22] [3, 4, 5, 6, 7, 8, 9, 10, 11, 12, 13, 14, 15, 16, 17, 18, 19, 20] rfl rfl (by decide +kernel) (by decide +kernel) hk1 hFc hP1 hD1
  have hP := va_P.part (cx := [(b_o, (oc12 y0_o_th y0_o_sa b_rf b_ro b_im b_ke u_fd b_tp u_td u_fr u_to u_so u_wo u_fa u_bd u_nc b_nl u_co b_op b_ar u_le b_pi b_pa u_pd u_od b_ws b_hw u_la b_se b_re u_bk u_va u_su u_ce u_ho u_wy u_bt u_ps b_pt u_tg u_sn b_ip y0_o_ic b_ah b_be b_me u_wd b_tr b_ld u_st b_wn u_id)), (b_rf, (arI G 7 y0_o_rf)), (b_ro, (arI G 5740 v_ro)), (b_tp, (arI G 400 v_tp)), (b_nl, (arI G 96 v_nl)), (b_op, (arI G 400 v_op)), (b_ar, (arI G 400 v_ar)), (b_pi, (arI G 400 v_pi)), (b_pa, (arI G 400 v_pa)), (b_ws, (arJ G 8 v_ws)), (b_hw, (arJ G 4 v_hw)), (b_se, (arJ G 13 v_se)), (b_re, (arJ G 400 v_re)), (b_pt, (arI G 200 v_pt)), (b_ip, (arZ G 1536 v_ip)), (b_ah, (arJ G 49152 v_ah)), (b_be, (arJ G 49152 v_be)), (b_me, (arI G 1536 v_me)), (b_tr, (arZ G 1536 v_tr)), (b_ld, (arZ G 1536 v_ld)), (b_wn, (arI G 24 v_wn)), (b_im, (arI G 11480 y0_o_im)), (b_ke, (arZ G 2 y0_o_ke))]) hP [18, 19, 20, 0, 1, 2, 3, 4, 5, 6, 7, 8, 9, 10, 11, 12, 13, 14, 15, 16, 17, 21, 22] rfl
  have hD := va_D.part (cx := [(b_o, (oc12 y0_o_th y0_o_sa b_rf b_ro b_im b_ke u_fd b_tp u_td u_fr u_to u_so u_wo u_fa u_bd u_nc b_nl u_co b_op b_ar u_le b_pi b_pa u_pd u_od b_ws b_hw u_la b_se b_re u_bk u_va u_su u_ce u_ho u_wy u_bt u_ps b_pt u_tg u_sn b_ip y0_o_ic b_ah b_be b_me u_wd b_tr b_ld u_st b_wn u_id)), (b_rf, (arI G 7 y0_o_rf)), (b_ro, (arI G 5740 v_ro)), (b_tp, (arI G 400 v_tp)), (b_nl, (arI G 96 v_nl)), (b_op, (arI G 400 v_op)), (b_ar, (arI G 400 v_ar)), (b_pi, (arI G 400 v_pi)), (b_pa, (arI G 400 v_pa)), (b_ws, (arJ G 8 v_ws)), (b_hw, (arJ G 4 v_hw)), (b_se, (arJ G 13 v_se)), (b_re, (arJ G 400 v_re)), (b_pt, (arI G 200 v_pt)), (b_ip, (arZ G 1536 v_ip)), (b_ah, (arJ G 49152 v_ah)), (b_be, (arJ G 49152 v_be)), (b_me, (arI G 1536 v_me)), (b_tr, (arZ G 1536 v_tr)), (b_ld, (arZ G 1536 v_ld)), (b_wn, (arI G 24 v_wn)), (b_im, (arI G 11480 y0_o_im)), (b_ke, (arZ G 2 y0_o_ke))]) hD [18, 19, 20, 0, 1, 2, 3, 4, 5, 6, 7, 8, 9, 10, 11, 12, 13, 14, 15, 16, 17, 21, 22] (by decide) rfl
  exact kk r [(b_o, (oc12 y0_o_th y0_o_sa b_rf b_ro b_im b_ke u_fd b_tp u_td u_fr u_to u_so u_wo u_fa u_bd u_nc b_nl u_co b_op b_ar u_le b_pi b_pa u_pd u_od b_ws b_hw u_la b_se b_re u_bk u_va u_su u_ce u_ho u_wy u_bt u_ps b_pt u_tg u_sn b_ip y0_o_ic b_ah b_be b_me u_wd b_tr b_ld u_st b_wn u_id)), (b_rf, (arI G 7 y0_o_rf)), (b_ro, (arI G 5740 v_ro)), (b_tp, (arI G 400 v_tp)), (b_nl, (arI G 96 v_nl)), (b_op, (arI G 400 v_op)), (b_ar, (arI G 400 v_ar)), (b_pi, (arI G 400 v_pi)), (b_pa, (arI G 400 v_pa)), (b_ws, (arJ G 8 v_ws)), (b_hw, (arJ G 4 v_hw)), (b_se, (arJ G 13 v_se)), (b_re, (arJ G 400 v_re)), (b_pt, (arI G 200 v_pt)), (b_ip, (arZ G 1536 v_ip)), (b_ah, (arJ G 49152 v_ah)), (b_be, (arJ G 49152 v_be)), (b_me, (arI G 1536 v_me)), (b_tr, (arZ G 1536 v_tr)), (b_ld, (arZ G 1536 v_ld)), (b_wn, (arI G 24 v_wn)), (b_im, (arI G 11480 y0_o_im)), (b_ke, (arZ G 2 y0_o_ke))] (mw_cast rfl j0_3 j0_4 rfl rfl rfl rfl rfl (mw_mk b_rf b_ro b_im b_ke b_tp b_nl b_op b_ar b_pi b_pa b_ws b_hw b_se b_re b_pt b_ip b_ah b_be b_me b_tr b_ld b_wn y0_o_th y0_o_sa u_fr u_to u_so u_wo u_fa u_bd u_nc u_co u_le u_pd u_od u_la u_bk u_va u_su u_ce u_ho u_wy u_bt u_ps u_tg u_sn y0_o_ic u_wd u_st y0_o_rf v_nl v_op v_ar v_pi v_pa v_ws v_hw v_se v_re v_pt v_ip v_ah v_be v_me v_tr v_ld (h0) (h1) (h2) (h3) (h4) (h5) (h6) (h7) (h8) (h9) (h10) (h11) (h12) (h13) (j0_0) (h15) (h16) (h17) (h18) (h19) (h20) (j0_1) (h22))) (hret.trans j0_2) hP hD hS
set_option maxHeartbeats 4000000 in
set_option maxRecDepth 100000 in
theorem sm_back {p : Program} {l : Launch} {e : Env} {s : State} {m : MethodId} {below : List Frame} {meth : Method} {c : Code} {b Ls : Nat} {xs : Nat → Int32} {G : g5_G} {A : Nat → Prop} {Q : State → Prop} {H : Heap} {locs : List Loc} {ls : Array Slot} {cells slots : Nat} {w pl : va_W} {b_o : Nat} {v_ro : Nat → Int32} {v_im : Nat → Int32} {v_ke : Nat → Int32} {v_tp : Nat → Int32} {u_td : Int32} {u_fd : Int32} {v_wn : Nat → Int32} {u_id : Int32} {p_1 : Int32} (C : lwC p s m meth c b Ls xs G) (hA : ∀ q : Nat, s.heap.size ≤ q → A q) (hT : g5_S A s s.heap) (hS : va_S A s.heap H locs) (hsz : ls.size = 4) (hrm : cells + 4 ≤ 600000 ∧ slots + 429 ≤ 7302250) (hI : MW G b_o v_ro v_im v_ke v_tp u_td u_fd v_wn u_id w) (hP : va_P G.1 vwCl (w ++ pl) H) (hD : va_D A (w ++ pl)) (kk : ∀ (r : Int32) (g_ro : Nat → Int32) (_ : ∀ j : Nat, j < 340 → j ≠ 2 → j ≠ 3 → g_ro j = (sback v_ro v_im v_ke p_1) j) (w2 : va_W), MW G b_o g_ro v_im v_ke v_tp u_td u_fd v_wn u_id w2 → ∀ {H : Heap} {locs : List Loc}, va_P G.1 vwCl (w2 ++ pl) H → va_D A (w2 ++ pl) → va_S A s.heap H locs → W p l e room_1 s m #[Value.ref b] below meth c H locs cells slots Q (F0 m 1608 ls [.int r])) : W p l e room_1 s m #[Value.ref b] below meth c H locs cells slots Q (F0 m 1605 ls [.int p_1, .ref b_o]) := by
  obtain ⟨⟨hx, hb, hr, hml, hown, hts0, hX, hbl, hlocks, hgv⟩, hK, hN⟩ := C
  have hown : s.vm.findClass RL = some m.cls := hown
  have hts : ∀ w ∈ tblG, w.before #[Value.ref b] s = true := fun w h => hts0 w (List.mem_filter.mp h).1
  refine mw_elim hI (fun b_rf b_ro b_im b_ke b_tp b_nl b_op b_ar b_pi b_pa b_ws b_hw b_se b_re b_pt b_ip b_ah b_be b_me b_tr b_ld b_wn u_th u_sa u_fr u_to u_so u_wo u_fa u_bd u_nc u_co u_le u_pd u_od u_la u_bk u_va u_su u_ce u_ho u_wy u_bt u_ps u_tg u_sn u_ic u_wd u_st v_rf v_nl v_op v_ar v_pi v_pa v_ws v_hw v_se v_re v_pt v_ip v_ah v_be v_me v_tr v_ld hw9 h0 h1 h2 h3 h4 h5 h6 h7 h8 h9 h10 h11 h12 h13 h14 h15 h16 h17 h18 h19 h20 h21 h22 => ?_)
  subst hw9
  have hPX := hP.fst
  have hDX := hD.fst
  obtain ⟨hPc, hDc, hFc⟩ := g5_sub3 (wc := [(b_o, (oc12 u_th u_sa b_rf b_ro b_im b_ke u_fd b_tp u_td u_fr u_to u_so u_wo u_fa u_bd u_nc b_nl u_co b_op b_ar u_le b_pi b_pa u_pd u_od b_ws b_hw u_la b_se b_re u_bk u_va u_su u_ce u_ho u_wy u_bt u_ps b_pt u_tg u_sn b_ip u_ic b_ah b_be b_me u_wd b_tr b_ld u_st b_wn u_id)), (b_rf, (arI G 7 v_rf)), (b_ro, (arI G 5740 v_ro)), (b_im, (arI G 11480 v_im)), (b_ke, (arZ G 2 v_ke))]) hPX hDX hS hA [0, 1, 2, 21, 22] (by decide) rfl
  refine va_calli (va_runV (As := [.int p_1]) (rest := []) ⟨hx, hb, hml, hown, hts⟩ (n_backE l G b_o b_rf b_ro b_im b_ke b_tp b_nl b_op b_ar b_pi b_pa b_ws b_hw b_se b_re b_pt b_ip b_ah b_be b_me b_tr b_ld b_wn H.size u_th u_sa u_fd u_td u_fr u_to u_so u_fa u_bd u_nc u_co u_le u_pd u_od u_la u_bk u_ce u_ho u_wy u_bt u_ps u_tg u_sn u_ic u_wd u_id p_1 u_wo u_va u_su u_st v_rf v_ro v_im v_ke h0 h1 h2 h3 h4 h5 h6 h7 h8 h9 h10 h11 h12 h13 h14 h15 h16 h21) (cwV 1 hts gV_L_190 rfl rfl rfl hv_X12_back ⟨Nat.le_of_ble_eq_true rfl, Nat.le_of_ble_eq_true rfl⟩) (g5_preV hPc hK hDc hN hT hS hFc (ci := 12) (q0 := 0) rfl rfl) rfl rfl hsz rfl (lv_room (Nat.le_of_ble_eq_true rfl)) dL_law_1605 (show cells + 0 ≤ 600000 ∧ slots + 0 ≤ 7302250 from ⟨by omega, by omega⟩)) hS (fun q _ h => hFc q h) hFc (fun r u t H1 locs ht hvm hw hB hz1 hk1 hS => ?_)
  obtain ⟨hP1, hD1⟩ := hB
  rw [ht] at hP1
  obtain ⟨y0_o_r, y0_o_th, y0_o_sa, y0_o_ic, y0_o_rf, y0_o_ro, j0_0, j0_1, j0_2, j0_3, hret, rfl⟩ := hw
  obtain ⟨hP, hD⟩ := va_joinQ (X := [(b_o, (oc12 u_th u_sa b_rf b_ro b_im b_ke u_fd b_tp u_td u_fr u_to u_so u_wo u_fa u_bd u_nc b_nl u_co b_op b_ar u_le b_pi b_pa u_pd u_od b_ws b_hw u_la b_se b_re u_bk u_va u_su u_ce u_ho u_wy u_bt u_ps b_pt u_tg u_sn b_ip u_ic b_ah b_be b_me u_wd b_tr b_ld u_st b_wn u_id)), (b_rf, (arI G 7 v_rf)), (b_ro, (arI G 5740 v_ro)), (b_tp, (arI G 400 v_tp)), (b_nl, (arI G 96 v_nl)), (b_op, (arI G 400 v_op)), (b_ar, (arI G 400 v_ar)), (b_pi, (arI G 400 v_pi)), (b_pa, (arI G 400 v_pa)), (b_ws, (arJ G 8 v_ws)), (b_hw, (arJ G 4 v_hw)), (b_se, (arJ G 13 v_se)), (b_re, (arJ G 400 v_re)), (b_pt, (arI G 200 v_pt)), (b_ip, (arZ G 1536 v_ip)), (b_ah, (arJ G 49152 v_ah)), (b_be, (arJ G 49152 v_be)), (b_me, (arI G 1536 v_me)), (b_tr, (arZ G 1536 v_tr)), (b_ld, (arZ G 1536 v_ld)), (b_wn, (arI G 24 v_wn)), (b_im, (arI G 11480 v_im)), (b_ke, (arZ G 2 v_ke))]) (wr := [(b_tp, (arI G 400 v_tp)), (b_nl, (arI G 96 v_nl)), (b_op, (arI G 400 v_op)), (b_ar, (arI G 400 v_ar)), (b_pi, (arI G 400 v_pi)), (b_pa, (arI G 400 v_pa)), (b_ws, (arJ G 8 v_ws)), (b_hw, (arJ G 4 v_hw)), (b_se, (arJ G 13 v_se)), (b_re, (arJ G 400 v_re)), (b_pt, (arI G 200 v_pt)), (b_ip, (arZ G 1536 v_ip)), (b_ah, (arJ G 49152 v_ah)), (b_be, (arJ G 49152 v_be)), (b_me, (arI G 1536 v_me)), (b_tr, (arZ G 1536 v_tr)), (b_ld, (arZ G 1536 v_ld)), (b_wn, (arI G 24 v_wn))]) (w1 := [(b_o, (oc12 y0_o_th y0_o_sa b_rf b_ro b_im b_ke u_fd b_tp u_td u_fr u_to u_so u_wo u_fa u_bd u_nc b_nl u_co b_op b_ar u_le b_pi b_pa u_pd u_od b_ws b_hw u_la b_se b_re u_bk u_va u_su u_ce u_ho u_wy u_bt u_ps b_pt u_tg u_sn b_ip y0_o_ic b_ah b_be b_me u_wd b_tr b_ld u_st b_wn u_id)), (b_rf, (arI G 7 y0_o_rf)), (b_ro, (arI G 5740 y0_o_ro)), (b_im, (arI G 11480 v_im)), (b_ke, (arZ G 2 v_ke))]) hP hD [0, 1, 2, 21, 22] [3, 4, 5, 6, 7, 8, 9, 10, 11, 12, 13, 14, 15, 16, 17, 18, 19, 20] rfl rfl (by decide +kernel) (by decide +kernel) hk1 hFc hP1 hD1
  have hP := va_P.part (cx := [(b_o, (oc12 y0_o_th y0_o_sa b_rf b_ro b_im b_ke u_fd b_tp u_td u_fr u_to u_so u_wo u_fa u_bd u_nc b_nl u_co b_op b_ar u_le b_pi b_pa u_pd u_od b_ws b_hw u_la b_se b_re u_bk u_va u_su u_ce u_ho u_wy u_bt u_ps b_pt u_tg u_sn b_ip y0_o_ic b_ah b_be b_me u_wd b_tr b_ld u_st b_wn u_id)), (b_rf, (arI G 7 y0_o_rf)), (b_ro, (arI G 5740 y0_o_ro)), (b_tp, (arI G 400 v_tp)), (b_nl, (arI G 96 v_nl)), (b_op, (arI G 400 v_op)), (b_ar, (arI G 400 v_ar)), (b_pi, (arI G 400 v_pi)), (b_pa, (arI G 400 v_pa)), (b_ws, (arJ G 8 v_ws)), (b_hw, (arJ G 4 v_hw)), (b_se, (arJ G 13 v_se)), (b_re, (arJ G 400 v_re)), (b_pt, (arI G 200 v_pt)), (b_ip, (arZ G 1536 v_ip)), (b_ah, (arJ G 49152 v_ah)), (b_be, (arJ G 49152 v_be)), (b_me, (arI G 1536 v_me)), (b_tr, (arZ G 1536 v_tr)), (b_ld, (arZ G 1536 v_ld)), (b_wn, (arI G 24 v_wn)), (b_im, (arI G 11480 v_im)), (b_ke, (arZ G 2 v_ke))]) hP [18, 19, 20, 0, 1, 2, 3, 4, 5, 6, 7, 8, 9, 10, 11, 12, 13, 14, 15, 16, 17, 21, 22] rfl
  have hD := va_D.part (cx := [(b_o, (oc12 y0_o_th y0_o_sa b_rf b_ro b_im b_ke u_fd b_tp u_td u_fr u_to u_so u_wo u_fa u_bd u_nc b_nl u_co b_op b_ar u_le b_pi b_pa u_pd u_od b_ws b_hw u_la b_se b_re u_bk u_va u_su u_ce u_ho u_wy u_bt u_ps b_pt u_tg u_sn b_ip y0_o_ic b_ah b_be b_me u_wd b_tr b_ld u_st b_wn u_id)), (b_rf, (arI G 7 y0_o_rf)), (b_ro, (arI G 5740 y0_o_ro)), (b_tp, (arI G 400 v_tp)), (b_nl, (arI G 96 v_nl)), (b_op, (arI G 400 v_op)), (b_ar, (arI G 400 v_ar)), (b_pi, (arI G 400 v_pi)), (b_pa, (arI G 400 v_pa)), (b_ws, (arJ G 8 v_ws)), (b_hw, (arJ G 4 v_hw)), (b_se, (arJ G 13 v_se)), (b_re, (arJ G 400 v_re)), (b_pt, (arI G 200 v_pt)), (b_ip, (arZ G 1536 v_ip)), (b_ah, (arJ G 49152 v_ah)), (b_be, (arJ G 49152 v_be)), (b_me, (arI G 1536 v_me)), (b_tr, (arZ G 1536 v_tr)), (b_ld, (arZ G 1536 v_ld)), (b_wn, (arI G 24 v_wn)), (b_im, (arI G 11480 v_im)), (b_ke, (arZ G 2 v_ke))]) hD [18, 19, 20, 0, 1, 2, 3, 4, 5, 6, 7, 8, 9, 10, 11, 12, 13, 14, 15, 16, 17, 21, 22] (by decide) rfl
  exact kk r y0_o_ro (fun j h1 h2 h3 => j0_3 j h1) [(b_o, (oc12 y0_o_th y0_o_sa b_rf b_ro b_im b_ke u_fd b_tp u_td u_fr u_to u_so u_wo u_fa u_bd u_nc b_nl u_co b_op b_ar u_le b_pi b_pa u_pd u_od b_ws b_hw u_la b_se b_re u_bk u_va u_su u_ce u_ho u_wy u_bt u_ps b_pt u_tg u_sn b_ip y0_o_ic b_ah b_be b_me u_wd b_tr b_ld u_st b_wn u_id)), (b_rf, (arI G 7 y0_o_rf)), (b_ro, (arI G 5740 y0_o_ro)), (b_tp, (arI G 400 v_tp)), (b_nl, (arI G 96 v_nl)), (b_op, (arI G 400 v_op)), (b_ar, (arI G 400 v_ar)), (b_pi, (arI G 400 v_pi)), (b_pa, (arI G 400 v_pa)), (b_ws, (arJ G 8 v_ws)), (b_hw, (arJ G 4 v_hw)), (b_se, (arJ G 13 v_se)), (b_re, (arJ G 400 v_re)), (b_pt, (arI G 200 v_pt)), (b_ip, (arZ G 1536 v_ip)), (b_ah, (arJ G 49152 v_ah)), (b_be, (arJ G 49152 v_be)), (b_me, (arI G 1536 v_me)), (b_tr, (arZ G 1536 v_tr)), (b_ld, (arZ G 1536 v_ld)), (b_wn, (arI G 24 v_wn)), (b_im, (arI G 11480 v_im)), (b_ke, (arZ G 2 v_ke))] (mw_mk b_rf b_ro b_im b_ke b_tp b_nl b_op b_ar b_pi b_pa b_ws b_hw b_se b_re b_pt b_ip b_ah b_be b_me b_tr b_ld b_wn y0_o_th y0_o_sa u_fr u_to u_so u_wo u_fa u_bd u_nc u_co u_le u_pd u_od u_la u_bk u_va u_su u_ce u_ho u_wy u_bt u_ps u_tg u_sn y0_o_ic u_wd u_st y0_o_rf v_nl v_op v_ar v_pi v_pa v_ws v_hw v_se v_re v_pt v_ip v_ah v_be v_me v_tr v_ld (h0) (h1) (h2) (h3) (h4) (h5) (h6) (h7) (h8) (h9) (h10) (h11) (h12) (h13) (j0_0) (h15) (j0_1) (h17) (h18) (h19) (h20) (h21) (h22)) hP hD hS
set_option maxHeartbeats 4000000 in
set_option maxRecDepth 100000 in
theorem sm_count {p : Program} {l : Launch} {e : Env} {s : State} {m : MethodId} {below : List Frame} {meth : Method} {c : Code} {b Ls : Nat} {xs : Nat → Int32} {G : g5_G} {A : Nat → Prop} {Q : State → Prop} {H : Heap} {locs : List Loc} {ls : Array Slot} {cells slots : Nat} {w pl : va_W} {b_o : Nat} {v_ro : Nat → Int32} {v_im : Nat → Int32} {v_ke : Nat → Int32} {v_tp : Nat → Int32} {u_td : Int32} {u_fd : Int32} {v_wn : Nat → Int32} {u_id : Int32} {p_1 : Int32} (C : lwC p s m meth c b Ls xs G) (hA : ∀ q : Nat, s.heap.size ≤ q → A q) (hT : g5_S A s s.heap) (hS : va_S A s.heap H locs) (hsz : ls.size = 4) (hrm : cells + 4 ≤ 600000 ∧ slots + 429 ≤ 7302250) (hI : MW G b_o v_ro v_im v_ke v_tp u_td u_fd v_wn u_id w) (hP : va_P G.1 vwCl (w ++ pl) H) (hD : va_D A (w ++ pl)) (kk : ∀ (r : Int32) (w2 : va_W), MW G b_o v_ro v_im v_ke v_tp u_td u_fd v_wn u_id w2 → ∀ {H : Heap} {locs : List Loc}, va_P G.1 vwCl (w2 ++ pl) H → va_D A (w2 ++ pl) → va_S A s.heap H locs → W p l e room_1 s m #[Value.ref b] below meth c H locs cells slots Q (F0 m 1631 ls [.int r])) : W p l e room_1 s m #[Value.ref b] below meth c H locs cells slots Q (F0 m 1628 ls [.int p_1, .ref b_o]) := by
  obtain ⟨⟨hx, hb, hr, hml, hown, hts0, hX, hbl, hlocks, hgv⟩, hK, hN⟩ := C
  have hown : s.vm.findClass RL = some m.cls := hown
  have hts : ∀ w ∈ tblG, w.before #[Value.ref b] s = true := fun w h => hts0 w (List.mem_filter.mp h).1
  refine mw_elim hI (fun b_rf b_ro b_im b_ke b_tp b_nl b_op b_ar b_pi b_pa b_ws b_hw b_se b_re b_pt b_ip b_ah b_be b_me b_tr b_ld b_wn u_th u_sa u_fr u_to u_so u_wo u_fa u_bd u_nc u_co u_le u_pd u_od u_la u_bk u_va u_su u_ce u_ho u_wy u_bt u_ps u_tg u_sn u_ic u_wd u_st v_rf v_nl v_op v_ar v_pi v_pa v_ws v_hw v_se v_re v_pt v_ip v_ah v_be v_me v_tr v_ld hw9 h0 h1 h2 h3 h4 h5 h6 h7 h8 h9 h10 h11 h12 h13 h14 h15 h16 h17 h18 h19 h20 h21 h22 => ?_)
  subst hw9
  have hPX := hP.fst
  have hDX := hD.fst
  obtain ⟨hPc, hDc, hFc⟩ := g5_sub3 (wc := [(b_o, (oc12 u_th u_sa b_rf b_ro b_im b_ke u_fd b_tp u_td u_fr u_to u_so u_wo u_fa u_bd u_nc b_nl u_co b_op b_ar u_le b_pi b_pa u_pd u_od b_ws b_hw u_la b_se b_re u_bk u_va u_su u_ce u_ho u_wy u_bt u_ps b_pt u_tg u_sn b_ip u_ic b_ah b_be b_me u_wd b_tr b_ld u_st b_wn u_id)), (b_rf, (arI G 7 v_rf)), (b_ro, (arI G 5740 v_ro))]) hPX hDX hS hA [0, 1, 2] (by decide) rfl
  refine va_calli (va_runV (As := [.int p_1]) (rest := []) ⟨hx, hb, hml, hown, hts⟩ (n_count l G b_o b_rf b_ro b_im b_ke b_tp b_nl b_op b_ar b_pi b_pa b_ws b_hw b_se b_re b_pt b_ip b_ah b_be b_me b_tr b_ld b_wn H.size u_th u_sa u_fd u_td u_fr u_to u_so u_fa u_bd u_nc u_co u_le u_pd u_od u_la u_bk u_ce u_ho u_wy u_bt u_ps u_tg u_sn u_ic u_wd u_id p_1 u_wo u_va u_su u_st v_rf v_ro h0 h1 h2 h3 h4 h5 h6 h7 h8 h9 h10 h11 h12 h13 h14 h15 h16) (cwV 1 hts gV_L_194 rfl rfl rfl hv_X12_count ⟨Nat.le_of_ble_eq_true rfl, Nat.le_of_ble_eq_true rfl⟩) (g5_preV hPc hK hDc hN hT hS hFc (ci := 12) (q0 := 0) rfl rfl) rfl rfl hsz rfl (lv_room (Nat.le_of_ble_eq_true rfl)) dL_law_1628 (show cells + 0 ≤ 600000 ∧ slots + 0 ≤ 7302250 from ⟨by omega, by omega⟩)) hS (fun q _ h => hFc q h) hFc (fun r u t H1 locs ht hvm hw hB hz1 hk1 hS => ?_)
  obtain ⟨hP1, hD1⟩ := hB
  rw [ht] at hP1
  obtain ⟨y0_o_r, y0_o_th, hret, rfl⟩ := hw
  obtain ⟨hP, hD⟩ := va_joinQ (X := [(b_o, (oc12 u_th u_sa b_rf b_ro b_im b_ke u_fd b_tp u_td u_fr u_to u_so u_wo u_fa u_bd u_nc b_nl u_co b_op b_ar u_le b_pi b_pa u_pd u_od b_ws b_hw u_la b_se b_re u_bk u_va u_su u_ce u_ho u_wy u_bt u_ps b_pt u_tg u_sn b_ip u_ic b_ah b_be b_me u_wd b_tr b_ld u_st b_wn u_id)), (b_rf, (arI G 7 v_rf)), (b_ro, (arI G 5740 v_ro)), (b_tp, (arI G 400 v_tp)), (b_nl, (arI G 96 v_nl)), (b_op, (arI G 400 v_op)), (b_ar, (arI G 400 v_ar)), (b_pi, (arI G 400 v_pi)), (b_pa, (arI G 400 v_pa)), (b_ws, (arJ G 8 v_ws)), (b_hw, (arJ G 4 v_hw)), (b_se, (arJ G 13 v_se)), (b_re, (arJ G 400 v_re)), (b_pt, (arI G 200 v_pt)), (b_ip, (arZ G 1536 v_ip)), (b_ah, (arJ G 49152 v_ah)), (b_be, (arJ G 49152 v_be)), (b_me, (arI G 1536 v_me)), (b_tr, (arZ G 1536 v_tr)), (b_ld, (arZ G 1536 v_ld)), (b_wn, (arI G 24 v_wn)), (b_im, (arI G 11480 v_im)), (b_ke, (arZ G 2 v_ke))]) (wr := [(b_tp, (arI G 400 v_tp)), (b_nl, (arI G 96 v_nl)), (b_op, (arI G 400 v_op)), (b_ar, (arI G 400 v_ar)), (b_pi, (arI G 400 v_pi)), (b_pa, (arI G 400 v_pa)), (b_ws, (arJ G 8 v_ws)), (b_hw, (arJ G 4 v_hw)), (b_se, (arJ G 13 v_se)), (b_re, (arJ G 400 v_re)), (b_pt, (arI G 200 v_pt)), (b_ip, (arZ G 1536 v_ip)), (b_ah, (arJ G 49152 v_ah)), (b_be, (arJ G 49152 v_be)), (b_me, (arI G 1536 v_me)), (b_tr, (arZ G 1536 v_tr)), (b_ld, (arZ G 1536 v_ld)), (b_wn, (arI G 24 v_wn)), (b_im, (arI G 11480 v_im)), (b_ke, (arZ G 2 v_ke))]) (w1 := [(b_o, (oc12 y0_o_th u_sa b_rf b_ro b_im b_ke u_fd b_tp u_td u_fr u_to u_so u_wo u_fa u_bd u_nc b_nl u_co b_op b_ar u_le b_pi b_pa u_pd u_od b_ws b_hw u_la b_se b_re u_bk u_va u_su u_ce u_ho u_wy u_bt u_ps b_pt u_tg u_sn b_ip u_ic b_ah b_be b_me u_wd b_tr b_ld u_st b_wn u_id)), (b_rf, (arI G 7 v_rf)), (b_ro, (arI G 5740 v_ro))]) hP hD [0, 1, 2] [3, 4, 5, 6, 7, 8, 9, 10, 11, 12, 13, 14, 15, 16, 17, 18, 19, 20, 21, 22] rfl rfl (by decide +kernel) (by decide +kernel) hk1 hFc hP1 hD1
  have hP := va_P.part (cx := [(b_o, (oc12 y0_o_th u_sa b_rf b_ro b_im b_ke u_fd b_tp u_td u_fr u_to u_so u_wo u_fa u_bd u_nc b_nl u_co b_op b_ar u_le b_pi b_pa u_pd u_od b_ws b_hw u_la b_se b_re u_bk u_va u_su u_ce u_ho u_wy u_bt u_ps b_pt u_tg u_sn b_ip u_ic b_ah b_be b_me u_wd b_tr b_ld u_st b_wn u_id)), (b_rf, (arI G 7 v_rf)), (b_ro, (arI G 5740 v_ro)), (b_tp, (arI G 400 v_tp)), (b_nl, (arI G 96 v_nl)), (b_op, (arI G 400 v_op)), (b_ar, (arI G 400 v_ar)), (b_pi, (arI G 400 v_pi)), (b_pa, (arI G 400 v_pa)), (b_ws, (arJ G 8 v_ws)), (b_hw, (arJ G 4 v_hw)), (b_se, (arJ G 13 v_se)), (b_re, (arJ G 400 v_re)), (b_pt, (arI G 200 v_pt)), (b_ip, (arZ G 1536 v_ip)), (b_ah, (arJ G 49152 v_ah)), (b_be, (arJ G 49152 v_be)), (b_me, (arI G 1536 v_me)), (b_tr, (arZ G 1536 v_tr)), (b_ld, (arZ G 1536 v_ld)), (b_wn, (arI G 24 v_wn)), (b_im, (arI G 11480 v_im)), (b_ke, (arZ G 2 v_ke))]) hP [20, 21, 22, 0, 1, 2, 3, 4, 5, 6, 7, 8, 9, 10, 11, 12, 13, 14, 15, 16, 17, 18, 19] rfl
  have hD := va_D.part (cx := [(b_o, (oc12 y0_o_th u_sa b_rf b_ro b_im b_ke u_fd b_tp u_td u_fr u_to u_so u_wo u_fa u_bd u_nc b_nl u_co b_op b_ar u_le b_pi b_pa u_pd u_od b_ws b_hw u_la b_se b_re u_bk u_va u_su u_ce u_ho u_wy u_bt u_ps b_pt u_tg u_sn b_ip u_ic b_ah b_be b_me u_wd b_tr b_ld u_st b_wn u_id)), (b_rf, (arI G 7 v_rf)), (b_ro, (arI G 5740 v_ro)), (b_tp, (arI G 400 v_tp)), (b_nl, (arI G 96 v_nl)), (b_op, (arI G 400 v_op)), (b_ar, (arI G 400 v_ar)), (b_pi, (arI G 400 v_pi)), (b_pa, (arI G 400 v_pa)), (b_ws, (arJ G 8 v_ws)), (b_hw, (arJ G 4 v_hw)), (b_se, (arJ G 13 v_se)), (b_re, (arJ G 400 v_re)), (b_pt, (arI G 200 v_pt)), (b_ip, (arZ G 1536 v_ip)), (b_ah, (arJ G 49152 v_ah)), (b_be, (arJ G 49152 v_be)), (b_me, (arI G 1536 v_me)), (b_tr, (arZ G 1536 v_tr)), (b_ld, (arZ G 1536 v_ld)), (b_wn, (arI G 24 v_wn)), (b_im, (arI G 11480 v_im)), (b_ke, (arZ G 2 v_ke))]) hD [20, 21, 22, 0, 1, 2, 3, 4, 5, 6, 7, 8, 9, 10, 11, 12, 13, 14, 15, 16, 17, 18, 19] (by decide) rfl
  exact kk r [(b_o, (oc12 y0_o_th u_sa b_rf b_ro b_im b_ke u_fd b_tp u_td u_fr u_to u_so u_wo u_fa u_bd u_nc b_nl u_co b_op b_ar u_le b_pi b_pa u_pd u_od b_ws b_hw u_la b_se b_re u_bk u_va u_su u_ce u_ho u_wy u_bt u_ps b_pt u_tg u_sn b_ip u_ic b_ah b_be b_me u_wd b_tr b_ld u_st b_wn u_id)), (b_rf, (arI G 7 v_rf)), (b_ro, (arI G 5740 v_ro)), (b_tp, (arI G 400 v_tp)), (b_nl, (arI G 96 v_nl)), (b_op, (arI G 400 v_op)), (b_ar, (arI G 400 v_ar)), (b_pi, (arI G 400 v_pi)), (b_pa, (arI G 400 v_pa)), (b_ws, (arJ G 8 v_ws)), (b_hw, (arJ G 4 v_hw)), (b_se, (arJ G 13 v_se)), (b_re, (arJ G 400 v_re)), (b_pt, (arI G 200 v_pt)), (b_ip, (arZ G 1536 v_ip)), (b_ah, (arJ G 49152 v_ah)), (b_be, (arJ G 49152 v_be)), (b_me, (arI G 1536 v_me)), (b_tr, (arZ G 1536 v_tr)), (b_ld, (arZ G 1536 v_ld)), (b_wn, (arI G 24 v_wn)), (b_im, (arI G 11480 v_im)), (b_ke, (arZ G 2 v_ke))] (mw_mk b_rf b_ro b_im b_ke b_tp b_nl b_op b_ar b_pi b_pa b_ws b_hw b_se b_re b_pt b_ip b_ah b_be b_me b_tr b_ld b_wn y0_o_th u_sa u_fr u_to u_so u_wo u_fa u_bd u_nc u_co u_le u_pd u_od u_la u_bk u_va u_su u_ce u_ho u_wy u_bt u_ps u_tg u_sn u_ic u_wd u_st v_rf v_nl v_op v_ar v_pi v_pa v_ws v_hw v_se v_re v_pt v_ip v_ah v_be v_me v_tr v_ld (h0) (h1) (h2) (h3) (h4) (h5) (h6) (h7) (h8) (h9) (h10) (h11) (h12) (h13) (h14) (h15) (h16) (h17) (h18) (h19) (h20) (h21) (h22)) hP hD hS
set_option maxHeartbeats 4000000 in
set_option maxRecDepth 100000 in
theorem sm_status {p : Program} {l : Launch} {e : Env} {s : State} {m : MethodId} {below : List Frame} {meth : Method} {c : Code} {b Ls : Nat} {xs : Nat → Int32} {G : g5_G} {A : Nat → Prop} {Q : State → Prop} {H : Heap} {locs : List Loc} {ls : Array Slot} {cells slots : Nat} {w pl : va_W} {b_o : Nat} {v_ro : Nat → Int32} {v_im : Nat → Int32} {v_ke : Nat → Int32} {v_tp : Nat → Int32} {u_td : Int32} {u_fd : Int32} {v_wn : Nat → Int32} {u_id : Int32} (C : lwC p s m meth c b Ls xs G) (hA : ∀ q : Nat, s.heap.size ≤ q → A q) (hT : g5_S A s s.heap) (hS : va_S A s.heap H locs) (hsz : ls.size = 4) (hrm : cells + 4 ≤ 600000 ∧ slots + 429 ≤ 7302250) (hI : MW G b_o v_ro v_im v_ke v_tp u_td u_fd v_wn u_id w) (hP : va_P G.1 vwCl (w ++ pl) H) (hD : va_D A (w ++ pl)) (kk : ∀ (r : Int32) (w2 : va_W), MW G b_o v_ro v_im v_ke v_tp u_td u_fd v_wn u_id w2 → ∀ {H : Heap} {locs : List Loc}, va_P G.1 vwCl (w2 ++ pl) H → va_D A (w2 ++ pl) → va_S A s.heap H locs → W p l e room_1 s m #[Value.ref b] below meth c H locs cells slots Q (F0 m 1644 ls [.int r])) : W p l e room_1 s m #[Value.ref b] below meth c H locs cells slots Q (F0 m 1641 ls [.ref b_o]) := by
  obtain ⟨⟨hx, hb, hr, hml, hown, hts0, hX, hbl, hlocks, hgv⟩, hK, hN⟩ := C
  have hown : s.vm.findClass RL = some m.cls := hown
  have hts : ∀ w ∈ tblG, w.before #[Value.ref b] s = true := fun w h => hts0 w (List.mem_filter.mp h).1
  refine mw_elim hI (fun b_rf b_ro b_im b_ke b_tp b_nl b_op b_ar b_pi b_pa b_ws b_hw b_se b_re b_pt b_ip b_ah b_be b_me b_tr b_ld b_wn u_th u_sa u_fr u_to u_so u_wo u_fa u_bd u_nc u_co u_le u_pd u_od u_la u_bk u_va u_su u_ce u_ho u_wy u_bt u_ps u_tg u_sn u_ic u_wd u_st v_rf v_nl v_op v_ar v_pi v_pa v_ws v_hw v_se v_re v_pt v_ip v_ah v_be v_me v_tr v_ld hw9 h0 h1 h2 h3 h4 h5 h6 h7 h8 h9 h10 h11 h12 h13 h14 h15 h16 h17 h18 h19 h20 h21 h22 => ?_)
  subst hw9
  have hPX := hP.fst
  have hDX := hD.fst
  obtain ⟨hPc, hDc, hFc⟩ := g5_sub3 (wc := [(b_o, (oc12 u_th u_sa b_rf b_ro b_im b_ke u_fd b_tp u_td u_fr u_to u_so u_wo u_fa u_bd u_nc b_nl u_co b_op b_ar u_le b_pi b_pa u_pd u_od b_ws b_hw u_la b_se b_re u_bk u_va u_su u_ce u_ho u_wy u_bt u_ps b_pt u_tg u_sn b_ip u_ic b_ah b_be b_me u_wd b_tr b_ld u_st b_wn u_id))]) hPX hDX hS hA [0] (by decide) rfl
  refine va_calli (va_runV (As := []) (rest := []) ⟨hx, hb, hml, hown, hts⟩ (n_status l G b_o b_rf b_ro b_im b_ke b_tp b_nl b_op b_ar b_pi b_pa b_ws b_hw b_se b_re b_pt b_ip b_ah b_be b_me b_tr b_ld b_wn H.size u_th u_sa u_fd u_td u_fr u_to u_so u_fa u_bd u_nc u_co u_le u_pd u_od u_la u_bk u_ce u_ho u_wy u_bt u_ps u_tg u_sn u_ic u_wd u_id u_wo u_va u_su u_st h0 h1 h2 h3 h4 h5 h6 h7 h8 h9 h10 h11 h12 h13 h14 h15) (cwV 0 hts gV_L_198 rfl rfl rfl hv_X12_status ⟨Nat.le_of_ble_eq_true rfl, Nat.le_of_ble_eq_true rfl⟩) (g5_preV hPc hK hDc hN hT hS hFc (ci := 12) (q0 := 0) rfl rfl) rfl rfl hsz rfl (lv_room (Nat.le_of_ble_eq_true rfl)) dL_law_1641 (show cells + 0 ≤ 600000 ∧ slots + 0 ≤ 7302250 from ⟨by omega, by omega⟩)) hS (fun q _ h => hFc q h) hFc (fun r u t H1 locs ht hvm hw hB hz1 hk1 hS => ?_)
  obtain ⟨hP1, hD1⟩ := hB
  rw [ht] at hP1
  obtain ⟨y0_o_r, y0_o_th, hret, rfl⟩ := hw
  obtain ⟨hP, hD⟩ := va_joinQ (X := [(b_o, (oc12 u_th u_sa b_rf b_ro b_im b_ke u_fd b_tp u_td u_fr u_to u_so u_wo u_fa u_bd u_nc b_nl u_co b_op b_ar u_le b_pi b_pa u_pd u_od b_ws b_hw u_la b_se b_re u_bk u_va u_su u_ce u_ho u_wy u_bt u_ps b_pt u_tg u_sn b_ip u_ic b_ah b_be b_me u_wd b_tr b_ld u_st b_wn u_id)), (b_rf, (arI G 7 v_rf)), (b_ro, (arI G 5740 v_ro)), (b_tp, (arI G 400 v_tp)), (b_nl, (arI G 96 v_nl)), (b_op, (arI G 400 v_op)), (b_ar, (arI G 400 v_ar)), (b_pi, (arI G 400 v_pi)), (b_pa, (arI G 400 v_pa)), (b_ws, (arJ G 8 v_ws)), (b_hw, (arJ G 4 v_hw)), (b_se, (arJ G 13 v_se)), (b_re, (arJ G 400 v_re)), (b_pt, (arI G 200 v_pt)), (b_ip, (arZ G 1536 v_ip)), (b_ah, (arJ G 49152 v_ah)), (b_be, (arJ G 49152 v_be)), (b_me, (arI G 1536 v_me)), (b_tr, (arZ G 1536 v_tr)), (b_ld, (arZ G 1536 v_ld)), (b_wn, (arI G 24 v_wn)), (b_im, (arI G 11480 v_im)), (b_ke, (arZ G 2 v_ke))]) (wr := [(b_rf, (arI G 7 v_rf)), (b_ro, (arI G 5740 v_ro)), (b_tp, (arI G 400 v_tp)), (b_nl, (arI G 96 v_nl)), (b_op, (arI G 400 v_op)), (b_ar, (arI G 400 v_ar)), (b_pi, (arI G 400 v_pi)), (b_pa, (arI G 400 v_pa)), (b_ws, (arJ G 8 v_ws)), (b_hw, (arJ G 4 v_hw)), (b_se, (arJ G 13 v_se)), (b_re, (arJ G 400 v_re)), (b_pt, (arI G 200 v_pt)), (b_ip, (arZ G 1536 v_ip)), (b_ah, (arJ G 49152 v_ah)), (b_be, (arJ G 49152 v_be)), (b_me, (arI G 1536 v_me)), (b_tr, (arZ G 1536 v_tr)), (b_ld, (arZ G 1536 v_ld)), (b_wn, (arI G 24 v_wn)), (b_im, (arI G 11480 v_im)), (b_ke, (arZ G 2 v_ke))]) (w1 := [(b_o, (oc12 y0_o_th u_sa b_rf b_ro b_im b_ke u_fd b_tp u_td u_fr u_to u_so u_wo u_fa u_bd u_nc b_nl u_co b_op b_ar u_le b_pi b_pa u_pd u_od b_ws b_hw u_la b_se b_re u_bk u_va u_su u_ce u_ho u_wy u_bt u_ps b_pt u_tg u_sn b_ip u_ic b_ah b_be b_me u_wd b_tr b_ld u_st b_wn u_id))]) hP hD [0] [1, 2, 3, 4, 5, 6, 7, 8, 9, 10, 11, 12, 13, 14, 15, 16, 17, 18, 19, 20, 21, 22] rfl rfl (by decide +kernel) (by decide +kernel) hk1 hFc hP1 hD1
  have hP := va_P.part (cx := [(b_o, (oc12 y0_o_th u_sa b_rf b_ro b_im b_ke u_fd b_tp u_td u_fr u_to u_so u_wo u_fa u_bd u_nc b_nl u_co b_op b_ar u_le b_pi b_pa u_pd u_od b_ws b_hw u_la b_se b_re u_bk u_va u_su u_ce u_ho u_wy u_bt u_ps b_pt u_tg u_sn b_ip u_ic b_ah b_be b_me u_wd b_tr b_ld u_st b_wn u_id)), (b_rf, (arI G 7 v_rf)), (b_ro, (arI G 5740 v_ro)), (b_tp, (arI G 400 v_tp)), (b_nl, (arI G 96 v_nl)), (b_op, (arI G 400 v_op)), (b_ar, (arI G 400 v_ar)), (b_pi, (arI G 400 v_pi)), (b_pa, (arI G 400 v_pa)), (b_ws, (arJ G 8 v_ws)), (b_hw, (arJ G 4 v_hw)), (b_se, (arJ G 13 v_se)), (b_re, (arJ G 400 v_re)), (b_pt, (arI G 200 v_pt)), (b_ip, (arZ G 1536 v_ip)), (b_ah, (arJ G 49152 v_ah)), (b_be, (arJ G 49152 v_be)), (b_me, (arI G 1536 v_me)), (b_tr, (arZ G 1536 v_tr)), (b_ld, (arZ G 1536 v_ld)), (b_wn, (arI G 24 v_wn)), (b_im, (arI G 11480 v_im)), (b_ke, (arZ G 2 v_ke))]) hP [22, 0, 1, 2, 3, 4, 5, 6, 7, 8, 9, 10, 11, 12, 13, 14, 15, 16, 17, 18, 19, 20, 21] rfl
  have hD := va_D.part (cx := [(b_o, (oc12 y0_o_th u_sa b_rf b_ro b_im b_ke u_fd b_tp u_td u_fr u_to u_so u_wo u_fa u_bd u_nc b_nl u_co b_op b_ar u_le b_pi b_pa u_pd u_od b_ws b_hw u_la b_se b_re u_bk u_va u_su u_ce u_ho u_wy u_bt u_ps b_pt u_tg u_sn b_ip u_ic b_ah b_be b_me u_wd b_tr b_ld u_st b_wn u_id)), (b_rf, (arI G 7 v_rf)), (b_ro, (arI G 5740 v_ro)), (b_tp, (arI G 400 v_tp)), (b_nl, (arI G 96 v_nl)), (b_op, (arI G 400 v_op)), (b_ar, (arI G 400 v_ar)), (b_pi, (arI G 400 v_pi)), (b_pa, (arI G 400 v_pa)), (b_ws, (arJ G 8 v_ws)), (b_hw, (arJ G 4 v_hw)), (b_se, (arJ G 13 v_se)), (b_re, (arJ G 400 v_re)), (b_pt, (arI G 200 v_pt)), (b_ip, (arZ G 1536 v_ip)), (b_ah, (arJ G 49152 v_ah)), (b_be, (arJ G 49152 v_be)), (b_me, (arI G 1536 v_me)), (b_tr, (arZ G 1536 v_tr)), (b_ld, (arZ G 1536 v_ld)), (b_wn, (arI G 24 v_wn)), (b_im, (arI G 11480 v_im)), (b_ke, (arZ G 2 v_ke))]) hD [22, 0, 1, 2, 3, 4, 5, 6, 7, 8, 9, 10, 11, 12, 13, 14, 15, 16, 17, 18, 19, 20, 21] (by decide) rfl
  exact kk r [(b_o, (oc12 y0_o_th u_sa b_rf b_ro b_im b_ke u_fd b_tp u_td u_fr u_to u_so u_wo u_fa u_bd u_nc b_nl u_co b_op b_ar u_le b_pi b_pa u_pd u_od b_ws b_hw u_la b_se b_re u_bk u_va u_su u_ce u_ho u_wy u_bt u_ps b_pt u_tg u_sn b_ip u_ic b_ah b_be b_me u_wd b_tr b_ld u_st b_wn u_id)), (b_rf, (arI G 7 v_rf)), (b_ro, (arI G 5740 v_ro)), (b_tp, (arI G 400 v_tp)), (b_nl, (arI G 96 v_nl)), (b_op, (arI G 400 v_op)), (b_ar, (arI G 400 v_ar)), (b_pi, (arI G 400 v_pi)), (b_pa, (arI G 400 v_pa)), (b_ws, (arJ G 8 v_ws)), (b_hw, (arJ G 4 v_hw)), (b_se, (arJ G 13 v_se)), (b_re, (arJ G 400 v_re)), (b_pt, (arI G 200 v_pt)), (b_ip, (arZ G 1536 v_ip)), (b_ah, (arJ G 49152 v_ah)), (b_be, (arJ G 49152 v_be)), (b_me, (arI G 1536 v_me)), (b_tr, (arZ G 1536 v_tr)), (b_ld, (arZ G 1536 v_ld)), (b_wn, (arI G 24 v_wn)), (b_im, (arI G 11480 v_im)), (b_ke, (arZ G 2 v_ke))] (mw_mk b_rf b_ro b_im b_ke b_tp b_nl b_op b_ar b_pi b_pa b_ws b_hw b_se b_re b_pt b_ip b_ah b_be b_me b_tr b_ld b_wn y0_o_th u_sa u_fr u_to u_so u_wo u_fa u_bd u_nc u_co u_le u_pd u_od u_la u_bk u_va u_su u_ce u_ho u_wy u_bt u_ps u_tg u_sn u_ic u_wd u_st v_rf v_nl v_op v_ar v_pi v_pa v_ws v_hw v_se v_re v_pt v_ip v_ah v_be v_me v_tr v_ld (h0) (h1) (h2) (h3) (h4) (h5) (h6) (h7) (h8) (h9) (h10) (h11) (h12) (h13) (h14) (h15) (h16) (h17) (h18) (h19) (h20) (h21) (h22)) hP hD hS
set_option maxHeartbeats 4000000 in
set_option maxRecDepth 100000 in
theorem lc_wall {p : Program} {l : Launch} {e : Env} {s : State} {m : MethodId} {below : List Frame} {meth : Method} {c : Code} {b Ls : Nat} {xs : Nat → Int32} {G : g5_G} {A : Nat → Prop} {Q : State → Prop} {H : Heap} {locs : List Loc} {ls : Array Slot} {cells slots : Nat} {w mw : va_W} {Lw : List LR} {x y : Nat} {f_ro : Nat → Int32} {f_im : Nat → Int32} {f_ke : Nat → Int32} {f_x : Nat → Int32} {e_tl : Int32} {e_fd : Int32} {f_wd : Nat → Int32} {e_wn : Int32} {i : Int32} (C : lwC p s m meth c b Ls xs G) (hA : ∀ q : Nat, s.heap.size ≤ q → A q) (hT : g5_S A s s.heap) (hbA : ¬ A b) (hS : va_S A s.heap H locs) (hrm : cells + 8 ≤ 600000 ∧ slots + 858 ≤ 7302250) (hLO : LOK Lw) (hI : XW G Lw x f_ro f_im f_ke f_x e_tl e_fd f_wd e_wn w) (hM : MW G y f_ro f_im f_ke f_x e_tl e_fd f_wd e_wn mw) (hP : va_P G.1 vwCl (w ++ (mw ++ pflat G Lw)) H) (hD : va_D A (w ++ (mw ++ pflat G Lw))) (hl : lv_has ls 4 [(3, .int i), (2, .ref y), (1, .ref x), (0, .ref b)]) (hi : 0 ≤ i.toInt ∧ i.toInt + 7 ≤ (Ls : Int)) (hLs : Ls ≤ 3584) (kk : ∀ (f_ro : Nat → Int32) (f_im : Nat → Int32) (f_ke : Nat → Int32) (f_x : Nat → Int32) (e_tl : Int32) (e_fd : Int32) (f_wd : Nat → Int32) (e_wn : Int32) (Lw : List LR) (w mw : va_W) (H : Heap) (locs : List Loc) (ls : Array Slot), LOK Lw → XW G Lw x f_ro f_im f_ke f_x e_tl e_fd f_wd e_wn w → MW G y f_ro f_im f_ke f_x e_tl e_fd f_wd e_wn mw → va_P G.1 vwCl (w ++ (mw ++ pflat G Lw)) H → va_D A (w ++ (mw ++ pflat G Lw)) → va_S A s.heap H locs → lv_has ls 4 [(3, .int i), (2, .ref y), (1, .ref x), (0, .ref b)] → W p l e room_1 s m #[Value.ref b] below meth c H locs (cells + 4) (slots + 429) Q (F0 m 1648 ls [])) : W p l e room_1 s m #[Value.ref b] below meth c H locs cells slots Q (F0 m 224 ls []) := by
  have hC := C
  obtain ⟨⟨hx, hb, hr, hml, hown, hts0, hX, hbl, hlocks, hgv⟩, hK, hN⟩ := C
  have hown : s.vm.findClass RL = some m.cls := hown
  have hts : ∀ w ∈ tblG, w.before #[Value.ref b] s = true := fun w h => hts0 w (List.mem_filter.mp h).1
  refine lv_aload_n hx hb dL_law_224 rfl (lv_at hl 2 rfl) ?_
  refine lv_aload_n hx hb dL_law_225 rfl (lv_at hl 3 rfl) ?_
  refine lv_iload_n hx hb dL_law_226 rfl (lv_at hl 0 rfl) ?_
  refine lv_iconst (v := 1) hx hb dL_law_227 (by decide) ?_
  refine lv_iadd hx hb dL_law_228 ?_
  have t_1 : (i + 1).toInt = i.toInt + 1 := g5_iadd (a := i.toInt) (b := 1) (by rfl) (by decide) (by omega) (by omega)
  refine va_sld hx hb hX hbl hbA hS (vp_in_iff.mpr ⟨by omega, by omega⟩) dL_law_229 ?_
  obtain ⟨q2, hq2⟩ : ∃ y : Int32, xs (i + 1).toNatClampNeg = y := ⟨_, rfl⟩
  refine g5_ti (v := q2) hq2 ?_
  refine lv_aload_n hx hb dL_law_230 rfl (lv_at hl 3 rfl) ?_
  refine lv_iload_n hx hb dL_law_231 rfl (lv_at hl 0 rfl) ?_
  refine lv_iconst (v := 2) hx hb dL_law_232 (by decide) ?_
  refine lv_iadd hx hb dL_law_233 ?_
  have t_3 : (i + 2).toInt = i.toInt + 2 := g5_iadd (a := i.toInt) (b := 2) (by rfl) (by decide) (by omega) (by omega)
  refine va_sld hx hb hX hbl hbA hS (vp_in_iff.mpr ⟨by omega, by omega⟩) dL_law_234 ?_
  obtain ⟨q4, hq4⟩ : ∃ y : Int32, xs (i + 2).toNatClampNeg = y := ⟨_, rfl⟩
  refine g5_ti (v := q4) hq4 ?_
  refine sx_wall hC hA hT hS hl.1 ⟨by omega, by omega⟩ hLO hI hP hD (fun r5 w hI {H} {locs} hP hD hS => ?_)
  have hP := hP.perm (List.perm_append_comm_assoc w mw (pflat G Lw))
  have hD := hD.perm (List.perm_append_comm_assoc w mw (pflat G Lw))
  refine lv_pop hx hb dL_law_238 rfl ?_
  refine lv_aload_n hx hb dL_law_239 rfl (lv_at hl 1 rfl) ?_
  refine lv_aload_n hx hb dL_law_240 rfl (lv_at hl 3 rfl) ?_
  refine lv_iload_n hx hb dL_law_241 rfl (lv_at hl 0 rfl) ?_
  refine lv_iconst (v := 1) hx hb dL_law_242 (by decide) ?_
  refine lv_iadd hx hb dL_law_243 ?_
  have t_6 : (i + 1).toInt = i.toInt + 1 := g5_iadd (a := i.toInt) (b := 1) (by rfl) (by decide) (by omega) (by omega)
  refine va_sld hx hb hX hbl hbA hS (vp_in_iff.mpr ⟨by omega, by omega⟩) dL_law_244 ?_
  refine g5_ti (v := q2) hq2 ?_
  refine lv_aload_n hx hb dL_law_245 rfl (lv_at hl 3 rfl) ?_
  refine lv_iload_n hx hb dL_law_246 rfl (lv_at hl 0 rfl) ?_
  refine lv_iconst (v := 2) hx hb dL_law_247 (by decide) ?_
  refine lv_iadd hx hb dL_law_248 ?_
  have t_7 : (i + 2).toInt = i.toInt + 2 := g5_iadd (a := i.toInt) (b := 2) (by rfl) (by decide) (by omega) (by omega)
  refine va_sld hx hb hX hbl hbA hS (vp_in_iff.mpr ⟨by omega, by omega⟩) dL_law_249 ?_
  refine g5_ti (v := q4) hq4 ?_
  refine sm_wall hC hA hT hS hl.1 ⟨by omega, by omega⟩ hM hP hD (fun r8 mw hM {H} {locs} hP hD hS => ?_)
  have hP := hP.perm (List.perm_append_comm_assoc mw w (pflat G Lw))
  have hD := hD.perm (List.perm_append_comm_assoc mw w (pflat G Lw))
  refine lv_pop hx hb dL_law_253 rfl ?_
  refine lv_goto (tgt := 1648) hx hb dL_law_254 (by decide) ?_
  refine W.widen (k := cells + 4) (n := slots + 429) (by omega) (by omega) ?_
  exact kk (swall f_ro q2 q4) f_im f_ke f_x e_tl e_fd f_wd e_wn Lw w mw H locs ls hLO hI hM hP hD hS (lv_sub hl [0, 1, 2, 3] rfl)
set_option maxHeartbeats 4000000 in
set_option maxRecDepth 100000 in
theorem lc_glass {p : Program} {l : Launch} {e : Env} {s : State} {m : MethodId} {below : List Frame} {meth : Method} {c : Code} {b Ls : Nat} {xs : Nat → Int32} {G : g5_G} {A : Nat → Prop} {Q : State → Prop} {H : Heap} {locs : List Loc} {ls : Array Slot} {cells slots : Nat} {w mw : va_W} {Lw : List LR} {x y : Nat} {f_ro : Nat → Int32} {f_im : Nat → Int32} {f_ke : Nat → Int32} {f_x : Nat → Int32} {e_tl : Int32} {e_fd : Int32} {f_wd : Nat → Int32} {e_wn : Int32} {i : Int32} (C : lwC p s m meth c b Ls xs G) (hA : ∀ q : Nat, s.heap.size ≤ q → A q) (hT : g5_S A s s.heap) (hbA : ¬ A b) (hS : va_S A s.heap H locs) (hrm : cells + 8 ≤ 600000 ∧ slots + 858 ≤ 7302250) (hLO : LOK Lw) (hI : XW G Lw x f_ro f_im f_ke f_x e_tl e_fd f_wd e_wn w) (hM : MW G y f_ro f_im f_ke f_x e_tl e_fd f_wd e_wn mw) (hP : va_P G.1 vwCl (w ++ (mw ++ pflat G Lw)) H) (hD : va_D A (w ++ (mw ++ pflat G Lw))) (hl : lv_has ls 4 [(3, .int i), (2, .ref y), (1, .ref x), (0, .ref b)]) (hi : 0 ≤ i.toInt ∧ i.toInt + 7 ≤ (Ls : Int)) (hLs : Ls ≤ 3584) (kk : ∀ (f_ro : Nat → Int32) (f_im : Nat → Int32) (f_ke : Nat → Int32) (f_x : Nat → Int32) (e_tl : Int32) (e_fd : Int32) (f_wd : Nat → Int32) (e_wn : Int32) (Lw : List LR) (w mw : va_W) (H : Heap) (locs : List Loc) (ls : Array Slot), LOK Lw → XW G Lw x f_ro f_im f_ke f_x e_tl e_fd f_wd e_wn w → MW G y f_ro f_im f_ke f_x e_tl e_fd f_wd e_wn mw → va_P G.1 vwCl (w ++ (mw ++ pflat G Lw)) H → va_D A (w ++ (mw ++ pflat G Lw)) → va_S A s.heap H locs → lv_has ls 4 [(3, .int i), (2, .ref y), (1, .ref x), (0, .ref b)] → W p l e room_1 s m #[Value.ref b] below meth c H locs (cells + 4) (slots + 429) Q (F0 m 1648 ls [])) : W p l e room_1 s m #[Value.ref b] below meth c H locs cells slots Q (F0 m 257 ls []) := by
  have hC := C
  obtain ⟨⟨hx, hb, hr, hml, hown, hts0, hX, hbl, hlocks, hgv⟩, hK, hN⟩ := C
  have hown : s.vm.findClass RL = some m.cls := hown
  have hts : ∀ w ∈ tblG, w.before #[Value.ref b] s = true := fun w h => hts0 w (List.mem_filter.mp h).1
  refine lv_aload_n hx hb dL_law_257 rfl (lv_at hl 2 rfl) ?_
  refine lv_aload_n hx hb dL_law_258 rfl (lv_at hl 3 rfl) ?_
  refine lv_iload_n hx hb dL_law_259 rfl (lv_at hl 0 rfl) ?_
  refine lv_iconst (v := 1) hx hb dL_law_260 (by decide) ?_
  refine lv_iadd hx hb dL_law_261 ?_
  have t_1 : (i + 1).toInt = i.toInt + 1 := g5_iadd (a := i.toInt) (b := 1) (by rfl) (by decide) (by omega) (by omega)
  refine va_sld hx hb hX hbl hbA hS (vp_in_iff.mpr ⟨by omega, by omega⟩) dL_law_262 ?_
  obtain ⟨q2, hq2⟩ : ∃ y : Int32, xs (i + 1).toNatClampNeg = y := ⟨_, rfl⟩
  refine g5_ti (v := q2) hq2 ?_
  refine lv_aload_n hx hb dL_law_263 rfl (lv_at hl 3 rfl) ?_
  refine lv_iload_n hx hb dL_law_264 rfl (lv_at hl 0 rfl) ?_
  refine lv_iconst (v := 2) hx hb dL_law_265 (by decide) ?_
  refine lv_iadd hx hb dL_law_266 ?_
  have t_3 : (i + 2).toInt = i.toInt + 2 := g5_iadd (a := i.toInt) (b := 2) (by rfl) (by decide) (by omega) (by omega)
  refine va_sld hx hb hX hbl hbA hS (vp_in_iff.mpr ⟨by omega, by omega⟩) dL_law_267 ?_
  obtain ⟨q4, hq4⟩ : ∃ y : Int32, xs (i + 2).toNatClampNeg = y := ⟨_, rfl⟩
  refine g5_ti (v := q4) hq4 ?_
  refine lv_aload_n hx hb dL_law_268 rfl (lv_at hl 3 rfl) ?_
  refine lv_iload_n hx hb dL_law_269 rfl (lv_at hl 0 rfl) ?_
  refine lv_iconst (v := 3) hx hb dL_law_270 (by decide) ?_
  refine lv_iadd hx hb dL_law_271 ?_
  have t_5 : (i + 3).toInt = i.toInt + 3 := g5_iadd (a := i.toInt) (b := 3) (by rfl) (by decide) (by omega) (by omega)
  refine va_sld hx hb hX hbl hbA hS (vp_in_iff.mpr ⟨by omega, by omega⟩) dL_law_272 ?_
  obtain ⟨q6, hq6⟩ : ∃ y : Int32, xs (i + 3).toNatClampNeg = y := ⟨_, rfl⟩
  refine g5_ti (v := q6) hq6 ?_
  refine lv_aload_n hx hb dL_law_273 rfl (lv_at hl 3 rfl) ?_
  refine lv_iload_n hx hb dL_law_274 rfl (lv_at hl 0 rfl) ?_
  refine lv_iconst (v := 4) hx hb dL_law_275 (by decide) ?_
  refine lv_iadd hx hb dL_law_276 ?_
  have t_7 : (i + 4).toInt = i.toInt + 4 := g5_iadd (a := i.toInt) (b := 4) (by rfl) (by decide) (by omega) (by omega)
  refine va_sld hx hb hX hbl hbA hS (vp_in_iff.mpr ⟨by omega, by omega⟩) dL_law_277 ?_
  obtain ⟨q8, hq8⟩ : ∃ y : Int32, xs (i + 4).toNatClampNeg = y := ⟨_, rfl⟩
  refine g5_ti (v := q8) hq8 ?_
  refine sx_glass hC hA hT hS hl.1 ⟨by omega, by omega⟩ hLO hI hP hD (fun r9 w hI {H} {locs} hP hD hS => ?_)
  have hP := hP.perm (List.perm_append_comm_assoc w mw (pflat G Lw))
  have hD := hD.perm (List.perm_append_comm_assoc w mw (pflat G Lw))
  refine lv_pop hx hb dL_law_281 rfl ?_
  refine lv_aload_n hx hb dL_law_282 rfl (lv_at hl 1 rfl) ?_
  refine lv_aload_n hx hb dL_law_283 rfl (lv_at hl 3 rfl) ?_
  refine lv_iload_n hx hb dL_law_284 rfl (lv_at hl 0 rfl) ?_
  refine lv_iconst (v := 1) hx hb dL_law_285 (by decide) ?_
  refine lv_iadd hx hb dL_law_286 ?_
  have t_10 : (i + 1).toInt = i.toInt + 1 := g5_iadd (a := i.toInt) (b := 1) (by rfl) (by decide) (by omega) (by omega)
  refine va_sld hx hb hX hbl hbA hS (vp_in_iff.mpr ⟨by omega, by omega⟩) dL_law_287 ?_
  refine g5_ti (v := q2) hq2 ?_
  refine lv_aload_n hx hb dL_law_288 rfl (lv_at hl 3 rfl) ?_
  refine lv_iload_n hx hb dL_law_289 rfl (lv_at hl 0 rfl) ?_
  refine lv_iconst (v := 2) hx hb dL_law_290 (by decide) ?_
  refine lv_iadd hx hb dL_law_291 ?_
  have t_11 : (i + 2).toInt = i.toInt + 2 := g5_iadd (a := i.toInt) (b := 2) (by rfl) (by decide) (by omega) (by omega)
  refine va_sld hx hb hX hbl hbA hS (vp_in_iff.mpr ⟨by omega, by omega⟩) dL_law_292 ?_
  refine g5_ti (v := q4) hq4 ?_
  refine lv_aload_n hx hb dL_law_293 rfl (lv_at hl 3 rfl) ?_
  refine lv_iload_n hx hb dL_law_294 rfl (lv_at hl 0 rfl) ?_
  refine lv_iconst (v := 3) hx hb dL_law_295 (by decide) ?_
  refine lv_iadd hx hb dL_law_296 ?_
  have t_12 : (i + 3).toInt = i.toInt + 3 := g5_iadd (a := i.toInt) (b := 3) (by rfl) (by decide) (by omega) (by omega)
  refine va_sld hx hb hX hbl hbA hS (vp_in_iff.mpr ⟨by omega, by omega⟩) dL_law_297 ?_
  refine g5_ti (v := q6) hq6 ?_
  refine lv_aload_n hx hb dL_law_298 rfl (lv_at hl 3 rfl) ?_
  refine lv_iload_n hx hb dL_law_299 rfl (lv_at hl 0 rfl) ?_
  refine lv_iconst (v := 4) hx hb dL_law_300 (by decide) ?_
  refine lv_iadd hx hb dL_law_301 ?_
  have t_13 : (i + 4).toInt = i.toInt + 4 := g5_iadd (a := i.toInt) (b := 4) (by rfl) (by decide) (by omega) (by omega)
  refine va_sld hx hb hX hbl hbA hS (vp_in_iff.mpr ⟨by omega, by omega⟩) dL_law_302 ?_
  refine g5_ti (v := q8) hq8 ?_
  refine sm_glass hC hA hT hS hl.1 ⟨by omega, by omega⟩ hM hP hD (fun r14 mw hM {H} {locs} hP hD hS => ?_)
  have hP := hP.perm (List.perm_append_comm_assoc mw w (pflat G Lw))
  have hD := hD.perm (List.perm_append_comm_assoc mw w (pflat G Lw))
  refine lv_pop hx hb dL_law_306 rfl ?_
  refine lv_goto (tgt := 1648) hx hb dL_law_307 (by decide) ?_
  refine W.widen (k := cells + 4) (n := slots + 429) (by omega) (by omega) ?_
  exact kk (sglass f_ro q2 q4 q6 q8) f_im f_ke f_x e_tl e_fd f_wd e_wn Lw w mw H locs ls hLO hI hM hP hD hS (lv_sub hl [0, 1, 2, 3] rfl)
set_option maxHeartbeats 4000000 in
set_option maxRecDepth 100000 in
theorem lc_turn {p : Program} {l : Launch} {e : Env} {s : State} {m : MethodId} {below : List Frame} {meth : Method} {c : Code} {b Ls : Nat} {xs : Nat → Int32} {G : g5_G} {A : Nat → Prop} {Q : State → Prop} {H : Heap} {locs : List Loc} {ls : Array Slot} {cells slots : Nat} {w mw : va_W} {Lw : List LR} {x y : Nat} {f_ro : Nat → Int32} {f_im : Nat → Int32} {f_ke : Nat → Int32} {f_x : Nat → Int32} {e_tl : Int32} {e_fd : Int32} {f_wd : Nat → Int32} {e_wn : Int32} {i : Int32} (C : lwC p s m meth c b Ls xs G) (hA : ∀ q : Nat, s.heap.size ≤ q → A q) (hT : g5_S A s s.heap) (hbA : ¬ A b) (hS : va_S A s.heap H locs) (hrm : cells + 8 ≤ 600000 ∧ slots + 858 ≤ 7302250) (hLO : LOK Lw) (hI : XW G Lw x f_ro f_im f_ke f_x e_tl e_fd f_wd e_wn w) (hM : MW G y f_ro f_im f_ke f_x e_tl e_fd f_wd e_wn mw) (hP : va_P G.1 vwCl (w ++ (mw ++ pflat G Lw)) H) (hD : va_D A (w ++ (mw ++ pflat G Lw))) (hl : lv_has ls 4 [(3, .int i), (2, .ref y), (1, .ref x), (0, .ref b)]) (hi : 0 ≤ i.toInt ∧ i.toInt + 7 ≤ (Ls : Int)) (hLs : Ls ≤ 3584) (kk : ∀ (f_ro : Nat → Int32) (f_im : Nat → Int32) (f_ke : Nat → Int32) (f_x : Nat → Int32) (e_tl : Int32) (e_fd : Int32) (f_wd : Nat → Int32) (e_wn : Int32) (Lw : List LR) (w mw : va_W) (H : Heap) (locs : List Loc) (ls : Array Slot), LOK Lw → XW G Lw x f_ro f_im f_ke f_x e_tl e_fd f_wd e_wn w → MW G y f_ro f_im f_ke f_x e_tl e_fd f_wd e_wn mw → va_P G.1 vwCl (w ++ (mw ++ pflat G Lw)) H → va_D A (w ++ (mw ++ pflat G Lw)) → va_S A s.heap H locs → lv_has ls 4 [(3, .int i), (2, .ref y), (1, .ref x), (0, .ref b)] → W p l e room_1 s m #[Value.ref b] below meth c H locs (cells + 4) (slots + 429) Q (F0 m 1648 ls [])) : W p l e room_1 s m #[Value.ref b] below meth c H locs cells slots Q (F0 m 310 ls []) := by
  have hC := C
  obtain ⟨⟨hx, hb, hr, hml, hown, hts0, hX, hbl, hlocks, hgv⟩, hK, hN⟩ := C
  have hown : s.vm.findClass RL = some m.cls := hown
  have hts : ∀ w ∈ tblG, w.before #[Value.ref b] s = true := fun w h => hts0 w (List.mem_filter.mp h).1
  refine lv_aload_n hx hb dL_law_310 rfl (lv_at hl 2 rfl) ?_
  refine lv_aload_n hx hb dL_law_311 rfl (lv_at hl 3 rfl) ?_
  refine lv_iload_n hx hb dL_law_312 rfl (lv_at hl 0 rfl) ?_
  refine lv_iconst (v := 1) hx hb dL_law_313 (by decide) ?_
  refine lv_iadd hx hb dL_law_314 ?_
  have t_1 : (i + 1).toInt = i.toInt + 1 := g5_iadd (a := i.toInt) (b := 1) (by rfl) (by decide) (by omega) (by omega)
  refine va_sld hx hb hX hbl hbA hS (vp_in_iff.mpr ⟨by omega, by omega⟩) dL_law_315 ?_
  obtain ⟨q2, hq2⟩ : ∃ y : Int32, xs (i + 1).toNatClampNeg = y := ⟨_, rfl⟩
  refine g5_ti (v := q2) hq2 ?_
  refine lv_aload_n hx hb dL_law_316 rfl (lv_at hl 3 rfl) ?_
  refine lv_iload_n hx hb dL_law_317 rfl (lv_at hl 0 rfl) ?_
  refine lv_iconst (v := 2) hx hb dL_law_318 (by decide) ?_
  refine lv_iadd hx hb dL_law_319 ?_
  have t_3 : (i + 2).toInt = i.toInt + 2 := g5_iadd (a := i.toInt) (b := 2) (by rfl) (by decide) (by omega) (by omega)
  refine va_sld hx hb hX hbl hbA hS (vp_in_iff.mpr ⟨by omega, by omega⟩) dL_law_320 ?_
  obtain ⟨q4, hq4⟩ : ∃ y : Int32, xs (i + 2).toNatClampNeg = y := ⟨_, rfl⟩
  refine g5_ti (v := q4) hq4 ?_
  refine lv_aload_n hx hb dL_law_321 rfl (lv_at hl 3 rfl) ?_
  refine lv_iload_n hx hb dL_law_322 rfl (lv_at hl 0 rfl) ?_
  refine lv_iconst (v := 3) hx hb dL_law_323 (by decide) ?_
  refine lv_iadd hx hb dL_law_324 ?_
  have t_5 : (i + 3).toInt = i.toInt + 3 := g5_iadd (a := i.toInt) (b := 3) (by rfl) (by decide) (by omega) (by omega)
  refine va_sld hx hb hX hbl hbA hS (vp_in_iff.mpr ⟨by omega, by omega⟩) dL_law_325 ?_
  obtain ⟨q6, hq6⟩ : ∃ y : Int32, xs (i + 3).toNatClampNeg = y := ⟨_, rfl⟩
  refine g5_ti (v := q6) hq6 ?_
  refine sx_turn hC hA hT hS hl.1 ⟨by omega, by omega⟩ hLO hI hP hD (fun r7 w hI {H} {locs} hP hD hS => ?_)
  have hP := hP.perm (List.perm_append_comm_assoc w mw (pflat G Lw))
  have hD := hD.perm (List.perm_append_comm_assoc w mw (pflat G Lw))
  refine lv_pop hx hb dL_law_329 rfl ?_
  refine lv_aload_n hx hb dL_law_330 rfl (lv_at hl 1 rfl) ?_
  refine lv_aload_n hx hb dL_law_331 rfl (lv_at hl 3 rfl) ?_
  refine lv_iload_n hx hb dL_law_332 rfl (lv_at hl 0 rfl) ?_
  refine lv_iconst (v := 1) hx hb dL_law_333 (by decide) ?_
  refine lv_iadd hx hb dL_law_334 ?_
  have t_8 : (i + 1).toInt = i.toInt + 1 := g5_iadd (a := i.toInt) (b := 1) (by rfl) (by decide) (by omega) (by omega)
  refine va_sld hx hb hX hbl hbA hS (vp_in_iff.mpr ⟨by omega, by omega⟩) dL_law_335 ?_
  refine g5_ti (v := q2) hq2 ?_
  refine lv_aload_n hx hb dL_law_336 rfl (lv_at hl 3 rfl) ?_
  refine lv_iload_n hx hb dL_law_337 rfl (lv_at hl 0 rfl) ?_
  refine lv_iconst (v := 2) hx hb dL_law_338 (by decide) ?_
  refine lv_iadd hx hb dL_law_339 ?_
  have t_9 : (i + 2).toInt = i.toInt + 2 := g5_iadd (a := i.toInt) (b := 2) (by rfl) (by decide) (by omega) (by omega)
  refine va_sld hx hb hX hbl hbA hS (vp_in_iff.mpr ⟨by omega, by omega⟩) dL_law_340 ?_
  refine g5_ti (v := q4) hq4 ?_
  refine lv_aload_n hx hb dL_law_341 rfl (lv_at hl 3 rfl) ?_
  refine lv_iload_n hx hb dL_law_342 rfl (lv_at hl 0 rfl) ?_
  refine lv_iconst (v := 3) hx hb dL_law_343 (by decide) ?_
  refine lv_iadd hx hb dL_law_344 ?_
  have t_10 : (i + 3).toInt = i.toInt + 3 := g5_iadd (a := i.toInt) (b := 3) (by rfl) (by decide) (by omega) (by omega)
  refine va_sld hx hb hX hbl hbA hS (vp_in_iff.mpr ⟨by omega, by omega⟩) dL_law_345 ?_
  refine g5_ti (v := q6) hq6 ?_
  refine sm_turn hC hA hT hS hl.1 ⟨by omega, by omega⟩ hM hP hD (fun r11 mw hM {H} {locs} hP hD hS => ?_)
  have hP := hP.perm (List.perm_append_comm_assoc mw w (pflat G Lw))
  have hD := hD.perm (List.perm_append_comm_assoc mw w (pflat G Lw))
  refine lv_pop hx hb dL_law_349 rfl ?_
  refine lv_goto (tgt := 1648) hx hb dL_law_350 (by decide) ?_
  refine W.widen (k := cells + 4) (n := slots + 429) (by omega) (by omega) ?_
  exact kk (sturn f_ro q2 q4 q6) f_im f_ke f_x e_tl e_fd f_wd e_wn Lw w mw H locs ls hLO hI hM hP hD hS (lv_sub hl [0, 1, 2, 3] rfl)
set_option maxHeartbeats 4000000 in
set_option maxRecDepth 100000 in
theorem lc_of {p : Program} {l : Launch} {e : Env} {s : State} {m : MethodId} {below : List Frame} {meth : Method} {c : Code} {b Ls : Nat} {xs : Nat → Int32} {G : g5_G} {A : Nat → Prop} {Q : State → Prop} {H : Heap} {locs : List Loc} {ls : Array Slot} {cells slots : Nat} {w mw : va_W} {Lw : List LR} {x y : Nat} {f_ro : Nat → Int32} {f_im : Nat → Int32} {f_ke : Nat → Int32} {f_x : Nat → Int32} {e_tl : Int32} {e_fd : Int32} {f_wd : Nat → Int32} {e_wn : Int32} {i : Int32} (C : lwC p s m meth c b Ls xs G) (hA : ∀ q : Nat, s.heap.size ≤ q → A q) (hT : g5_S A s s.heap) (hbA : ¬ A b) (hS : va_S A s.heap H locs) (hrm : cells + 8 ≤ 600000 ∧ slots + 858 ≤ 7302250) (hLO : LOK Lw) (hI : XW G Lw x f_ro f_im f_ke f_x e_tl e_fd f_wd e_wn w) (hM : MW G y f_ro f_im f_ke f_x e_tl e_fd f_wd e_wn mw) (hP : va_P G.1 vwCl (w ++ (mw ++ pflat G Lw)) H) (hD : va_D A (w ++ (mw ++ pflat G Lw))) (hl : lv_has ls 4 [(3, .int i), (2, .ref y), (1, .ref x), (0, .ref b)]) (hi : 0 ≤ i.toInt ∧ i.toInt + 7 ≤ (Ls : Int)) (hLs : Ls ≤ 3584) (kk : ∀ (f_ro : Nat → Int32) (f_im : Nat → Int32) (f_ke : Nat → Int32) (f_x : Nat → Int32) (e_tl : Int32) (e_fd : Int32) (f_wd : Nat → Int32) (e_wn : Int32) (Lw : List LR) (w mw : va_W) (H : Heap) (locs : List Loc) (ls : Array Slot), LOK Lw → XW G Lw x f_ro f_im f_ke f_x e_tl e_fd f_wd e_wn w → MW G y f_ro f_im f_ke f_x e_tl e_fd f_wd e_wn mw → va_P G.1 vwCl (w ++ (mw ++ pflat G Lw)) H → va_D A (w ++ (mw ++ pflat G Lw)) → va_S A s.heap H locs → lv_has ls 4 [(3, .int i), (2, .ref y), (1, .ref x), (0, .ref b)] → W p l e room_1 s m #[Value.ref b] below meth c H locs (cells + 4) (slots + 429) Q (F0 m 1648 ls [])) : W p l e room_1 s m #[Value.ref b] below meth c H locs cells slots Q (F0 m 353 ls []) := by
  have hC := C
  obtain ⟨⟨hx, hb, hr, hml, hown, hts0, hX, hbl, hlocks, hgv⟩, hK, hN⟩ := C
  have hown : s.vm.findClass RL = some m.cls := hown
  have hts : ∀ w ∈ tblG, w.before #[Value.ref b] s = true := fun w h => hts0 w (List.mem_filter.mp h).1
  refine lv_aload_n hx hb dL_law_353 rfl (lv_at hl 2 rfl) ?_
  refine lv_aload_n hx hb dL_law_354 rfl (lv_at hl 3 rfl) ?_
  refine lv_iload_n hx hb dL_law_355 rfl (lv_at hl 0 rfl) ?_
  refine lv_iconst (v := 1) hx hb dL_law_356 (by decide) ?_
  refine lv_iadd hx hb dL_law_357 ?_
  have t_1 : (i + 1).toInt = i.toInt + 1 := g5_iadd (a := i.toInt) (b := 1) (by rfl) (by decide) (by omega) (by omega)
  refine va_sld hx hb hX hbl hbA hS (vp_in_iff.mpr ⟨by omega, by omega⟩) dL_law_358 ?_
  obtain ⟨q2, hq2⟩ : ∃ y : Int32, xs (i + 1).toNatClampNeg = y := ⟨_, rfl⟩
  refine g5_ti (v := q2) hq2 ?_
  refine lv_aload_n hx hb dL_law_359 rfl (lv_at hl 3 rfl) ?_
  refine lv_iload_n hx hb dL_law_360 rfl (lv_at hl 0 rfl) ?_
  refine lv_iconst (v := 2) hx hb dL_law_361 (by decide) ?_
  refine lv_iadd hx hb dL_law_362 ?_
  have t_3 : (i + 2).toInt = i.toInt + 2 := g5_iadd (a := i.toInt) (b := 2) (by rfl) (by decide) (by omega) (by omega)
  refine va_sld hx hb hX hbl hbA hS (vp_in_iff.mpr ⟨by omega, by omega⟩) dL_law_363 ?_
  obtain ⟨q4, hq4⟩ : ∃ y : Int32, xs (i + 2).toNatClampNeg = y := ⟨_, rfl⟩
  refine g5_ti (v := q4) hq4 ?_
  refine sx_of hC hA hT hS hl.1 ⟨by omega, by omega⟩ hLO hI hP hD (fun r5 w hI {H} {locs} hP hD hS => ?_)
  have hP := hP.perm (List.perm_append_comm_assoc w mw (pflat G Lw))
  have hD := hD.perm (List.perm_append_comm_assoc w mw (pflat G Lw))
  refine lv_pop hx hb dL_law_367 rfl ?_
  refine lv_aload_n hx hb dL_law_368 rfl (lv_at hl 1 rfl) ?_
  refine lv_aload_n hx hb dL_law_369 rfl (lv_at hl 3 rfl) ?_
  refine lv_iload_n hx hb dL_law_370 rfl (lv_at hl 0 rfl) ?_
  refine lv_iconst (v := 1) hx hb dL_law_371 (by decide) ?_
  refine lv_iadd hx hb dL_law_372 ?_
  have t_6 : (i + 1).toInt = i.toInt + 1 := g5_iadd (a := i.toInt) (b := 1) (by rfl) (by decide) (by omega) (by omega)
  refine va_sld hx hb hX hbl hbA hS (vp_in_iff.mpr ⟨by omega, by omega⟩) dL_law_373 ?_
  refine g5_ti (v := q2) hq2 ?_
  refine lv_aload_n hx hb dL_law_374 rfl (lv_at hl 3 rfl) ?_
  refine lv_iload_n hx hb dL_law_375 rfl (lv_at hl 0 rfl) ?_
  refine lv_iconst (v := 2) hx hb dL_law_376 (by decide) ?_
  refine lv_iadd hx hb dL_law_377 ?_
  have t_7 : (i + 2).toInt = i.toInt + 2 := g5_iadd (a := i.toInt) (b := 2) (by rfl) (by decide) (by omega) (by omega)
  refine va_sld hx hb hX hbl hbA hS (vp_in_iff.mpr ⟨by omega, by omega⟩) dL_law_378 ?_
  refine g5_ti (v := q4) hq4 ?_
  refine sm_of hC hA hT hS hl.1 ⟨by omega, by omega⟩ hM hP hD (fun r8 mw hM {H} {locs} hP hD hS => ?_)
  have hP := hP.perm (List.perm_append_comm_assoc mw w (pflat G Lw))
  have hD := hD.perm (List.perm_append_comm_assoc mw w (pflat G Lw))
  refine lv_pop hx hb dL_law_382 rfl ?_
  refine lv_goto (tgt := 1648) hx hb dL_law_383 (by decide) ?_
  refine W.widen (k := cells + 4) (n := slots + 429) (by omega) (by omega) ?_
  exact kk f_ro f_im f_ke f_x e_tl e_fd f_wd e_wn Lw w mw H locs ls hLO hI hM hP hD hS (lv_sub hl [0, 1, 2, 3] rfl)
set_option maxHeartbeats 4000000 in
set_option maxRecDepth 100000 in
theorem lc_body {p : Program} {l : Launch} {e : Env} {s : State} {m : MethodId} {below : List Frame} {meth : Method} {c : Code} {b Ls : Nat} {xs : Nat → Int32} {G : g5_G} {A : Nat → Prop} {Q : State → Prop} {H : Heap} {locs : List Loc} {ls : Array Slot} {cells slots : Nat} {w mw : va_W} {Lw : List LR} {x y : Nat} {f_ro : Nat → Int32} {f_im : Nat → Int32} {f_ke : Nat → Int32} {f_x : Nat → Int32} {e_tl : Int32} {e_fd : Int32} {f_wd : Nat → Int32} {e_wn : Int32} {i : Int32} (C : lwC p s m meth c b Ls xs G) (hA : ∀ q : Nat, s.heap.size ≤ q → A q) (hT : g5_S A s s.heap) (hbA : ¬ A b) (hS : va_S A s.heap H locs) (hrm : cells + 8 ≤ 600000 ∧ slots + 858 ≤ 7302250) (hLO : LOK Lw) (hI : XW G Lw x f_ro f_im f_ke f_x e_tl e_fd f_wd e_wn w) (hM : MW G y f_ro f_im f_ke f_x e_tl e_fd f_wd e_wn mw) (hP : va_P G.1 vwCl (w ++ (mw ++ pflat G Lw)) H) (hD : va_D A (w ++ (mw ++ pflat G Lw))) (hl : lv_has ls 4 [(3, .int i), (2, .ref y), (1, .ref x), (0, .ref b)]) (hi : 0 ≤ i.toInt ∧ i.toInt + 7 ≤ (Ls : Int)) (hLs : Ls ≤ 3584) (kk : ∀ (f_ro : Nat → Int32) (f_im : Nat → Int32) (f_ke : Nat → Int32) (f_x : Nat → Int32) (e_tl : Int32) (e_fd : Int32) (f_wd : Nat → Int32) (e_wn : Int32) (Lw : List LR) (w mw : va_W) (H : Heap) (locs : List Loc) (ls : Array Slot), LOK Lw → XW G Lw x f_ro f_im f_ke f_x e_tl e_fd f_wd e_wn w → MW G y f_ro f_im f_ke f_x e_tl e_fd f_wd e_wn mw → va_P G.1 vwCl (w ++ (mw ++ pflat G Lw)) H → va_D A (w ++ (mw ++ pflat G Lw)) → va_S A s.heap H locs → lv_has ls 4 [(3, .int i), (2, .ref y), (1, .ref x), (0, .ref b)] → W p l e room_1 s m #[Value.ref b] below meth c H locs (cells + 4) (slots + 429) Q (F0 m 1648 ls [])) : W p l e room_1 s m #[Value.ref b] below meth c H locs cells slots Q (F0 m 386 ls []) := by
  have hC := C
  obtain ⟨⟨hx, hb, hr, hml, hown, hts0, hX, hbl, hlocks, hgv⟩, hK, hN⟩ := C
  have hown : s.vm.findClass RL = some m.cls := hown
  have hts : ∀ w ∈ tblG, w.before #[Value.ref b] s = true := fun w h => hts0 w (List.mem_filter.mp h).1
  refine lv_aload_n hx hb dL_law_386 rfl (lv_at hl 2 rfl) ?_
  refine sx_body hC hA hT hS hl.1 ⟨by omega, by omega⟩ hLO hI hP hD (fun r1 w hI {H} {locs} hP hD hS => ?_)
  have hP := hP.perm (List.perm_append_comm_assoc w mw (pflat G Lw))
  have hD := hD.perm (List.perm_append_comm_assoc w mw (pflat G Lw))
  refine lv_pop hx hb dL_law_390 rfl ?_
  refine lv_aload_n hx hb dL_law_391 rfl (lv_at hl 1 rfl) ?_
  refine sm_body hC hA hT hS hl.1 ⟨by omega, by omega⟩ hM hP hD (fun r2 mw hM {H} {locs} hP hD hS => ?_)
  have hP := hP.perm (List.perm_append_comm_assoc mw w (pflat G Lw))
  have hD := hD.perm (List.perm_append_comm_assoc mw w (pflat G Lw))
  refine lv_pop hx hb dL_law_395 rfl ?_
  refine lv_goto (tgt := 1648) hx hb dL_law_396 (by decide) ?_
  refine W.widen (k := cells + 4) (n := slots + 429) (by omega) (by omega) ?_
  exact kk (sbody f_ro) f_im f_ke f_x e_tl e_fd f_wd e_wn Lw w mw H locs ls hLO hI hM hP hD hS (lv_sub hl [0, 1, 2, 3] rfl)
set_option maxHeartbeats 4000000 in
set_option maxRecDepth 100000 in
theorem lc_stay {p : Program} {l : Launch} {e : Env} {s : State} {m : MethodId} {below : List Frame} {meth : Method} {c : Code} {b Ls : Nat} {xs : Nat → Int32} {G : g5_G} {A : Nat → Prop} {Q : State → Prop} {H : Heap} {locs : List Loc} {ls : Array Slot} {cells slots : Nat} {w mw : va_W} {Lw : List LR} {x y : Nat} {f_ro : Nat → Int32} {f_im : Nat → Int32} {f_ke : Nat → Int32} {f_x : Nat → Int32} {e_tl : Int32} {e_fd : Int32} {f_wd : Nat → Int32} {e_wn : Int32} {i : Int32} (C : lwC p s m meth c b Ls xs G) (hA : ∀ q : Nat, s.heap.size ≤ q → A q) (hT : g5_S A s s.heap) (hbA : ¬ A b) (hS : va_S A s.heap H locs) (hrm : cells + 8 ≤ 600000 ∧ slots + 858 ≤ 7302250) (hLO : LOK Lw) (hI : XW G Lw x f_ro f_im f_ke f_x e_tl e_fd f_wd e_wn w) (hM : MW G y f_ro f_im f_ke f_x e_tl e_fd f_wd e_wn mw) (hP : va_P G.1 vwCl (w ++ (mw ++ pflat G Lw)) H) (hD : va_D A (w ++ (mw ++ pflat G Lw))) (hl : lv_has ls 4 [(3, .int i), (2, .ref y), (1, .ref x), (0, .ref b)]) (hi : 0 ≤ i.toInt ∧ i.toInt + 7 ≤ (Ls : Int)) (hLs : Ls ≤ 3584) (kk : ∀ (f_ro : Nat → Int32) (f_im : Nat → Int32) (f_ke : Nat → Int32) (f_x : Nat → Int32) (e_tl : Int32) (e_fd : Int32) (f_wd : Nat → Int32) (e_wn : Int32) (Lw : List LR) (w mw : va_W) (H : Heap) (locs : List Loc) (ls : Array Slot), LOK Lw → XW G Lw x f_ro f_im f_ke f_x e_tl e_fd f_wd e_wn w → MW G y f_ro f_im f_ke f_x e_tl e_fd f_wd e_wn mw → va_P G.1 vwCl (w ++ (mw ++ pflat G Lw)) H → va_D A (w ++ (mw ++ pflat G Lw)) → va_S A s.heap H locs → lv_has ls 4 [(3, .int i), (2, .ref y), (1, .ref x), (0, .ref b)] → W p l e room_1 s m #[Value.ref b] below meth c H locs (cells + 4) (slots + 429) Q (F0 m 1648 ls [])) : W p l e room_1 s m #[Value.ref b] below meth c H locs cells slots Q (F0 m 399 ls []) := by
  have hC := C
  obtain ⟨⟨hx, hb, hr, hml, hown, hts0, hX, hbl, hlocks, hgv⟩, hK, hN⟩ := C
  have hown : s.vm.findClass RL = some m.cls := hown
  have hts : ∀ w ∈ tblG, w.before #[Value.ref b] s = true := fun w h => hts0 w (List.mem_filter.mp h).1
  refine lv_aload_n hx hb dL_law_399 rfl (lv_at hl 2 rfl) ?_
  refine lv_aload_n hx hb dL_law_400 rfl (lv_at hl 3 rfl) ?_
  refine lv_iload_n hx hb dL_law_401 rfl (lv_at hl 0 rfl) ?_
  refine lv_iconst (v := 1) hx hb dL_law_402 (by decide) ?_
  refine lv_iadd hx hb dL_law_403 ?_
  have t_1 : (i + 1).toInt = i.toInt + 1 := g5_iadd (a := i.toInt) (b := 1) (by rfl) (by decide) (by omega) (by omega)
  refine va_sld hx hb hX hbl hbA hS (vp_in_iff.mpr ⟨by omega, by omega⟩) dL_law_404 ?_
  obtain ⟨q2, hq2⟩ : ∃ y : Int32, xs (i + 1).toNatClampNeg = y := ⟨_, rfl⟩
  refine g5_ti (v := q2) hq2 ?_
  refine lv_aload_n hx hb dL_law_405 rfl (lv_at hl 3 rfl) ?_
  refine lv_iload_n hx hb dL_law_406 rfl (lv_at hl 0 rfl) ?_
  refine lv_iconst (v := 2) hx hb dL_law_407 (by decide) ?_
  refine lv_iadd hx hb dL_law_408 ?_
  have t_3 : (i + 2).toInt = i.toInt + 2 := g5_iadd (a := i.toInt) (b := 2) (by rfl) (by decide) (by omega) (by omega)
  refine va_sld hx hb hX hbl hbA hS (vp_in_iff.mpr ⟨by omega, by omega⟩) dL_law_409 ?_
  obtain ⟨q4, hq4⟩ : ∃ y : Int32, xs (i + 2).toNatClampNeg = y := ⟨_, rfl⟩
  refine g5_ti (v := q4) hq4 ?_
  refine lv_aload_n hx hb dL_law_410 rfl (lv_at hl 3 rfl) ?_
  refine lv_iload_n hx hb dL_law_411 rfl (lv_at hl 0 rfl) ?_
  refine lv_iconst (v := 3) hx hb dL_law_412 (by decide) ?_
  refine lv_iadd hx hb dL_law_413 ?_
  have t_5 : (i + 3).toInt = i.toInt + 3 := g5_iadd (a := i.toInt) (b := 3) (by rfl) (by decide) (by omega) (by omega)
  refine va_sld hx hb hX hbl hbA hS (vp_in_iff.mpr ⟨by omega, by omega⟩) dL_law_414 ?_
  obtain ⟨q6, hq6⟩ : ∃ y : Int32, xs (i + 3).toNatClampNeg = y := ⟨_, rfl⟩
  refine g5_ti (v := q6) hq6 ?_
  refine lv_aload_n hx hb dL_law_415 rfl (lv_at hl 3 rfl) ?_
  refine lv_iload_n hx hb dL_law_416 rfl (lv_at hl 0 rfl) ?_
  refine lv_iconst (v := 4) hx hb dL_law_417 (by decide) ?_
  refine lv_iadd hx hb dL_law_418 ?_
  have t_7 : (i + 4).toInt = i.toInt + 4 := g5_iadd (a := i.toInt) (b := 4) (by rfl) (by decide) (by omega) (by omega)
  refine va_sld hx hb hX hbl hbA hS (vp_in_iff.mpr ⟨by omega, by omega⟩) dL_law_419 ?_
  obtain ⟨q8, hq8⟩ : ∃ y : Int32, xs (i + 4).toNatClampNeg = y := ⟨_, rfl⟩
  refine g5_ti (v := q8) hq8 ?_
  refine sx_stay hC hA hT hS hl.1 ⟨by omega, by omega⟩ hLO hI hP hD (fun r9 w hI {H} {locs} hP hD hS => ?_)
  have hP := hP.perm (List.perm_append_comm_assoc w mw (pflat G Lw))
  have hD := hD.perm (List.perm_append_comm_assoc w mw (pflat G Lw))
  refine lv_pop hx hb dL_law_423 rfl ?_
  refine lv_aload_n hx hb dL_law_424 rfl (lv_at hl 1 rfl) ?_
  refine lv_aload_n hx hb dL_law_425 rfl (lv_at hl 3 rfl) ?_
  refine lv_iload_n hx hb dL_law_426 rfl (lv_at hl 0 rfl) ?_
  refine lv_iconst (v := 1) hx hb dL_law_427 (by decide) ?_
  refine lv_iadd hx hb dL_law_428 ?_
  have t_10 : (i + 1).toInt = i.toInt + 1 := g5_iadd (a := i.toInt) (b := 1) (by rfl) (by decide) (by omega) (by omega)
  refine va_sld hx hb hX hbl hbA hS (vp_in_iff.mpr ⟨by omega, by omega⟩) dL_law_429 ?_
  refine g5_ti (v := q2) hq2 ?_
  refine lv_aload_n hx hb dL_law_430 rfl (lv_at hl 3 rfl) ?_
  refine lv_iload_n hx hb dL_law_431 rfl (lv_at hl 0 rfl) ?_
  refine lv_iconst (v := 2) hx hb dL_law_432 (by decide) ?_
  refine lv_iadd hx hb dL_law_433 ?_
  have t_11 : (i + 2).toInt = i.toInt + 2 := g5_iadd (a := i.toInt) (b := 2) (by rfl) (by decide) (by omega) (by omega)
  refine va_sld hx hb hX hbl hbA hS (vp_in_iff.mpr ⟨by omega, by omega⟩) dL_law_434 ?_
  refine g5_ti (v := q4) hq4 ?_
  refine lv_aload_n hx hb dL_law_435 rfl (lv_at hl 3 rfl) ?_
  refine lv_iload_n hx hb dL_law_436 rfl (lv_at hl 0 rfl) ?_
  refine lv_iconst (v := 3) hx hb dL_law_437 (by decide) ?_
  refine lv_iadd hx hb dL_law_438 ?_
  have t_12 : (i + 3).toInt = i.toInt + 3 := g5_iadd (a := i.toInt) (b := 3) (by rfl) (by decide) (by omega) (by omega)
  refine va_sld hx hb hX hbl hbA hS (vp_in_iff.mpr ⟨by omega, by omega⟩) dL_law_439 ?_
  refine g5_ti (v := q6) hq6 ?_
  refine lv_aload_n hx hb dL_law_440 rfl (lv_at hl 3 rfl) ?_
  refine lv_iload_n hx hb dL_law_441 rfl (lv_at hl 0 rfl) ?_
  refine lv_iconst (v := 4) hx hb dL_law_442 (by decide) ?_
  refine lv_iadd hx hb dL_law_443 ?_
  have t_13 : (i + 4).toInt = i.toInt + 4 := g5_iadd (a := i.toInt) (b := 4) (by rfl) (by decide) (by omega) (by omega)
  refine va_sld hx hb hX hbl hbA hS (vp_in_iff.mpr ⟨by omega, by omega⟩) dL_law_444 ?_
  refine g5_ti (v := q8) hq8 ?_
  refine sm_stay hC hA hT hS hl.1 ⟨by omega, by omega⟩ hM hP hD (fun r14 mw hM {H} {locs} hP hD hS => ?_)
  have hP := hP.perm (List.perm_append_comm_assoc mw w (pflat G Lw))
  have hD := hD.perm (List.perm_append_comm_assoc mw w (pflat G Lw))
  refine lv_pop hx hb dL_law_448 rfl ?_
  refine lv_goto (tgt := 1648) hx hb dL_law_449 (by decide) ?_
  refine W.widen (k := cells + 4) (n := slots + 429) (by omega) (by omega) ?_
  exact kk (sstay f_ro q2 q4 q6 q8) f_im f_ke f_x e_tl e_fd f_wd e_wn Lw w mw H locs ls hLO hI hM hP hD hS (lv_sub hl [0, 1, 2, 3] rfl)
set_option maxHeartbeats 4000000 in
set_option maxRecDepth 100000 in
theorem lc_where {p : Program} {l : Launch} {e : Env} {s : State} {m : MethodId} {below : List Frame} {meth : Method} {c : Code} {b Ls : Nat} {xs : Nat → Int32} {G : g5_G} {A : Nat → Prop} {Q : State → Prop} {H : Heap} {locs : List Loc} {ls : Array Slot} {cells slots : Nat} {w mw : va_W} {Lw : List LR} {x y : Nat} {f_ro : Nat → Int32} {f_im : Nat → Int32} {f_ke : Nat → Int32} {f_x : Nat → Int32} {e_tl : Int32} {e_fd : Int32} {f_wd : Nat → Int32} {e_wn : Int32} {i : Int32} (C : lwC p s m meth c b Ls xs G) (hA : ∀ q : Nat, s.heap.size ≤ q → A q) (hT : g5_S A s s.heap) (hbA : ¬ A b) (hS : va_S A s.heap H locs) (hrm : cells + 8 ≤ 600000 ∧ slots + 858 ≤ 7302250) (hLO : LOK Lw) (hI : XW G Lw x f_ro f_im f_ke f_x e_tl e_fd f_wd e_wn w) (hM : MW G y f_ro f_im f_ke f_x e_tl e_fd f_wd e_wn mw) (hP : va_P G.1 vwCl (w ++ (mw ++ pflat G Lw)) H) (hD : va_D A (w ++ (mw ++ pflat G Lw))) (hl : lv_has ls 4 [(3, .int i), (2, .ref y), (1, .ref x), (0, .ref b)]) (hi : 0 ≤ i.toInt ∧ i.toInt + 7 ≤ (Ls : Int)) (hLs : Ls ≤ 3584) (kk : ∀ (f_ro : Nat → Int32) (f_im : Nat → Int32) (f_ke : Nat → Int32) (f_x : Nat → Int32) (e_tl : Int32) (e_fd : Int32) (f_wd : Nat → Int32) (e_wn : Int32) (Lw : List LR) (w mw : va_W) (H : Heap) (locs : List Loc) (ls : Array Slot), LOK Lw → XW G Lw x f_ro f_im f_ke f_x e_tl e_fd f_wd e_wn w → MW G y f_ro f_im f_ke f_x e_tl e_fd f_wd e_wn mw → va_P G.1 vwCl (w ++ (mw ++ pflat G Lw)) H → va_D A (w ++ (mw ++ pflat G Lw)) → va_S A s.heap H locs → lv_has ls 4 [(3, .int i), (2, .ref y), (1, .ref x), (0, .ref b)] → W p l e room_1 s m #[Value.ref b] below meth c H locs (cells + 4) (slots + 429) Q (F0 m 1648 ls [])) : W p l e room_1 s m #[Value.ref b] below meth c H locs cells slots Q (F0 m 452 ls []) := by
  have hC := C
  obtain ⟨⟨hx, hb, hr, hml, hown, hts0, hX, hbl, hlocks, hgv⟩, hK, hN⟩ := C
  have hown : s.vm.findClass RL = some m.cls := hown
  have hts : ∀ w ∈ tblG, w.before #[Value.ref b] s = true := fun w h => hts0 w (List.mem_filter.mp h).1
  refine lv_aload_n hx hb dL_law_452 rfl (lv_at hl 2 rfl) ?_
  refine lv_aload_n hx hb dL_law_453 rfl (lv_at hl 3 rfl) ?_
  refine lv_iload_n hx hb dL_law_454 rfl (lv_at hl 0 rfl) ?_
  refine lv_iconst (v := 1) hx hb dL_law_455 (by decide) ?_
  refine lv_iadd hx hb dL_law_456 ?_
  have t_1 : (i + 1).toInt = i.toInt + 1 := g5_iadd (a := i.toInt) (b := 1) (by rfl) (by decide) (by omega) (by omega)
  refine va_sld hx hb hX hbl hbA hS (vp_in_iff.mpr ⟨by omega, by omega⟩) dL_law_457 ?_
  obtain ⟨q2, hq2⟩ : ∃ y : Int32, xs (i + 1).toNatClampNeg = y := ⟨_, rfl⟩
  refine g5_ti (v := q2) hq2 ?_
  refine lv_aload_n hx hb dL_law_458 rfl (lv_at hl 3 rfl) ?_
  refine lv_iload_n hx hb dL_law_459 rfl (lv_at hl 0 rfl) ?_
  refine lv_iconst (v := 2) hx hb dL_law_460 (by decide) ?_
  refine lv_iadd hx hb dL_law_461 ?_
  have t_3 : (i + 2).toInt = i.toInt + 2 := g5_iadd (a := i.toInt) (b := 2) (by rfl) (by decide) (by omega) (by omega)
  refine va_sld hx hb hX hbl hbA hS (vp_in_iff.mpr ⟨by omega, by omega⟩) dL_law_462 ?_
  obtain ⟨q4, hq4⟩ : ∃ y : Int32, xs (i + 2).toNatClampNeg = y := ⟨_, rfl⟩
  refine g5_ti (v := q4) hq4 ?_
  refine sx_where hC hA hT hS hl.1 ⟨by omega, by omega⟩ hLO hI hP hD (fun r5 w hI {H} {locs} hP hD hS => ?_)
  have hP := hP.perm (List.perm_append_comm_assoc w mw (pflat G Lw))
  have hD := hD.perm (List.perm_append_comm_assoc w mw (pflat G Lw))
  refine lv_pop hx hb dL_law_466 rfl ?_
  refine lv_aload_n hx hb dL_law_467 rfl (lv_at hl 1 rfl) ?_
  refine lv_aload_n hx hb dL_law_468 rfl (lv_at hl 3 rfl) ?_
  refine lv_iload_n hx hb dL_law_469 rfl (lv_at hl 0 rfl) ?_
  refine lv_iconst (v := 1) hx hb dL_law_470 (by decide) ?_
  refine lv_iadd hx hb dL_law_471 ?_
  have t_6 : (i + 1).toInt = i.toInt + 1 := g5_iadd (a := i.toInt) (b := 1) (by rfl) (by decide) (by omega) (by omega)
  refine va_sld hx hb hX hbl hbA hS (vp_in_iff.mpr ⟨by omega, by omega⟩) dL_law_472 ?_
  refine g5_ti (v := q2) hq2 ?_
  refine lv_aload_n hx hb dL_law_473 rfl (lv_at hl 3 rfl) ?_
  refine lv_iload_n hx hb dL_law_474 rfl (lv_at hl 0 rfl) ?_
  refine lv_iconst (v := 2) hx hb dL_law_475 (by decide) ?_
  refine lv_iadd hx hb dL_law_476 ?_
  have t_7 : (i + 2).toInt = i.toInt + 2 := g5_iadd (a := i.toInt) (b := 2) (by rfl) (by decide) (by omega) (by omega)
  refine va_sld hx hb hX hbl hbA hS (vp_in_iff.mpr ⟨by omega, by omega⟩) dL_law_477 ?_
  refine g5_ti (v := q4) hq4 ?_
  refine sm_where hC hA hT hS hl.1 ⟨by omega, by omega⟩ hM hP hD (fun r8 mw hM {H} {locs} hP hD hS => ?_)
  have hP := hP.perm (List.perm_append_comm_assoc mw w (pflat G Lw))
  have hD := hD.perm (List.perm_append_comm_assoc mw w (pflat G Lw))
  refine lv_pop hx hb dL_law_481 rfl ?_
  refine lv_goto (tgt := 1648) hx hb dL_law_482 (by decide) ?_
  refine W.widen (k := cells + 4) (n := slots + 429) (by omega) (by omega) ?_
  exact kk f_ro f_im f_ke f_x e_tl e_fd f_wd e_wn Lw w mw H locs ls hLO hI hM hP hD hS (lv_sub hl [0, 1, 2, 3] rfl)
set_option maxHeartbeats 4000000 in
set_option maxRecDepth 100000 in
theorem lc_least {p : Program} {l : Launch} {e : Env} {s : State} {m : MethodId} {below : List Frame} {meth : Method} {c : Code} {b Ls : Nat} {xs : Nat → Int32} {G : g5_G} {A : Nat → Prop} {Q : State → Prop} {H : Heap} {locs : List Loc} {ls : Array Slot} {cells slots : Nat} {w mw : va_W} {Lw : List LR} {x y : Nat} {f_ro : Nat → Int32} {f_im : Nat → Int32} {f_ke : Nat → Int32} {f_x : Nat → Int32} {e_tl : Int32} {e_fd : Int32} {f_wd : Nat → Int32} {e_wn : Int32} {i : Int32} (C : lwC p s m meth c b Ls xs G) (hA : ∀ q : Nat, s.heap.size ≤ q → A q) (hT : g5_S A s s.heap) (hbA : ¬ A b) (hS : va_S A s.heap H locs) (hrm : cells + 8 ≤ 600000 ∧ slots + 858 ≤ 7302250) (hLO : LOK Lw) (hI : XW G Lw x f_ro f_im f_ke f_x e_tl e_fd f_wd e_wn w) (hM : MW G y f_ro f_im f_ke f_x e_tl e_fd f_wd e_wn mw) (hP : va_P G.1 vwCl (w ++ (mw ++ pflat G Lw)) H) (hD : va_D A (w ++ (mw ++ pflat G Lw))) (hl : lv_has ls 4 [(3, .int i), (2, .ref y), (1, .ref x), (0, .ref b)]) (hi : 0 ≤ i.toInt ∧ i.toInt + 7 ≤ (Ls : Int)) (hLs : Ls ≤ 3584) (kk : ∀ (f_ro : Nat → Int32) (f_im : Nat → Int32) (f_ke : Nat → Int32) (f_x : Nat → Int32) (e_tl : Int32) (e_fd : Int32) (f_wd : Nat → Int32) (e_wn : Int32) (Lw : List LR) (w mw : va_W) (H : Heap) (locs : List Loc) (ls : Array Slot), LOK Lw → XW G Lw x f_ro f_im f_ke f_x e_tl e_fd f_wd e_wn w → MW G y f_ro f_im f_ke f_x e_tl e_fd f_wd e_wn mw → va_P G.1 vwCl (w ++ (mw ++ pflat G Lw)) H → va_D A (w ++ (mw ++ pflat G Lw)) → va_S A s.heap H locs → lv_has ls 4 [(3, .int i), (2, .ref y), (1, .ref x), (0, .ref b)] → W p l e room_1 s m #[Value.ref b] below meth c H locs (cells + 4) (slots + 429) Q (F0 m 1648 ls [])) : W p l e room_1 s m #[Value.ref b] below meth c H locs cells slots Q (F0 m 485 ls []) := by
  have hC := C
  obtain ⟨⟨hx, hb, hr, hml, hown, hts0, hX, hbl, hlocks, hgv⟩, hK, hN⟩ := C
  have hown : s.vm.findClass RL = some m.cls := hown
  have hts : ∀ w ∈ tblG, w.before #[Value.ref b] s = true := fun w h => hts0 w (List.mem_filter.mp h).1
  refine lv_aload_n hx hb dL_law_485 rfl (lv_at hl 2 rfl) ?_
  refine lv_aload_n hx hb dL_law_486 rfl (lv_at hl 3 rfl) ?_
  refine lv_iload_n hx hb dL_law_487 rfl (lv_at hl 0 rfl) ?_
  refine lv_iconst (v := 1) hx hb dL_law_488 (by decide) ?_
  refine lv_iadd hx hb dL_law_489 ?_
  have t_1 : (i + 1).toInt = i.toInt + 1 := g5_iadd (a := i.toInt) (b := 1) (by rfl) (by decide) (by omega) (by omega)
  refine va_sld hx hb hX hbl hbA hS (vp_in_iff.mpr ⟨by omega, by omega⟩) dL_law_490 ?_
  obtain ⟨q2, hq2⟩ : ∃ y : Int32, xs (i + 1).toNatClampNeg = y := ⟨_, rfl⟩
  refine g5_ti (v := q2) hq2 ?_
  refine sx_least hC hA hT hS hl.1 ⟨by omega, by omega⟩ hLO hI hP hD (fun r3 w hI {H} {locs} hP hD hS => ?_)
  have hP := hP.perm (List.perm_append_comm_assoc w mw (pflat G Lw))
  have hD := hD.perm (List.perm_append_comm_assoc w mw (pflat G Lw))
  refine lv_pop hx hb dL_law_494 rfl ?_
  refine lv_aload_n hx hb dL_law_495 rfl (lv_at hl 1 rfl) ?_
  refine lv_aload_n hx hb dL_law_496 rfl (lv_at hl 3 rfl) ?_
  refine lv_iload_n hx hb dL_law_497 rfl (lv_at hl 0 rfl) ?_
  refine lv_iconst (v := 1) hx hb dL_law_498 (by decide) ?_
  refine lv_iadd hx hb dL_law_499 ?_
  have t_4 : (i + 1).toInt = i.toInt + 1 := g5_iadd (a := i.toInt) (b := 1) (by rfl) (by decide) (by omega) (by omega)
  refine va_sld hx hb hX hbl hbA hS (vp_in_iff.mpr ⟨by omega, by omega⟩) dL_law_500 ?_
  refine g5_ti (v := q2) hq2 ?_
  refine sm_least hC hA hT hS hl.1 ⟨by omega, by omega⟩ hM hP hD (fun r5 mw hM {H} {locs} hP hD hS => ?_)
  have hP := hP.perm (List.perm_append_comm_assoc mw w (pflat G Lw))
  have hD := hD.perm (List.perm_append_comm_assoc mw w (pflat G Lw))
  refine lv_pop hx hb dL_law_504 rfl ?_
  refine lv_goto (tgt := 1648) hx hb dL_law_505 (by decide) ?_
  refine W.widen (k := cells + 4) (n := slots + 429) (by omega) (by omega) ?_
  exact kk (sleast f_ro q2) f_im f_ke f_x e_tl e_fd f_wd e_wn Lw w mw H locs ls hLO hI hM hP hD hS (lv_sub hl [0, 1, 2, 3] rfl)
set_option maxHeartbeats 4000000 in
set_option maxRecDepth 100000 in
theorem lc_feed {p : Program} {l : Launch} {e : Env} {s : State} {m : MethodId} {below : List Frame} {meth : Method} {c : Code} {b Ls : Nat} {xs : Nat → Int32} {G : g5_G} {A : Nat → Prop} {Q : State → Prop} {H : Heap} {locs : List Loc} {ls : Array Slot} {cells slots : Nat} {w mw : va_W} {Lw : List LR} {x y : Nat} {f_ro : Nat → Int32} {f_im : Nat → Int32} {f_ke : Nat → Int32} {f_x : Nat → Int32} {e_tl : Int32} {e_fd : Int32} {f_wd : Nat → Int32} {e_wn : Int32} {i : Int32} (C : lwC p s m meth c b Ls xs G) (hA : ∀ q : Nat, s.heap.size ≤ q → A q) (hT : g5_S A s s.heap) (hbA : ¬ A b) (hS : va_S A s.heap H locs) (hrm : cells + 8 ≤ 600000 ∧ slots + 858 ≤ 7302250) (hLO : LOK Lw) (hI : XW G Lw x f_ro f_im f_ke f_x e_tl e_fd f_wd e_wn w) (hM : MW G y f_ro f_im f_ke f_x e_tl e_fd f_wd e_wn mw) (hP : va_P G.1 vwCl (w ++ (mw ++ pflat G Lw)) H) (hD : va_D A (w ++ (mw ++ pflat G Lw))) (hl : lv_has ls 4 [(3, .int i), (2, .ref y), (1, .ref x), (0, .ref b)]) (hi : 0 ≤ i.toInt ∧ i.toInt + 7 ≤ (Ls : Int)) (hLs : Ls ≤ 3584) (kk : ∀ (f_ro : Nat → Int32) (f_im : Nat → Int32) (f_ke : Nat → Int32) (f_x : Nat → Int32) (e_tl : Int32) (e_fd : Int32) (f_wd : Nat → Int32) (e_wn : Int32) (Lw : List LR) (w mw : va_W) (H : Heap) (locs : List Loc) (ls : Array Slot), LOK Lw → XW G Lw x f_ro f_im f_ke f_x e_tl e_fd f_wd e_wn w → MW G y f_ro f_im f_ke f_x e_tl e_fd f_wd e_wn mw → va_P G.1 vwCl (w ++ (mw ++ pflat G Lw)) H → va_D A (w ++ (mw ++ pflat G Lw)) → va_S A s.heap H locs → lv_has ls 4 [(3, .int i), (2, .ref y), (1, .ref x), (0, .ref b)] → W p l e room_1 s m #[Value.ref b] below meth c H locs (cells + 4) (slots + 429) Q (F0 m 1648 ls [])) : W p l e room_1 s m #[Value.ref b] below meth c H locs cells slots Q (F0 m 508 ls []) := by
  have hC := C
  obtain ⟨⟨hx, hb, hr, hml, hown, hts0, hX, hbl, hlocks, hgv⟩, hK, hN⟩ := C
  have hown : s.vm.findClass RL = some m.cls := hown
  have hts : ∀ w ∈ tblG, w.before #[Value.ref b] s = true := fun w h => hts0 w (List.mem_filter.mp h).1
  refine lv_aload_n hx hb dL_law_508 rfl (lv_at hl 2 rfl) ?_
  refine lv_aload_n hx hb dL_law_509 rfl (lv_at hl 3 rfl) ?_
  refine lv_iload_n hx hb dL_law_510 rfl (lv_at hl 0 rfl) ?_
  refine lv_iconst (v := 1) hx hb dL_law_511 (by decide) ?_
  refine lv_iadd hx hb dL_law_512 ?_
  have t_1 : (i + 1).toInt = i.toInt + 1 := g5_iadd (a := i.toInt) (b := 1) (by rfl) (by decide) (by omega) (by omega)
  refine va_sld hx hb hX hbl hbA hS (vp_in_iff.mpr ⟨by omega, by omega⟩) dL_law_513 ?_
  obtain ⟨q2, hq2⟩ : ∃ y : Int32, xs (i + 1).toNatClampNeg = y := ⟨_, rfl⟩
  refine g5_ti (v := q2) hq2 ?_
  refine lv_aload_n hx hb dL_law_514 rfl (lv_at hl 3 rfl) ?_
  refine lv_iload_n hx hb dL_law_515 rfl (lv_at hl 0 rfl) ?_
  refine lv_iconst (v := 2) hx hb dL_law_516 (by decide) ?_
  refine lv_iadd hx hb dL_law_517 ?_
  have t_3 : (i + 2).toInt = i.toInt + 2 := g5_iadd (a := i.toInt) (b := 2) (by rfl) (by decide) (by omega) (by omega)
  refine va_sld hx hb hX hbl hbA hS (vp_in_iff.mpr ⟨by omega, by omega⟩) dL_law_518 ?_
  obtain ⟨q4, hq4⟩ : ∃ y : Int32, xs (i + 2).toNatClampNeg = y := ⟨_, rfl⟩
  refine g5_ti (v := q4) hq4 ?_
  refine lv_aload_n hx hb dL_law_519 rfl (lv_at hl 3 rfl) ?_
  refine lv_iload_n hx hb dL_law_520 rfl (lv_at hl 0 rfl) ?_
  refine lv_iconst (v := 3) hx hb dL_law_521 (by decide) ?_
  refine lv_iadd hx hb dL_law_522 ?_
  have t_5 : (i + 3).toInt = i.toInt + 3 := g5_iadd (a := i.toInt) (b := 3) (by rfl) (by decide) (by omega) (by omega)
  refine va_sld hx hb hX hbl hbA hS (vp_in_iff.mpr ⟨by omega, by omega⟩) dL_law_523 ?_
  obtain ⟨q6, hq6⟩ : ∃ y : Int32, xs (i + 3).toNatClampNeg = y := ⟨_, rfl⟩
  refine g5_ti (v := q6) hq6 ?_
  refine lv_aload_n hx hb dL_law_524 rfl (lv_at hl 3 rfl) ?_
  refine lv_iload_n hx hb dL_law_525 rfl (lv_at hl 0 rfl) ?_
  refine lv_iconst (v := 4) hx hb dL_law_526 (by decide) ?_
  refine lv_iadd hx hb dL_law_527 ?_
  have t_7 : (i + 4).toInt = i.toInt + 4 := g5_iadd (a := i.toInt) (b := 4) (by rfl) (by decide) (by omega) (by omega)
  refine va_sld hx hb hX hbl hbA hS (vp_in_iff.mpr ⟨by omega, by omega⟩) dL_law_528 ?_
  obtain ⟨q8, hq8⟩ : ∃ y : Int32, xs (i + 4).toNatClampNeg = y := ⟨_, rfl⟩
  refine g5_ti (v := q8) hq8 ?_
  refine lv_aload_n hx hb dL_law_529 rfl (lv_at hl 3 rfl) ?_
  refine lv_iload_n hx hb dL_law_530 rfl (lv_at hl 0 rfl) ?_
  refine lv_iconst (v := 5) hx hb dL_law_531 (by decide) ?_
  refine lv_iadd hx hb dL_law_532 ?_
  have t_9 : (i + 5).toInt = i.toInt + 5 := g5_iadd (a := i.toInt) (b := 5) (by rfl) (by decide) (by omega) (by omega)
  refine va_sld hx hb hX hbl hbA hS (vp_in_iff.mpr ⟨by omega, by omega⟩) dL_law_533 ?_
  obtain ⟨q10, hq10⟩ : ∃ y : Int32, xs (i + 5).toNatClampNeg = y := ⟨_, rfl⟩
  refine g5_ti (v := q10) hq10 ?_
  refine sx_feed hC hA hT hS hl.1 ⟨by omega, by omega⟩ hLO hI hP hD (fun r11 w hI {H} {locs} hP hD hS => ?_)
  have hP := hP.perm (List.perm_append_comm_assoc w mw (pflat G Lw))
  have hD := hD.perm (List.perm_append_comm_assoc w mw (pflat G Lw))
  refine lv_pop hx hb dL_law_537 rfl ?_
  refine lv_aload_n hx hb dL_law_538 rfl (lv_at hl 1 rfl) ?_
  refine lv_aload_n hx hb dL_law_539 rfl (lv_at hl 3 rfl) ?_
  refine lv_iload_n hx hb dL_law_540 rfl (lv_at hl 0 rfl) ?_
  refine lv_iconst (v := 1) hx hb dL_law_541 (by decide) ?_
  refine lv_iadd hx hb dL_law_542 ?_
  have t_12 : (i + 1).toInt = i.toInt + 1 := g5_iadd (a := i.toInt) (b := 1) (by rfl) (by decide) (by omega) (by omega)
  refine va_sld hx hb hX hbl hbA hS (vp_in_iff.mpr ⟨by omega, by omega⟩) dL_law_543 ?_
  refine g5_ti (v := q2) hq2 ?_
  refine lv_aload_n hx hb dL_law_544 rfl (lv_at hl 3 rfl) ?_
  refine lv_iload_n hx hb dL_law_545 rfl (lv_at hl 0 rfl) ?_
  refine lv_iconst (v := 2) hx hb dL_law_546 (by decide) ?_
  refine lv_iadd hx hb dL_law_547 ?_
  have t_13 : (i + 2).toInt = i.toInt + 2 := g5_iadd (a := i.toInt) (b := 2) (by rfl) (by decide) (by omega) (by omega)
  refine va_sld hx hb hX hbl hbA hS (vp_in_iff.mpr ⟨by omega, by omega⟩) dL_law_548 ?_
  refine g5_ti (v := q4) hq4 ?_
  refine lv_aload_n hx hb dL_law_549 rfl (lv_at hl 3 rfl) ?_
  refine lv_iload_n hx hb dL_law_550 rfl (lv_at hl 0 rfl) ?_
  refine lv_iconst (v := 3) hx hb dL_law_551 (by decide) ?_
  refine lv_iadd hx hb dL_law_552 ?_
  have t_14 : (i + 3).toInt = i.toInt + 3 := g5_iadd (a := i.toInt) (b := 3) (by rfl) (by decide) (by omega) (by omega)
  refine va_sld hx hb hX hbl hbA hS (vp_in_iff.mpr ⟨by omega, by omega⟩) dL_law_553 ?_
  refine g5_ti (v := q6) hq6 ?_
  refine lv_aload_n hx hb dL_law_554 rfl (lv_at hl 3 rfl) ?_
  refine lv_iload_n hx hb dL_law_555 rfl (lv_at hl 0 rfl) ?_
  refine lv_iconst (v := 4) hx hb dL_law_556 (by decide) ?_
  refine lv_iadd hx hb dL_law_557 ?_
  have t_15 : (i + 4).toInt = i.toInt + 4 := g5_iadd (a := i.toInt) (b := 4) (by rfl) (by decide) (by omega) (by omega)
  refine va_sld hx hb hX hbl hbA hS (vp_in_iff.mpr ⟨by omega, by omega⟩) dL_law_558 ?_
  refine g5_ti (v := q8) hq8 ?_
  refine lv_aload_n hx hb dL_law_559 rfl (lv_at hl 3 rfl) ?_
  refine lv_iload_n hx hb dL_law_560 rfl (lv_at hl 0 rfl) ?_
  refine lv_iconst (v := 5) hx hb dL_law_561 (by decide) ?_
  refine lv_iadd hx hb dL_law_562 ?_
  have t_16 : (i + 5).toInt = i.toInt + 5 := g5_iadd (a := i.toInt) (b := 5) (by rfl) (by decide) (by omega) (by omega)
  refine va_sld hx hb hX hbl hbA hS (vp_in_iff.mpr ⟨by omega, by omega⟩) dL_law_563 ?_
  refine g5_ti (v := q10) hq10 ?_
  refine sm_feed hC hA hT hS hl.1 ⟨by omega, by omega⟩ hM hP hD (fun r17 mw hM {H} {locs} hP hD hS => ?_)
  have hP := hP.perm (List.perm_append_comm_assoc mw w (pflat G Lw))
  have hD := hD.perm (List.perm_append_comm_assoc mw w (pflat G Lw))
  refine lv_pop hx hb dL_law_567 rfl ?_
  refine lv_goto (tgt := 1648) hx hb dL_law_568 (by decide) ?_
  refine W.widen (k := cells + 4) (n := slots + 429) (by omega) (by omega) ?_
  exact kk f_ro f_im f_ke (sfeedT f_x e_tl q2 q4 q6 q8 q10) (sfeedN e_tl) e_fd f_wd e_wn Lw w mw H locs ls hLO hI hM hP hD hS (lv_sub hl [0, 1, 2, 3] rfl)
set_option maxHeartbeats 4000000 in
set_option maxRecDepth 100000 in
theorem lc_end {p : Program} {l : Launch} {e : Env} {s : State} {m : MethodId} {below : List Frame} {meth : Method} {c : Code} {b Ls : Nat} {xs : Nat → Int32} {G : g5_G} {A : Nat → Prop} {Q : State → Prop} {H : Heap} {locs : List Loc} {ls : Array Slot} {cells slots : Nat} {w mw : va_W} {Lw : List LR} {x y : Nat} {f_ro : Nat → Int32} {f_im : Nat → Int32} {f_ke : Nat → Int32} {f_x : Nat → Int32} {e_tl : Int32} {e_fd : Int32} {f_wd : Nat → Int32} {e_wn : Int32} {i : Int32} (C : lwC p s m meth c b Ls xs G) (hA : ∀ q : Nat, s.heap.size ≤ q → A q) (hT : g5_S A s s.heap) (hbA : ¬ A b) (hS : va_S A s.heap H locs) (hrm : cells + 8 ≤ 600000 ∧ slots + 858 ≤ 7302250) (hLO : LOK Lw) (hI : XW G Lw x f_ro f_im f_ke f_x e_tl e_fd f_wd e_wn w) (hM : MW G y f_ro f_im f_ke f_x e_tl e_fd f_wd e_wn mw) (hP : va_P G.1 vwCl (w ++ (mw ++ pflat G Lw)) H) (hD : va_D A (w ++ (mw ++ pflat G Lw))) (hl : lv_has ls 4 [(3, .int i), (2, .ref y), (1, .ref x), (0, .ref b)]) (hi : 0 ≤ i.toInt ∧ i.toInt + 7 ≤ (Ls : Int)) (hLs : Ls ≤ 3584) (kk : ∀ (f_ro : Nat → Int32) (f_im : Nat → Int32) (f_ke : Nat → Int32) (f_x : Nat → Int32) (e_tl : Int32) (e_fd : Int32) (f_wd : Nat → Int32) (e_wn : Int32) (Lw : List LR) (w mw : va_W) (H : Heap) (locs : List Loc) (ls : Array Slot), LOK Lw → XW G Lw x f_ro f_im f_ke f_x e_tl e_fd f_wd e_wn w → MW G y f_ro f_im f_ke f_x e_tl e_fd f_wd e_wn mw → va_P G.1 vwCl (w ++ (mw ++ pflat G Lw)) H → va_D A (w ++ (mw ++ pflat G Lw)) → va_S A s.heap H locs → lv_has ls 4 [(3, .int i), (2, .ref y), (1, .ref x), (0, .ref b)] → W p l e room_1 s m #[Value.ref b] below meth c H locs (cells + 4) (slots + 429) Q (F0 m 1648 ls [])) : W p l e room_1 s m #[Value.ref b] below meth c H locs cells slots Q (F0 m 571 ls []) := by
  have hC := C
  obtain ⟨⟨hx, hb, hr, hml, hown, hts0, hX, hbl, hlocks, hgv⟩, hK, hN⟩ := C
  have hown : s.vm.findClass RL = some m.cls := hown
  have hts : ∀ w ∈ tblG, w.before #[Value.ref b] s = true := fun w h => hts0 w (List.mem_filter.mp h).1
  refine lv_aload_n hx hb dL_law_571 rfl (lv_at hl 2 rfl) ?_
  refine lv_aload_n hx hb dL_law_572 rfl (lv_at hl 3 rfl) ?_
  refine lv_iload_n hx hb dL_law_573 rfl (lv_at hl 0 rfl) ?_
  refine lv_iconst (v := 1) hx hb dL_law_574 (by decide) ?_
  refine lv_iadd hx hb dL_law_575 ?_
  have t_1 : (i + 1).toInt = i.toInt + 1 := g5_iadd (a := i.toInt) (b := 1) (by rfl) (by decide) (by omega) (by omega)
  refine va_sld hx hb hX hbl hbA hS (vp_in_iff.mpr ⟨by omega, by omega⟩) dL_law_576 ?_
  obtain ⟨q2, hq2⟩ : ∃ y : Int32, xs (i + 1).toNatClampNeg = y := ⟨_, rfl⟩
  refine g5_ti (v := q2) hq2 ?_
  refine sx_end hC hA hT hS hl.1 ⟨by omega, by omega⟩ hLO hI hP hD (fun r3 w hI {H} {locs} hP hD hS => ?_)
  have hP := hP.perm (List.perm_append_comm_assoc w mw (pflat G Lw))
  have hD := hD.perm (List.perm_append_comm_assoc w mw (pflat G Lw))
  refine lv_pop hx hb dL_law_580 rfl ?_
  refine lv_aload_n hx hb dL_law_581 rfl (lv_at hl 1 rfl) ?_
  refine lv_aload_n hx hb dL_law_582 rfl (lv_at hl 3 rfl) ?_
  refine lv_iload_n hx hb dL_law_583 rfl (lv_at hl 0 rfl) ?_
  refine lv_iconst (v := 1) hx hb dL_law_584 (by decide) ?_
  refine lv_iadd hx hb dL_law_585 ?_
  have t_4 : (i + 1).toInt = i.toInt + 1 := g5_iadd (a := i.toInt) (b := 1) (by rfl) (by decide) (by omega) (by omega)
  refine va_sld hx hb hX hbl hbA hS (vp_in_iff.mpr ⟨by omega, by omega⟩) dL_law_586 ?_
  refine g5_ti (v := q2) hq2 ?_
  refine sm_end hC hA hT hS hl.1 ⟨by omega, by omega⟩ hM hP hD (fun r5 mw hM {H} {locs} hP hD hS => ?_)
  have hP := hP.perm (List.perm_append_comm_assoc mw w (pflat G Lw))
  have hD := hD.perm (List.perm_append_comm_assoc mw w (pflat G Lw))
  refine lv_pop hx hb dL_law_590 rfl ?_
  refine lv_goto (tgt := 1648) hx hb dL_law_591 (by decide) ?_
  refine W.widen (k := cells + 4) (n := slots + 429) (by omega) (by omega) ?_
  exact kk f_ro f_im f_ke f_x (sendN e_tl q2) e_fd f_wd e_wn Lw w mw H locs ls hLO hI hM hP hD hS (lv_sub hl [0, 1, 2, 3] rfl)
set_option maxHeartbeats 4000000 in
set_option maxRecDepth 100000 in
theorem lc_row {p : Program} {l : Launch} {e : Env} {s : State} {m : MethodId} {below : List Frame} {meth : Method} {c : Code} {b Ls : Nat} {xs : Nat → Int32} {G : g5_G} {A : Nat → Prop} {Q : State → Prop} {H : Heap} {locs : List Loc} {ls : Array Slot} {cells slots : Nat} {w mw : va_W} {Lw : List LR} {x y : Nat} {f_ro : Nat → Int32} {f_im : Nat → Int32} {f_ke : Nat → Int32} {f_x : Nat → Int32} {e_tl : Int32} {e_fd : Int32} {f_wd : Nat → Int32} {e_wn : Int32} {i : Int32} (C : lwC p s m meth c b Ls xs G) (hA : ∀ q : Nat, s.heap.size ≤ q → A q) (hT : g5_S A s s.heap) (hbA : ¬ A b) (hS : va_S A s.heap H locs) (hrm : cells + 8 ≤ 600000 ∧ slots + 858 ≤ 7302250) (hLO : LOK Lw) (hI : XW G Lw x f_ro f_im f_ke f_x e_tl e_fd f_wd e_wn w) (hM : MW G y f_ro f_im f_ke f_x e_tl e_fd f_wd e_wn mw) (hP : va_P G.1 vwCl (w ++ (mw ++ pflat G Lw)) H) (hD : va_D A (w ++ (mw ++ pflat G Lw))) (hl : lv_has ls 4 [(3, .int i), (2, .ref y), (1, .ref x), (0, .ref b)]) (hi : 0 ≤ i.toInt ∧ i.toInt + 7 ≤ (Ls : Int)) (hLs : Ls ≤ 3584) (kk : ∀ (f_ro : Nat → Int32) (f_im : Nat → Int32) (f_ke : Nat → Int32) (f_x : Nat → Int32) (e_tl : Int32) (e_fd : Int32) (f_wd : Nat → Int32) (e_wn : Int32) (Lw : List LR) (w mw : va_W) (H : Heap) (locs : List Loc) (ls : Array Slot), LOK Lw → XW G Lw x f_ro f_im f_ke f_x e_tl e_fd f_wd e_wn w → MW G y f_ro f_im f_ke f_x e_tl e_fd f_wd e_wn mw → va_P G.1 vwCl (w ++ (mw ++ pflat G Lw)) H → va_D A (w ++ (mw ++ pflat G Lw)) → va_S A s.heap H locs → lv_has ls 4 [(3, .int i), (2, .ref y), (1, .ref x), (0, .ref b)] → W p l e room_1 s m #[Value.ref b] below meth c H locs (cells + 4) (slots + 429) Q (F0 m 1648 ls [])) : W p l e room_1 s m #[Value.ref b] below meth c H locs cells slots Q (F0 m 594 ls []) := by
  have hC := C
  obtain ⟨⟨hx, hb, hr, hml, hown, hts0, hX, hbl, hlocks, hgv⟩, hK, hN⟩ := C
  have hown : s.vm.findClass RL = some m.cls := hown
  have hts : ∀ w ∈ tblG, w.before #[Value.ref b] s = true := fun w h => hts0 w (List.mem_filter.mp h).1
  refine lv_aload_n hx hb dL_law_594 rfl (lv_at hl 2 rfl) ?_
  refine sx_row hC hA hT hS hl.1 ⟨by omega, by omega⟩ hLO hI hP hD (fun r1 w hI {H} {locs} hP hD hS => ?_)
  have hP := hP.perm (List.perm_append_comm_assoc w mw (pflat G Lw))
  have hD := hD.perm (List.perm_append_comm_assoc w mw (pflat G Lw))
  refine lv_pop hx hb dL_law_598 rfl ?_
  refine lv_aload_n hx hb dL_law_599 rfl (lv_at hl 1 rfl) ?_
  refine sm_row hC hA hT hS hl.1 ⟨by omega, by omega⟩ hM hP hD (fun r2 mw hM {H} {locs} hP hD hS => ?_)
  have hP := hP.perm (List.perm_append_comm_assoc mw w (pflat G Lw))
  have hD := hD.perm (List.perm_append_comm_assoc mw w (pflat G Lw))
  refine lv_pop hx hb dL_law_603 rfl ?_
  refine lv_goto (tgt := 1648) hx hb dL_law_604 (by decide) ?_
  refine W.widen (k := cells + 4) (n := slots + 429) (by omega) (by omega) ?_
  exact kk (srow f_x e_tl f_ro) f_im f_ke f_x (0 : Int32) (srowF f_x e_tl e_fd f_ro) f_wd e_wn Lw w mw H locs ls hLO hI hM hP hD hS (lv_sub hl [0, 1, 2, 3] rfl)
set_option maxHeartbeats 4000000 in
set_option maxRecDepth 100000 in
theorem lc_faded {p : Program} {l : Launch} {e : Env} {s : State} {m : MethodId} {below : List Frame} {meth : Method} {c : Code} {b Ls : Nat} {xs : Nat → Int32} {G : g5_G} {A : Nat → Prop} {Q : State → Prop} {H : Heap} {locs : List Loc} {ls : Array Slot} {cells slots : Nat} {w mw : va_W} {Lw : List LR} {x y : Nat} {f_ro : Nat → Int32} {f_im : Nat → Int32} {f_ke : Nat → Int32} {f_x : Nat → Int32} {e_tl : Int32} {e_fd : Int32} {f_wd : Nat → Int32} {e_wn : Int32} {i : Int32} (C : lwC p s m meth c b Ls xs G) (hA : ∀ q : Nat, s.heap.size ≤ q → A q) (hT : g5_S A s s.heap) (hbA : ¬ A b) (hS : va_S A s.heap H locs) (hrm : cells + 8 ≤ 600000 ∧ slots + 858 ≤ 7302250) (hLO : LOK Lw) (hI : XW G Lw x f_ro f_im f_ke f_x e_tl e_fd f_wd e_wn w) (hM : MW G y f_ro f_im f_ke f_x e_tl e_fd f_wd e_wn mw) (hP : va_P G.1 vwCl (w ++ (mw ++ pflat G Lw)) H) (hD : va_D A (w ++ (mw ++ pflat G Lw))) (hl : lv_has ls 4 [(3, .int i), (2, .ref y), (1, .ref x), (0, .ref b)]) (hi : 0 ≤ i.toInt ∧ i.toInt + 7 ≤ (Ls : Int)) (hLs : Ls ≤ 3584) (kk : ∀ (f_ro : Nat → Int32) (f_im : Nat → Int32) (f_ke : Nat → Int32) (f_x : Nat → Int32) (e_tl : Int32) (e_fd : Int32) (f_wd : Nat → Int32) (e_wn : Int32) (Lw : List LR) (w mw : va_W) (H : Heap) (locs : List Loc) (ls : Array Slot), LOK Lw → XW G Lw x f_ro f_im f_ke f_x e_tl e_fd f_wd e_wn w → MW G y f_ro f_im f_ke f_x e_tl e_fd f_wd e_wn mw → va_P G.1 vwCl (w ++ (mw ++ pflat G Lw)) H → va_D A (w ++ (mw ++ pflat G Lw)) → va_S A s.heap H locs → lv_has ls 4 [(3, .int i), (2, .ref y), (1, .ref x), (0, .ref b)] → W p l e room_1 s m #[Value.ref b] below meth c H locs (cells + 4) (slots + 429) Q (F0 m 1648 ls [])) : W p l e room_1 s m #[Value.ref b] below meth c H locs cells slots Q (F0 m 607 ls []) := by
  have hC := C
  obtain ⟨⟨hx, hb, hr, hml, hown, hts0, hX, hbl, hlocks, hgv⟩, hK, hN⟩ := C
  have hown : s.vm.findClass RL = some m.cls := hown
  have hts : ∀ w ∈ tblG, w.before #[Value.ref b] s = true := fun w h => hts0 w (List.mem_filter.mp h).1
  refine lv_aload_n hx hb dL_law_607 rfl (lv_at hl 2 rfl) ?_
  refine sx_faded hC hA hT hS hl.1 ⟨by omega, by omega⟩ hLO hI hP hD (fun r1 w hI {H} {locs} hP hD hS => ?_)
  have hP := hP.perm (List.perm_append_comm_assoc w mw (pflat G Lw))
  have hD := hD.perm (List.perm_append_comm_assoc w mw (pflat G Lw))
  refine lv_pop hx hb dL_law_611 rfl ?_
  refine lv_aload_n hx hb dL_law_612 rfl (lv_at hl 1 rfl) ?_
  refine sm_faded hC hA hT hS hl.1 ⟨by omega, by omega⟩ hM hP hD (fun r2 mw hM {H} {locs} hP hD hS => ?_)
  have hP := hP.perm (List.perm_append_comm_assoc mw w (pflat G Lw))
  have hD := hD.perm (List.perm_append_comm_assoc mw w (pflat G Lw))
  refine lv_pop hx hb dL_law_616 rfl ?_
  refine lv_goto (tgt := 1648) hx hb dL_law_617 (by decide) ?_
  refine W.widen (k := cells + 4) (n := slots + 429) (by omega) (by omega) ?_
  exact kk f_ro f_im f_ke f_x e_tl e_fd f_wd e_wn Lw w mw H locs ls hLO hI hM hP hD hS (lv_sub hl [0, 1, 2, 3] rfl)
set_option maxHeartbeats 4000000 in
set_option maxRecDepth 100000 in
theorem lc_law {p : Program} {l : Launch} {e : Env} {s : State} {m : MethodId} {below : List Frame} {meth : Method} {c : Code} {b Ls : Nat} {xs : Nat → Int32} {G : g5_G} {A : Nat → Prop} {Q : State → Prop} {H : Heap} {locs : List Loc} {ls : Array Slot} {cells slots : Nat} {w mw : va_W} {Lw : List LR} {x y : Nat} {f_ro : Nat → Int32} {f_im : Nat → Int32} {f_ke : Nat → Int32} {f_x : Nat → Int32} {e_tl : Int32} {e_fd : Int32} {f_wd : Nat → Int32} {e_wn : Int32} {i : Int32} (C : lwC p s m meth c b Ls xs G) (hA : ∀ q : Nat, s.heap.size ≤ q → A q) (hT : g5_S A s s.heap) (hbA : ¬ A b) (hS : va_S A s.heap H locs) (hrm : cells + 8 ≤ 600000 ∧ slots + 858 ≤ 7302250) (hLO : LOK Lw) (hI : XW G Lw x f_ro f_im f_ke f_x e_tl e_fd f_wd e_wn w) (hM : MW G y f_ro f_im f_ke f_x e_tl e_fd f_wd e_wn mw) (hP : va_P G.1 vwCl (w ++ (mw ++ pflat G Lw)) H) (hD : va_D A (w ++ (mw ++ pflat G Lw))) (hl : lv_has ls 4 [(3, .int i), (2, .ref y), (1, .ref x), (0, .ref b)]) (hi : 0 ≤ i.toInt ∧ i.toInt + 7 ≤ (Ls : Int)) (hLs : Ls ≤ 3584) (kk : ∀ (f_ro : Nat → Int32) (f_im : Nat → Int32) (f_ke : Nat → Int32) (f_x : Nat → Int32) (e_tl : Int32) (e_fd : Int32) (f_wd : Nat → Int32) (e_wn : Int32) (Lw : List LR) (w mw : va_W) (H : Heap) (locs : List Loc) (ls : Array Slot), LOK Lw → XW G Lw x f_ro f_im f_ke f_x e_tl e_fd f_wd e_wn w → MW G y f_ro f_im f_ke f_x e_tl e_fd f_wd e_wn mw → va_P G.1 vwCl (w ++ (mw ++ pflat G Lw)) H → va_D A (w ++ (mw ++ pflat G Lw)) → va_S A s.heap H locs → lv_has ls 4 [(3, .int i), (2, .ref y), (1, .ref x), (0, .ref b)] → W p l e room_1 s m #[Value.ref b] below meth c H locs (cells + 4) (slots + 429) Q (F0 m 1648 ls [])) : W p l e room_1 s m #[Value.ref b] below meth c H locs cells slots Q (F0 m 620 ls []) := by
  have hC := C
  obtain ⟨⟨hx, hb, hr, hml, hown, hts0, hX, hbl, hlocks, hgv⟩, hK, hN⟩ := C
  have hown : s.vm.findClass RL = some m.cls := hown
  have hts : ∀ w ∈ tblG, w.before #[Value.ref b] s = true := fun w h => hts0 w (List.mem_filter.mp h).1
  refine lv_aload_n hx hb dL_law_620 rfl (lv_at hl 2 rfl) ?_
  refine sx_law hC hA hT hS hl.1 ⟨by omega, by omega⟩ hLO hI hP hD (fun r1 L2 hLO w hI {H} {locs} hP hD hS => ?_)
  have hP := hP.perm (List.perm_append_comm_assoc w mw (pflat G L2))
  have hD := hD.perm (List.perm_append_comm_assoc w mw (pflat G L2))
  refine lv_pop hx hb dL_law_624 rfl ?_
  refine lv_aload_n hx hb dL_law_625 rfl (lv_at hl 1 rfl) ?_
  refine sm_law hC hA hT hS hl.1 ⟨by omega, by omega⟩ hM hP hD (fun r2 g_ro hag mw hM {H} {locs} hP hD hS => ?_)
  replace hI := xw_ag hI hag
  have hP := hP.perm (List.perm_append_comm_assoc mw w (pflat G L2))
  have hD := hD.perm (List.perm_append_comm_assoc mw w (pflat G L2))
  refine lv_pop hx hb dL_law_629 rfl ?_
  refine lv_goto (tgt := 1648) hx hb dL_law_630 (by decide) ?_
  exact kk g_ro f_im f_ke f_x (0 : Int32) e_fd f_wd e_wn L2 w mw H locs ls hLO hI hM hP hD hS (lv_sub hl [0, 1, 2, 3] rfl)
set_option maxHeartbeats 4000000 in
set_option maxRecDepth 100000 in
theorem lc_fault {p : Program} {l : Launch} {e : Env} {s : State} {m : MethodId} {below : List Frame} {meth : Method} {c : Code} {b Ls : Nat} {xs : Nat → Int32} {G : g5_G} {A : Nat → Prop} {Q : State → Prop} {H : Heap} {locs : List Loc} {ls : Array Slot} {cells slots : Nat} {w mw : va_W} {Lw : List LR} {x y : Nat} {f_ro : Nat → Int32} {f_im : Nat → Int32} {f_ke : Nat → Int32} {f_x : Nat → Int32} {e_tl : Int32} {e_fd : Int32} {f_wd : Nat → Int32} {e_wn : Int32} {i : Int32} (C : lwC p s m meth c b Ls xs G) (hA : ∀ q : Nat, s.heap.size ≤ q → A q) (hT : g5_S A s s.heap) (hbA : ¬ A b) (hS : va_S A s.heap H locs) (hrm : cells + 8 ≤ 600000 ∧ slots + 858 ≤ 7302250) (hLO : LOK Lw) (hI : XW G Lw x f_ro f_im f_ke f_x e_tl e_fd f_wd e_wn w) (hM : MW G y f_ro f_im f_ke f_x e_tl e_fd f_wd e_wn mw) (hP : va_P G.1 vwCl (w ++ (mw ++ pflat G Lw)) H) (hD : va_D A (w ++ (mw ++ pflat G Lw))) (hl : lv_has ls 4 [(3, .int i), (2, .ref y), (1, .ref x), (0, .ref b)]) (hi : 0 ≤ i.toInt ∧ i.toInt + 7 ≤ (Ls : Int)) (hLs : Ls ≤ 3584) (kk : ∀ (f_ro : Nat → Int32) (f_im : Nat → Int32) (f_ke : Nat → Int32) (f_x : Nat → Int32) (e_tl : Int32) (e_fd : Int32) (f_wd : Nat → Int32) (e_wn : Int32) (Lw : List LR) (w mw : va_W) (H : Heap) (locs : List Loc) (ls : Array Slot), LOK Lw → XW G Lw x f_ro f_im f_ke f_x e_tl e_fd f_wd e_wn w → MW G y f_ro f_im f_ke f_x e_tl e_fd f_wd e_wn mw → va_P G.1 vwCl (w ++ (mw ++ pflat G Lw)) H → va_D A (w ++ (mw ++ pflat G Lw)) → va_S A s.heap H locs → lv_has ls 4 [(3, .int i), (2, .ref y), (1, .ref x), (0, .ref b)] → W p l e room_1 s m #[Value.ref b] below meth c H locs (cells + 4) (slots + 429) Q (F0 m 1648 ls [])) : W p l e room_1 s m #[Value.ref b] below meth c H locs cells slots Q (F0 m 633 ls []) := by
  have hC := C
  obtain ⟨⟨hx, hb, hr, hml, hown, hts0, hX, hbl, hlocks, hgv⟩, hK, hN⟩ := C
  have hown : s.vm.findClass RL = some m.cls := hown
  have hts : ∀ w ∈ tblG, w.before #[Value.ref b] s = true := fun w h => hts0 w (List.mem_filter.mp h).1
  refine lv_aload_n hx hb dL_law_633 rfl (lv_at hl 2 rfl) ?_
  refine sx_fault hC hA hT hS hl.1 ⟨by omega, by omega⟩ hLO hI hP hD (fun r1 w hI {H} {locs} hP hD hS => ?_)
  have hP := hP.perm (List.perm_append_comm_assoc w mw (pflat G Lw))
  have hD := hD.perm (List.perm_append_comm_assoc w mw (pflat G Lw))
  refine lv_pop hx hb dL_law_637 rfl ?_
  refine lv_aload_n hx hb dL_law_638 rfl (lv_at hl 1 rfl) ?_
  refine sm_fault hC hA hT hS hl.1 ⟨by omega, by omega⟩ hM hP hD (fun r2 mw hM {H} {locs} hP hD hS => ?_)
  have hP := hP.perm (List.perm_append_comm_assoc mw w (pflat G Lw))
  have hD := hD.perm (List.perm_append_comm_assoc mw w (pflat G Lw))
  refine lv_pop hx hb dL_law_642 rfl ?_
  refine lv_goto (tgt := 1648) hx hb dL_law_643 (by decide) ?_
  refine W.widen (k := cells + 4) (n := slots + 429) (by omega) (by omega) ?_
  exact kk f_ro f_im f_ke f_x e_tl e_fd f_wd e_wn Lw w mw H locs ls hLO hI hM hP hD hS (lv_sub hl [0, 1, 2, 3] rfl)
set_option maxHeartbeats 4000000 in
set_option maxRecDepth 100000 in
theorem lc_force {p : Program} {l : Launch} {e : Env} {s : State} {m : MethodId} {below : List Frame} {meth : Method} {c : Code} {b Ls : Nat} {xs : Nat → Int32} {G : g5_G} {A : Nat → Prop} {Q : State → Prop} {H : Heap} {locs : List Loc} {ls : Array Slot} {cells slots : Nat} {w mw : va_W} {Lw : List LR} {x y : Nat} {f_ro : Nat → Int32} {f_im : Nat → Int32} {f_ke : Nat → Int32} {f_x : Nat → Int32} {e_tl : Int32} {e_fd : Int32} {f_wd : Nat → Int32} {e_wn : Int32} {i : Int32} (C : lwC p s m meth c b Ls xs G) (hA : ∀ q : Nat, s.heap.size ≤ q → A q) (hT : g5_S A s s.heap) (hbA : ¬ A b) (hS : va_S A s.heap H locs) (hrm : cells + 8 ≤ 600000 ∧ slots + 858 ≤ 7302250) (hLO : LOK Lw) (hI : XW G Lw x f_ro f_im f_ke f_x e_tl e_fd f_wd e_wn w) (hM : MW G y f_ro f_im f_ke f_x e_tl e_fd f_wd e_wn mw) (hP : va_P G.1 vwCl (w ++ (mw ++ pflat G Lw)) H) (hD : va_D A (w ++ (mw ++ pflat G Lw))) (hl : lv_has ls 4 [(3, .int i), (2, .ref y), (1, .ref x), (0, .ref b)]) (hi : 0 ≤ i.toInt ∧ i.toInt + 7 ≤ (Ls : Int)) (hLs : Ls ≤ 3584) (kk : ∀ (f_ro : Nat → Int32) (f_im : Nat → Int32) (f_ke : Nat → Int32) (f_x : Nat → Int32) (e_tl : Int32) (e_fd : Int32) (f_wd : Nat → Int32) (e_wn : Int32) (Lw : List LR) (w mw : va_W) (H : Heap) (locs : List Loc) (ls : Array Slot), LOK Lw → XW G Lw x f_ro f_im f_ke f_x e_tl e_fd f_wd e_wn w → MW G y f_ro f_im f_ke f_x e_tl e_fd f_wd e_wn mw → va_P G.1 vwCl (w ++ (mw ++ pflat G Lw)) H → va_D A (w ++ (mw ++ pflat G Lw)) → va_S A s.heap H locs → lv_has ls 4 [(3, .int i), (2, .ref y), (1, .ref x), (0, .ref b)] → W p l e room_1 s m #[Value.ref b] below meth c H locs (cells + 4) (slots + 429) Q (F0 m 1648 ls [])) : W p l e room_1 s m #[Value.ref b] below meth c H locs cells slots Q (F0 m 646 ls []) := by
  have hC := C
  obtain ⟨⟨hx, hb, hr, hml, hown, hts0, hX, hbl, hlocks, hgv⟩, hK, hN⟩ := C
  have hown : s.vm.findClass RL = some m.cls := hown
  have hts : ∀ w ∈ tblG, w.before #[Value.ref b] s = true := fun w h => hts0 w (List.mem_filter.mp h).1
  refine lv_aload_n hx hb dL_law_646 rfl (lv_at hl 2 rfl) ?_
  refine lv_aload_n hx hb dL_law_647 rfl (lv_at hl 3 rfl) ?_
  refine lv_iload_n hx hb dL_law_648 rfl (lv_at hl 0 rfl) ?_
  refine lv_iconst (v := 1) hx hb dL_law_649 (by decide) ?_
  refine lv_iadd hx hb dL_law_650 ?_
  have t_1 : (i + 1).toInt = i.toInt + 1 := g5_iadd (a := i.toInt) (b := 1) (by rfl) (by decide) (by omega) (by omega)
  refine va_sld hx hb hX hbl hbA hS (vp_in_iff.mpr ⟨by omega, by omega⟩) dL_law_651 ?_
  obtain ⟨q2, hq2⟩ : ∃ y : Int32, xs (i + 1).toNatClampNeg = y := ⟨_, rfl⟩
  refine g5_ti (v := q2) hq2 ?_
  refine sx_force hC hA hT hS hl.1 ⟨by omega, by omega⟩ hLO hI hP hD (fun r3 w hI {H} {locs} hP hD hS => ?_)
  have hP := hP.perm (List.perm_append_comm_assoc w mw (pflat G Lw))
  have hD := hD.perm (List.perm_append_comm_assoc w mw (pflat G Lw))
  refine lv_pop hx hb dL_law_655 rfl ?_
  refine lv_aload_n hx hb dL_law_656 rfl (lv_at hl 1 rfl) ?_
  refine lv_aload_n hx hb dL_law_657 rfl (lv_at hl 3 rfl) ?_
  refine lv_iload_n hx hb dL_law_658 rfl (lv_at hl 0 rfl) ?_
  refine lv_iconst (v := 1) hx hb dL_law_659 (by decide) ?_
  refine lv_iadd hx hb dL_law_660 ?_
  have t_4 : (i + 1).toInt = i.toInt + 1 := g5_iadd (a := i.toInt) (b := 1) (by rfl) (by decide) (by omega) (by omega)
  refine va_sld hx hb hX hbl hbA hS (vp_in_iff.mpr ⟨by omega, by omega⟩) dL_law_661 ?_
  refine g5_ti (v := q2) hq2 ?_
  refine sm_force hC hA hT hS hl.1 ⟨by omega, by omega⟩ hM hP hD (fun r5 g_ro hag mw hM {H} {locs} hP hD hS => ?_)
  replace hI := xw_ag hI hag
  have hP := hP.perm (List.perm_append_comm_assoc mw w (pflat G Lw))
  have hD := hD.perm (List.perm_append_comm_assoc mw w (pflat G Lw))
  refine lv_pop hx hb dL_law_665 rfl ?_
  refine lv_goto (tgt := 1648) hx hb dL_law_666 (by decide) ?_
  refine W.widen (k := cells + 4) (n := slots + 429) (by omega) (by omega) ?_
  exact kk g_ro f_im f_ke f_x e_tl e_fd f_wd e_wn Lw w mw H locs ls hLO hI hM hP hD hS (lv_sub hl [0, 1, 2, 3] rfl)
set_option maxHeartbeats 4000000 in
set_option maxRecDepth 100000 in
theorem lc_look {p : Program} {l : Launch} {e : Env} {s : State} {m : MethodId} {below : List Frame} {meth : Method} {c : Code} {b Ls : Nat} {xs : Nat → Int32} {G : g5_G} {A : Nat → Prop} {Q : State → Prop} {H : Heap} {locs : List Loc} {ls : Array Slot} {cells slots : Nat} {w mw : va_W} {Lw : List LR} {x y : Nat} {f_ro : Nat → Int32} {f_im : Nat → Int32} {f_ke : Nat → Int32} {f_x : Nat → Int32} {e_tl : Int32} {e_fd : Int32} {f_wd : Nat → Int32} {e_wn : Int32} {i : Int32} (C : lwC p s m meth c b Ls xs G) (hA : ∀ q : Nat, s.heap.size ≤ q → A q) (hT : g5_S A s s.heap) (hbA : ¬ A b) (hS : va_S A s.heap H locs) (hrm : cells + 8 ≤ 600000 ∧ slots + 858 ≤ 7302250) (hLO : LOK Lw) (hI : XW G Lw x f_ro f_im f_ke f_x e_tl e_fd f_wd e_wn w) (hM : MW G y f_ro f_im f_ke f_x e_tl e_fd f_wd e_wn mw) (hP : va_P G.1 vwCl (w ++ (mw ++ pflat G Lw)) H) (hD : va_D A (w ++ (mw ++ pflat G Lw))) (hl : lv_has ls 4 [(3, .int i), (2, .ref y), (1, .ref x), (0, .ref b)]) (hi : 0 ≤ i.toInt ∧ i.toInt + 7 ≤ (Ls : Int)) (hLs : Ls ≤ 3584) (kk : ∀ (f_ro : Nat → Int32) (f_im : Nat → Int32) (f_ke : Nat → Int32) (f_x : Nat → Int32) (e_tl : Int32) (e_fd : Int32) (f_wd : Nat → Int32) (e_wn : Int32) (Lw : List LR) (w mw : va_W) (H : Heap) (locs : List Loc) (ls : Array Slot), LOK Lw → XW G Lw x f_ro f_im f_ke f_x e_tl e_fd f_wd e_wn w → MW G y f_ro f_im f_ke f_x e_tl e_fd f_wd e_wn mw → va_P G.1 vwCl (w ++ (mw ++ pflat G Lw)) H → va_D A (w ++ (mw ++ pflat G Lw)) → va_S A s.heap H locs → lv_has ls 4 [(3, .int i), (2, .ref y), (1, .ref x), (0, .ref b)] → W p l e room_1 s m #[Value.ref b] below meth c H locs (cells + 4) (slots + 429) Q (F0 m 1648 ls [])) : W p l e room_1 s m #[Value.ref b] below meth c H locs cells slots Q (F0 m 669 ls []) := by
  have hC := C
  obtain ⟨⟨hx, hb, hr, hml, hown, hts0, hX, hbl, hlocks, hgv⟩, hK, hN⟩ := C
  have hown : s.vm.findClass RL = some m.cls := hown
  have hts : ∀ w ∈ tblG, w.before #[Value.ref b] s = true := fun w h => hts0 w (List.mem_filter.mp h).1
  refine lv_aload_n hx hb dL_law_669 rfl (lv_at hl 2 rfl) ?_
  refine lv_aload_n hx hb dL_law_670 rfl (lv_at hl 3 rfl) ?_
  refine lv_iload_n hx hb dL_law_671 rfl (lv_at hl 0 rfl) ?_
  refine lv_iconst (v := 1) hx hb dL_law_672 (by decide) ?_
  refine lv_iadd hx hb dL_law_673 ?_
  have t_1 : (i + 1).toInt = i.toInt + 1 := g5_iadd (a := i.toInt) (b := 1) (by rfl) (by decide) (by omega) (by omega)
  refine va_sld hx hb hX hbl hbA hS (vp_in_iff.mpr ⟨by omega, by omega⟩) dL_law_674 ?_
  obtain ⟨q2, hq2⟩ : ∃ y : Int32, xs (i + 1).toNatClampNeg = y := ⟨_, rfl⟩
  refine g5_ti (v := q2) hq2 ?_
  refine lv_aload_n hx hb dL_law_675 rfl (lv_at hl 3 rfl) ?_
  refine lv_iload_n hx hb dL_law_676 rfl (lv_at hl 0 rfl) ?_
  refine lv_iconst (v := 2) hx hb dL_law_677 (by decide) ?_
  refine lv_iadd hx hb dL_law_678 ?_
  have t_3 : (i + 2).toInt = i.toInt + 2 := g5_iadd (a := i.toInt) (b := 2) (by rfl) (by decide) (by omega) (by omega)
  refine va_sld hx hb hX hbl hbA hS (vp_in_iff.mpr ⟨by omega, by omega⟩) dL_law_679 ?_
  obtain ⟨q4, hq4⟩ : ∃ y : Int32, xs (i + 2).toNatClampNeg = y := ⟨_, rfl⟩
  refine g5_ti (v := q4) hq4 ?_
  refine lv_aload_n hx hb dL_law_680 rfl (lv_at hl 3 rfl) ?_
  refine lv_iload_n hx hb dL_law_681 rfl (lv_at hl 0 rfl) ?_
  refine lv_iconst (v := 3) hx hb dL_law_682 (by decide) ?_
  refine lv_iadd hx hb dL_law_683 ?_
  have t_5 : (i + 3).toInt = i.toInt + 3 := g5_iadd (a := i.toInt) (b := 3) (by rfl) (by decide) (by omega) (by omega)
  refine va_sld hx hb hX hbl hbA hS (vp_in_iff.mpr ⟨by omega, by omega⟩) dL_law_684 ?_
  obtain ⟨q6, hq6⟩ : ∃ y : Int32, xs (i + 3).toNatClampNeg = y := ⟨_, rfl⟩
  refine g5_ti (v := q6) hq6 ?_
  refine lv_aload_n hx hb dL_law_685 rfl (lv_at hl 3 rfl) ?_
  refine lv_iload_n hx hb dL_law_686 rfl (lv_at hl 0 rfl) ?_
  refine lv_iconst (v := 4) hx hb dL_law_687 (by decide) ?_
  refine lv_iadd hx hb dL_law_688 ?_
  have t_7 : (i + 4).toInt = i.toInt + 4 := g5_iadd (a := i.toInt) (b := 4) (by rfl) (by decide) (by omega) (by omega)
  refine va_sld hx hb hX hbl hbA hS (vp_in_iff.mpr ⟨by omega, by omega⟩) dL_law_689 ?_
  obtain ⟨q8, hq8⟩ : ∃ y : Int32, xs (i + 4).toNatClampNeg = y := ⟨_, rfl⟩
  refine g5_ti (v := q8) hq8 ?_
  refine sx_look hC hA hT hS hl.1 ⟨by omega, by omega⟩ hLO hI hP hD (fun r9 w hI {H} {locs} hP hD hS => ?_)
  have hP := hP.perm (List.perm_append_comm_assoc w mw (pflat G Lw))
  have hD := hD.perm (List.perm_append_comm_assoc w mw (pflat G Lw))
  refine lv_pop hx hb dL_law_693 rfl ?_
  refine lv_aload_n hx hb dL_law_694 rfl (lv_at hl 1 rfl) ?_
  refine lv_aload_n hx hb dL_law_695 rfl (lv_at hl 3 rfl) ?_
  refine lv_iload_n hx hb dL_law_696 rfl (lv_at hl 0 rfl) ?_
  refine lv_iconst (v := 1) hx hb dL_law_697 (by decide) ?_
  refine lv_iadd hx hb dL_law_698 ?_
  have t_10 : (i + 1).toInt = i.toInt + 1 := g5_iadd (a := i.toInt) (b := 1) (by rfl) (by decide) (by omega) (by omega)
  refine va_sld hx hb hX hbl hbA hS (vp_in_iff.mpr ⟨by omega, by omega⟩) dL_law_699 ?_
  refine g5_ti (v := q2) hq2 ?_
  refine lv_aload_n hx hb dL_law_700 rfl (lv_at hl 3 rfl) ?_
  refine lv_iload_n hx hb dL_law_701 rfl (lv_at hl 0 rfl) ?_
  refine lv_iconst (v := 2) hx hb dL_law_702 (by decide) ?_
  refine lv_iadd hx hb dL_law_703 ?_
  have t_11 : (i + 2).toInt = i.toInt + 2 := g5_iadd (a := i.toInt) (b := 2) (by rfl) (by decide) (by omega) (by omega)
  refine va_sld hx hb hX hbl hbA hS (vp_in_iff.mpr ⟨by omega, by omega⟩) dL_law_704 ?_
  refine g5_ti (v := q4) hq4 ?_
  refine lv_aload_n hx hb dL_law_705 rfl (lv_at hl 3 rfl) ?_
  refine lv_iload_n hx hb dL_law_706 rfl (lv_at hl 0 rfl) ?_
  refine lv_iconst (v := 3) hx hb dL_law_707 (by decide) ?_
  refine lv_iadd hx hb dL_law_708 ?_
  have t_12 : (i + 3).toInt = i.toInt + 3 := g5_iadd (a := i.toInt) (b := 3) (by rfl) (by decide) (by omega) (by omega)
  refine va_sld hx hb hX hbl hbA hS (vp_in_iff.mpr ⟨by omega, by omega⟩) dL_law_709 ?_
  refine g5_ti (v := q6) hq6 ?_
  refine lv_aload_n hx hb dL_law_710 rfl (lv_at hl 3 rfl) ?_
  refine lv_iload_n hx hb dL_law_711 rfl (lv_at hl 0 rfl) ?_
  refine lv_iconst (v := 4) hx hb dL_law_712 (by decide) ?_
  refine lv_iadd hx hb dL_law_713 ?_
  have t_13 : (i + 4).toInt = i.toInt + 4 := g5_iadd (a := i.toInt) (b := 4) (by rfl) (by decide) (by omega) (by omega)
  refine va_sld hx hb hX hbl hbA hS (vp_in_iff.mpr ⟨by omega, by omega⟩) dL_law_714 ?_
  refine g5_ti (v := q8) hq8 ?_
  refine sm_look hC hA hT hS hl.1 ⟨by omega, by omega⟩ hM hP hD (fun r14 mw hM {H} {locs} hP hD hS => ?_)
  have hP := hP.perm (List.perm_append_comm_assoc mw w (pflat G Lw))
  have hD := hD.perm (List.perm_append_comm_assoc mw w (pflat G Lw))
  refine lv_pop hx hb dL_law_718 rfl ?_
  refine lv_goto (tgt := 1648) hx hb dL_law_719 (by decide) ?_
  refine W.widen (k := cells + 4) (n := slots + 429) (by omega) (by omega) ?_
  exact kk f_ro f_im f_ke f_x e_tl e_fd f_wd e_wn Lw w mw H locs ls hLO hI hM hP hD hS (lv_sub hl [0, 1, 2, 3] rfl)
set_option maxHeartbeats 4000000 in
set_option maxRecDepth 100000 in
theorem lc_point {p : Program} {l : Launch} {e : Env} {s : State} {m : MethodId} {below : List Frame} {meth : Method} {c : Code} {b Ls : Nat} {xs : Nat → Int32} {G : g5_G} {A : Nat → Prop} {Q : State → Prop} {H : Heap} {locs : List Loc} {ls : Array Slot} {cells slots : Nat} {w mw : va_W} {Lw : List LR} {x y : Nat} {f_ro : Nat → Int32} {f_im : Nat → Int32} {f_ke : Nat → Int32} {f_x : Nat → Int32} {e_tl : Int32} {e_fd : Int32} {f_wd : Nat → Int32} {e_wn : Int32} {i : Int32} (C : lwC p s m meth c b Ls xs G) (hA : ∀ q : Nat, s.heap.size ≤ q → A q) (hT : g5_S A s s.heap) (hbA : ¬ A b) (hS : va_S A s.heap H locs) (hrm : cells + 8 ≤ 600000 ∧ slots + 858 ≤ 7302250) (hLO : LOK Lw) (hI : XW G Lw x f_ro f_im f_ke f_x e_tl e_fd f_wd e_wn w) (hM : MW G y f_ro f_im f_ke f_x e_tl e_fd f_wd e_wn mw) (hP : va_P G.1 vwCl (w ++ (mw ++ pflat G Lw)) H) (hD : va_D A (w ++ (mw ++ pflat G Lw))) (hl : lv_has ls 4 [(3, .int i), (2, .ref y), (1, .ref x), (0, .ref b)]) (hi : 0 ≤ i.toInt ∧ i.toInt + 7 ≤ (Ls : Int)) (hLs : Ls ≤ 3584) (kk : ∀ (f_ro : Nat → Int32) (f_im : Nat → Int32) (f_ke : Nat → Int32) (f_x : Nat → Int32) (e_tl : Int32) (e_fd : Int32) (f_wd : Nat → Int32) (e_wn : Int32) (Lw : List LR) (w mw : va_W) (H : Heap) (locs : List Loc) (ls : Array Slot), LOK Lw → XW G Lw x f_ro f_im f_ke f_x e_tl e_fd f_wd e_wn w → MW G y f_ro f_im f_ke f_x e_tl e_fd f_wd e_wn mw → va_P G.1 vwCl (w ++ (mw ++ pflat G Lw)) H → va_D A (w ++ (mw ++ pflat G Lw)) → va_S A s.heap H locs → lv_has ls 4 [(3, .int i), (2, .ref y), (1, .ref x), (0, .ref b)] → W p l e room_1 s m #[Value.ref b] below meth c H locs (cells + 4) (slots + 429) Q (F0 m 1648 ls [])) : W p l e room_1 s m #[Value.ref b] below meth c H locs cells slots Q (F0 m 722 ls []) := by
  have hC := C
  obtain ⟨⟨hx, hb, hr, hml, hown, hts0, hX, hbl, hlocks, hgv⟩, hK, hN⟩ := C
  have hown : s.vm.findClass RL = some m.cls := hown
  have hts : ∀ w ∈ tblG, w.before #[Value.ref b] s = true := fun w h => hts0 w (List.mem_filter.mp h).1
  refine lv_aload_n hx hb dL_law_722 rfl (lv_at hl 2 rfl) ?_
  refine lv_aload_n hx hb dL_law_723 rfl (lv_at hl 3 rfl) ?_
  refine lv_iload_n hx hb dL_law_724 rfl (lv_at hl 0 rfl) ?_
  refine lv_iconst (v := 1) hx hb dL_law_725 (by decide) ?_
  refine lv_iadd hx hb dL_law_726 ?_
  have t_1 : (i + 1).toInt = i.toInt + 1 := g5_iadd (a := i.toInt) (b := 1) (by rfl) (by decide) (by omega) (by omega)
  refine va_sld hx hb hX hbl hbA hS (vp_in_iff.mpr ⟨by omega, by omega⟩) dL_law_727 ?_
  obtain ⟨q2, hq2⟩ : ∃ y : Int32, xs (i + 1).toNatClampNeg = y := ⟨_, rfl⟩
  refine g5_ti (v := q2) hq2 ?_
  refine lv_aload_n hx hb dL_law_728 rfl (lv_at hl 3 rfl) ?_
  refine lv_iload_n hx hb dL_law_729 rfl (lv_at hl 0 rfl) ?_
  refine lv_iconst (v := 2) hx hb dL_law_730 (by decide) ?_
  refine lv_iadd hx hb dL_law_731 ?_
  have t_3 : (i + 2).toInt = i.toInt + 2 := g5_iadd (a := i.toInt) (b := 2) (by rfl) (by decide) (by omega) (by omega)
  refine va_sld hx hb hX hbl hbA hS (vp_in_iff.mpr ⟨by omega, by omega⟩) dL_law_732 ?_
  obtain ⟨q4, hq4⟩ : ∃ y : Int32, xs (i + 2).toNatClampNeg = y := ⟨_, rfl⟩
  refine g5_ti (v := q4) hq4 ?_
  refine lv_aload_n hx hb dL_law_733 rfl (lv_at hl 3 rfl) ?_
  refine lv_iload_n hx hb dL_law_734 rfl (lv_at hl 0 rfl) ?_
  refine lv_iconst (v := 3) hx hb dL_law_735 (by decide) ?_
  refine lv_iadd hx hb dL_law_736 ?_
  have t_5 : (i + 3).toInt = i.toInt + 3 := g5_iadd (a := i.toInt) (b := 3) (by rfl) (by decide) (by omega) (by omega)
  refine va_sld hx hb hX hbl hbA hS (vp_in_iff.mpr ⟨by omega, by omega⟩) dL_law_737 ?_
  obtain ⟨q6, hq6⟩ : ∃ y : Int32, xs (i + 3).toNatClampNeg = y := ⟨_, rfl⟩
  refine g5_ti (v := q6) hq6 ?_
  refine lv_aload_n hx hb dL_law_738 rfl (lv_at hl 3 rfl) ?_
  refine lv_iload_n hx hb dL_law_739 rfl (lv_at hl 0 rfl) ?_
  refine lv_iconst (v := 4) hx hb dL_law_740 (by decide) ?_
  refine lv_iadd hx hb dL_law_741 ?_
  have t_7 : (i + 4).toInt = i.toInt + 4 := g5_iadd (a := i.toInt) (b := 4) (by rfl) (by decide) (by omega) (by omega)
  refine va_sld hx hb hX hbl hbA hS (vp_in_iff.mpr ⟨by omega, by omega⟩) dL_law_742 ?_
  obtain ⟨q8, hq8⟩ : ∃ y : Int32, xs (i + 4).toNatClampNeg = y := ⟨_, rfl⟩
  refine g5_ti (v := q8) hq8 ?_
  refine sx_point hC hA hT hS hl.1 ⟨by omega, by omega⟩ hLO hI hP hD (fun r9 w hI {H} {locs} hP hD hS => ?_)
  have hP := hP.perm (List.perm_append_comm_assoc w mw (pflat G Lw))
  have hD := hD.perm (List.perm_append_comm_assoc w mw (pflat G Lw))
  refine lv_pop hx hb dL_law_746 rfl ?_
  refine lv_aload_n hx hb dL_law_747 rfl (lv_at hl 1 rfl) ?_
  refine lv_aload_n hx hb dL_law_748 rfl (lv_at hl 3 rfl) ?_
  refine lv_iload_n hx hb dL_law_749 rfl (lv_at hl 0 rfl) ?_
  refine lv_iconst (v := 1) hx hb dL_law_750 (by decide) ?_
  refine lv_iadd hx hb dL_law_751 ?_
  have t_10 : (i + 1).toInt = i.toInt + 1 := g5_iadd (a := i.toInt) (b := 1) (by rfl) (by decide) (by omega) (by omega)
  refine va_sld hx hb hX hbl hbA hS (vp_in_iff.mpr ⟨by omega, by omega⟩) dL_law_752 ?_
  refine g5_ti (v := q2) hq2 ?_
  refine lv_aload_n hx hb dL_law_753 rfl (lv_at hl 3 rfl) ?_
  refine lv_iload_n hx hb dL_law_754 rfl (lv_at hl 0 rfl) ?_
  refine lv_iconst (v := 2) hx hb dL_law_755 (by decide) ?_
  refine lv_iadd hx hb dL_law_756 ?_
  have t_11 : (i + 2).toInt = i.toInt + 2 := g5_iadd (a := i.toInt) (b := 2) (by rfl) (by decide) (by omega) (by omega)
  refine va_sld hx hb hX hbl hbA hS (vp_in_iff.mpr ⟨by omega, by omega⟩) dL_law_757 ?_
  refine g5_ti (v := q4) hq4 ?_
  refine lv_aload_n hx hb dL_law_758 rfl (lv_at hl 3 rfl) ?_
  refine lv_iload_n hx hb dL_law_759 rfl (lv_at hl 0 rfl) ?_
  refine lv_iconst (v := 3) hx hb dL_law_760 (by decide) ?_
  refine lv_iadd hx hb dL_law_761 ?_
  have t_12 : (i + 3).toInt = i.toInt + 3 := g5_iadd (a := i.toInt) (b := 3) (by rfl) (by decide) (by omega) (by omega)
  refine va_sld hx hb hX hbl hbA hS (vp_in_iff.mpr ⟨by omega, by omega⟩) dL_law_762 ?_
  refine g5_ti (v := q6) hq6 ?_
  refine lv_aload_n hx hb dL_law_763 rfl (lv_at hl 3 rfl) ?_
  refine lv_iload_n hx hb dL_law_764 rfl (lv_at hl 0 rfl) ?_
  refine lv_iconst (v := 4) hx hb dL_law_765 (by decide) ?_
  refine lv_iadd hx hb dL_law_766 ?_
  have t_13 : (i + 4).toInt = i.toInt + 4 := g5_iadd (a := i.toInt) (b := 4) (by rfl) (by decide) (by omega) (by omega)
  refine va_sld hx hb hX hbl hbA hS (vp_in_iff.mpr ⟨by omega, by omega⟩) dL_law_767 ?_
  refine g5_ti (v := q8) hq8 ?_
  refine sm_point hC hA hT hS hl.1 ⟨by omega, by omega⟩ hM hP hD (fun r14 mw hM {H} {locs} hP hD hS => ?_)
  have hP := hP.perm (List.perm_append_comm_assoc mw w (pflat G Lw))
  have hD := hD.perm (List.perm_append_comm_assoc mw w (pflat G Lw))
  refine lv_pop hx hb dL_law_771 rfl ?_
  refine lv_goto (tgt := 1648) hx hb dL_law_772 (by decide) ?_
  refine W.widen (k := cells + 4) (n := slots + 429) (by omega) (by omega) ?_
  exact kk f_ro f_im f_ke f_x e_tl e_fd f_wd e_wn Lw w mw H locs ls hLO hI hM hP hD hS (lv_sub hl [0, 1, 2, 3] rfl)
set_option maxHeartbeats 4000000 in
set_option maxRecDepth 100000 in
theorem lc_sees {p : Program} {l : Launch} {e : Env} {s : State} {m : MethodId} {below : List Frame} {meth : Method} {c : Code} {b Ls : Nat} {xs : Nat → Int32} {G : g5_G} {A : Nat → Prop} {Q : State → Prop} {H : Heap} {locs : List Loc} {ls : Array Slot} {cells slots : Nat} {w mw : va_W} {Lw : List LR} {x y : Nat} {f_ro : Nat → Int32} {f_im : Nat → Int32} {f_ke : Nat → Int32} {f_x : Nat → Int32} {e_tl : Int32} {e_fd : Int32} {f_wd : Nat → Int32} {e_wn : Int32} {i : Int32} (C : lwC p s m meth c b Ls xs G) (hA : ∀ q : Nat, s.heap.size ≤ q → A q) (hT : g5_S A s s.heap) (hbA : ¬ A b) (hS : va_S A s.heap H locs) (hrm : cells + 8 ≤ 600000 ∧ slots + 858 ≤ 7302250) (hLO : LOK Lw) (hI : XW G Lw x f_ro f_im f_ke f_x e_tl e_fd f_wd e_wn w) (hM : MW G y f_ro f_im f_ke f_x e_tl e_fd f_wd e_wn mw) (hP : va_P G.1 vwCl (w ++ (mw ++ pflat G Lw)) H) (hD : va_D A (w ++ (mw ++ pflat G Lw))) (hl : lv_has ls 4 [(3, .int i), (2, .ref y), (1, .ref x), (0, .ref b)]) (hi : 0 ≤ i.toInt ∧ i.toInt + 7 ≤ (Ls : Int)) (hLs : Ls ≤ 3584) (kk : ∀ (f_ro : Nat → Int32) (f_im : Nat → Int32) (f_ke : Nat → Int32) (f_x : Nat → Int32) (e_tl : Int32) (e_fd : Int32) (f_wd : Nat → Int32) (e_wn : Int32) (Lw : List LR) (w mw : va_W) (H : Heap) (locs : List Loc) (ls : Array Slot), LOK Lw → XW G Lw x f_ro f_im f_ke f_x e_tl e_fd f_wd e_wn w → MW G y f_ro f_im f_ke f_x e_tl e_fd f_wd e_wn mw → va_P G.1 vwCl (w ++ (mw ++ pflat G Lw)) H → va_D A (w ++ (mw ++ pflat G Lw)) → va_S A s.heap H locs → lv_has ls 4 [(3, .int i), (2, .ref y), (1, .ref x), (0, .ref b)] → W p l e room_1 s m #[Value.ref b] below meth c H locs (cells + 4) (slots + 429) Q (F0 m 1648 ls [])) : W p l e room_1 s m #[Value.ref b] below meth c H locs cells slots Q (F0 m 775 ls []) := by
  have hC := C
  obtain ⟨⟨hx, hb, hr, hml, hown, hts0, hX, hbl, hlocks, hgv⟩, hK, hN⟩ := C
  have hown : s.vm.findClass RL = some m.cls := hown
  have hts : ∀ w ∈ tblG, w.before #[Value.ref b] s = true := fun w h => hts0 w (List.mem_filter.mp h).1
  refine lv_aload_n hx hb dL_law_775 rfl (lv_at hl 2 rfl) ?_
  refine lv_aload_n hx hb dL_law_776 rfl (lv_at hl 3 rfl) ?_
  refine lv_iload_n hx hb dL_law_777 rfl (lv_at hl 0 rfl) ?_
  refine lv_iconst (v := 1) hx hb dL_law_778 (by decide) ?_
  refine lv_iadd hx hb dL_law_779 ?_
  have t_1 : (i + 1).toInt = i.toInt + 1 := g5_iadd (a := i.toInt) (b := 1) (by rfl) (by decide) (by omega) (by omega)
  refine va_sld hx hb hX hbl hbA hS (vp_in_iff.mpr ⟨by omega, by omega⟩) dL_law_780 ?_
  obtain ⟨q2, hq2⟩ : ∃ y : Int32, xs (i + 1).toNatClampNeg = y := ⟨_, rfl⟩
  refine g5_ti (v := q2) hq2 ?_
  refine lv_aload_n hx hb dL_law_781 rfl (lv_at hl 3 rfl) ?_
  refine lv_iload_n hx hb dL_law_782 rfl (lv_at hl 0 rfl) ?_
  refine lv_iconst (v := 2) hx hb dL_law_783 (by decide) ?_
  refine lv_iadd hx hb dL_law_784 ?_
  have t_3 : (i + 2).toInt = i.toInt + 2 := g5_iadd (a := i.toInt) (b := 2) (by rfl) (by decide) (by omega) (by omega)
  refine va_sld hx hb hX hbl hbA hS (vp_in_iff.mpr ⟨by omega, by omega⟩) dL_law_785 ?_
  obtain ⟨q4, hq4⟩ : ∃ y : Int32, xs (i + 2).toNatClampNeg = y := ⟨_, rfl⟩
  refine g5_ti (v := q4) hq4 ?_
  refine sx_sees hC hA hT hS hl.1 ⟨by omega, by omega⟩ hLO hI hP hD (fun r5 w hI {H} {locs} hP hD hS => ?_)
  have hP := hP.perm (List.perm_append_comm_assoc w mw (pflat G Lw))
  have hD := hD.perm (List.perm_append_comm_assoc w mw (pflat G Lw))
  refine lv_pop hx hb dL_law_789 rfl ?_
  refine lv_aload_n hx hb dL_law_790 rfl (lv_at hl 1 rfl) ?_
  refine lv_aload_n hx hb dL_law_791 rfl (lv_at hl 3 rfl) ?_
  refine lv_iload_n hx hb dL_law_792 rfl (lv_at hl 0 rfl) ?_
  refine lv_iconst (v := 1) hx hb dL_law_793 (by decide) ?_
  refine lv_iadd hx hb dL_law_794 ?_
  have t_6 : (i + 1).toInt = i.toInt + 1 := g5_iadd (a := i.toInt) (b := 1) (by rfl) (by decide) (by omega) (by omega)
  refine va_sld hx hb hX hbl hbA hS (vp_in_iff.mpr ⟨by omega, by omega⟩) dL_law_795 ?_
  refine g5_ti (v := q2) hq2 ?_
  refine lv_aload_n hx hb dL_law_796 rfl (lv_at hl 3 rfl) ?_
  refine lv_iload_n hx hb dL_law_797 rfl (lv_at hl 0 rfl) ?_
  refine lv_iconst (v := 2) hx hb dL_law_798 (by decide) ?_
  refine lv_iadd hx hb dL_law_799 ?_
  have t_7 : (i + 2).toInt = i.toInt + 2 := g5_iadd (a := i.toInt) (b := 2) (by rfl) (by decide) (by omega) (by omega)
  refine va_sld hx hb hX hbl hbA hS (vp_in_iff.mpr ⟨by omega, by omega⟩) dL_law_800 ?_
  refine g5_ti (v := q4) hq4 ?_
  refine sm_sees hC hA hT hS hl.1 ⟨by omega, by omega⟩ hM hP hD (fun r8 mw hM {H} {locs} hP hD hS => ?_)
  have hP := hP.perm (List.perm_append_comm_assoc mw w (pflat G Lw))
  have hD := hD.perm (List.perm_append_comm_assoc mw w (pflat G Lw))
  refine lv_pop hx hb dL_law_804 rfl ?_
  refine lv_goto (tgt := 1648) hx hb dL_law_805 (by decide) ?_
  refine W.widen (k := cells + 4) (n := slots + 429) (by omega) (by omega) ?_
  exact kk f_ro f_im f_ke f_x e_tl e_fd f_wd e_wn Lw w mw H locs ls hLO hI hM hP hD hS (lv_sub hl [0, 1, 2, 3] rfl)
set_option maxHeartbeats 4000000 in
set_option maxRecDepth 100000 in
theorem lc_late {p : Program} {l : Launch} {e : Env} {s : State} {m : MethodId} {below : List Frame} {meth : Method} {c : Code} {b Ls : Nat} {xs : Nat → Int32} {G : g5_G} {A : Nat → Prop} {Q : State → Prop} {H : Heap} {locs : List Loc} {ls : Array Slot} {cells slots : Nat} {w mw : va_W} {Lw : List LR} {x y : Nat} {f_ro : Nat → Int32} {f_im : Nat → Int32} {f_ke : Nat → Int32} {f_x : Nat → Int32} {e_tl : Int32} {e_fd : Int32} {f_wd : Nat → Int32} {e_wn : Int32} {i : Int32} (C : lwC p s m meth c b Ls xs G) (hA : ∀ q : Nat, s.heap.size ≤ q → A q) (hT : g5_S A s s.heap) (hbA : ¬ A b) (hS : va_S A s.heap H locs) (hrm : cells + 8 ≤ 600000 ∧ slots + 858 ≤ 7302250) (hLO : LOK Lw) (hI : XW G Lw x f_ro f_im f_ke f_x e_tl e_fd f_wd e_wn w) (hM : MW G y f_ro f_im f_ke f_x e_tl e_fd f_wd e_wn mw) (hP : va_P G.1 vwCl (w ++ (mw ++ pflat G Lw)) H) (hD : va_D A (w ++ (mw ++ pflat G Lw))) (hl : lv_has ls 4 [(3, .int i), (2, .ref y), (1, .ref x), (0, .ref b)]) (hi : 0 ≤ i.toInt ∧ i.toInt + 7 ≤ (Ls : Int)) (hLs : Ls ≤ 3584) (kk : ∀ (f_ro : Nat → Int32) (f_im : Nat → Int32) (f_ke : Nat → Int32) (f_x : Nat → Int32) (e_tl : Int32) (e_fd : Int32) (f_wd : Nat → Int32) (e_wn : Int32) (Lw : List LR) (w mw : va_W) (H : Heap) (locs : List Loc) (ls : Array Slot), LOK Lw → XW G Lw x f_ro f_im f_ke f_x e_tl e_fd f_wd e_wn w → MW G y f_ro f_im f_ke f_x e_tl e_fd f_wd e_wn mw → va_P G.1 vwCl (w ++ (mw ++ pflat G Lw)) H → va_D A (w ++ (mw ++ pflat G Lw)) → va_S A s.heap H locs → lv_has ls 4 [(3, .int i), (2, .ref y), (1, .ref x), (0, .ref b)] → W p l e room_1 s m #[Value.ref b] below meth c H locs (cells + 4) (slots + 429) Q (F0 m 1648 ls [])) : W p l e room_1 s m #[Value.ref b] below meth c H locs cells slots Q (F0 m 808 ls []) := by
  have hC := C
  obtain ⟨⟨hx, hb, hr, hml, hown, hts0, hX, hbl, hlocks, hgv⟩, hK, hN⟩ := C
  have hown : s.vm.findClass RL = some m.cls := hown
  have hts : ∀ w ∈ tblG, w.before #[Value.ref b] s = true := fun w h => hts0 w (List.mem_filter.mp h).1
  refine lv_aload_n hx hb dL_law_808 rfl (lv_at hl 2 rfl) ?_
  refine lv_aload_n hx hb dL_law_809 rfl (lv_at hl 3 rfl) ?_
  refine lv_iload_n hx hb dL_law_810 rfl (lv_at hl 0 rfl) ?_
  refine lv_iconst (v := 1) hx hb dL_law_811 (by decide) ?_
  refine lv_iadd hx hb dL_law_812 ?_
  have t_1 : (i + 1).toInt = i.toInt + 1 := g5_iadd (a := i.toInt) (b := 1) (by rfl) (by decide) (by omega) (by omega)
  refine va_sld hx hb hX hbl hbA hS (vp_in_iff.mpr ⟨by omega, by omega⟩) dL_law_813 ?_
  obtain ⟨q2, hq2⟩ : ∃ y : Int32, xs (i + 1).toNatClampNeg = y := ⟨_, rfl⟩
  refine g5_ti (v := q2) hq2 ?_
  refine lv_aload_n hx hb dL_law_814 rfl (lv_at hl 3 rfl) ?_
  refine lv_iload_n hx hb dL_law_815 rfl (lv_at hl 0 rfl) ?_
  refine lv_iconst (v := 2) hx hb dL_law_816 (by decide) ?_
  refine lv_iadd hx hb dL_law_817 ?_
  have t_3 : (i + 2).toInt = i.toInt + 2 := g5_iadd (a := i.toInt) (b := 2) (by rfl) (by decide) (by omega) (by omega)
  refine va_sld hx hb hX hbl hbA hS (vp_in_iff.mpr ⟨by omega, by omega⟩) dL_law_818 ?_
  obtain ⟨q4, hq4⟩ : ∃ y : Int32, xs (i + 2).toNatClampNeg = y := ⟨_, rfl⟩
  refine g5_ti (v := q4) hq4 ?_
  refine lv_aload_n hx hb dL_law_819 rfl (lv_at hl 3 rfl) ?_
  refine lv_iload_n hx hb dL_law_820 rfl (lv_at hl 0 rfl) ?_
  refine lv_iconst (v := 3) hx hb dL_law_821 (by decide) ?_
  refine lv_iadd hx hb dL_law_822 ?_
  have t_5 : (i + 3).toInt = i.toInt + 3 := g5_iadd (a := i.toInt) (b := 3) (by rfl) (by decide) (by omega) (by omega)
  refine va_sld hx hb hX hbl hbA hS (vp_in_iff.mpr ⟨by omega, by omega⟩) dL_law_823 ?_
  obtain ⟨q6, hq6⟩ : ∃ y : Int32, xs (i + 3).toNatClampNeg = y := ⟨_, rfl⟩
  refine g5_ti (v := q6) hq6 ?_
  refine sx_late hC hA hT hS hl.1 ⟨by omega, by omega⟩ hLO hI hP hD (fun r7 w hI {H} {locs} hP hD hS => ?_)
  have hP := hP.perm (List.perm_append_comm_assoc w mw (pflat G Lw))
  have hD := hD.perm (List.perm_append_comm_assoc w mw (pflat G Lw))
  refine lv_pop hx hb dL_law_827 rfl ?_
  refine lv_aload_n hx hb dL_law_828 rfl (lv_at hl 1 rfl) ?_
  refine lv_aload_n hx hb dL_law_829 rfl (lv_at hl 3 rfl) ?_
  refine lv_iload_n hx hb dL_law_830 rfl (lv_at hl 0 rfl) ?_
  refine lv_iconst (v := 1) hx hb dL_law_831 (by decide) ?_
  refine lv_iadd hx hb dL_law_832 ?_
  have t_8 : (i + 1).toInt = i.toInt + 1 := g5_iadd (a := i.toInt) (b := 1) (by rfl) (by decide) (by omega) (by omega)
  refine va_sld hx hb hX hbl hbA hS (vp_in_iff.mpr ⟨by omega, by omega⟩) dL_law_833 ?_
  refine g5_ti (v := q2) hq2 ?_
  refine lv_aload_n hx hb dL_law_834 rfl (lv_at hl 3 rfl) ?_
  refine lv_iload_n hx hb dL_law_835 rfl (lv_at hl 0 rfl) ?_
  refine lv_iconst (v := 2) hx hb dL_law_836 (by decide) ?_
  refine lv_iadd hx hb dL_law_837 ?_
  have t_9 : (i + 2).toInt = i.toInt + 2 := g5_iadd (a := i.toInt) (b := 2) (by rfl) (by decide) (by omega) (by omega)
  refine va_sld hx hb hX hbl hbA hS (vp_in_iff.mpr ⟨by omega, by omega⟩) dL_law_838 ?_
  refine g5_ti (v := q4) hq4 ?_
  refine lv_aload_n hx hb dL_law_839 rfl (lv_at hl 3 rfl) ?_
  refine lv_iload_n hx hb dL_law_840 rfl (lv_at hl 0 rfl) ?_
  refine lv_iconst (v := 3) hx hb dL_law_841 (by decide) ?_
  refine lv_iadd hx hb dL_law_842 ?_
  have t_10 : (i + 3).toInt = i.toInt + 3 := g5_iadd (a := i.toInt) (b := 3) (by rfl) (by decide) (by omega) (by omega)
  refine va_sld hx hb hX hbl hbA hS (vp_in_iff.mpr ⟨by omega, by omega⟩) dL_law_843 ?_
  refine g5_ti (v := q6) hq6 ?_
  refine sm_late hC hA hT hS hl.1 ⟨by omega, by omega⟩ hM hP hD (fun r11 mw hM {H} {locs} hP hD hS => ?_)
  have hP := hP.perm (List.perm_append_comm_assoc mw w (pflat G Lw))
  have hD := hD.perm (List.perm_append_comm_assoc mw w (pflat G Lw))
  refine lv_pop hx hb dL_law_847 rfl ?_
  refine lv_goto (tgt := 1648) hx hb dL_law_848 (by decide) ?_
  refine W.widen (k := cells + 4) (n := slots + 429) (by omega) (by omega) ?_
  exact kk f_ro f_im f_ke f_x e_tl e_fd f_wd e_wn Lw w mw H locs ls hLO hI hM hP hD hS (lv_sub hl [0, 1, 2, 3] rfl)
set_option maxHeartbeats 4000000 in
set_option maxRecDepth 100000 in
theorem lc_first {p : Program} {l : Launch} {e : Env} {s : State} {m : MethodId} {below : List Frame} {meth : Method} {c : Code} {b Ls : Nat} {xs : Nat → Int32} {G : g5_G} {A : Nat → Prop} {Q : State → Prop} {H : Heap} {locs : List Loc} {ls : Array Slot} {cells slots : Nat} {w mw : va_W} {Lw : List LR} {x y : Nat} {f_ro : Nat → Int32} {f_im : Nat → Int32} {f_ke : Nat → Int32} {f_x : Nat → Int32} {e_tl : Int32} {e_fd : Int32} {f_wd : Nat → Int32} {e_wn : Int32} {i : Int32} (C : lwC p s m meth c b Ls xs G) (hA : ∀ q : Nat, s.heap.size ≤ q → A q) (hT : g5_S A s s.heap) (hbA : ¬ A b) (hS : va_S A s.heap H locs) (hrm : cells + 8 ≤ 600000 ∧ slots + 858 ≤ 7302250) (hLO : LOK Lw) (hI : XW G Lw x f_ro f_im f_ke f_x e_tl e_fd f_wd e_wn w) (hM : MW G y f_ro f_im f_ke f_x e_tl e_fd f_wd e_wn mw) (hP : va_P G.1 vwCl (w ++ (mw ++ pflat G Lw)) H) (hD : va_D A (w ++ (mw ++ pflat G Lw))) (hl : lv_has ls 4 [(3, .int i), (2, .ref y), (1, .ref x), (0, .ref b)]) (hi : 0 ≤ i.toInt ∧ i.toInt + 7 ≤ (Ls : Int)) (hLs : Ls ≤ 3584) (kk : ∀ (f_ro : Nat → Int32) (f_im : Nat → Int32) (f_ke : Nat → Int32) (f_x : Nat → Int32) (e_tl : Int32) (e_fd : Int32) (f_wd : Nat → Int32) (e_wn : Int32) (Lw : List LR) (w mw : va_W) (H : Heap) (locs : List Loc) (ls : Array Slot), LOK Lw → XW G Lw x f_ro f_im f_ke f_x e_tl e_fd f_wd e_wn w → MW G y f_ro f_im f_ke f_x e_tl e_fd f_wd e_wn mw → va_P G.1 vwCl (w ++ (mw ++ pflat G Lw)) H → va_D A (w ++ (mw ++ pflat G Lw)) → va_S A s.heap H locs → lv_has ls 4 [(3, .int i), (2, .ref y), (1, .ref x), (0, .ref b)] → W p l e room_1 s m #[Value.ref b] below meth c H locs (cells + 4) (slots + 429) Q (F0 m 1648 ls [])) : W p l e room_1 s m #[Value.ref b] below meth c H locs cells slots Q (F0 m 851 ls []) := by
  have hC := C
  obtain ⟨⟨hx, hb, hr, hml, hown, hts0, hX, hbl, hlocks, hgv⟩, hK, hN⟩ := C
  have hown : s.vm.findClass RL = some m.cls := hown
  have hts : ∀ w ∈ tblG, w.before #[Value.ref b] s = true := fun w h => hts0 w (List.mem_filter.mp h).1
  refine lv_aload_n hx hb dL_law_851 rfl (lv_at hl 2 rfl) ?_
  refine lv_aload_n hx hb dL_law_852 rfl (lv_at hl 3 rfl) ?_
  refine lv_iload_n hx hb dL_law_853 rfl (lv_at hl 0 rfl) ?_
  refine lv_iconst (v := 1) hx hb dL_law_854 (by decide) ?_
  refine lv_iadd hx hb dL_law_855 ?_
  have t_1 : (i + 1).toInt = i.toInt + 1 := g5_iadd (a := i.toInt) (b := 1) (by rfl) (by decide) (by omega) (by omega)
  refine va_sld hx hb hX hbl hbA hS (vp_in_iff.mpr ⟨by omega, by omega⟩) dL_law_856 ?_
  obtain ⟨q2, hq2⟩ : ∃ y : Int32, xs (i + 1).toNatClampNeg = y := ⟨_, rfl⟩
  refine g5_ti (v := q2) hq2 ?_
  refine lv_aload_n hx hb dL_law_857 rfl (lv_at hl 3 rfl) ?_
  refine lv_iload_n hx hb dL_law_858 rfl (lv_at hl 0 rfl) ?_
  refine lv_iconst (v := 2) hx hb dL_law_859 (by decide) ?_
  refine lv_iadd hx hb dL_law_860 ?_
  have t_3 : (i + 2).toInt = i.toInt + 2 := g5_iadd (a := i.toInt) (b := 2) (by rfl) (by decide) (by omega) (by omega)
  refine va_sld hx hb hX hbl hbA hS (vp_in_iff.mpr ⟨by omega, by omega⟩) dL_law_861 ?_
  obtain ⟨q4, hq4⟩ : ∃ y : Int32, xs (i + 2).toNatClampNeg = y := ⟨_, rfl⟩
  refine g5_ti (v := q4) hq4 ?_
  refine sx_first hC hA hT hS hl.1 ⟨by omega, by omega⟩ hLO hI hP hD (fun r5 w hI {H} {locs} hP hD hS => ?_)
  have hP := hP.perm (List.perm_append_comm_assoc w mw (pflat G Lw))
  have hD := hD.perm (List.perm_append_comm_assoc w mw (pflat G Lw))
  refine lv_pop hx hb dL_law_865 rfl ?_
  refine lv_aload_n hx hb dL_law_866 rfl (lv_at hl 1 rfl) ?_
  refine lv_aload_n hx hb dL_law_867 rfl (lv_at hl 3 rfl) ?_
  refine lv_iload_n hx hb dL_law_868 rfl (lv_at hl 0 rfl) ?_
  refine lv_iconst (v := 1) hx hb dL_law_869 (by decide) ?_
  refine lv_iadd hx hb dL_law_870 ?_
  have t_6 : (i + 1).toInt = i.toInt + 1 := g5_iadd (a := i.toInt) (b := 1) (by rfl) (by decide) (by omega) (by omega)
  refine va_sld hx hb hX hbl hbA hS (vp_in_iff.mpr ⟨by omega, by omega⟩) dL_law_871 ?_
  refine g5_ti (v := q2) hq2 ?_
  refine lv_aload_n hx hb dL_law_872 rfl (lv_at hl 3 rfl) ?_
  refine lv_iload_n hx hb dL_law_873 rfl (lv_at hl 0 rfl) ?_
  refine lv_iconst (v := 2) hx hb dL_law_874 (by decide) ?_
  refine lv_iadd hx hb dL_law_875 ?_
  have t_7 : (i + 2).toInt = i.toInt + 2 := g5_iadd (a := i.toInt) (b := 2) (by rfl) (by decide) (by omega) (by omega)
  refine va_sld hx hb hX hbl hbA hS (vp_in_iff.mpr ⟨by omega, by omega⟩) dL_law_876 ?_
  refine g5_ti (v := q4) hq4 ?_
  refine sm_first hC hA hT hS hl.1 ⟨by omega, by omega⟩ hM hP hD (fun r8 mw hM {H} {locs} hP hD hS => ?_)
  have hP := hP.perm (List.perm_append_comm_assoc mw w (pflat G Lw))
  have hD := hD.perm (List.perm_append_comm_assoc mw w (pflat G Lw))
  refine lv_pop hx hb dL_law_880 rfl ?_
  refine lv_goto (tgt := 1648) hx hb dL_law_881 (by decide) ?_
  refine W.widen (k := cells + 4) (n := slots + 429) (by omega) (by omega) ?_
  exact kk f_ro f_im f_ke f_x e_tl e_fd f_wd e_wn Lw w mw H locs ls hLO hI hM hP hD hS (lv_sub hl [0, 1, 2, 3] rfl)
set_option maxHeartbeats 4000000 in
set_option maxRecDepth 100000 in
theorem lc_lit {p : Program} {l : Launch} {e : Env} {s : State} {m : MethodId} {below : List Frame} {meth : Method} {c : Code} {b Ls : Nat} {xs : Nat → Int32} {G : g5_G} {A : Nat → Prop} {Q : State → Prop} {H : Heap} {locs : List Loc} {ls : Array Slot} {cells slots : Nat} {w mw : va_W} {Lw : List LR} {x y : Nat} {f_ro : Nat → Int32} {f_im : Nat → Int32} {f_ke : Nat → Int32} {f_x : Nat → Int32} {e_tl : Int32} {e_fd : Int32} {f_wd : Nat → Int32} {e_wn : Int32} {i : Int32} (C : lwC p s m meth c b Ls xs G) (hA : ∀ q : Nat, s.heap.size ≤ q → A q) (hT : g5_S A s s.heap) (hbA : ¬ A b) (hS : va_S A s.heap H locs) (hrm : cells + 8 ≤ 600000 ∧ slots + 858 ≤ 7302250) (hLO : LOK Lw) (hI : XW G Lw x f_ro f_im f_ke f_x e_tl e_fd f_wd e_wn w) (hM : MW G y f_ro f_im f_ke f_x e_tl e_fd f_wd e_wn mw) (hP : va_P G.1 vwCl (w ++ (mw ++ pflat G Lw)) H) (hD : va_D A (w ++ (mw ++ pflat G Lw))) (hl : lv_has ls 4 [(3, .int i), (2, .ref y), (1, .ref x), (0, .ref b)]) (hi : 0 ≤ i.toInt ∧ i.toInt + 7 ≤ (Ls : Int)) (hLs : Ls ≤ 3584) (kk : ∀ (f_ro : Nat → Int32) (f_im : Nat → Int32) (f_ke : Nat → Int32) (f_x : Nat → Int32) (e_tl : Int32) (e_fd : Int32) (f_wd : Nat → Int32) (e_wn : Int32) (Lw : List LR) (w mw : va_W) (H : Heap) (locs : List Loc) (ls : Array Slot), LOK Lw → XW G Lw x f_ro f_im f_ke f_x e_tl e_fd f_wd e_wn w → MW G y f_ro f_im f_ke f_x e_tl e_fd f_wd e_wn mw → va_P G.1 vwCl (w ++ (mw ++ pflat G Lw)) H → va_D A (w ++ (mw ++ pflat G Lw)) → va_S A s.heap H locs → lv_has ls 4 [(3, .int i), (2, .ref y), (1, .ref x), (0, .ref b)] → W p l e room_1 s m #[Value.ref b] below meth c H locs (cells + 4) (slots + 429) Q (F0 m 1648 ls [])) : W p l e room_1 s m #[Value.ref b] below meth c H locs cells slots Q (F0 m 884 ls []) := by
  have hC := C
  obtain ⟨⟨hx, hb, hr, hml, hown, hts0, hX, hbl, hlocks, hgv⟩, hK, hN⟩ := C
  have hown : s.vm.findClass RL = some m.cls := hown
  have hts : ∀ w ∈ tblG, w.before #[Value.ref b] s = true := fun w h => hts0 w (List.mem_filter.mp h).1
  refine lv_aload_n hx hb dL_law_884 rfl (lv_at hl 2 rfl) ?_
  refine lv_aload_n hx hb dL_law_885 rfl (lv_at hl 3 rfl) ?_
  refine lv_iload_n hx hb dL_law_886 rfl (lv_at hl 0 rfl) ?_
  refine lv_iconst (v := 1) hx hb dL_law_887 (by decide) ?_
  refine lv_iadd hx hb dL_law_888 ?_
  have t_1 : (i + 1).toInt = i.toInt + 1 := g5_iadd (a := i.toInt) (b := 1) (by rfl) (by decide) (by omega) (by omega)
  refine va_sld hx hb hX hbl hbA hS (vp_in_iff.mpr ⟨by omega, by omega⟩) dL_law_889 ?_
  obtain ⟨q2, hq2⟩ : ∃ y : Int32, xs (i + 1).toNatClampNeg = y := ⟨_, rfl⟩
  refine g5_ti (v := q2) hq2 ?_
  refine lv_aload_n hx hb dL_law_890 rfl (lv_at hl 3 rfl) ?_
  refine lv_iload_n hx hb dL_law_891 rfl (lv_at hl 0 rfl) ?_
  refine lv_iconst (v := 2) hx hb dL_law_892 (by decide) ?_
  refine lv_iadd hx hb dL_law_893 ?_
  have t_3 : (i + 2).toInt = i.toInt + 2 := g5_iadd (a := i.toInt) (b := 2) (by rfl) (by decide) (by omega) (by omega)
  refine va_sld hx hb hX hbl hbA hS (vp_in_iff.mpr ⟨by omega, by omega⟩) dL_law_894 ?_
  obtain ⟨q4, hq4⟩ : ∃ y : Int32, xs (i + 2).toNatClampNeg = y := ⟨_, rfl⟩
  refine g5_ti (v := q4) hq4 ?_
  refine lv_aload_n hx hb dL_law_895 rfl (lv_at hl 3 rfl) ?_
  refine lv_iload_n hx hb dL_law_896 rfl (lv_at hl 0 rfl) ?_
  refine lv_iconst (v := 3) hx hb dL_law_897 (by decide) ?_
  refine lv_iadd hx hb dL_law_898 ?_
  have t_5 : (i + 3).toInt = i.toInt + 3 := g5_iadd (a := i.toInt) (b := 3) (by rfl) (by decide) (by omega) (by omega)
  refine va_sld hx hb hX hbl hbA hS (vp_in_iff.mpr ⟨by omega, by omega⟩) dL_law_899 ?_
  obtain ⟨q6, hq6⟩ : ∃ y : Int32, xs (i + 3).toNatClampNeg = y := ⟨_, rfl⟩
  refine g5_ti (v := q6) hq6 ?_
  refine sx_lit hC hA hT hS hl.1 ⟨by omega, by omega⟩ hLO hI hP hD (fun r7 w hI {H} {locs} hP hD hS => ?_)
  have hP := hP.perm (List.perm_append_comm_assoc w mw (pflat G Lw))
  have hD := hD.perm (List.perm_append_comm_assoc w mw (pflat G Lw))
  refine lv_pop hx hb dL_law_903 rfl ?_
  refine lv_aload_n hx hb dL_law_904 rfl (lv_at hl 1 rfl) ?_
  refine lv_aload_n hx hb dL_law_905 rfl (lv_at hl 3 rfl) ?_
  refine lv_iload_n hx hb dL_law_906 rfl (lv_at hl 0 rfl) ?_
  refine lv_iconst (v := 1) hx hb dL_law_907 (by decide) ?_
  refine lv_iadd hx hb dL_law_908 ?_
  have t_8 : (i + 1).toInt = i.toInt + 1 := g5_iadd (a := i.toInt) (b := 1) (by rfl) (by decide) (by omega) (by omega)
  refine va_sld hx hb hX hbl hbA hS (vp_in_iff.mpr ⟨by omega, by omega⟩) dL_law_909 ?_
  refine g5_ti (v := q2) hq2 ?_
  refine lv_aload_n hx hb dL_law_910 rfl (lv_at hl 3 rfl) ?_
  refine lv_iload_n hx hb dL_law_911 rfl (lv_at hl 0 rfl) ?_
  refine lv_iconst (v := 2) hx hb dL_law_912 (by decide) ?_
  refine lv_iadd hx hb dL_law_913 ?_
  have t_9 : (i + 2).toInt = i.toInt + 2 := g5_iadd (a := i.toInt) (b := 2) (by rfl) (by decide) (by omega) (by omega)
  refine va_sld hx hb hX hbl hbA hS (vp_in_iff.mpr ⟨by omega, by omega⟩) dL_law_914 ?_
  refine g5_ti (v := q4) hq4 ?_
  refine lv_aload_n hx hb dL_law_915 rfl (lv_at hl 3 rfl) ?_
  refine lv_iload_n hx hb dL_law_916 rfl (lv_at hl 0 rfl) ?_
  refine lv_iconst (v := 3) hx hb dL_law_917 (by decide) ?_
  refine lv_iadd hx hb dL_law_918 ?_
  have t_10 : (i + 3).toInt = i.toInt + 3 := g5_iadd (a := i.toInt) (b := 3) (by rfl) (by decide) (by omega) (by omega)
  refine va_sld hx hb hX hbl hbA hS (vp_in_iff.mpr ⟨by omega, by omega⟩) dL_law_919 ?_
  refine g5_ti (v := q6) hq6 ?_
  refine sm_lit hC hA hT hS hl.1 ⟨by omega, by omega⟩ hM hP hD (fun r11 mw hM {H} {locs} hP hD hS => ?_)
  have hP := hP.perm (List.perm_append_comm_assoc mw w (pflat G Lw))
  have hD := hD.perm (List.perm_append_comm_assoc mw w (pflat G Lw))
  refine lv_pop hx hb dL_law_923 rfl ?_
  refine lv_goto (tgt := 1648) hx hb dL_law_924 (by decide) ?_
  refine W.widen (k := cells + 4) (n := slots + 429) (by omega) (by omega) ?_
  exact kk f_ro f_im f_ke f_x e_tl e_fd f_wd e_wn Lw w mw H locs ls hLO hI hM hP hD hS (lv_sub hl [0, 1, 2, 3] rfl)
set_option maxHeartbeats 4000000 in
set_option maxRecDepth 100000 in
theorem lc_unseen {p : Program} {l : Launch} {e : Env} {s : State} {m : MethodId} {below : List Frame} {meth : Method} {c : Code} {b Ls : Nat} {xs : Nat → Int32} {G : g5_G} {A : Nat → Prop} {Q : State → Prop} {H : Heap} {locs : List Loc} {ls : Array Slot} {cells slots : Nat} {w mw : va_W} {Lw : List LR} {x y : Nat} {f_ro : Nat → Int32} {f_im : Nat → Int32} {f_ke : Nat → Int32} {f_x : Nat → Int32} {e_tl : Int32} {e_fd : Int32} {f_wd : Nat → Int32} {e_wn : Int32} {i : Int32} (C : lwC p s m meth c b Ls xs G) (hA : ∀ q : Nat, s.heap.size ≤ q → A q) (hT : g5_S A s s.heap) (hbA : ¬ A b) (hS : va_S A s.heap H locs) (hrm : cells + 8 ≤ 600000 ∧ slots + 858 ≤ 7302250) (hLO : LOK Lw) (hI : XW G Lw x f_ro f_im f_ke f_x e_tl e_fd f_wd e_wn w) (hM : MW G y f_ro f_im f_ke f_x e_tl e_fd f_wd e_wn mw) (hP : va_P G.1 vwCl (w ++ (mw ++ pflat G Lw)) H) (hD : va_D A (w ++ (mw ++ pflat G Lw))) (hl : lv_has ls 4 [(3, .int i), (2, .ref y), (1, .ref x), (0, .ref b)]) (hi : 0 ≤ i.toInt ∧ i.toInt + 7 ≤ (Ls : Int)) (hLs : Ls ≤ 3584) (kk : ∀ (f_ro : Nat → Int32) (f_im : Nat → Int32) (f_ke : Nat → Int32) (f_x : Nat → Int32) (e_tl : Int32) (e_fd : Int32) (f_wd : Nat → Int32) (e_wn : Int32) (Lw : List LR) (w mw : va_W) (H : Heap) (locs : List Loc) (ls : Array Slot), LOK Lw → XW G Lw x f_ro f_im f_ke f_x e_tl e_fd f_wd e_wn w → MW G y f_ro f_im f_ke f_x e_tl e_fd f_wd e_wn mw → va_P G.1 vwCl (w ++ (mw ++ pflat G Lw)) H → va_D A (w ++ (mw ++ pflat G Lw)) → va_S A s.heap H locs → lv_has ls 4 [(3, .int i), (2, .ref y), (1, .ref x), (0, .ref b)] → W p l e room_1 s m #[Value.ref b] below meth c H locs (cells + 4) (slots + 429) Q (F0 m 1648 ls [])) : W p l e room_1 s m #[Value.ref b] below meth c H locs cells slots Q (F0 m 927 ls []) := by
  have hC := C
  obtain ⟨⟨hx, hb, hr, hml, hown, hts0, hX, hbl, hlocks, hgv⟩, hK, hN⟩ := C
  have hown : s.vm.findClass RL = some m.cls := hown
  have hts : ∀ w ∈ tblG, w.before #[Value.ref b] s = true := fun w h => hts0 w (List.mem_filter.mp h).1
  refine lv_aload_n hx hb dL_law_927 rfl (lv_at hl 2 rfl) ?_
  refine lv_aload_n hx hb dL_law_928 rfl (lv_at hl 3 rfl) ?_
  refine lv_iload_n hx hb dL_law_929 rfl (lv_at hl 0 rfl) ?_
  refine lv_iconst (v := 1) hx hb dL_law_930 (by decide) ?_
  refine lv_iadd hx hb dL_law_931 ?_
  have t_1 : (i + 1).toInt = i.toInt + 1 := g5_iadd (a := i.toInt) (b := 1) (by rfl) (by decide) (by omega) (by omega)
  refine va_sld hx hb hX hbl hbA hS (vp_in_iff.mpr ⟨by omega, by omega⟩) dL_law_932 ?_
  obtain ⟨q2, hq2⟩ : ∃ y : Int32, xs (i + 1).toNatClampNeg = y := ⟨_, rfl⟩
  refine g5_ti (v := q2) hq2 ?_
  refine sx_unseen hC hA hT hS hl.1 ⟨by omega, by omega⟩ hLO hI hP hD (fun r3 w hI {H} {locs} hP hD hS => ?_)
  have hP := hP.perm (List.perm_append_comm_assoc w mw (pflat G Lw))
  have hD := hD.perm (List.perm_append_comm_assoc w mw (pflat G Lw))
  refine lv_pop hx hb dL_law_936 rfl ?_
  refine lv_aload_n hx hb dL_law_937 rfl (lv_at hl 1 rfl) ?_
  refine lv_aload_n hx hb dL_law_938 rfl (lv_at hl 3 rfl) ?_
  refine lv_iload_n hx hb dL_law_939 rfl (lv_at hl 0 rfl) ?_
  refine lv_iconst (v := 1) hx hb dL_law_940 (by decide) ?_
  refine lv_iadd hx hb dL_law_941 ?_
  have t_4 : (i + 1).toInt = i.toInt + 1 := g5_iadd (a := i.toInt) (b := 1) (by rfl) (by decide) (by omega) (by omega)
  refine va_sld hx hb hX hbl hbA hS (vp_in_iff.mpr ⟨by omega, by omega⟩) dL_law_942 ?_
  refine g5_ti (v := q2) hq2 ?_
  refine sm_unseen hC hA hT hS hl.1 ⟨by omega, by omega⟩ hM hP hD (fun r5 mw hM {H} {locs} hP hD hS => ?_)
  have hP := hP.perm (List.perm_append_comm_assoc mw w (pflat G Lw))
  have hD := hD.perm (List.perm_append_comm_assoc mw w (pflat G Lw))
  refine lv_pop hx hb dL_law_946 rfl ?_
  refine lv_goto (tgt := 1648) hx hb dL_law_947 (by decide) ?_
  refine W.widen (k := cells + 4) (n := slots + 429) (by omega) (by omega) ?_
  exact kk f_ro f_im f_ke f_x e_tl e_fd f_wd e_wn Lw w mw H locs ls hLO hI hM hP hD hS (lv_sub hl [0, 1, 2, 3] rfl)
set_option maxHeartbeats 4000000 in
set_option maxRecDepth 100000 in
theorem lc_sighting {p : Program} {l : Launch} {e : Env} {s : State} {m : MethodId} {below : List Frame} {meth : Method} {c : Code} {b Ls : Nat} {xs : Nat → Int32} {G : g5_G} {A : Nat → Prop} {Q : State → Prop} {H : Heap} {locs : List Loc} {ls : Array Slot} {cells slots : Nat} {w mw : va_W} {Lw : List LR} {x y : Nat} {f_ro : Nat → Int32} {f_im : Nat → Int32} {f_ke : Nat → Int32} {f_x : Nat → Int32} {e_tl : Int32} {e_fd : Int32} {f_wd : Nat → Int32} {e_wn : Int32} {i : Int32} (C : lwC p s m meth c b Ls xs G) (hA : ∀ q : Nat, s.heap.size ≤ q → A q) (hT : g5_S A s s.heap) (hbA : ¬ A b) (hS : va_S A s.heap H locs) (hrm : cells + 8 ≤ 600000 ∧ slots + 858 ≤ 7302250) (hLO : LOK Lw) (hI : XW G Lw x f_ro f_im f_ke f_x e_tl e_fd f_wd e_wn w) (hM : MW G y f_ro f_im f_ke f_x e_tl e_fd f_wd e_wn mw) (hP : va_P G.1 vwCl (w ++ (mw ++ pflat G Lw)) H) (hD : va_D A (w ++ (mw ++ pflat G Lw))) (hl : lv_has ls 4 [(3, .int i), (2, .ref y), (1, .ref x), (0, .ref b)]) (hi : 0 ≤ i.toInt ∧ i.toInt + 7 ≤ (Ls : Int)) (hLs : Ls ≤ 3584) (kk : ∀ (f_ro : Nat → Int32) (f_im : Nat → Int32) (f_ke : Nat → Int32) (f_x : Nat → Int32) (e_tl : Int32) (e_fd : Int32) (f_wd : Nat → Int32) (e_wn : Int32) (Lw : List LR) (w mw : va_W) (H : Heap) (locs : List Loc) (ls : Array Slot), LOK Lw → XW G Lw x f_ro f_im f_ke f_x e_tl e_fd f_wd e_wn w → MW G y f_ro f_im f_ke f_x e_tl e_fd f_wd e_wn mw → va_P G.1 vwCl (w ++ (mw ++ pflat G Lw)) H → va_D A (w ++ (mw ++ pflat G Lw)) → va_S A s.heap H locs → lv_has ls 4 [(3, .int i), (2, .ref y), (1, .ref x), (0, .ref b)] → W p l e room_1 s m #[Value.ref b] below meth c H locs (cells + 4) (slots + 429) Q (F0 m 1648 ls [])) : W p l e room_1 s m #[Value.ref b] below meth c H locs cells slots Q (F0 m 950 ls []) := by
  have hC := C
  obtain ⟨⟨hx, hb, hr, hml, hown, hts0, hX, hbl, hlocks, hgv⟩, hK, hN⟩ := C
  have hown : s.vm.findClass RL = some m.cls := hown
  have hts : ∀ w ∈ tblG, w.before #[Value.ref b] s = true := fun w h => hts0 w (List.mem_filter.mp h).1
  refine lv_aload_n hx hb dL_law_950 rfl (lv_at hl 2 rfl) ?_
  refine lv_aload_n hx hb dL_law_951 rfl (lv_at hl 3 rfl) ?_
  refine lv_iload_n hx hb dL_law_952 rfl (lv_at hl 0 rfl) ?_
  refine lv_iconst (v := 1) hx hb dL_law_953 (by decide) ?_
  refine lv_iadd hx hb dL_law_954 ?_
  have t_1 : (i + 1).toInt = i.toInt + 1 := g5_iadd (a := i.toInt) (b := 1) (by rfl) (by decide) (by omega) (by omega)
  refine va_sld hx hb hX hbl hbA hS (vp_in_iff.mpr ⟨by omega, by omega⟩) dL_law_955 ?_
  obtain ⟨q2, hq2⟩ : ∃ y : Int32, xs (i + 1).toNatClampNeg = y := ⟨_, rfl⟩
  refine g5_ti (v := q2) hq2 ?_
  refine lv_aload_n hx hb dL_law_956 rfl (lv_at hl 3 rfl) ?_
  refine lv_iload_n hx hb dL_law_957 rfl (lv_at hl 0 rfl) ?_
  refine lv_iconst (v := 2) hx hb dL_law_958 (by decide) ?_
  refine lv_iadd hx hb dL_law_959 ?_
  have t_3 : (i + 2).toInt = i.toInt + 2 := g5_iadd (a := i.toInt) (b := 2) (by rfl) (by decide) (by omega) (by omega)
  refine va_sld hx hb hX hbl hbA hS (vp_in_iff.mpr ⟨by omega, by omega⟩) dL_law_960 ?_
  obtain ⟨q4, hq4⟩ : ∃ y : Int32, xs (i + 2).toNatClampNeg = y := ⟨_, rfl⟩
  refine g5_ti (v := q4) hq4 ?_
  refine lv_aload_n hx hb dL_law_961 rfl (lv_at hl 3 rfl) ?_
  refine lv_iload_n hx hb dL_law_962 rfl (lv_at hl 0 rfl) ?_
  refine lv_iconst (v := 3) hx hb dL_law_963 (by decide) ?_
  refine lv_iadd hx hb dL_law_964 ?_
  have t_5 : (i + 3).toInt = i.toInt + 3 := g5_iadd (a := i.toInt) (b := 3) (by rfl) (by decide) (by omega) (by omega)
  refine va_sld hx hb hX hbl hbA hS (vp_in_iff.mpr ⟨by omega, by omega⟩) dL_law_965 ?_
  obtain ⟨q6, hq6⟩ : ∃ y : Int32, xs (i + 3).toNatClampNeg = y := ⟨_, rfl⟩
  refine g5_ti (v := q6) hq6 ?_
  refine lv_aload_n hx hb dL_law_966 rfl (lv_at hl 3 rfl) ?_
  refine lv_iload_n hx hb dL_law_967 rfl (lv_at hl 0 rfl) ?_
  refine lv_iconst (v := 4) hx hb dL_law_968 (by decide) ?_
  refine lv_iadd hx hb dL_law_969 ?_
  have t_7 : (i + 4).toInt = i.toInt + 4 := g5_iadd (a := i.toInt) (b := 4) (by rfl) (by decide) (by omega) (by omega)
  refine va_sld hx hb hX hbl hbA hS (vp_in_iff.mpr ⟨by omega, by omega⟩) dL_law_970 ?_
  obtain ⟨q8, hq8⟩ : ∃ y : Int32, xs (i + 4).toNatClampNeg = y := ⟨_, rfl⟩
  refine g5_ti (v := q8) hq8 ?_
  refine sx_sighting hC hA hT hS hl.1 ⟨by omega, by omega⟩ hLO hI hP hD (fun r9 w hI {H} {locs} hP hD hS => ?_)
  have hP := hP.perm (List.perm_append_comm_assoc w mw (pflat G Lw))
  have hD := hD.perm (List.perm_append_comm_assoc w mw (pflat G Lw))
  refine lv_pop hx hb dL_law_974 rfl ?_
  refine lv_aload_n hx hb dL_law_975 rfl (lv_at hl 1 rfl) ?_
  refine lv_aload_n hx hb dL_law_976 rfl (lv_at hl 3 rfl) ?_
  refine lv_iload_n hx hb dL_law_977 rfl (lv_at hl 0 rfl) ?_
  refine lv_iconst (v := 1) hx hb dL_law_978 (by decide) ?_
  refine lv_iadd hx hb dL_law_979 ?_
  have t_10 : (i + 1).toInt = i.toInt + 1 := g5_iadd (a := i.toInt) (b := 1) (by rfl) (by decide) (by omega) (by omega)
  refine va_sld hx hb hX hbl hbA hS (vp_in_iff.mpr ⟨by omega, by omega⟩) dL_law_980 ?_
  refine g5_ti (v := q2) hq2 ?_
  refine lv_aload_n hx hb dL_law_981 rfl (lv_at hl 3 rfl) ?_
  refine lv_iload_n hx hb dL_law_982 rfl (lv_at hl 0 rfl) ?_
  refine lv_iconst (v := 2) hx hb dL_law_983 (by decide) ?_
  refine lv_iadd hx hb dL_law_984 ?_
  have t_11 : (i + 2).toInt = i.toInt + 2 := g5_iadd (a := i.toInt) (b := 2) (by rfl) (by decide) (by omega) (by omega)
  refine va_sld hx hb hX hbl hbA hS (vp_in_iff.mpr ⟨by omega, by omega⟩) dL_law_985 ?_
  refine g5_ti (v := q4) hq4 ?_
  refine lv_aload_n hx hb dL_law_986 rfl (lv_at hl 3 rfl) ?_
  refine lv_iload_n hx hb dL_law_987 rfl (lv_at hl 0 rfl) ?_
  refine lv_iconst (v := 3) hx hb dL_law_988 (by decide) ?_
  refine lv_iadd hx hb dL_law_989 ?_
  have t_12 : (i + 3).toInt = i.toInt + 3 := g5_iadd (a := i.toInt) (b := 3) (by rfl) (by decide) (by omega) (by omega)
  refine va_sld hx hb hX hbl hbA hS (vp_in_iff.mpr ⟨by omega, by omega⟩) dL_law_990 ?_
  refine g5_ti (v := q6) hq6 ?_
  refine lv_aload_n hx hb dL_law_991 rfl (lv_at hl 3 rfl) ?_
  refine lv_iload_n hx hb dL_law_992 rfl (lv_at hl 0 rfl) ?_
  refine lv_iconst (v := 4) hx hb dL_law_993 (by decide) ?_
  refine lv_iadd hx hb dL_law_994 ?_
  have t_13 : (i + 4).toInt = i.toInt + 4 := g5_iadd (a := i.toInt) (b := 4) (by rfl) (by decide) (by omega) (by omega)
  refine va_sld hx hb hX hbl hbA hS (vp_in_iff.mpr ⟨by omega, by omega⟩) dL_law_995 ?_
  refine g5_ti (v := q8) hq8 ?_
  refine sm_sighting hC hA hT hS hl.1 ⟨by omega, by omega⟩ hM hP hD (fun r14 mw hM {H} {locs} hP hD hS => ?_)
  have hP := hP.perm (List.perm_append_comm_assoc mw w (pflat G Lw))
  have hD := hD.perm (List.perm_append_comm_assoc mw w (pflat G Lw))
  refine lv_pop hx hb dL_law_999 rfl ?_
  refine lv_goto (tgt := 1648) hx hb dL_law_1000 (by decide) ?_
  refine W.widen (k := cells + 4) (n := slots + 429) (by omega) (by omega) ?_
  exact kk (ssight f_ro q2 q4 q6 q8) f_im f_ke f_x e_tl e_fd f_wd e_wn Lw w mw H locs ls hLO hI hM hP hD hS (lv_sub hl [0, 1, 2, 3] rfl)
set_option maxHeartbeats 4000000 in
set_option maxRecDepth 100000 in
theorem lc_drop {p : Program} {l : Launch} {e : Env} {s : State} {m : MethodId} {below : List Frame} {meth : Method} {c : Code} {b Ls : Nat} {xs : Nat → Int32} {G : g5_G} {A : Nat → Prop} {Q : State → Prop} {H : Heap} {locs : List Loc} {ls : Array Slot} {cells slots : Nat} {w mw : va_W} {Lw : List LR} {x y : Nat} {f_ro : Nat → Int32} {f_im : Nat → Int32} {f_ke : Nat → Int32} {f_x : Nat → Int32} {e_tl : Int32} {e_fd : Int32} {f_wd : Nat → Int32} {e_wn : Int32} {i : Int32} (C : lwC p s m meth c b Ls xs G) (hA : ∀ q : Nat, s.heap.size ≤ q → A q) (hT : g5_S A s s.heap) (hbA : ¬ A b) (hS : va_S A s.heap H locs) (hrm : cells + 8 ≤ 600000 ∧ slots + 858 ≤ 7302250) (hLO : LOK Lw) (hI : XW G Lw x f_ro f_im f_ke f_x e_tl e_fd f_wd e_wn w) (hM : MW G y f_ro f_im f_ke f_x e_tl e_fd f_wd e_wn mw) (hP : va_P G.1 vwCl (w ++ (mw ++ pflat G Lw)) H) (hD : va_D A (w ++ (mw ++ pflat G Lw))) (hl : lv_has ls 4 [(3, .int i), (2, .ref y), (1, .ref x), (0, .ref b)]) (hi : 0 ≤ i.toInt ∧ i.toInt + 7 ≤ (Ls : Int)) (hLs : Ls ≤ 3584) (kk : ∀ (f_ro : Nat → Int32) (f_im : Nat → Int32) (f_ke : Nat → Int32) (f_x : Nat → Int32) (e_tl : Int32) (e_fd : Int32) (f_wd : Nat → Int32) (e_wn : Int32) (Lw : List LR) (w mw : va_W) (H : Heap) (locs : List Loc) (ls : Array Slot), LOK Lw → XW G Lw x f_ro f_im f_ke f_x e_tl e_fd f_wd e_wn w → MW G y f_ro f_im f_ke f_x e_tl e_fd f_wd e_wn mw → va_P G.1 vwCl (w ++ (mw ++ pflat G Lw)) H → va_D A (w ++ (mw ++ pflat G Lw)) → va_S A s.heap H locs → lv_has ls 4 [(3, .int i), (2, .ref y), (1, .ref x), (0, .ref b)] → W p l e room_1 s m #[Value.ref b] below meth c H locs (cells + 4) (slots + 429) Q (F0 m 1648 ls [])) : W p l e room_1 s m #[Value.ref b] below meth c H locs cells slots Q (F0 m 1003 ls []) := by
  have hC := C
  obtain ⟨⟨hx, hb, hr, hml, hown, hts0, hX, hbl, hlocks, hgv⟩, hK, hN⟩ := C
  have hown : s.vm.findClass RL = some m.cls := hown
  have hts : ∀ w ∈ tblG, w.before #[Value.ref b] s = true := fun w h => hts0 w (List.mem_filter.mp h).1
  refine lv_aload_n hx hb dL_law_1003 rfl (lv_at hl 2 rfl) ?_
  refine lv_aload_n hx hb dL_law_1004 rfl (lv_at hl 3 rfl) ?_
  refine lv_iload_n hx hb dL_law_1005 rfl (lv_at hl 0 rfl) ?_
  refine lv_iconst (v := 1) hx hb dL_law_1006 (by decide) ?_
  refine lv_iadd hx hb dL_law_1007 ?_
  have t_1 : (i + 1).toInt = i.toInt + 1 := g5_iadd (a := i.toInt) (b := 1) (by rfl) (by decide) (by omega) (by omega)
  refine va_sld hx hb hX hbl hbA hS (vp_in_iff.mpr ⟨by omega, by omega⟩) dL_law_1008 ?_
  obtain ⟨q2, hq2⟩ : ∃ y : Int32, xs (i + 1).toNatClampNeg = y := ⟨_, rfl⟩
  refine g5_ti (v := q2) hq2 ?_
  refine sx_drop hC hA hT hS hl.1 ⟨by omega, by omega⟩ hLO hI hP hD (fun r3 w hI {H} {locs} hP hD hS => ?_)
  have hP := hP.perm (List.perm_append_comm_assoc w mw (pflat G Lw))
  have hD := hD.perm (List.perm_append_comm_assoc w mw (pflat G Lw))
  refine lv_pop hx hb dL_law_1012 rfl ?_
  refine lv_aload_n hx hb dL_law_1013 rfl (lv_at hl 1 rfl) ?_
  refine lv_aload_n hx hb dL_law_1014 rfl (lv_at hl 3 rfl) ?_
  refine lv_iload_n hx hb dL_law_1015 rfl (lv_at hl 0 rfl) ?_
  refine lv_iconst (v := 1) hx hb dL_law_1016 (by decide) ?_
  refine lv_iadd hx hb dL_law_1017 ?_
  have t_4 : (i + 1).toInt = i.toInt + 1 := g5_iadd (a := i.toInt) (b := 1) (by rfl) (by decide) (by omega) (by omega)
  refine va_sld hx hb hX hbl hbA hS (vp_in_iff.mpr ⟨by omega, by omega⟩) dL_law_1018 ?_
  refine g5_ti (v := q2) hq2 ?_
  refine sm_drop hC hA hT hS hl.1 ⟨by omega, by omega⟩ hM hP hD (fun r5 mw hM {H} {locs} hP hD hS => ?_)
  have hP := hP.perm (List.perm_append_comm_assoc mw w (pflat G Lw))
  have hD := hD.perm (List.perm_append_comm_assoc mw w (pflat G Lw))
  refine lv_pop hx hb dL_law_1022 rfl ?_
  refine lv_goto (tgt := 1648) hx hb dL_law_1023 (by decide) ?_
  refine W.widen (k := cells + 4) (n := slots + 429) (by omega) (by omega) ?_
  exact kk (sdrop f_ro q2) f_im f_ke f_x e_tl e_fd f_wd e_wn Lw w mw H locs ls hLO hI hM hP hD hS (lv_sub hl [0, 1, 2, 3] rfl)
set_option maxHeartbeats 4000000 in
set_option maxRecDepth 100000 in
theorem lc_start {p : Program} {l : Launch} {e : Env} {s : State} {m : MethodId} {below : List Frame} {meth : Method} {c : Code} {b Ls : Nat} {xs : Nat → Int32} {G : g5_G} {A : Nat → Prop} {Q : State → Prop} {H : Heap} {locs : List Loc} {ls : Array Slot} {cells slots : Nat} {w mw : va_W} {Lw : List LR} {x y : Nat} {f_ro : Nat → Int32} {f_im : Nat → Int32} {f_ke : Nat → Int32} {f_x : Nat → Int32} {e_tl : Int32} {e_fd : Int32} {f_wd : Nat → Int32} {e_wn : Int32} {i : Int32} (C : lwC p s m meth c b Ls xs G) (hA : ∀ q : Nat, s.heap.size ≤ q → A q) (hT : g5_S A s s.heap) (hbA : ¬ A b) (hS : va_S A s.heap H locs) (hrm : cells + 8 ≤ 600000 ∧ slots + 858 ≤ 7302250) (hLO : LOK Lw) (hI : XW G Lw x f_ro f_im f_ke f_x e_tl e_fd f_wd e_wn w) (hM : MW G y f_ro f_im f_ke f_x e_tl e_fd f_wd e_wn mw) (hP : va_P G.1 vwCl (w ++ (mw ++ pflat G Lw)) H) (hD : va_D A (w ++ (mw ++ pflat G Lw))) (hl : lv_has ls 4 [(3, .int i), (2, .ref y), (1, .ref x), (0, .ref b)]) (hi : 0 ≤ i.toInt ∧ i.toInt + 7 ≤ (Ls : Int)) (hLs : Ls ≤ 3584) (kk : ∀ (f_ro : Nat → Int32) (f_im : Nat → Int32) (f_ke : Nat → Int32) (f_x : Nat → Int32) (e_tl : Int32) (e_fd : Int32) (f_wd : Nat → Int32) (e_wn : Int32) (Lw : List LR) (w mw : va_W) (H : Heap) (locs : List Loc) (ls : Array Slot), LOK Lw → XW G Lw x f_ro f_im f_ke f_x e_tl e_fd f_wd e_wn w → MW G y f_ro f_im f_ke f_x e_tl e_fd f_wd e_wn mw → va_P G.1 vwCl (w ++ (mw ++ pflat G Lw)) H → va_D A (w ++ (mw ++ pflat G Lw)) → va_S A s.heap H locs → lv_has ls 4 [(3, .int i), (2, .ref y), (1, .ref x), (0, .ref b)] → W p l e room_1 s m #[Value.ref b] below meth c H locs (cells + 4) (slots + 429) Q (F0 m 1648 ls [])) : W p l e room_1 s m #[Value.ref b] below meth c H locs cells slots Q (F0 m 1026 ls []) := by
  have hC := C
  obtain ⟨⟨hx, hb, hr, hml, hown, hts0, hX, hbl, hlocks, hgv⟩, hK, hN⟩ := C
  have hown : s.vm.findClass RL = some m.cls := hown
  have hts : ∀ w ∈ tblG, w.before #[Value.ref b] s = true := fun w h => hts0 w (List.mem_filter.mp h).1
  refine lv_aload_n hx hb dL_law_1026 rfl (lv_at hl 2 rfl) ?_
  refine lv_aload_n hx hb dL_law_1027 rfl (lv_at hl 3 rfl) ?_
  refine lv_iload_n hx hb dL_law_1028 rfl (lv_at hl 0 rfl) ?_
  refine lv_iconst (v := 1) hx hb dL_law_1029 (by decide) ?_
  refine lv_iadd hx hb dL_law_1030 ?_
  have t_1 : (i + 1).toInt = i.toInt + 1 := g5_iadd (a := i.toInt) (b := 1) (by rfl) (by decide) (by omega) (by omega)
  refine va_sld hx hb hX hbl hbA hS (vp_in_iff.mpr ⟨by omega, by omega⟩) dL_law_1031 ?_
  obtain ⟨q2, hq2⟩ : ∃ y : Int32, xs (i + 1).toNatClampNeg = y := ⟨_, rfl⟩
  refine g5_ti (v := q2) hq2 ?_
  refine sx_start hC hA hT hS hl.1 ⟨by omega, by omega⟩ hLO hI hP hD (fun r3 w hI {H} {locs} hP hD hS => ?_)
  have hP := hP.perm (List.perm_append_comm_assoc w mw (pflat G Lw))
  have hD := hD.perm (List.perm_append_comm_assoc w mw (pflat G Lw))
  refine lv_pop hx hb dL_law_1035 rfl ?_
  refine lv_aload_n hx hb dL_law_1036 rfl (lv_at hl 1 rfl) ?_
  refine lv_aload_n hx hb dL_law_1037 rfl (lv_at hl 3 rfl) ?_
  refine lv_iload_n hx hb dL_law_1038 rfl (lv_at hl 0 rfl) ?_
  refine lv_iconst (v := 1) hx hb dL_law_1039 (by decide) ?_
  refine lv_iadd hx hb dL_law_1040 ?_
  have t_4 : (i + 1).toInt = i.toInt + 1 := g5_iadd (a := i.toInt) (b := 1) (by rfl) (by decide) (by omega) (by omega)
  refine va_sld hx hb hX hbl hbA hS (vp_in_iff.mpr ⟨by omega, by omega⟩) dL_law_1041 ?_
  refine g5_ti (v := q2) hq2 ?_
  refine sm_start hC hA hT hS hl.1 ⟨by omega, by omega⟩ hM hP hD (fun r5 mw hM {H} {locs} hP hD hS => ?_)
  have hP := hP.perm (List.perm_append_comm_assoc mw w (pflat G Lw))
  have hD := hD.perm (List.perm_append_comm_assoc mw w (pflat G Lw))
  refine lv_pop hx hb dL_law_1045 rfl ?_
  refine lv_goto (tgt := 1648) hx hb dL_law_1046 (by decide) ?_
  refine W.widen (k := cells + 4) (n := slots + 429) (by omega) (by omega) ?_
  exact kk (sstart f_ro q2) f_im f_ke f_x e_tl e_fd f_wd e_wn Lw w mw H locs ls hLO hI hM hP hD hS (lv_sub hl [0, 1, 2, 3] rfl)
set_option maxHeartbeats 4000000 in
set_option maxRecDepth 100000 in
theorem lc_fits {p : Program} {l : Launch} {e : Env} {s : State} {m : MethodId} {below : List Frame} {meth : Method} {c : Code} {b Ls : Nat} {xs : Nat → Int32} {G : g5_G} {A : Nat → Prop} {Q : State → Prop} {H : Heap} {locs : List Loc} {ls : Array Slot} {cells slots : Nat} {w mw : va_W} {Lw : List LR} {x y : Nat} {f_ro : Nat → Int32} {f_im : Nat → Int32} {f_ke : Nat → Int32} {f_x : Nat → Int32} {e_tl : Int32} {e_fd : Int32} {f_wd : Nat → Int32} {e_wn : Int32} {i : Int32} (C : lwC p s m meth c b Ls xs G) (hA : ∀ q : Nat, s.heap.size ≤ q → A q) (hT : g5_S A s s.heap) (hbA : ¬ A b) (hS : va_S A s.heap H locs) (hrm : cells + 8 ≤ 600000 ∧ slots + 858 ≤ 7302250) (hLO : LOK Lw) (hI : XW G Lw x f_ro f_im f_ke f_x e_tl e_fd f_wd e_wn w) (hM : MW G y f_ro f_im f_ke f_x e_tl e_fd f_wd e_wn mw) (hP : va_P G.1 vwCl (w ++ (mw ++ pflat G Lw)) H) (hD : va_D A (w ++ (mw ++ pflat G Lw))) (hl : lv_has ls 4 [(3, .int i), (2, .ref y), (1, .ref x), (0, .ref b)]) (hi : 0 ≤ i.toInt ∧ i.toInt + 7 ≤ (Ls : Int)) (hLs : Ls ≤ 3584) (kk : ∀ (f_ro : Nat → Int32) (f_im : Nat → Int32) (f_ke : Nat → Int32) (f_x : Nat → Int32) (e_tl : Int32) (e_fd : Int32) (f_wd : Nat → Int32) (e_wn : Int32) (Lw : List LR) (w mw : va_W) (H : Heap) (locs : List Loc) (ls : Array Slot), LOK Lw → XW G Lw x f_ro f_im f_ke f_x e_tl e_fd f_wd e_wn w → MW G y f_ro f_im f_ke f_x e_tl e_fd f_wd e_wn mw → va_P G.1 vwCl (w ++ (mw ++ pflat G Lw)) H → va_D A (w ++ (mw ++ pflat G Lw)) → va_S A s.heap H locs → lv_has ls 4 [(3, .int i), (2, .ref y), (1, .ref x), (0, .ref b)] → W p l e room_1 s m #[Value.ref b] below meth c H locs (cells + 4) (slots + 429) Q (F0 m 1648 ls [])) : W p l e room_1 s m #[Value.ref b] below meth c H locs cells slots Q (F0 m 1049 ls []) := by
  have hC := C
  obtain ⟨⟨hx, hb, hr, hml, hown, hts0, hX, hbl, hlocks, hgv⟩, hK, hN⟩ := C
  have hown : s.vm.findClass RL = some m.cls := hown
  have hts : ∀ w ∈ tblG, w.before #[Value.ref b] s = true := fun w h => hts0 w (List.mem_filter.mp h).1
  refine lv_aload_n hx hb dL_law_1049 rfl (lv_at hl 2 rfl) ?_
  refine sx_fits hC hA hT hS hl.1 ⟨by omega, by omega⟩ hLO hI hP hD (fun r1 w hI {H} {locs} hP hD hS => ?_)
  have hP := hP.perm (List.perm_append_comm_assoc w mw (pflat G Lw))
  have hD := hD.perm (List.perm_append_comm_assoc w mw (pflat G Lw))
  refine lv_pop2_2 hx hb dL_law_1053 rfl ?_
  refine lv_aload_n hx hb dL_law_1054 rfl (lv_at hl 1 rfl) ?_
  refine sm_fits hC hA hT hS hl.1 ⟨by omega, by omega⟩ hM hP hD (fun r2 mw hM {H} {locs} hP hD hS => ?_)
  have hP := hP.perm (List.perm_append_comm_assoc mw w (pflat G Lw))
  have hD := hD.perm (List.perm_append_comm_assoc mw w (pflat G Lw))
  refine lv_pop2_2 hx hb dL_law_1058 rfl ?_
  refine lv_goto (tgt := 1648) hx hb dL_law_1059 (by decide) ?_
  refine W.widen (k := cells + 4) (n := slots + 429) (by omega) (by omega) ?_
  exact kk f_ro f_im f_ke f_x e_tl e_fd f_wd e_wn Lw w mw H locs ls hLO hI hM hP hD hS (lv_sub hl [0, 1, 2, 3] rfl)
set_option maxHeartbeats 4000000 in
set_option maxRecDepth 100000 in
theorem lc_could {p : Program} {l : Launch} {e : Env} {s : State} {m : MethodId} {below : List Frame} {meth : Method} {c : Code} {b Ls : Nat} {xs : Nat → Int32} {G : g5_G} {A : Nat → Prop} {Q : State → Prop} {H : Heap} {locs : List Loc} {ls : Array Slot} {cells slots : Nat} {w mw : va_W} {Lw : List LR} {x y : Nat} {f_ro : Nat → Int32} {f_im : Nat → Int32} {f_ke : Nat → Int32} {f_x : Nat → Int32} {e_tl : Int32} {e_fd : Int32} {f_wd : Nat → Int32} {e_wn : Int32} {i : Int32} (C : lwC p s m meth c b Ls xs G) (hA : ∀ q : Nat, s.heap.size ≤ q → A q) (hT : g5_S A s s.heap) (hbA : ¬ A b) (hS : va_S A s.heap H locs) (hrm : cells + 8 ≤ 600000 ∧ slots + 858 ≤ 7302250) (hLO : LOK Lw) (hI : XW G Lw x f_ro f_im f_ke f_x e_tl e_fd f_wd e_wn w) (hM : MW G y f_ro f_im f_ke f_x e_tl e_fd f_wd e_wn mw) (hP : va_P G.1 vwCl (w ++ (mw ++ pflat G Lw)) H) (hD : va_D A (w ++ (mw ++ pflat G Lw))) (hl : lv_has ls 4 [(3, .int i), (2, .ref y), (1, .ref x), (0, .ref b)]) (hi : 0 ≤ i.toInt ∧ i.toInt + 7 ≤ (Ls : Int)) (hLs : Ls ≤ 3584) (kk : ∀ (f_ro : Nat → Int32) (f_im : Nat → Int32) (f_ke : Nat → Int32) (f_x : Nat → Int32) (e_tl : Int32) (e_fd : Int32) (f_wd : Nat → Int32) (e_wn : Int32) (Lw : List LR) (w mw : va_W) (H : Heap) (locs : List Loc) (ls : Array Slot), LOK Lw → XW G Lw x f_ro f_im f_ke f_x e_tl e_fd f_wd e_wn w → MW G y f_ro f_im f_ke f_x e_tl e_fd f_wd e_wn mw → va_P G.1 vwCl (w ++ (mw ++ pflat G Lw)) H → va_D A (w ++ (mw ++ pflat G Lw)) → va_S A s.heap H locs → lv_has ls 4 [(3, .int i), (2, .ref y), (1, .ref x), (0, .ref b)] → W p l e room_1 s m #[Value.ref b] below meth c H locs (cells + 4) (slots + 429) Q (F0 m 1648 ls [])) : W p l e room_1 s m #[Value.ref b] below meth c H locs cells slots Q (F0 m 1062 ls []) := by
  have hC := C
  obtain ⟨⟨hx, hb, hr, hml, hown, hts0, hX, hbl, hlocks, hgv⟩, hK, hN⟩ := C
  have hown : s.vm.findClass RL = some m.cls := hown
  have hts : ∀ w ∈ tblG, w.before #[Value.ref b] s = true := fun w h => hts0 w (List.mem_filter.mp h).1
  refine lv_aload_n hx hb dL_law_1062 rfl (lv_at hl 2 rfl) ?_
  refine lv_aload_n hx hb dL_law_1063 rfl (lv_at hl 3 rfl) ?_
  refine lv_iload_n hx hb dL_law_1064 rfl (lv_at hl 0 rfl) ?_
  refine lv_iconst (v := 1) hx hb dL_law_1065 (by decide) ?_
  refine lv_iadd hx hb dL_law_1066 ?_
  have t_1 : (i + 1).toInt = i.toInt + 1 := g5_iadd (a := i.toInt) (b := 1) (by rfl) (by decide) (by omega) (by omega)
  refine va_sld hx hb hX hbl hbA hS (vp_in_iff.mpr ⟨by omega, by omega⟩) dL_law_1067 ?_
  obtain ⟨q2, hq2⟩ : ∃ y : Int32, xs (i + 1).toNatClampNeg = y := ⟨_, rfl⟩
  refine g5_ti (v := q2) hq2 ?_
  refine lv_aload_n hx hb dL_law_1068 rfl (lv_at hl 3 rfl) ?_
  refine lv_iload_n hx hb dL_law_1069 rfl (lv_at hl 0 rfl) ?_
  refine lv_iconst (v := 2) hx hb dL_law_1070 (by decide) ?_
  refine lv_iadd hx hb dL_law_1071 ?_
  have t_3 : (i + 2).toInt = i.toInt + 2 := g5_iadd (a := i.toInt) (b := 2) (by rfl) (by decide) (by omega) (by omega)
  refine va_sld hx hb hX hbl hbA hS (vp_in_iff.mpr ⟨by omega, by omega⟩) dL_law_1072 ?_
  obtain ⟨q4, hq4⟩ : ∃ y : Int32, xs (i + 2).toNatClampNeg = y := ⟨_, rfl⟩
  refine g5_ti (v := q4) hq4 ?_
  refine sx_could hC hA hT hS hl.1 ⟨by omega, by omega⟩ hLO hI hP hD (fun r5 w hI {H} {locs} hP hD hS => ?_)
  have hP := hP.perm (List.perm_append_comm_assoc w mw (pflat G Lw))
  have hD := hD.perm (List.perm_append_comm_assoc w mw (pflat G Lw))
  refine lv_pop2_2 hx hb dL_law_1076 rfl ?_
  refine lv_aload_n hx hb dL_law_1077 rfl (lv_at hl 1 rfl) ?_
  refine lv_aload_n hx hb dL_law_1078 rfl (lv_at hl 3 rfl) ?_
  refine lv_iload_n hx hb dL_law_1079 rfl (lv_at hl 0 rfl) ?_
  refine lv_iconst (v := 1) hx hb dL_law_1080 (by decide) ?_
  refine lv_iadd hx hb dL_law_1081 ?_
  have t_6 : (i + 1).toInt = i.toInt + 1 := g5_iadd (a := i.toInt) (b := 1) (by rfl) (by decide) (by omega) (by omega)
  refine va_sld hx hb hX hbl hbA hS (vp_in_iff.mpr ⟨by omega, by omega⟩) dL_law_1082 ?_
  refine g5_ti (v := q2) hq2 ?_
  refine lv_aload_n hx hb dL_law_1083 rfl (lv_at hl 3 rfl) ?_
  refine lv_iload_n hx hb dL_law_1084 rfl (lv_at hl 0 rfl) ?_
  refine lv_iconst (v := 2) hx hb dL_law_1085 (by decide) ?_
  refine lv_iadd hx hb dL_law_1086 ?_
  have t_7 : (i + 2).toInt = i.toInt + 2 := g5_iadd (a := i.toInt) (b := 2) (by rfl) (by decide) (by omega) (by omega)
  refine va_sld hx hb hX hbl hbA hS (vp_in_iff.mpr ⟨by omega, by omega⟩) dL_law_1087 ?_
  refine g5_ti (v := q4) hq4 ?_
  refine sm_could hC hA hT hS hl.1 ⟨by omega, by omega⟩ hM hP hD (fun r8 mw hM {H} {locs} hP hD hS => ?_)
  have hP := hP.perm (List.perm_append_comm_assoc mw w (pflat G Lw))
  have hD := hD.perm (List.perm_append_comm_assoc mw w (pflat G Lw))
  refine lv_pop2_2 hx hb dL_law_1091 rfl ?_
  refine lv_goto (tgt := 1648) hx hb dL_law_1092 (by decide) ?_
  refine W.widen (k := cells + 4) (n := slots + 429) (by omega) (by omega) ?_
  exact kk f_ro f_im f_ke f_x e_tl e_fd f_wd e_wn Lw w mw H locs ls hLO hI hM hP hD hS (lv_sub hl [0, 1, 2, 3] rfl)
set_option maxHeartbeats 4000000 in
set_option maxRecDepth 100000 in
theorem lc_path {p : Program} {l : Launch} {e : Env} {s : State} {m : MethodId} {below : List Frame} {meth : Method} {c : Code} {b Ls : Nat} {xs : Nat → Int32} {G : g5_G} {A : Nat → Prop} {Q : State → Prop} {H : Heap} {locs : List Loc} {ls : Array Slot} {cells slots : Nat} {w mw : va_W} {Lw : List LR} {x y : Nat} {f_ro : Nat → Int32} {f_im : Nat → Int32} {f_ke : Nat → Int32} {f_x : Nat → Int32} {e_tl : Int32} {e_fd : Int32} {f_wd : Nat → Int32} {e_wn : Int32} {i : Int32} (C : lwC p s m meth c b Ls xs G) (hA : ∀ q : Nat, s.heap.size ≤ q → A q) (hT : g5_S A s s.heap) (hbA : ¬ A b) (hS : va_S A s.heap H locs) (hrm : cells + 8 ≤ 600000 ∧ slots + 858 ≤ 7302250) (hLO : LOK Lw) (hI : XW G Lw x f_ro f_im f_ke f_x e_tl e_fd f_wd e_wn w) (hM : MW G y f_ro f_im f_ke f_x e_tl e_fd f_wd e_wn mw) (hP : va_P G.1 vwCl (w ++ (mw ++ pflat G Lw)) H) (hD : va_D A (w ++ (mw ++ pflat G Lw))) (hl : lv_has ls 4 [(3, .int i), (2, .ref y), (1, .ref x), (0, .ref b)]) (hi : 0 ≤ i.toInt ∧ i.toInt + 7 ≤ (Ls : Int)) (hLs : Ls ≤ 3584) (kk : ∀ (f_ro : Nat → Int32) (f_im : Nat → Int32) (f_ke : Nat → Int32) (f_x : Nat → Int32) (e_tl : Int32) (e_fd : Int32) (f_wd : Nat → Int32) (e_wn : Int32) (Lw : List LR) (w mw : va_W) (H : Heap) (locs : List Loc) (ls : Array Slot), LOK Lw → XW G Lw x f_ro f_im f_ke f_x e_tl e_fd f_wd e_wn w → MW G y f_ro f_im f_ke f_x e_tl e_fd f_wd e_wn mw → va_P G.1 vwCl (w ++ (mw ++ pflat G Lw)) H → va_D A (w ++ (mw ++ pflat G Lw)) → va_S A s.heap H locs → lv_has ls 4 [(3, .int i), (2, .ref y), (1, .ref x), (0, .ref b)] → W p l e room_1 s m #[Value.ref b] below meth c H locs (cells + 4) (slots + 429) Q (F0 m 1648 ls [])) : W p l e room_1 s m #[Value.ref b] below meth c H locs cells slots Q (F0 m 1095 ls []) := by
  have hC := C
  obtain ⟨⟨hx, hb, hr, hml, hown, hts0, hX, hbl, hlocks, hgv⟩, hK, hN⟩ := C
  have hown : s.vm.findClass RL = some m.cls := hown
  have hts : ∀ w ∈ tblG, w.before #[Value.ref b] s = true := fun w h => hts0 w (List.mem_filter.mp h).1
  refine lv_aload_n hx hb dL_law_1095 rfl (lv_at hl 2 rfl) ?_
  refine lv_aload_n hx hb dL_law_1096 rfl (lv_at hl 3 rfl) ?_
  refine lv_iload_n hx hb dL_law_1097 rfl (lv_at hl 0 rfl) ?_
  refine lv_iconst (v := 1) hx hb dL_law_1098 (by decide) ?_
  refine lv_iadd hx hb dL_law_1099 ?_
  have t_1 : (i + 1).toInt = i.toInt + 1 := g5_iadd (a := i.toInt) (b := 1) (by rfl) (by decide) (by omega) (by omega)
  refine va_sld hx hb hX hbl hbA hS (vp_in_iff.mpr ⟨by omega, by omega⟩) dL_law_1100 ?_
  obtain ⟨q2, hq2⟩ : ∃ y : Int32, xs (i + 1).toNatClampNeg = y := ⟨_, rfl⟩
  refine g5_ti (v := q2) hq2 ?_
  refine sx_path hC hA hT hS hl.1 ⟨by omega, by omega⟩ hLO hI hP hD (fun r3 w hI {H} {locs} hP hD hS => ?_)
  have hP := hP.perm (List.perm_append_comm_assoc w mw (pflat G Lw))
  have hD := hD.perm (List.perm_append_comm_assoc w mw (pflat G Lw))
  refine lv_pop hx hb dL_law_1104 rfl ?_
  refine lv_aload_n hx hb dL_law_1105 rfl (lv_at hl 1 rfl) ?_
  refine lv_aload_n hx hb dL_law_1106 rfl (lv_at hl 3 rfl) ?_
  refine lv_iload_n hx hb dL_law_1107 rfl (lv_at hl 0 rfl) ?_
  refine lv_iconst (v := 1) hx hb dL_law_1108 (by decide) ?_
  refine lv_iadd hx hb dL_law_1109 ?_
  have t_4 : (i + 1).toInt = i.toInt + 1 := g5_iadd (a := i.toInt) (b := 1) (by rfl) (by decide) (by omega) (by omega)
  refine va_sld hx hb hX hbl hbA hS (vp_in_iff.mpr ⟨by omega, by omega⟩) dL_law_1110 ?_
  refine g5_ti (v := q2) hq2 ?_
  refine sm_path hC hA hT hS hl.1 ⟨by omega, by omega⟩ hM hP hD (fun r5 mw hM {H} {locs} hP hD hS => ?_)
  have hP := hP.perm (List.perm_append_comm_assoc mw w (pflat G Lw))
  have hD := hD.perm (List.perm_append_comm_assoc mw w (pflat G Lw))
  refine lv_pop hx hb dL_law_1114 rfl ?_
  refine lv_goto (tgt := 1648) hx hb dL_law_1115 (by decide) ?_
  refine W.widen (k := cells + 4) (n := slots + 429) (by omega) (by omega) ?_
  exact kk f_ro f_im f_ke f_x e_tl e_fd f_wd e_wn Lw w mw H locs ls hLO hI hM hP hD hS (lv_sub hl [0, 1, 2, 3] rfl)
set_option maxHeartbeats 4000000 in
set_option maxRecDepth 100000 in
theorem lc_core {p : Program} {l : Launch} {e : Env} {s : State} {m : MethodId} {below : List Frame} {meth : Method} {c : Code} {b Ls : Nat} {xs : Nat → Int32} {G : g5_G} {A : Nat → Prop} {Q : State → Prop} {H : Heap} {locs : List Loc} {ls : Array Slot} {cells slots : Nat} {w mw : va_W} {Lw : List LR} {x y : Nat} {f_ro : Nat → Int32} {f_im : Nat → Int32} {f_ke : Nat → Int32} {f_x : Nat → Int32} {e_tl : Int32} {e_fd : Int32} {f_wd : Nat → Int32} {e_wn : Int32} {i : Int32} (C : lwC p s m meth c b Ls xs G) (hA : ∀ q : Nat, s.heap.size ≤ q → A q) (hT : g5_S A s s.heap) (hbA : ¬ A b) (hS : va_S A s.heap H locs) (hrm : cells + 8 ≤ 600000 ∧ slots + 858 ≤ 7302250) (hLO : LOK Lw) (hI : XW G Lw x f_ro f_im f_ke f_x e_tl e_fd f_wd e_wn w) (hM : MW G y f_ro f_im f_ke f_x e_tl e_fd f_wd e_wn mw) (hP : va_P G.1 vwCl (w ++ (mw ++ pflat G Lw)) H) (hD : va_D A (w ++ (mw ++ pflat G Lw))) (hl : lv_has ls 4 [(3, .int i), (2, .ref y), (1, .ref x), (0, .ref b)]) (hi : 0 ≤ i.toInt ∧ i.toInt + 7 ≤ (Ls : Int)) (hLs : Ls ≤ 3584) (kk : ∀ (f_ro : Nat → Int32) (f_im : Nat → Int32) (f_ke : Nat → Int32) (f_x : Nat → Int32) (e_tl : Int32) (e_fd : Int32) (f_wd : Nat → Int32) (e_wn : Int32) (Lw : List LR) (w mw : va_W) (H : Heap) (locs : List Loc) (ls : Array Slot), LOK Lw → XW G Lw x f_ro f_im f_ke f_x e_tl e_fd f_wd e_wn w → MW G y f_ro f_im f_ke f_x e_tl e_fd f_wd e_wn mw → va_P G.1 vwCl (w ++ (mw ++ pflat G Lw)) H → va_D A (w ++ (mw ++ pflat G Lw)) → va_S A s.heap H locs → lv_has ls 4 [(3, .int i), (2, .ref y), (1, .ref x), (0, .ref b)] → W p l e room_1 s m #[Value.ref b] below meth c H locs (cells + 4) (slots + 429) Q (F0 m 1648 ls [])) : W p l e room_1 s m #[Value.ref b] below meth c H locs cells slots Q (F0 m 1118 ls []) := by
  have hC := C
  obtain ⟨⟨hx, hb, hr, hml, hown, hts0, hX, hbl, hlocks, hgv⟩, hK, hN⟩ := C
  have hown : s.vm.findClass RL = some m.cls := hown
  have hts : ∀ w ∈ tblG, w.before #[Value.ref b] s = true := fun w h => hts0 w (List.mem_filter.mp h).1
  refine lv_aload_n hx hb dL_law_1118 rfl (lv_at hl 2 rfl) ?_
  refine sx_core hC hA hT hS hl.1 ⟨by omega, by omega⟩ hLO hI hP hD (fun r1 w hI {H} {locs} hP hD hS => ?_)
  have hP := hP.perm (List.perm_append_comm_assoc w mw (pflat G Lw))
  have hD := hD.perm (List.perm_append_comm_assoc w mw (pflat G Lw))
  refine lv_pop hx hb dL_law_1122 rfl ?_
  refine lv_aload_n hx hb dL_law_1123 rfl (lv_at hl 1 rfl) ?_
  refine sm_core hC hA hT hS hl.1 ⟨by omega, by omega⟩ hM hP hD (fun r2 mw hM {H} {locs} hP hD hS => ?_)
  have hP := hP.perm (List.perm_append_comm_assoc mw w (pflat G Lw))
  have hD := hD.perm (List.perm_append_comm_assoc mw w (pflat G Lw))
  refine lv_pop hx hb dL_law_1127 rfl ?_
  refine lv_goto (tgt := 1648) hx hb dL_law_1128 (by decide) ?_
  refine W.widen (k := cells + 4) (n := slots + 429) (by omega) (by omega) ?_
  exact kk f_ro f_im f_ke f_x e_tl e_fd f_wd e_wn Lw w mw H locs ls hLO hI hM hP hD hS (lv_sub hl [0, 1, 2, 3] rfl)
set_option maxHeartbeats 4000000 in
set_option maxRecDepth 100000 in
theorem lc_tells {p : Program} {l : Launch} {e : Env} {s : State} {m : MethodId} {below : List Frame} {meth : Method} {c : Code} {b Ls : Nat} {xs : Nat → Int32} {G : g5_G} {A : Nat → Prop} {Q : State → Prop} {H : Heap} {locs : List Loc} {ls : Array Slot} {cells slots : Nat} {w mw : va_W} {Lw : List LR} {x y : Nat} {f_ro : Nat → Int32} {f_im : Nat → Int32} {f_ke : Nat → Int32} {f_x : Nat → Int32} {e_tl : Int32} {e_fd : Int32} {f_wd : Nat → Int32} {e_wn : Int32} {i : Int32} (C : lwC p s m meth c b Ls xs G) (hA : ∀ q : Nat, s.heap.size ≤ q → A q) (hT : g5_S A s s.heap) (hbA : ¬ A b) (hS : va_S A s.heap H locs) (hrm : cells + 8 ≤ 600000 ∧ slots + 858 ≤ 7302250) (hLO : LOK Lw) (hI : XW G Lw x f_ro f_im f_ke f_x e_tl e_fd f_wd e_wn w) (hM : MW G y f_ro f_im f_ke f_x e_tl e_fd f_wd e_wn mw) (hP : va_P G.1 vwCl (w ++ (mw ++ pflat G Lw)) H) (hD : va_D A (w ++ (mw ++ pflat G Lw))) (hl : lv_has ls 4 [(3, .int i), (2, .ref y), (1, .ref x), (0, .ref b)]) (hi : 0 ≤ i.toInt ∧ i.toInt + 7 ≤ (Ls : Int)) (hLs : Ls ≤ 3584) (kk : ∀ (f_ro : Nat → Int32) (f_im : Nat → Int32) (f_ke : Nat → Int32) (f_x : Nat → Int32) (e_tl : Int32) (e_fd : Int32) (f_wd : Nat → Int32) (e_wn : Int32) (Lw : List LR) (w mw : va_W) (H : Heap) (locs : List Loc) (ls : Array Slot), LOK Lw → XW G Lw x f_ro f_im f_ke f_x e_tl e_fd f_wd e_wn w → MW G y f_ro f_im f_ke f_x e_tl e_fd f_wd e_wn mw → va_P G.1 vwCl (w ++ (mw ++ pflat G Lw)) H → va_D A (w ++ (mw ++ pflat G Lw)) → va_S A s.heap H locs → lv_has ls 4 [(3, .int i), (2, .ref y), (1, .ref x), (0, .ref b)] → W p l e room_1 s m #[Value.ref b] below meth c H locs (cells + 4) (slots + 429) Q (F0 m 1648 ls [])) : W p l e room_1 s m #[Value.ref b] below meth c H locs cells slots Q (F0 m 1131 ls []) := by
  have hC := C
  obtain ⟨⟨hx, hb, hr, hml, hown, hts0, hX, hbl, hlocks, hgv⟩, hK, hN⟩ := C
  have hown : s.vm.findClass RL = some m.cls := hown
  have hts : ∀ w ∈ tblG, w.before #[Value.ref b] s = true := fun w h => hts0 w (List.mem_filter.mp h).1
  refine lv_aload_n hx hb dL_law_1131 rfl (lv_at hl 2 rfl) ?_
  refine lv_aload_n hx hb dL_law_1132 rfl (lv_at hl 3 rfl) ?_
  refine lv_iload_n hx hb dL_law_1133 rfl (lv_at hl 0 rfl) ?_
  refine lv_iconst (v := 1) hx hb dL_law_1134 (by decide) ?_
  refine lv_iadd hx hb dL_law_1135 ?_
  have t_1 : (i + 1).toInt = i.toInt + 1 := g5_iadd (a := i.toInt) (b := 1) (by rfl) (by decide) (by omega) (by omega)
  refine va_sld hx hb hX hbl hbA hS (vp_in_iff.mpr ⟨by omega, by omega⟩) dL_law_1136 ?_
  obtain ⟨q2, hq2⟩ : ∃ y : Int32, xs (i + 1).toNatClampNeg = y := ⟨_, rfl⟩
  refine g5_ti (v := q2) hq2 ?_
  refine lv_aload_n hx hb dL_law_1137 rfl (lv_at hl 3 rfl) ?_
  refine lv_iload_n hx hb dL_law_1138 rfl (lv_at hl 0 rfl) ?_
  refine lv_iconst (v := 2) hx hb dL_law_1139 (by decide) ?_
  refine lv_iadd hx hb dL_law_1140 ?_
  have t_3 : (i + 2).toInt = i.toInt + 2 := g5_iadd (a := i.toInt) (b := 2) (by rfl) (by decide) (by omega) (by omega)
  refine va_sld hx hb hX hbl hbA hS (vp_in_iff.mpr ⟨by omega, by omega⟩) dL_law_1141 ?_
  obtain ⟨q4, hq4⟩ : ∃ y : Int32, xs (i + 2).toNatClampNeg = y := ⟨_, rfl⟩
  refine g5_ti (v := q4) hq4 ?_
  refine lv_aload_n hx hb dL_law_1142 rfl (lv_at hl 3 rfl) ?_
  refine lv_iload_n hx hb dL_law_1143 rfl (lv_at hl 0 rfl) ?_
  refine lv_iconst (v := 3) hx hb dL_law_1144 (by decide) ?_
  refine lv_iadd hx hb dL_law_1145 ?_
  have t_5 : (i + 3).toInt = i.toInt + 3 := g5_iadd (a := i.toInt) (b := 3) (by rfl) (by decide) (by omega) (by omega)
  refine va_sld hx hb hX hbl hbA hS (vp_in_iff.mpr ⟨by omega, by omega⟩) dL_law_1146 ?_
  obtain ⟨q6, hq6⟩ : ∃ y : Int32, xs (i + 3).toNatClampNeg = y := ⟨_, rfl⟩
  refine g5_ti (v := q6) hq6 ?_
  refine sx_tells hC hA hT hS hl.1 ⟨by omega, by omega⟩ hLO hI hP hD (fun r7 w hI {H} {locs} hP hD hS => ?_)
  have hP := hP.perm (List.perm_append_comm_assoc w mw (pflat G Lw))
  have hD := hD.perm (List.perm_append_comm_assoc w mw (pflat G Lw))
  refine lv_pop2_2 hx hb dL_law_1150 rfl ?_
  refine lv_aload_n hx hb dL_law_1151 rfl (lv_at hl 1 rfl) ?_
  refine lv_aload_n hx hb dL_law_1152 rfl (lv_at hl 3 rfl) ?_
  refine lv_iload_n hx hb dL_law_1153 rfl (lv_at hl 0 rfl) ?_
  refine lv_iconst (v := 1) hx hb dL_law_1154 (by decide) ?_
  refine lv_iadd hx hb dL_law_1155 ?_
  have t_8 : (i + 1).toInt = i.toInt + 1 := g5_iadd (a := i.toInt) (b := 1) (by rfl) (by decide) (by omega) (by omega)
  refine va_sld hx hb hX hbl hbA hS (vp_in_iff.mpr ⟨by omega, by omega⟩) dL_law_1156 ?_
  refine g5_ti (v := q2) hq2 ?_
  refine lv_aload_n hx hb dL_law_1157 rfl (lv_at hl 3 rfl) ?_
  refine lv_iload_n hx hb dL_law_1158 rfl (lv_at hl 0 rfl) ?_
  refine lv_iconst (v := 2) hx hb dL_law_1159 (by decide) ?_
  refine lv_iadd hx hb dL_law_1160 ?_
  have t_9 : (i + 2).toInt = i.toInt + 2 := g5_iadd (a := i.toInt) (b := 2) (by rfl) (by decide) (by omega) (by omega)
  refine va_sld hx hb hX hbl hbA hS (vp_in_iff.mpr ⟨by omega, by omega⟩) dL_law_1161 ?_
  refine g5_ti (v := q4) hq4 ?_
  refine lv_aload_n hx hb dL_law_1162 rfl (lv_at hl 3 rfl) ?_
  refine lv_iload_n hx hb dL_law_1163 rfl (lv_at hl 0 rfl) ?_
  refine lv_iconst (v := 3) hx hb dL_law_1164 (by decide) ?_
  refine lv_iadd hx hb dL_law_1165 ?_
  have t_10 : (i + 3).toInt = i.toInt + 3 := g5_iadd (a := i.toInt) (b := 3) (by rfl) (by decide) (by omega) (by omega)
  refine va_sld hx hb hX hbl hbA hS (vp_in_iff.mpr ⟨by omega, by omega⟩) dL_law_1166 ?_
  refine g5_ti (v := q6) hq6 ?_
  refine sm_tells hC hA hT hS hl.1 ⟨by omega, by omega⟩ hM hP hD (fun r11 mw hM {H} {locs} hP hD hS => ?_)
  have hP := hP.perm (List.perm_append_comm_assoc mw w (pflat G Lw))
  have hD := hD.perm (List.perm_append_comm_assoc mw w (pflat G Lw))
  refine lv_pop2_2 hx hb dL_law_1170 rfl ?_
  refine lv_goto (tgt := 1648) hx hb dL_law_1171 (by decide) ?_
  refine W.widen (k := cells + 4) (n := slots + 429) (by omega) (by omega) ?_
  exact kk f_ro f_im f_ke f_x e_tl e_fd f_wd e_wn Lw w mw H locs ls hLO hI hM hP hD hS (lv_sub hl [0, 1, 2, 3] rfl)
set_option maxHeartbeats 4000000 in
set_option maxRecDepth 100000 in
theorem lc_surely {p : Program} {l : Launch} {e : Env} {s : State} {m : MethodId} {below : List Frame} {meth : Method} {c : Code} {b Ls : Nat} {xs : Nat → Int32} {G : g5_G} {A : Nat → Prop} {Q : State → Prop} {H : Heap} {locs : List Loc} {ls : Array Slot} {cells slots : Nat} {w mw : va_W} {Lw : List LR} {x y : Nat} {f_ro : Nat → Int32} {f_im : Nat → Int32} {f_ke : Nat → Int32} {f_x : Nat → Int32} {e_tl : Int32} {e_fd : Int32} {f_wd : Nat → Int32} {e_wn : Int32} {i : Int32} (C : lwC p s m meth c b Ls xs G) (hA : ∀ q : Nat, s.heap.size ≤ q → A q) (hT : g5_S A s s.heap) (hbA : ¬ A b) (hS : va_S A s.heap H locs) (hrm : cells + 8 ≤ 600000 ∧ slots + 858 ≤ 7302250) (hLO : LOK Lw) (hI : XW G Lw x f_ro f_im f_ke f_x e_tl e_fd f_wd e_wn w) (hM : MW G y f_ro f_im f_ke f_x e_tl e_fd f_wd e_wn mw) (hP : va_P G.1 vwCl (w ++ (mw ++ pflat G Lw)) H) (hD : va_D A (w ++ (mw ++ pflat G Lw))) (hl : lv_has ls 4 [(3, .int i), (2, .ref y), (1, .ref x), (0, .ref b)]) (hi : 0 ≤ i.toInt ∧ i.toInt + 7 ≤ (Ls : Int)) (hLs : Ls ≤ 3584) (kk : ∀ (f_ro : Nat → Int32) (f_im : Nat → Int32) (f_ke : Nat → Int32) (f_x : Nat → Int32) (e_tl : Int32) (e_fd : Int32) (f_wd : Nat → Int32) (e_wn : Int32) (Lw : List LR) (w mw : va_W) (H : Heap) (locs : List Loc) (ls : Array Slot), LOK Lw → XW G Lw x f_ro f_im f_ke f_x e_tl e_fd f_wd e_wn w → MW G y f_ro f_im f_ke f_x e_tl e_fd f_wd e_wn mw → va_P G.1 vwCl (w ++ (mw ++ pflat G Lw)) H → va_D A (w ++ (mw ++ pflat G Lw)) → va_S A s.heap H locs → lv_has ls 4 [(3, .int i), (2, .ref y), (1, .ref x), (0, .ref b)] → W p l e room_1 s m #[Value.ref b] below meth c H locs (cells + 4) (slots + 429) Q (F0 m 1648 ls [])) : W p l e room_1 s m #[Value.ref b] below meth c H locs cells slots Q (F0 m 1174 ls []) := by
  have hC := C
  obtain ⟨⟨hx, hb, hr, hml, hown, hts0, hX, hbl, hlocks, hgv⟩, hK, hN⟩ := C
  have hown : s.vm.findClass RL = some m.cls := hown
  have hts : ∀ w ∈ tblG, w.before #[Value.ref b] s = true := fun w h => hts0 w (List.mem_filter.mp h).1
  refine lv_aload_n hx hb dL_law_1174 rfl (lv_at hl 2 rfl) ?_
  refine lv_aload_n hx hb dL_law_1175 rfl (lv_at hl 3 rfl) ?_
  refine lv_iload_n hx hb dL_law_1176 rfl (lv_at hl 0 rfl) ?_
  refine lv_iconst (v := 1) hx hb dL_law_1177 (by decide) ?_
  refine lv_iadd hx hb dL_law_1178 ?_
  have t_1 : (i + 1).toInt = i.toInt + 1 := g5_iadd (a := i.toInt) (b := 1) (by rfl) (by decide) (by omega) (by omega)
  refine va_sld hx hb hX hbl hbA hS (vp_in_iff.mpr ⟨by omega, by omega⟩) dL_law_1179 ?_
  obtain ⟨q2, hq2⟩ : ∃ y : Int32, xs (i + 1).toNatClampNeg = y := ⟨_, rfl⟩
  refine g5_ti (v := q2) hq2 ?_
  refine sx_surely hC hA hT hS hl.1 ⟨by omega, by omega⟩ hLO hI hP hD (fun r3 w hI {H} {locs} hP hD hS => ?_)
  have hP := hP.perm (List.perm_append_comm_assoc w mw (pflat G Lw))
  have hD := hD.perm (List.perm_append_comm_assoc w mw (pflat G Lw))
  refine lv_pop hx hb dL_law_1183 rfl ?_
  refine lv_aload_n hx hb dL_law_1184 rfl (lv_at hl 1 rfl) ?_
  refine lv_aload_n hx hb dL_law_1185 rfl (lv_at hl 3 rfl) ?_
  refine lv_iload_n hx hb dL_law_1186 rfl (lv_at hl 0 rfl) ?_
  refine lv_iconst (v := 1) hx hb dL_law_1187 (by decide) ?_
  refine lv_iadd hx hb dL_law_1188 ?_
  have t_4 : (i + 1).toInt = i.toInt + 1 := g5_iadd (a := i.toInt) (b := 1) (by rfl) (by decide) (by omega) (by omega)
  refine va_sld hx hb hX hbl hbA hS (vp_in_iff.mpr ⟨by omega, by omega⟩) dL_law_1189 ?_
  refine g5_ti (v := q2) hq2 ?_
  refine sm_surely hC hA hT hS hl.1 ⟨by omega, by omega⟩ hM hP hD (fun r5 mw hM {H} {locs} hP hD hS => ?_)
  have hP := hP.perm (List.perm_append_comm_assoc mw w (pflat G Lw))
  have hD := hD.perm (List.perm_append_comm_assoc mw w (pflat G Lw))
  refine lv_pop hx hb dL_law_1193 rfl ?_
  refine lv_goto (tgt := 1648) hx hb dL_law_1194 (by decide) ?_
  refine W.widen (k := cells + 4) (n := slots + 429) (by omega) (by omega) ?_
  exact kk f_ro f_im f_ke f_x e_tl e_fd f_wd e_wn Lw w mw H locs ls hLO hI hM hP hD hS (lv_sub hl [0, 1, 2, 3] rfl)
set_option maxHeartbeats 4000000 in
set_option maxRecDepth 100000 in
theorem lc_spot {p : Program} {l : Launch} {e : Env} {s : State} {m : MethodId} {below : List Frame} {meth : Method} {c : Code} {b Ls : Nat} {xs : Nat → Int32} {G : g5_G} {A : Nat → Prop} {Q : State → Prop} {H : Heap} {locs : List Loc} {ls : Array Slot} {cells slots : Nat} {w mw : va_W} {Lw : List LR} {x y : Nat} {f_ro : Nat → Int32} {f_im : Nat → Int32} {f_ke : Nat → Int32} {f_x : Nat → Int32} {e_tl : Int32} {e_fd : Int32} {f_wd : Nat → Int32} {e_wn : Int32} {i : Int32} (C : lwC p s m meth c b Ls xs G) (hA : ∀ q : Nat, s.heap.size ≤ q → A q) (hT : g5_S A s s.heap) (hbA : ¬ A b) (hS : va_S A s.heap H locs) (hrm : cells + 8 ≤ 600000 ∧ slots + 858 ≤ 7302250) (hLO : LOK Lw) (hI : XW G Lw x f_ro f_im f_ke f_x e_tl e_fd f_wd e_wn w) (hM : MW G y f_ro f_im f_ke f_x e_tl e_fd f_wd e_wn mw) (hP : va_P G.1 vwCl (w ++ (mw ++ pflat G Lw)) H) (hD : va_D A (w ++ (mw ++ pflat G Lw))) (hl : lv_has ls 4 [(3, .int i), (2, .ref y), (1, .ref x), (0, .ref b)]) (hi : 0 ≤ i.toInt ∧ i.toInt + 7 ≤ (Ls : Int)) (hLs : Ls ≤ 3584) (kk : ∀ (f_ro : Nat → Int32) (f_im : Nat → Int32) (f_ke : Nat → Int32) (f_x : Nat → Int32) (e_tl : Int32) (e_fd : Int32) (f_wd : Nat → Int32) (e_wn : Int32) (Lw : List LR) (w mw : va_W) (H : Heap) (locs : List Loc) (ls : Array Slot), LOK Lw → XW G Lw x f_ro f_im f_ke f_x e_tl e_fd f_wd e_wn w → MW G y f_ro f_im f_ke f_x e_tl e_fd f_wd e_wn mw → va_P G.1 vwCl (w ++ (mw ++ pflat G Lw)) H → va_D A (w ++ (mw ++ pflat G Lw)) → va_S A s.heap H locs → lv_has ls 4 [(3, .int i), (2, .ref y), (1, .ref x), (0, .ref b)] → W p l e room_1 s m #[Value.ref b] below meth c H locs (cells + 4) (slots + 429) Q (F0 m 1648 ls [])) : W p l e room_1 s m #[Value.ref b] below meth c H locs cells slots Q (F0 m 1197 ls []) := by
  have hC := C
  obtain ⟨⟨hx, hb, hr, hml, hown, hts0, hX, hbl, hlocks, hgv⟩, hK, hN⟩ := C
  have hown : s.vm.findClass RL = some m.cls := hown
  have hts : ∀ w ∈ tblG, w.before #[Value.ref b] s = true := fun w h => hts0 w (List.mem_filter.mp h).1
  refine lv_aload_n hx hb dL_law_1197 rfl (lv_at hl 2 rfl) ?_
  refine lv_aload_n hx hb dL_law_1198 rfl (lv_at hl 3 rfl) ?_
  refine lv_iload_n hx hb dL_law_1199 rfl (lv_at hl 0 rfl) ?_
  refine lv_iconst (v := 1) hx hb dL_law_1200 (by decide) ?_
  refine lv_iadd hx hb dL_law_1201 ?_
  have t_1 : (i + 1).toInt = i.toInt + 1 := g5_iadd (a := i.toInt) (b := 1) (by rfl) (by decide) (by omega) (by omega)
  refine va_sld hx hb hX hbl hbA hS (vp_in_iff.mpr ⟨by omega, by omega⟩) dL_law_1202 ?_
  obtain ⟨q2, hq2⟩ : ∃ y : Int32, xs (i + 1).toNatClampNeg = y := ⟨_, rfl⟩
  refine g5_ti (v := q2) hq2 ?_
  refine lv_aload_n hx hb dL_law_1203 rfl (lv_at hl 3 rfl) ?_
  refine lv_iload_n hx hb dL_law_1204 rfl (lv_at hl 0 rfl) ?_
  refine lv_iconst (v := 2) hx hb dL_law_1205 (by decide) ?_
  refine lv_iadd hx hb dL_law_1206 ?_
  have t_3 : (i + 2).toInt = i.toInt + 2 := g5_iadd (a := i.toInt) (b := 2) (by rfl) (by decide) (by omega) (by omega)
  refine va_sld hx hb hX hbl hbA hS (vp_in_iff.mpr ⟨by omega, by omega⟩) dL_law_1207 ?_
  obtain ⟨q4, hq4⟩ : ∃ y : Int32, xs (i + 2).toNatClampNeg = y := ⟨_, rfl⟩
  refine g5_ti (v := q4) hq4 ?_
  refine lv_aload_n hx hb dL_law_1208 rfl (lv_at hl 3 rfl) ?_
  refine lv_iload_n hx hb dL_law_1209 rfl (lv_at hl 0 rfl) ?_
  refine lv_iconst (v := 3) hx hb dL_law_1210 (by decide) ?_
  refine lv_iadd hx hb dL_law_1211 ?_
  have t_5 : (i + 3).toInt = i.toInt + 3 := g5_iadd (a := i.toInt) (b := 3) (by rfl) (by decide) (by omega) (by omega)
  refine va_sld hx hb hX hbl hbA hS (vp_in_iff.mpr ⟨by omega, by omega⟩) dL_law_1212 ?_
  obtain ⟨q6, hq6⟩ : ∃ y : Int32, xs (i + 3).toNatClampNeg = y := ⟨_, rfl⟩
  refine g5_ti (v := q6) hq6 ?_
  refine sx_spot hC hA hT hS hl.1 ⟨by omega, by omega⟩ hLO hI hP hD (fun r7 w hI {H} {locs} hP hD hS => ?_)
  have hP := hP.perm (List.perm_append_comm_assoc w mw (pflat G Lw))
  have hD := hD.perm (List.perm_append_comm_assoc w mw (pflat G Lw))
  refine lv_pop hx hb dL_law_1216 rfl ?_
  refine lv_aload_n hx hb dL_law_1217 rfl (lv_at hl 1 rfl) ?_
  refine lv_aload_n hx hb dL_law_1218 rfl (lv_at hl 3 rfl) ?_
  refine lv_iload_n hx hb dL_law_1219 rfl (lv_at hl 0 rfl) ?_
  refine lv_iconst (v := 1) hx hb dL_law_1220 (by decide) ?_
  refine lv_iadd hx hb dL_law_1221 ?_
  have t_8 : (i + 1).toInt = i.toInt + 1 := g5_iadd (a := i.toInt) (b := 1) (by rfl) (by decide) (by omega) (by omega)
  refine va_sld hx hb hX hbl hbA hS (vp_in_iff.mpr ⟨by omega, by omega⟩) dL_law_1222 ?_
  refine g5_ti (v := q2) hq2 ?_
  refine lv_aload_n hx hb dL_law_1223 rfl (lv_at hl 3 rfl) ?_
  refine lv_iload_n hx hb dL_law_1224 rfl (lv_at hl 0 rfl) ?_
  refine lv_iconst (v := 2) hx hb dL_law_1225 (by decide) ?_
  refine lv_iadd hx hb dL_law_1226 ?_
  have t_9 : (i + 2).toInt = i.toInt + 2 := g5_iadd (a := i.toInt) (b := 2) (by rfl) (by decide) (by omega) (by omega)
  refine va_sld hx hb hX hbl hbA hS (vp_in_iff.mpr ⟨by omega, by omega⟩) dL_law_1227 ?_
  refine g5_ti (v := q4) hq4 ?_
  refine lv_aload_n hx hb dL_law_1228 rfl (lv_at hl 3 rfl) ?_
  refine lv_iload_n hx hb dL_law_1229 rfl (lv_at hl 0 rfl) ?_
  refine lv_iconst (v := 3) hx hb dL_law_1230 (by decide) ?_
  refine lv_iadd hx hb dL_law_1231 ?_
  have t_10 : (i + 3).toInt = i.toInt + 3 := g5_iadd (a := i.toInt) (b := 3) (by rfl) (by decide) (by omega) (by omega)
  refine va_sld hx hb hX hbl hbA hS (vp_in_iff.mpr ⟨by omega, by omega⟩) dL_law_1232 ?_
  refine g5_ti (v := q6) hq6 ?_
  refine sm_spot hC hA hT hS hl.1 ⟨by omega, by omega⟩ hM hP hD (fun r11 mw hM {H} {locs} hP hD hS => ?_)
  have hP := hP.perm (List.perm_append_comm_assoc mw w (pflat G Lw))
  have hD := hD.perm (List.perm_append_comm_assoc mw w (pflat G Lw))
  refine lv_pop hx hb dL_law_1236 rfl ?_
  refine lv_goto (tgt := 1648) hx hb dL_law_1237 (by decide) ?_
  refine W.widen (k := cells + 4) (n := slots + 429) (by omega) (by omega) ?_
  exact kk (sspot f_ro q2 q4 q6) f_im f_ke f_x e_tl e_fd f_wd e_wn Lw w mw H locs ls hLO hI hM hP hD hS (lv_sub hl [0, 1, 2, 3] rfl)
set_option maxHeartbeats 4000000 in
set_option maxRecDepth 100000 in
theorem lc_wish {p : Program} {l : Launch} {e : Env} {s : State} {m : MethodId} {below : List Frame} {meth : Method} {c : Code} {b Ls : Nat} {xs : Nat → Int32} {G : g5_G} {A : Nat → Prop} {Q : State → Prop} {H : Heap} {locs : List Loc} {ls : Array Slot} {cells slots : Nat} {w mw : va_W} {Lw : List LR} {x y : Nat} {f_ro : Nat → Int32} {f_im : Nat → Int32} {f_ke : Nat → Int32} {f_x : Nat → Int32} {e_tl : Int32} {e_fd : Int32} {f_wd : Nat → Int32} {e_wn : Int32} {i : Int32} (C : lwC p s m meth c b Ls xs G) (hA : ∀ q : Nat, s.heap.size ≤ q → A q) (hT : g5_S A s s.heap) (hbA : ¬ A b) (hS : va_S A s.heap H locs) (hrm : cells + 8 ≤ 600000 ∧ slots + 858 ≤ 7302250) (hLO : LOK Lw) (hI : XW G Lw x f_ro f_im f_ke f_x e_tl e_fd f_wd e_wn w) (hM : MW G y f_ro f_im f_ke f_x e_tl e_fd f_wd e_wn mw) (hP : va_P G.1 vwCl (w ++ (mw ++ pflat G Lw)) H) (hD : va_D A (w ++ (mw ++ pflat G Lw))) (hl : lv_has ls 4 [(3, .int i), (2, .ref y), (1, .ref x), (0, .ref b)]) (hi : 0 ≤ i.toInt ∧ i.toInt + 7 ≤ (Ls : Int)) (hLs : Ls ≤ 3584) (kk : ∀ (f_ro : Nat → Int32) (f_im : Nat → Int32) (f_ke : Nat → Int32) (f_x : Nat → Int32) (e_tl : Int32) (e_fd : Int32) (f_wd : Nat → Int32) (e_wn : Int32) (Lw : List LR) (w mw : va_W) (H : Heap) (locs : List Loc) (ls : Array Slot), LOK Lw → XW G Lw x f_ro f_im f_ke f_x e_tl e_fd f_wd e_wn w → MW G y f_ro f_im f_ke f_x e_tl e_fd f_wd e_wn mw → va_P G.1 vwCl (w ++ (mw ++ pflat G Lw)) H → va_D A (w ++ (mw ++ pflat G Lw)) → va_S A s.heap H locs → lv_has ls 4 [(3, .int i), (2, .ref y), (1, .ref x), (0, .ref b)] → W p l e room_1 s m #[Value.ref b] below meth c H locs (cells + 4) (slots + 429) Q (F0 m 1648 ls [])) : W p l e room_1 s m #[Value.ref b] below meth c H locs cells slots Q (F0 m 1240 ls []) := by
  have hC := C
  obtain ⟨⟨hx, hb, hr, hml, hown, hts0, hX, hbl, hlocks, hgv⟩, hK, hN⟩ := C
  have hown : s.vm.findClass RL = some m.cls := hown
  have hts : ∀ w ∈ tblG, w.before #[Value.ref b] s = true := fun w h => hts0 w (List.mem_filter.mp h).1
  refine lv_aload_n hx hb dL_law_1240 rfl (lv_at hl 2 rfl) ?_
  refine lv_aload_n hx hb dL_law_1241 rfl (lv_at hl 3 rfl) ?_
  refine lv_iload_n hx hb dL_law_1242 rfl (lv_at hl 0 rfl) ?_
  refine lv_iconst (v := 1) hx hb dL_law_1243 (by decide) ?_
  refine lv_iadd hx hb dL_law_1244 ?_
  have t_1 : (i + 1).toInt = i.toInt + 1 := g5_iadd (a := i.toInt) (b := 1) (by rfl) (by decide) (by omega) (by omega)
  refine va_sld hx hb hX hbl hbA hS (vp_in_iff.mpr ⟨by omega, by omega⟩) dL_law_1245 ?_
  obtain ⟨q2, hq2⟩ : ∃ y : Int32, xs (i + 1).toNatClampNeg = y := ⟨_, rfl⟩
  refine g5_ti (v := q2) hq2 ?_
  refine lv_aload_n hx hb dL_law_1246 rfl (lv_at hl 3 rfl) ?_
  refine lv_iload_n hx hb dL_law_1247 rfl (lv_at hl 0 rfl) ?_
  refine lv_iconst (v := 2) hx hb dL_law_1248 (by decide) ?_
  refine lv_iadd hx hb dL_law_1249 ?_
  have t_3 : (i + 2).toInt = i.toInt + 2 := g5_iadd (a := i.toInt) (b := 2) (by rfl) (by decide) (by omega) (by omega)
  refine va_sld hx hb hX hbl hbA hS (vp_in_iff.mpr ⟨by omega, by omega⟩) dL_law_1250 ?_
  obtain ⟨q4, hq4⟩ : ∃ y : Int32, xs (i + 2).toNatClampNeg = y := ⟨_, rfl⟩
  refine g5_ti (v := q4) hq4 ?_
  refine lv_aload_n hx hb dL_law_1251 rfl (lv_at hl 3 rfl) ?_
  refine lv_iload_n hx hb dL_law_1252 rfl (lv_at hl 0 rfl) ?_
  refine lv_iconst (v := 3) hx hb dL_law_1253 (by decide) ?_
  refine lv_iadd hx hb dL_law_1254 ?_
  have t_5 : (i + 3).toInt = i.toInt + 3 := g5_iadd (a := i.toInt) (b := 3) (by rfl) (by decide) (by omega) (by omega)
  refine va_sld hx hb hX hbl hbA hS (vp_in_iff.mpr ⟨by omega, by omega⟩) dL_law_1255 ?_
  obtain ⟨q6, hq6⟩ : ∃ y : Int32, xs (i + 3).toNatClampNeg = y := ⟨_, rfl⟩
  refine g5_ti (v := q6) hq6 ?_
  refine lv_aload_n hx hb dL_law_1256 rfl (lv_at hl 3 rfl) ?_
  refine lv_iload_n hx hb dL_law_1257 rfl (lv_at hl 0 rfl) ?_
  refine lv_iconst (v := 4) hx hb dL_law_1258 (by decide) ?_
  refine lv_iadd hx hb dL_law_1259 ?_
  have t_7 : (i + 4).toInt = i.toInt + 4 := g5_iadd (a := i.toInt) (b := 4) (by rfl) (by decide) (by omega) (by omega)
  refine va_sld hx hb hX hbl hbA hS (vp_in_iff.mpr ⟨by omega, by omega⟩) dL_law_1260 ?_
  obtain ⟨q8, hq8⟩ : ∃ y : Int32, xs (i + 4).toNatClampNeg = y := ⟨_, rfl⟩
  refine g5_ti (v := q8) hq8 ?_
  refine lv_aload_n hx hb dL_law_1261 rfl (lv_at hl 3 rfl) ?_
  refine lv_iload_n hx hb dL_law_1262 rfl (lv_at hl 0 rfl) ?_
  refine lv_iconst (v := 5) hx hb dL_law_1263 (by decide) ?_
  refine lv_iadd hx hb dL_law_1264 ?_
  have t_9 : (i + 5).toInt = i.toInt + 5 := g5_iadd (a := i.toInt) (b := 5) (by rfl) (by decide) (by omega) (by omega)
  refine va_sld hx hb hX hbl hbA hS (vp_in_iff.mpr ⟨by omega, by omega⟩) dL_law_1265 ?_
  obtain ⟨q10, hq10⟩ : ∃ y : Int32, xs (i + 5).toNatClampNeg = y := ⟨_, rfl⟩
  refine g5_ti (v := q10) hq10 ?_
  refine lv_aload_n hx hb dL_law_1266 rfl (lv_at hl 3 rfl) ?_
  refine lv_iload_n hx hb dL_law_1267 rfl (lv_at hl 0 rfl) ?_
  refine lv_bipush (v := 6) hx hb dL_law_1268 (by decide) ?_
  refine lv_iadd hx hb dL_law_1270 ?_
  have t_11 : (i + 6).toInt = i.toInt + 6 := g5_iadd (a := i.toInt) (b := 6) (by rfl) (by decide) (by omega) (by omega)
  refine va_sld hx hb hX hbl hbA hS (vp_in_iff.mpr ⟨by omega, by omega⟩) dL_law_1271 ?_
  obtain ⟨q12, hq12⟩ : ∃ y : Int32, xs (i + 6).toNatClampNeg = y := ⟨_, rfl⟩
  refine g5_ti (v := q12) hq12 ?_
  refine sx_wish hC hA hT hS hl.1 ⟨by omega, by omega⟩ hLO hI hP hD (fun r13 w hI {H} {locs} hP hD hS => ?_)
  have hP := hP.perm (List.perm_append_comm_assoc w mw (pflat G Lw))
  have hD := hD.perm (List.perm_append_comm_assoc w mw (pflat G Lw))
  refine lv_pop hx hb dL_law_1275 rfl ?_
  refine lv_aload_n hx hb dL_law_1276 rfl (lv_at hl 1 rfl) ?_
  refine lv_aload_n hx hb dL_law_1277 rfl (lv_at hl 3 rfl) ?_
  refine lv_iload_n hx hb dL_law_1278 rfl (lv_at hl 0 rfl) ?_
  refine lv_iconst (v := 1) hx hb dL_law_1279 (by decide) ?_
  refine lv_iadd hx hb dL_law_1280 ?_
  have t_14 : (i + 1).toInt = i.toInt + 1 := g5_iadd (a := i.toInt) (b := 1) (by rfl) (by decide) (by omega) (by omega)
  refine va_sld hx hb hX hbl hbA hS (vp_in_iff.mpr ⟨by omega, by omega⟩) dL_law_1281 ?_
  refine g5_ti (v := q2) hq2 ?_
  refine lv_aload_n hx hb dL_law_1282 rfl (lv_at hl 3 rfl) ?_
  refine lv_iload_n hx hb dL_law_1283 rfl (lv_at hl 0 rfl) ?_
  refine lv_iconst (v := 2) hx hb dL_law_1284 (by decide) ?_
  refine lv_iadd hx hb dL_law_1285 ?_
  have t_15 : (i + 2).toInt = i.toInt + 2 := g5_iadd (a := i.toInt) (b := 2) (by rfl) (by decide) (by omega) (by omega)
  refine va_sld hx hb hX hbl hbA hS (vp_in_iff.mpr ⟨by omega, by omega⟩) dL_law_1286 ?_
  refine g5_ti (v := q4) hq4 ?_
  refine lv_aload_n hx hb dL_law_1287 rfl (lv_at hl 3 rfl) ?_
  refine lv_iload_n hx hb dL_law_1288 rfl (lv_at hl 0 rfl) ?_
  refine lv_iconst (v := 3) hx hb dL_law_1289 (by decide) ?_
  refine lv_iadd hx hb dL_law_1290 ?_
  have t_16 : (i + 3).toInt = i.toInt + 3 := g5_iadd (a := i.toInt) (b := 3) (by rfl) (by decide) (by omega) (by omega)
  refine va_sld hx hb hX hbl hbA hS (vp_in_iff.mpr ⟨by omega, by omega⟩) dL_law_1291 ?_
  refine g5_ti (v := q6) hq6 ?_
  refine lv_aload_n hx hb dL_law_1292 rfl (lv_at hl 3 rfl) ?_
  refine lv_iload_n hx hb dL_law_1293 rfl (lv_at hl 0 rfl) ?_
  refine lv_iconst (v := 4) hx hb dL_law_1294 (by decide) ?_
  refine lv_iadd hx hb dL_law_1295 ?_
  have t_17 : (i + 4).toInt = i.toInt + 4 := g5_iadd (a := i.toInt) (b := 4) (by rfl) (by decide) (by omega) (by omega)
  refine va_sld hx hb hX hbl hbA hS (vp_in_iff.mpr ⟨by omega, by omega⟩) dL_law_1296 ?_
  refine g5_ti (v := q8) hq8 ?_
  refine lv_aload_n hx hb dL_law_1297 rfl (lv_at hl 3 rfl) ?_
  refine lv_iload_n hx hb dL_law_1298 rfl (lv_at hl 0 rfl) ?_
  refine lv_iconst (v := 5) hx hb dL_law_1299 (by decide) ?_
  refine lv_iadd hx hb dL_law_1300 ?_
  have t_18 : (i + 5).toInt = i.toInt + 5 := g5_iadd (a := i.toInt) (b := 5) (by rfl) (by decide) (by omega) (by omega)
  refine va_sld hx hb hX hbl hbA hS (vp_in_iff.mpr ⟨by omega, by omega⟩) dL_law_1301 ?_
  refine g5_ti (v := q10) hq10 ?_
  refine lv_aload_n hx hb dL_law_1302 rfl (lv_at hl 3 rfl) ?_
  refine lv_iload_n hx hb dL_law_1303 rfl (lv_at hl 0 rfl) ?_
  refine lv_bipush (v := 6) hx hb dL_law_1304 (by decide) ?_
  refine lv_iadd hx hb dL_law_1306 ?_
  have t_19 : (i + 6).toInt = i.toInt + 6 := g5_iadd (a := i.toInt) (b := 6) (by rfl) (by decide) (by omega) (by omega)
  refine va_sld hx hb hX hbl hbA hS (vp_in_iff.mpr ⟨by omega, by omega⟩) dL_law_1307 ?_
  refine g5_ti (v := q12) hq12 ?_
  refine sm_wish hC hA hT hS hl.1 ⟨by omega, by omega⟩ hM hP hD (fun r20 mw hM {H} {locs} hP hD hS => ?_)
  have hP := hP.perm (List.perm_append_comm_assoc mw w (pflat G Lw))
  have hD := hD.perm (List.perm_append_comm_assoc mw w (pflat G Lw))
  refine lv_pop hx hb dL_law_1311 rfl ?_
  refine lv_goto (tgt := 1648) hx hb dL_law_1312 (by decide) ?_
  refine W.widen (k := cells + 4) (n := slots + 429) (by omega) (by omega) ?_
  exact kk (swish f_ro q2 q4 q6 q8 q10 q12) f_im f_ke f_x e_tl e_fd f_wd e_wn Lw w mw H locs ls hLO hI hM hP hD hS (lv_sub hl [0, 1, 2, 3] rfl)
set_option maxHeartbeats 4000000 in
set_option maxRecDepth 100000 in
theorem lc_lacks {p : Program} {l : Launch} {e : Env} {s : State} {m : MethodId} {below : List Frame} {meth : Method} {c : Code} {b Ls : Nat} {xs : Nat → Int32} {G : g5_G} {A : Nat → Prop} {Q : State → Prop} {H : Heap} {locs : List Loc} {ls : Array Slot} {cells slots : Nat} {w mw : va_W} {Lw : List LR} {x y : Nat} {f_ro : Nat → Int32} {f_im : Nat → Int32} {f_ke : Nat → Int32} {f_x : Nat → Int32} {e_tl : Int32} {e_fd : Int32} {f_wd : Nat → Int32} {e_wn : Int32} {i : Int32} (C : lwC p s m meth c b Ls xs G) (hA : ∀ q : Nat, s.heap.size ≤ q → A q) (hT : g5_S A s s.heap) (hbA : ¬ A b) (hS : va_S A s.heap H locs) (hrm : cells + 8 ≤ 600000 ∧ slots + 858 ≤ 7302250) (hLO : LOK Lw) (hI : XW G Lw x f_ro f_im f_ke f_x e_tl e_fd f_wd e_wn w) (hM : MW G y f_ro f_im f_ke f_x e_tl e_fd f_wd e_wn mw) (hP : va_P G.1 vwCl (w ++ (mw ++ pflat G Lw)) H) (hD : va_D A (w ++ (mw ++ pflat G Lw))) (hl : lv_has ls 4 [(3, .int i), (2, .ref y), (1, .ref x), (0, .ref b)]) (hi : 0 ≤ i.toInt ∧ i.toInt + 7 ≤ (Ls : Int)) (hLs : Ls ≤ 3584) (kk : ∀ (f_ro : Nat → Int32) (f_im : Nat → Int32) (f_ke : Nat → Int32) (f_x : Nat → Int32) (e_tl : Int32) (e_fd : Int32) (f_wd : Nat → Int32) (e_wn : Int32) (Lw : List LR) (w mw : va_W) (H : Heap) (locs : List Loc) (ls : Array Slot), LOK Lw → XW G Lw x f_ro f_im f_ke f_x e_tl e_fd f_wd e_wn w → MW G y f_ro f_im f_ke f_x e_tl e_fd f_wd e_wn mw → va_P G.1 vwCl (w ++ (mw ++ pflat G Lw)) H → va_D A (w ++ (mw ++ pflat G Lw)) → va_S A s.heap H locs → lv_has ls 4 [(3, .int i), (2, .ref y), (1, .ref x), (0, .ref b)] → W p l e room_1 s m #[Value.ref b] below meth c H locs (cells + 4) (slots + 429) Q (F0 m 1648 ls [])) : W p l e room_1 s m #[Value.ref b] below meth c H locs cells slots Q (F0 m 1315 ls []) := by
  have hC := C
  obtain ⟨⟨hx, hb, hr, hml, hown, hts0, hX, hbl, hlocks, hgv⟩, hK, hN⟩ := C
  have hown : s.vm.findClass RL = some m.cls := hown
  have hts : ∀ w ∈ tblG, w.before #[Value.ref b] s = true := fun w h => hts0 w (List.mem_filter.mp h).1
  refine lv_aload_n hx hb dL_law_1315 rfl (lv_at hl 2 rfl) ?_
  refine lv_aload_n hx hb dL_law_1316 rfl (lv_at hl 3 rfl) ?_
  refine lv_iload_n hx hb dL_law_1317 rfl (lv_at hl 0 rfl) ?_
  refine lv_iconst (v := 1) hx hb dL_law_1318 (by decide) ?_
  refine lv_iadd hx hb dL_law_1319 ?_
  have t_1 : (i + 1).toInt = i.toInt + 1 := g5_iadd (a := i.toInt) (b := 1) (by rfl) (by decide) (by omega) (by omega)
  refine va_sld hx hb hX hbl hbA hS (vp_in_iff.mpr ⟨by omega, by omega⟩) dL_law_1320 ?_
  obtain ⟨q2, hq2⟩ : ∃ y : Int32, xs (i + 1).toNatClampNeg = y := ⟨_, rfl⟩
  refine g5_ti (v := q2) hq2 ?_
  refine sx_lacks hC hA hT hS hl.1 ⟨by omega, by omega⟩ hLO hI hP hD (fun r3 w hI {H} {locs} hP hD hS => ?_)
  have hP := hP.perm (List.perm_append_comm_assoc w mw (pflat G Lw))
  have hD := hD.perm (List.perm_append_comm_assoc w mw (pflat G Lw))
  refine lv_pop hx hb dL_law_1324 rfl ?_
  refine lv_aload_n hx hb dL_law_1325 rfl (lv_at hl 1 rfl) ?_
  refine lv_aload_n hx hb dL_law_1326 rfl (lv_at hl 3 rfl) ?_
  refine lv_iload_n hx hb dL_law_1327 rfl (lv_at hl 0 rfl) ?_
  refine lv_iconst (v := 1) hx hb dL_law_1328 (by decide) ?_
  refine lv_iadd hx hb dL_law_1329 ?_
  have t_4 : (i + 1).toInt = i.toInt + 1 := g5_iadd (a := i.toInt) (b := 1) (by rfl) (by decide) (by omega) (by omega)
  refine va_sld hx hb hX hbl hbA hS (vp_in_iff.mpr ⟨by omega, by omega⟩) dL_law_1330 ?_
  refine g5_ti (v := q2) hq2 ?_
  refine sm_lacks hC hA hT hS hl.1 ⟨by omega, by omega⟩ hM hP hD (fun r5 mw hM {H} {locs} hP hD hS => ?_)
  have hP := hP.perm (List.perm_append_comm_assoc mw w (pflat G Lw))
  have hD := hD.perm (List.perm_append_comm_assoc mw w (pflat G Lw))
  refine lv_pop hx hb dL_law_1334 rfl ?_
  refine lv_goto (tgt := 1648) hx hb dL_law_1335 (by decide) ?_
  refine W.widen (k := cells + 4) (n := slots + 429) (by omega) (by omega) ?_
  exact kk f_ro f_im f_ke f_x e_tl e_fd f_wd e_wn Lw w mw H locs ls hLO hI hM hP hD hS (lv_sub hl [0, 1, 2, 3] rfl)
set_option maxHeartbeats 4000000 in
set_option maxRecDepth 100000 in
theorem lc_hang {p : Program} {l : Launch} {e : Env} {s : State} {m : MethodId} {below : List Frame} {meth : Method} {c : Code} {b Ls : Nat} {xs : Nat → Int32} {G : g5_G} {A : Nat → Prop} {Q : State → Prop} {H : Heap} {locs : List Loc} {ls : Array Slot} {cells slots : Nat} {w mw : va_W} {Lw : List LR} {x y : Nat} {f_ro : Nat → Int32} {f_im : Nat → Int32} {f_ke : Nat → Int32} {f_x : Nat → Int32} {e_tl : Int32} {e_fd : Int32} {f_wd : Nat → Int32} {e_wn : Int32} {i : Int32} (C : lwC p s m meth c b Ls xs G) (hA : ∀ q : Nat, s.heap.size ≤ q → A q) (hT : g5_S A s s.heap) (hbA : ¬ A b) (hS : va_S A s.heap H locs) (hrm : cells + 8 ≤ 600000 ∧ slots + 858 ≤ 7302250) (hLO : LOK Lw) (hI : XW G Lw x f_ro f_im f_ke f_x e_tl e_fd f_wd e_wn w) (hM : MW G y f_ro f_im f_ke f_x e_tl e_fd f_wd e_wn mw) (hP : va_P G.1 vwCl (w ++ (mw ++ pflat G Lw)) H) (hD : va_D A (w ++ (mw ++ pflat G Lw))) (hl : lv_has ls 4 [(3, .int i), (2, .ref y), (1, .ref x), (0, .ref b)]) (hi : 0 ≤ i.toInt ∧ i.toInt + 7 ≤ (Ls : Int)) (hLs : Ls ≤ 3584) (kk : ∀ (f_ro : Nat → Int32) (f_im : Nat → Int32) (f_ke : Nat → Int32) (f_x : Nat → Int32) (e_tl : Int32) (e_fd : Int32) (f_wd : Nat → Int32) (e_wn : Int32) (Lw : List LR) (w mw : va_W) (H : Heap) (locs : List Loc) (ls : Array Slot), LOK Lw → XW G Lw x f_ro f_im f_ke f_x e_tl e_fd f_wd e_wn w → MW G y f_ro f_im f_ke f_x e_tl e_fd f_wd e_wn mw → va_P G.1 vwCl (w ++ (mw ++ pflat G Lw)) H → va_D A (w ++ (mw ++ pflat G Lw)) → va_S A s.heap H locs → lv_has ls 4 [(3, .int i), (2, .ref y), (1, .ref x), (0, .ref b)] → W p l e room_1 s m #[Value.ref b] below meth c H locs (cells + 4) (slots + 429) Q (F0 m 1648 ls [])) : W p l e room_1 s m #[Value.ref b] below meth c H locs cells slots Q (F0 m 1338 ls []) := by
  have hC := C
  obtain ⟨⟨hx, hb, hr, hml, hown, hts0, hX, hbl, hlocks, hgv⟩, hK, hN⟩ := C
  have hown : s.vm.findClass RL = some m.cls := hown
  have hts : ∀ w ∈ tblG, w.before #[Value.ref b] s = true := fun w h => hts0 w (List.mem_filter.mp h).1
  refine lv_aload_n hx hb dL_law_1338 rfl (lv_at hl 2 rfl) ?_
  refine lv_aload_n hx hb dL_law_1339 rfl (lv_at hl 3 rfl) ?_
  refine lv_iload_n hx hb dL_law_1340 rfl (lv_at hl 0 rfl) ?_
  refine lv_iconst (v := 1) hx hb dL_law_1341 (by decide) ?_
  refine lv_iadd hx hb dL_law_1342 ?_
  have t_1 : (i + 1).toInt = i.toInt + 1 := g5_iadd (a := i.toInt) (b := 1) (by rfl) (by decide) (by omega) (by omega)
  refine va_sld hx hb hX hbl hbA hS (vp_in_iff.mpr ⟨by omega, by omega⟩) dL_law_1343 ?_
  obtain ⟨q2, hq2⟩ : ∃ y : Int32, xs (i + 1).toNatClampNeg = y := ⟨_, rfl⟩
  refine g5_ti (v := q2) hq2 ?_
  refine sx_hang hC hA hT hS hl.1 ⟨by omega, by omega⟩ hLO hI hP hD (fun r3 w hI {H} {locs} hP hD hS => ?_)
  have hP := hP.perm (List.perm_append_comm_assoc w mw (pflat G Lw))
  have hD := hD.perm (List.perm_append_comm_assoc w mw (pflat G Lw))
  refine lv_pop hx hb dL_law_1347 rfl ?_
  refine lv_aload_n hx hb dL_law_1348 rfl (lv_at hl 1 rfl) ?_
  refine lv_aload_n hx hb dL_law_1349 rfl (lv_at hl 3 rfl) ?_
  refine lv_iload_n hx hb dL_law_1350 rfl (lv_at hl 0 rfl) ?_
  refine lv_iconst (v := 1) hx hb dL_law_1351 (by decide) ?_
  refine lv_iadd hx hb dL_law_1352 ?_
  have t_4 : (i + 1).toInt = i.toInt + 1 := g5_iadd (a := i.toInt) (b := 1) (by rfl) (by decide) (by omega) (by omega)
  refine va_sld hx hb hX hbl hbA hS (vp_in_iff.mpr ⟨by omega, by omega⟩) dL_law_1353 ?_
  refine g5_ti (v := q2) hq2 ?_
  refine sm_hang hC hA hT hS hl.1 ⟨by omega, by omega⟩ hM hP hD (fun r5 mw hM {H} {locs} hP hD hS => ?_)
  have hP := hP.perm (List.perm_append_comm_assoc mw w (pflat G Lw))
  have hD := hD.perm (List.perm_append_comm_assoc mw w (pflat G Lw))
  refine lv_pop hx hb dL_law_1357 rfl ?_
  refine lv_goto (tgt := 1648) hx hb dL_law_1358 (by decide) ?_
  refine W.widen (k := cells + 4) (n := slots + 429) (by omega) (by omega) ?_
  exact kk f_ro f_im f_ke f_x e_tl e_fd f_wd e_wn Lw w mw H locs ls hLO hI hM hP hD hS (lv_sub hl [0, 1, 2, 3] rfl)
set_option maxHeartbeats 4000000 in
set_option maxRecDepth 100000 in
theorem lc_soonest {p : Program} {l : Launch} {e : Env} {s : State} {m : MethodId} {below : List Frame} {meth : Method} {c : Code} {b Ls : Nat} {xs : Nat → Int32} {G : g5_G} {A : Nat → Prop} {Q : State → Prop} {H : Heap} {locs : List Loc} {ls : Array Slot} {cells slots : Nat} {w mw : va_W} {Lw : List LR} {x y : Nat} {f_ro : Nat → Int32} {f_im : Nat → Int32} {f_ke : Nat → Int32} {f_x : Nat → Int32} {e_tl : Int32} {e_fd : Int32} {f_wd : Nat → Int32} {e_wn : Int32} {i : Int32} (C : lwC p s m meth c b Ls xs G) (hA : ∀ q : Nat, s.heap.size ≤ q → A q) (hT : g5_S A s s.heap) (hbA : ¬ A b) (hS : va_S A s.heap H locs) (hrm : cells + 8 ≤ 600000 ∧ slots + 858 ≤ 7302250) (hLO : LOK Lw) (hI : XW G Lw x f_ro f_im f_ke f_x e_tl e_fd f_wd e_wn w) (hM : MW G y f_ro f_im f_ke f_x e_tl e_fd f_wd e_wn mw) (hP : va_P G.1 vwCl (w ++ (mw ++ pflat G Lw)) H) (hD : va_D A (w ++ (mw ++ pflat G Lw))) (hl : lv_has ls 4 [(3, .int i), (2, .ref y), (1, .ref x), (0, .ref b)]) (hi : 0 ≤ i.toInt ∧ i.toInt + 7 ≤ (Ls : Int)) (hLs : Ls ≤ 3584) (kk : ∀ (f_ro : Nat → Int32) (f_im : Nat → Int32) (f_ke : Nat → Int32) (f_x : Nat → Int32) (e_tl : Int32) (e_fd : Int32) (f_wd : Nat → Int32) (e_wn : Int32) (Lw : List LR) (w mw : va_W) (H : Heap) (locs : List Loc) (ls : Array Slot), LOK Lw → XW G Lw x f_ro f_im f_ke f_x e_tl e_fd f_wd e_wn w → MW G y f_ro f_im f_ke f_x e_tl e_fd f_wd e_wn mw → va_P G.1 vwCl (w ++ (mw ++ pflat G Lw)) H → va_D A (w ++ (mw ++ pflat G Lw)) → va_S A s.heap H locs → lv_has ls 4 [(3, .int i), (2, .ref y), (1, .ref x), (0, .ref b)] → W p l e room_1 s m #[Value.ref b] below meth c H locs (cells + 4) (slots + 429) Q (F0 m 1648 ls [])) : W p l e room_1 s m #[Value.ref b] below meth c H locs cells slots Q (F0 m 1361 ls []) := by
  have hC := C
  obtain ⟨⟨hx, hb, hr, hml, hown, hts0, hX, hbl, hlocks, hgv⟩, hK, hN⟩ := C
  have hown : s.vm.findClass RL = some m.cls := hown
  have hts : ∀ w ∈ tblG, w.before #[Value.ref b] s = true := fun w h => hts0 w (List.mem_filter.mp h).1
  refine lv_aload_n hx hb dL_law_1361 rfl (lv_at hl 2 rfl) ?_
  refine lv_aload_n hx hb dL_law_1362 rfl (lv_at hl 3 rfl) ?_
  refine lv_iload_n hx hb dL_law_1363 rfl (lv_at hl 0 rfl) ?_
  refine lv_iconst (v := 1) hx hb dL_law_1364 (by decide) ?_
  refine lv_iadd hx hb dL_law_1365 ?_
  have t_1 : (i + 1).toInt = i.toInt + 1 := g5_iadd (a := i.toInt) (b := 1) (by rfl) (by decide) (by omega) (by omega)
  refine va_sld hx hb hX hbl hbA hS (vp_in_iff.mpr ⟨by omega, by omega⟩) dL_law_1366 ?_
  obtain ⟨q2, hq2⟩ : ∃ y : Int32, xs (i + 1).toNatClampNeg = y := ⟨_, rfl⟩
  refine g5_ti (v := q2) hq2 ?_
  refine lv_aload_n hx hb dL_law_1367 rfl (lv_at hl 3 rfl) ?_
  refine lv_iload_n hx hb dL_law_1368 rfl (lv_at hl 0 rfl) ?_
  refine lv_iconst (v := 2) hx hb dL_law_1369 (by decide) ?_
  refine lv_iadd hx hb dL_law_1370 ?_
  have t_3 : (i + 2).toInt = i.toInt + 2 := g5_iadd (a := i.toInt) (b := 2) (by rfl) (by decide) (by omega) (by omega)
  refine va_sld hx hb hX hbl hbA hS (vp_in_iff.mpr ⟨by omega, by omega⟩) dL_law_1371 ?_
  obtain ⟨q4, hq4⟩ : ∃ y : Int32, xs (i + 2).toNatClampNeg = y := ⟨_, rfl⟩
  refine g5_ti (v := q4) hq4 ?_
  refine lv_aload_n hx hb dL_law_1372 rfl (lv_at hl 3 rfl) ?_
  refine lv_iload_n hx hb dL_law_1373 rfl (lv_at hl 0 rfl) ?_
  refine lv_iconst (v := 3) hx hb dL_law_1374 (by decide) ?_
  refine lv_iadd hx hb dL_law_1375 ?_
  have t_5 : (i + 3).toInt = i.toInt + 3 := g5_iadd (a := i.toInt) (b := 3) (by rfl) (by decide) (by omega) (by omega)
  refine va_sld hx hb hX hbl hbA hS (vp_in_iff.mpr ⟨by omega, by omega⟩) dL_law_1376 ?_
  obtain ⟨q6, hq6⟩ : ∃ y : Int32, xs (i + 3).toNatClampNeg = y := ⟨_, rfl⟩
  refine g5_ti (v := q6) hq6 ?_
  refine sx_soonest hC hA hT hS hl.1 ⟨by omega, by omega⟩ hLO hI hP hD (fun r7 w hI {H} {locs} hP hD hS => ?_)
  have hP := hP.perm (List.perm_append_comm_assoc w mw (pflat G Lw))
  have hD := hD.perm (List.perm_append_comm_assoc w mw (pflat G Lw))
  refine lv_pop hx hb dL_law_1380 rfl ?_
  refine lv_aload_n hx hb dL_law_1381 rfl (lv_at hl 1 rfl) ?_
  refine lv_aload_n hx hb dL_law_1382 rfl (lv_at hl 3 rfl) ?_
  refine lv_iload_n hx hb dL_law_1383 rfl (lv_at hl 0 rfl) ?_
  refine lv_iconst (v := 1) hx hb dL_law_1384 (by decide) ?_
  refine lv_iadd hx hb dL_law_1385 ?_
  have t_8 : (i + 1).toInt = i.toInt + 1 := g5_iadd (a := i.toInt) (b := 1) (by rfl) (by decide) (by omega) (by omega)
  refine va_sld hx hb hX hbl hbA hS (vp_in_iff.mpr ⟨by omega, by omega⟩) dL_law_1386 ?_
  refine g5_ti (v := q2) hq2 ?_
  refine lv_aload_n hx hb dL_law_1387 rfl (lv_at hl 3 rfl) ?_
  refine lv_iload_n hx hb dL_law_1388 rfl (lv_at hl 0 rfl) ?_
  refine lv_iconst (v := 2) hx hb dL_law_1389 (by decide) ?_
  refine lv_iadd hx hb dL_law_1390 ?_
  have t_9 : (i + 2).toInt = i.toInt + 2 := g5_iadd (a := i.toInt) (b := 2) (by rfl) (by decide) (by omega) (by omega)
  refine va_sld hx hb hX hbl hbA hS (vp_in_iff.mpr ⟨by omega, by omega⟩) dL_law_1391 ?_
  refine g5_ti (v := q4) hq4 ?_
  refine lv_aload_n hx hb dL_law_1392 rfl (lv_at hl 3 rfl) ?_
  refine lv_iload_n hx hb dL_law_1393 rfl (lv_at hl 0 rfl) ?_
  refine lv_iconst (v := 3) hx hb dL_law_1394 (by decide) ?_
  refine lv_iadd hx hb dL_law_1395 ?_
  have t_10 : (i + 3).toInt = i.toInt + 3 := g5_iadd (a := i.toInt) (b := 3) (by rfl) (by decide) (by omega) (by omega)
  refine va_sld hx hb hX hbl hbA hS (vp_in_iff.mpr ⟨by omega, by omega⟩) dL_law_1396 ?_
  refine g5_ti (v := q6) hq6 ?_
  refine sm_soonest hC hA hT hS hl.1 ⟨by omega, by omega⟩ hM hP hD (fun r11 mw hM {H} {locs} hP hD hS => ?_)
  have hP := hP.perm (List.perm_append_comm_assoc mw w (pflat G Lw))
  have hD := hD.perm (List.perm_append_comm_assoc mw w (pflat G Lw))
  refine lv_pop hx hb dL_law_1400 rfl ?_
  refine lv_goto (tgt := 1648) hx hb dL_law_1401 (by decide) ?_
  refine W.widen (k := cells + 4) (n := slots + 429) (by omega) (by omega) ?_
  exact kk f_ro f_im f_ke f_x e_tl e_fd f_wd e_wn Lw w mw H locs ls hLO hI hM hP hD hS (lv_sub hl [0, 1, 2, 3] rfl)
set_option maxHeartbeats 4000000 in
set_option maxRecDepth 100000 in
theorem lc_way {p : Program} {l : Launch} {e : Env} {s : State} {m : MethodId} {below : List Frame} {meth : Method} {c : Code} {b Ls : Nat} {xs : Nat → Int32} {G : g5_G} {A : Nat → Prop} {Q : State → Prop} {H : Heap} {locs : List Loc} {ls : Array Slot} {cells slots : Nat} {w mw : va_W} {Lw : List LR} {x y : Nat} {f_ro : Nat → Int32} {f_im : Nat → Int32} {f_ke : Nat → Int32} {f_x : Nat → Int32} {e_tl : Int32} {e_fd : Int32} {f_wd : Nat → Int32} {e_wn : Int32} {i : Int32} (C : lwC p s m meth c b Ls xs G) (hA : ∀ q : Nat, s.heap.size ≤ q → A q) (hT : g5_S A s s.heap) (hbA : ¬ A b) (hS : va_S A s.heap H locs) (hrm : cells + 8 ≤ 600000 ∧ slots + 858 ≤ 7302250) (hLO : LOK Lw) (hI : XW G Lw x f_ro f_im f_ke f_x e_tl e_fd f_wd e_wn w) (hM : MW G y f_ro f_im f_ke f_x e_tl e_fd f_wd e_wn mw) (hP : va_P G.1 vwCl (w ++ (mw ++ pflat G Lw)) H) (hD : va_D A (w ++ (mw ++ pflat G Lw))) (hl : lv_has ls 4 [(3, .int i), (2, .ref y), (1, .ref x), (0, .ref b)]) (hi : 0 ≤ i.toInt ∧ i.toInt + 7 ≤ (Ls : Int)) (hLs : Ls ≤ 3584) (kk : ∀ (f_ro : Nat → Int32) (f_im : Nat → Int32) (f_ke : Nat → Int32) (f_x : Nat → Int32) (e_tl : Int32) (e_fd : Int32) (f_wd : Nat → Int32) (e_wn : Int32) (Lw : List LR) (w mw : va_W) (H : Heap) (locs : List Loc) (ls : Array Slot), LOK Lw → XW G Lw x f_ro f_im f_ke f_x e_tl e_fd f_wd e_wn w → MW G y f_ro f_im f_ke f_x e_tl e_fd f_wd e_wn mw → va_P G.1 vwCl (w ++ (mw ++ pflat G Lw)) H → va_D A (w ++ (mw ++ pflat G Lw)) → va_S A s.heap H locs → lv_has ls 4 [(3, .int i), (2, .ref y), (1, .ref x), (0, .ref b)] → W p l e room_1 s m #[Value.ref b] below meth c H locs (cells + 4) (slots + 429) Q (F0 m 1648 ls [])) : W p l e room_1 s m #[Value.ref b] below meth c H locs cells slots Q (F0 m 1404 ls []) := by
  have hC := C
  obtain ⟨⟨hx, hb, hr, hml, hown, hts0, hX, hbl, hlocks, hgv⟩, hK, hN⟩ := C
  have hown : s.vm.findClass RL = some m.cls := hown
  have hts : ∀ w ∈ tblG, w.before #[Value.ref b] s = true := fun w h => hts0 w (List.mem_filter.mp h).1
  refine lv_aload_n hx hb dL_law_1404 rfl (lv_at hl 2 rfl) ?_
  refine lv_aload_n hx hb dL_law_1405 rfl (lv_at hl 3 rfl) ?_
  refine lv_iload_n hx hb dL_law_1406 rfl (lv_at hl 0 rfl) ?_
  refine lv_iconst (v := 1) hx hb dL_law_1407 (by decide) ?_
  refine lv_iadd hx hb dL_law_1408 ?_
  have t_1 : (i + 1).toInt = i.toInt + 1 := g5_iadd (a := i.toInt) (b := 1) (by rfl) (by decide) (by omega) (by omega)
  refine va_sld hx hb hX hbl hbA hS (vp_in_iff.mpr ⟨by omega, by omega⟩) dL_law_1409 ?_
  obtain ⟨q2, hq2⟩ : ∃ y : Int32, xs (i + 1).toNatClampNeg = y := ⟨_, rfl⟩
  refine g5_ti (v := q2) hq2 ?_
  refine lv_aload_n hx hb dL_law_1410 rfl (lv_at hl 3 rfl) ?_
  refine lv_iload_n hx hb dL_law_1411 rfl (lv_at hl 0 rfl) ?_
  refine lv_iconst (v := 2) hx hb dL_law_1412 (by decide) ?_
  refine lv_iadd hx hb dL_law_1413 ?_
  have t_3 : (i + 2).toInt = i.toInt + 2 := g5_iadd (a := i.toInt) (b := 2) (by rfl) (by decide) (by omega) (by omega)
  refine va_sld hx hb hX hbl hbA hS (vp_in_iff.mpr ⟨by omega, by omega⟩) dL_law_1414 ?_
  obtain ⟨q4, hq4⟩ : ∃ y : Int32, xs (i + 2).toNatClampNeg = y := ⟨_, rfl⟩
  refine g5_ti (v := q4) hq4 ?_
  refine lv_aload_n hx hb dL_law_1415 rfl (lv_at hl 3 rfl) ?_
  refine lv_iload_n hx hb dL_law_1416 rfl (lv_at hl 0 rfl) ?_
  refine lv_iconst (v := 3) hx hb dL_law_1417 (by decide) ?_
  refine lv_iadd hx hb dL_law_1418 ?_
  have t_5 : (i + 3).toInt = i.toInt + 3 := g5_iadd (a := i.toInt) (b := 3) (by rfl) (by decide) (by omega) (by omega)
  refine va_sld hx hb hX hbl hbA hS (vp_in_iff.mpr ⟨by omega, by omega⟩) dL_law_1419 ?_
  obtain ⟨q6, hq6⟩ : ∃ y : Int32, xs (i + 3).toNatClampNeg = y := ⟨_, rfl⟩
  refine g5_ti (v := q6) hq6 ?_
  refine lv_aload_n hx hb dL_law_1420 rfl (lv_at hl 3 rfl) ?_
  refine lv_iload_n hx hb dL_law_1421 rfl (lv_at hl 0 rfl) ?_
  refine lv_iconst (v := 4) hx hb dL_law_1422 (by decide) ?_
  refine lv_iadd hx hb dL_law_1423 ?_
  have t_7 : (i + 4).toInt = i.toInt + 4 := g5_iadd (a := i.toInt) (b := 4) (by rfl) (by decide) (by omega) (by omega)
  refine va_sld hx hb hX hbl hbA hS (vp_in_iff.mpr ⟨by omega, by omega⟩) dL_law_1424 ?_
  obtain ⟨q8, hq8⟩ : ∃ y : Int32, xs (i + 4).toNatClampNeg = y := ⟨_, rfl⟩
  refine g5_ti (v := q8) hq8 ?_
  refine sx_way hC hA hT hS hl.1 ⟨by omega, by omega⟩ hLO hI hP hD (fun r9 w hI {H} {locs} hP hD hS => ?_)
  have hP := hP.perm (List.perm_append_comm_assoc w mw (pflat G Lw))
  have hD := hD.perm (List.perm_append_comm_assoc w mw (pflat G Lw))
  refine lv_pop hx hb dL_law_1428 rfl ?_
  refine lv_aload_n hx hb dL_law_1429 rfl (lv_at hl 1 rfl) ?_
  refine lv_aload_n hx hb dL_law_1430 rfl (lv_at hl 3 rfl) ?_
  refine lv_iload_n hx hb dL_law_1431 rfl (lv_at hl 0 rfl) ?_
  refine lv_iconst (v := 1) hx hb dL_law_1432 (by decide) ?_
  refine lv_iadd hx hb dL_law_1433 ?_
  have t_10 : (i + 1).toInt = i.toInt + 1 := g5_iadd (a := i.toInt) (b := 1) (by rfl) (by decide) (by omega) (by omega)
  refine va_sld hx hb hX hbl hbA hS (vp_in_iff.mpr ⟨by omega, by omega⟩) dL_law_1434 ?_
  refine g5_ti (v := q2) hq2 ?_
  refine lv_aload_n hx hb dL_law_1435 rfl (lv_at hl 3 rfl) ?_
  refine lv_iload_n hx hb dL_law_1436 rfl (lv_at hl 0 rfl) ?_
  refine lv_iconst (v := 2) hx hb dL_law_1437 (by decide) ?_
  refine lv_iadd hx hb dL_law_1438 ?_
  have t_11 : (i + 2).toInt = i.toInt + 2 := g5_iadd (a := i.toInt) (b := 2) (by rfl) (by decide) (by omega) (by omega)
  refine va_sld hx hb hX hbl hbA hS (vp_in_iff.mpr ⟨by omega, by omega⟩) dL_law_1439 ?_
  refine g5_ti (v := q4) hq4 ?_
  refine lv_aload_n hx hb dL_law_1440 rfl (lv_at hl 3 rfl) ?_
  refine lv_iload_n hx hb dL_law_1441 rfl (lv_at hl 0 rfl) ?_
  refine lv_iconst (v := 3) hx hb dL_law_1442 (by decide) ?_
  refine lv_iadd hx hb dL_law_1443 ?_
  have t_12 : (i + 3).toInt = i.toInt + 3 := g5_iadd (a := i.toInt) (b := 3) (by rfl) (by decide) (by omega) (by omega)
  refine va_sld hx hb hX hbl hbA hS (vp_in_iff.mpr ⟨by omega, by omega⟩) dL_law_1444 ?_
  refine g5_ti (v := q6) hq6 ?_
  refine lv_aload_n hx hb dL_law_1445 rfl (lv_at hl 3 rfl) ?_
  refine lv_iload_n hx hb dL_law_1446 rfl (lv_at hl 0 rfl) ?_
  refine lv_iconst (v := 4) hx hb dL_law_1447 (by decide) ?_
  refine lv_iadd hx hb dL_law_1448 ?_
  have t_13 : (i + 4).toInt = i.toInt + 4 := g5_iadd (a := i.toInt) (b := 4) (by rfl) (by decide) (by omega) (by omega)
  refine va_sld hx hb hX hbl hbA hS (vp_in_iff.mpr ⟨by omega, by omega⟩) dL_law_1449 ?_
  refine g5_ti (v := q8) hq8 ?_
  refine sm_way hC hA hT hS hl.1 ⟨by omega, by omega⟩ hM hP hD (fun r14 mw hM {H} {locs} hP hD hS => ?_)
  have hP := hP.perm (List.perm_append_comm_assoc mw w (pflat G Lw))
  have hD := hD.perm (List.perm_append_comm_assoc mw w (pflat G Lw))
  refine lv_pop hx hb dL_law_1453 rfl ?_
  refine lv_goto (tgt := 1648) hx hb dL_law_1454 (by decide) ?_
  refine W.widen (k := cells + 4) (n := slots + 429) (by omega) (by omega) ?_
  exact kk f_ro f_im f_ke f_x e_tl e_fd f_wd e_wn Lw w mw H locs ls hLO hI hM hP hD hS (lv_sub hl [0, 1, 2, 3] rfl)
set_option maxHeartbeats 4000000 in
set_option maxRecDepth 100000 in
theorem lc_sooner {p : Program} {l : Launch} {e : Env} {s : State} {m : MethodId} {below : List Frame} {meth : Method} {c : Code} {b Ls : Nat} {xs : Nat → Int32} {G : g5_G} {A : Nat → Prop} {Q : State → Prop} {H : Heap} {locs : List Loc} {ls : Array Slot} {cells slots : Nat} {w mw : va_W} {Lw : List LR} {x y : Nat} {f_ro : Nat → Int32} {f_im : Nat → Int32} {f_ke : Nat → Int32} {f_x : Nat → Int32} {e_tl : Int32} {e_fd : Int32} {f_wd : Nat → Int32} {e_wn : Int32} {i : Int32} (C : lwC p s m meth c b Ls xs G) (hA : ∀ q : Nat, s.heap.size ≤ q → A q) (hT : g5_S A s s.heap) (hbA : ¬ A b) (hS : va_S A s.heap H locs) (hrm : cells + 8 ≤ 600000 ∧ slots + 858 ≤ 7302250) (hLO : LOK Lw) (hI : XW G Lw x f_ro f_im f_ke f_x e_tl e_fd f_wd e_wn w) (hM : MW G y f_ro f_im f_ke f_x e_tl e_fd f_wd e_wn mw) (hP : va_P G.1 vwCl (w ++ (mw ++ pflat G Lw)) H) (hD : va_D A (w ++ (mw ++ pflat G Lw))) (hl : lv_has ls 4 [(3, .int i), (2, .ref y), (1, .ref x), (0, .ref b)]) (hi : 0 ≤ i.toInt ∧ i.toInt + 7 ≤ (Ls : Int)) (hLs : Ls ≤ 3584) (kk : ∀ (f_ro : Nat → Int32) (f_im : Nat → Int32) (f_ke : Nat → Int32) (f_x : Nat → Int32) (e_tl : Int32) (e_fd : Int32) (f_wd : Nat → Int32) (e_wn : Int32) (Lw : List LR) (w mw : va_W) (H : Heap) (locs : List Loc) (ls : Array Slot), LOK Lw → XW G Lw x f_ro f_im f_ke f_x e_tl e_fd f_wd e_wn w → MW G y f_ro f_im f_ke f_x e_tl e_fd f_wd e_wn mw → va_P G.1 vwCl (w ++ (mw ++ pflat G Lw)) H → va_D A (w ++ (mw ++ pflat G Lw)) → va_S A s.heap H locs → lv_has ls 4 [(3, .int i), (2, .ref y), (1, .ref x), (0, .ref b)] → W p l e room_1 s m #[Value.ref b] below meth c H locs (cells + 4) (slots + 429) Q (F0 m 1648 ls [])) : W p l e room_1 s m #[Value.ref b] below meth c H locs cells slots Q (F0 m 1457 ls []) := by
  have hC := C
  obtain ⟨⟨hx, hb, hr, hml, hown, hts0, hX, hbl, hlocks, hgv⟩, hK, hN⟩ := C
  have hown : s.vm.findClass RL = some m.cls := hown
  have hts : ∀ w ∈ tblG, w.before #[Value.ref b] s = true := fun w h => hts0 w (List.mem_filter.mp h).1
  refine lv_aload_n hx hb dL_law_1457 rfl (lv_at hl 2 rfl) ?_
  refine lv_aload_n hx hb dL_law_1458 rfl (lv_at hl 3 rfl) ?_
  refine lv_iload_n hx hb dL_law_1459 rfl (lv_at hl 0 rfl) ?_
  refine lv_iconst (v := 1) hx hb dL_law_1460 (by decide) ?_
  refine lv_iadd hx hb dL_law_1461 ?_
  have t_1 : (i + 1).toInt = i.toInt + 1 := g5_iadd (a := i.toInt) (b := 1) (by rfl) (by decide) (by omega) (by omega)
  refine va_sld hx hb hX hbl hbA hS (vp_in_iff.mpr ⟨by omega, by omega⟩) dL_law_1462 ?_
  obtain ⟨q2, hq2⟩ : ∃ y : Int32, xs (i + 1).toNatClampNeg = y := ⟨_, rfl⟩
  refine g5_ti (v := q2) hq2 ?_
  refine lv_aload_n hx hb dL_law_1463 rfl (lv_at hl 3 rfl) ?_
  refine lv_iload_n hx hb dL_law_1464 rfl (lv_at hl 0 rfl) ?_
  refine lv_iconst (v := 2) hx hb dL_law_1465 (by decide) ?_
  refine lv_iadd hx hb dL_law_1466 ?_
  have t_3 : (i + 2).toInt = i.toInt + 2 := g5_iadd (a := i.toInt) (b := 2) (by rfl) (by decide) (by omega) (by omega)
  refine va_sld hx hb hX hbl hbA hS (vp_in_iff.mpr ⟨by omega, by omega⟩) dL_law_1467 ?_
  obtain ⟨q4, hq4⟩ : ∃ y : Int32, xs (i + 2).toNatClampNeg = y := ⟨_, rfl⟩
  refine g5_ti (v := q4) hq4 ?_
  refine lv_aload_n hx hb dL_law_1468 rfl (lv_at hl 3 rfl) ?_
  refine lv_iload_n hx hb dL_law_1469 rfl (lv_at hl 0 rfl) ?_
  refine lv_iconst (v := 3) hx hb dL_law_1470 (by decide) ?_
  refine lv_iadd hx hb dL_law_1471 ?_
  have t_5 : (i + 3).toInt = i.toInt + 3 := g5_iadd (a := i.toInt) (b := 3) (by rfl) (by decide) (by omega) (by omega)
  refine va_sld hx hb hX hbl hbA hS (vp_in_iff.mpr ⟨by omega, by omega⟩) dL_law_1472 ?_
  obtain ⟨q6, hq6⟩ : ∃ y : Int32, xs (i + 3).toNatClampNeg = y := ⟨_, rfl⟩
  refine g5_ti (v := q6) hq6 ?_
  refine lv_aload_n hx hb dL_law_1473 rfl (lv_at hl 3 rfl) ?_
  refine lv_iload_n hx hb dL_law_1474 rfl (lv_at hl 0 rfl) ?_
  refine lv_iconst (v := 4) hx hb dL_law_1475 (by decide) ?_
  refine lv_iadd hx hb dL_law_1476 ?_
  have t_7 : (i + 4).toInt = i.toInt + 4 := g5_iadd (a := i.toInt) (b := 4) (by rfl) (by decide) (by omega) (by omega)
  refine va_sld hx hb hX hbl hbA hS (vp_in_iff.mpr ⟨by omega, by omega⟩) dL_law_1477 ?_
  obtain ⟨q8, hq8⟩ : ∃ y : Int32, xs (i + 4).toNatClampNeg = y := ⟨_, rfl⟩
  refine g5_ti (v := q8) hq8 ?_
  refine sx_sooner hC hA hT hS hl.1 ⟨by omega, by omega⟩ hLO hI hP hD (fun r9 w hI {H} {locs} hP hD hS => ?_)
  have hP := hP.perm (List.perm_append_comm_assoc w mw (pflat G Lw))
  have hD := hD.perm (List.perm_append_comm_assoc w mw (pflat G Lw))
  refine lv_pop hx hb dL_law_1481 rfl ?_
  refine lv_aload_n hx hb dL_law_1482 rfl (lv_at hl 1 rfl) ?_
  refine lv_aload_n hx hb dL_law_1483 rfl (lv_at hl 3 rfl) ?_
  refine lv_iload_n hx hb dL_law_1484 rfl (lv_at hl 0 rfl) ?_
  refine lv_iconst (v := 1) hx hb dL_law_1485 (by decide) ?_
  refine lv_iadd hx hb dL_law_1486 ?_
  have t_10 : (i + 1).toInt = i.toInt + 1 := g5_iadd (a := i.toInt) (b := 1) (by rfl) (by decide) (by omega) (by omega)
  refine va_sld hx hb hX hbl hbA hS (vp_in_iff.mpr ⟨by omega, by omega⟩) dL_law_1487 ?_
  refine g5_ti (v := q2) hq2 ?_
  refine lv_aload_n hx hb dL_law_1488 rfl (lv_at hl 3 rfl) ?_
  refine lv_iload_n hx hb dL_law_1489 rfl (lv_at hl 0 rfl) ?_
  refine lv_iconst (v := 2) hx hb dL_law_1490 (by decide) ?_
  refine lv_iadd hx hb dL_law_1491 ?_
  have t_11 : (i + 2).toInt = i.toInt + 2 := g5_iadd (a := i.toInt) (b := 2) (by rfl) (by decide) (by omega) (by omega)
  refine va_sld hx hb hX hbl hbA hS (vp_in_iff.mpr ⟨by omega, by omega⟩) dL_law_1492 ?_
  refine g5_ti (v := q4) hq4 ?_
  refine lv_aload_n hx hb dL_law_1493 rfl (lv_at hl 3 rfl) ?_
  refine lv_iload_n hx hb dL_law_1494 rfl (lv_at hl 0 rfl) ?_
  refine lv_iconst (v := 3) hx hb dL_law_1495 (by decide) ?_
  refine lv_iadd hx hb dL_law_1496 ?_
  have t_12 : (i + 3).toInt = i.toInt + 3 := g5_iadd (a := i.toInt) (b := 3) (by rfl) (by decide) (by omega) (by omega)
  refine va_sld hx hb hX hbl hbA hS (vp_in_iff.mpr ⟨by omega, by omega⟩) dL_law_1497 ?_
  refine g5_ti (v := q6) hq6 ?_
  refine lv_aload_n hx hb dL_law_1498 rfl (lv_at hl 3 rfl) ?_
  refine lv_iload_n hx hb dL_law_1499 rfl (lv_at hl 0 rfl) ?_
  refine lv_iconst (v := 4) hx hb dL_law_1500 (by decide) ?_
  refine lv_iadd hx hb dL_law_1501 ?_
  have t_13 : (i + 4).toInt = i.toInt + 4 := g5_iadd (a := i.toInt) (b := 4) (by rfl) (by decide) (by omega) (by omega)
  refine va_sld hx hb hX hbl hbA hS (vp_in_iff.mpr ⟨by omega, by omega⟩) dL_law_1502 ?_
  refine g5_ti (v := q8) hq8 ?_
  refine sm_sooner hC hA hT hS hl.1 ⟨by omega, by omega⟩ hM hP hD (fun r14 mw hM {H} {locs} hP hD hS => ?_)
  have hP := hP.perm (List.perm_append_comm_assoc mw w (pflat G Lw))
  have hD := hD.perm (List.perm_append_comm_assoc mw w (pflat G Lw))
  refine lv_pop hx hb dL_law_1506 rfl ?_
  refine lv_goto (tgt := 1648) hx hb dL_law_1507 (by decide) ?_
  refine W.widen (k := cells + 4) (n := slots + 429) (by omega) (by omega) ?_
  exact kk f_ro f_im f_ke f_x e_tl e_fd f_wd e_wn Lw w mw H locs ls hLO hI hM hP hD hS (lv_sub hl [0, 1, 2, 3] rfl)
set_option maxHeartbeats 4000000 in
set_option maxRecDepth 100000 in
theorem lc_wander {p : Program} {l : Launch} {e : Env} {s : State} {m : MethodId} {below : List Frame} {meth : Method} {c : Code} {b Ls : Nat} {xs : Nat → Int32} {G : g5_G} {A : Nat → Prop} {Q : State → Prop} {H : Heap} {locs : List Loc} {ls : Array Slot} {cells slots : Nat} {w mw : va_W} {Lw : List LR} {x y : Nat} {f_ro : Nat → Int32} {f_im : Nat → Int32} {f_ke : Nat → Int32} {f_x : Nat → Int32} {e_tl : Int32} {e_fd : Int32} {f_wd : Nat → Int32} {e_wn : Int32} {i : Int32} (C : lwC p s m meth c b Ls xs G) (hA : ∀ q : Nat, s.heap.size ≤ q → A q) (hT : g5_S A s s.heap) (hbA : ¬ A b) (hS : va_S A s.heap H locs) (hrm : cells + 8 ≤ 600000 ∧ slots + 858 ≤ 7302250) (hLO : LOK Lw) (hI : XW G Lw x f_ro f_im f_ke f_x e_tl e_fd f_wd e_wn w) (hM : MW G y f_ro f_im f_ke f_x e_tl e_fd f_wd e_wn mw) (hP : va_P G.1 vwCl (w ++ (mw ++ pflat G Lw)) H) (hD : va_D A (w ++ (mw ++ pflat G Lw))) (hl : lv_has ls 4 [(3, .int i), (2, .ref y), (1, .ref x), (0, .ref b)]) (hi : 0 ≤ i.toInt ∧ i.toInt + 7 ≤ (Ls : Int)) (hLs : Ls ≤ 3584) (kk : ∀ (f_ro : Nat → Int32) (f_im : Nat → Int32) (f_ke : Nat → Int32) (f_x : Nat → Int32) (e_tl : Int32) (e_fd : Int32) (f_wd : Nat → Int32) (e_wn : Int32) (Lw : List LR) (w mw : va_W) (H : Heap) (locs : List Loc) (ls : Array Slot), LOK Lw → XW G Lw x f_ro f_im f_ke f_x e_tl e_fd f_wd e_wn w → MW G y f_ro f_im f_ke f_x e_tl e_fd f_wd e_wn mw → va_P G.1 vwCl (w ++ (mw ++ pflat G Lw)) H → va_D A (w ++ (mw ++ pflat G Lw)) → va_S A s.heap H locs → lv_has ls 4 [(3, .int i), (2, .ref y), (1, .ref x), (0, .ref b)] → W p l e room_1 s m #[Value.ref b] below meth c H locs (cells + 4) (slots + 429) Q (F0 m 1648 ls [])) : W p l e room_1 s m #[Value.ref b] below meth c H locs cells slots Q (F0 m 1510 ls []) := by
  have hC := C
  obtain ⟨⟨hx, hb, hr, hml, hown, hts0, hX, hbl, hlocks, hgv⟩, hK, hN⟩ := C
  have hown : s.vm.findClass RL = some m.cls := hown
  have hts : ∀ w ∈ tblG, w.before #[Value.ref b] s = true := fun w h => hts0 w (List.mem_filter.mp h).1
  refine lv_aload_n hx hb dL_law_1510 rfl (lv_at hl 2 rfl) ?_
  refine lv_aload_n hx hb dL_law_1511 rfl (lv_at hl 3 rfl) ?_
  refine lv_iload_n hx hb dL_law_1512 rfl (lv_at hl 0 rfl) ?_
  refine lv_iconst (v := 1) hx hb dL_law_1513 (by decide) ?_
  refine lv_iadd hx hb dL_law_1514 ?_
  have t_1 : (i + 1).toInt = i.toInt + 1 := g5_iadd (a := i.toInt) (b := 1) (by rfl) (by decide) (by omega) (by omega)
  refine va_sld hx hb hX hbl hbA hS (vp_in_iff.mpr ⟨by omega, by omega⟩) dL_law_1515 ?_
  obtain ⟨q2, hq2⟩ : ∃ y : Int32, xs (i + 1).toNatClampNeg = y := ⟨_, rfl⟩
  refine g5_ti (v := q2) hq2 ?_
  refine lv_aload_n hx hb dL_law_1516 rfl (lv_at hl 3 rfl) ?_
  refine lv_iload_n hx hb dL_law_1517 rfl (lv_at hl 0 rfl) ?_
  refine lv_iconst (v := 2) hx hb dL_law_1518 (by decide) ?_
  refine lv_iadd hx hb dL_law_1519 ?_
  have t_3 : (i + 2).toInt = i.toInt + 2 := g5_iadd (a := i.toInt) (b := 2) (by rfl) (by decide) (by omega) (by omega)
  refine va_sld hx hb hX hbl hbA hS (vp_in_iff.mpr ⟨by omega, by omega⟩) dL_law_1520 ?_
  obtain ⟨q4, hq4⟩ : ∃ y : Int32, xs (i + 2).toNatClampNeg = y := ⟨_, rfl⟩
  refine g5_ti (v := q4) hq4 ?_
  refine sx_wander hC hA hT hS hl.1 ⟨by omega, by omega⟩ hLO hI hP hD (fun r5 w hI {H} {locs} hP hD hS => ?_)
  have hP := hP.perm (List.perm_append_comm_assoc w mw (pflat G Lw))
  have hD := hD.perm (List.perm_append_comm_assoc w mw (pflat G Lw))
  refine lv_pop hx hb dL_law_1524 rfl ?_
  refine lv_aload_n hx hb dL_law_1525 rfl (lv_at hl 1 rfl) ?_
  refine lv_aload_n hx hb dL_law_1526 rfl (lv_at hl 3 rfl) ?_
  refine lv_iload_n hx hb dL_law_1527 rfl (lv_at hl 0 rfl) ?_
  refine lv_iconst (v := 1) hx hb dL_law_1528 (by decide) ?_
  refine lv_iadd hx hb dL_law_1529 ?_
  have t_6 : (i + 1).toInt = i.toInt + 1 := g5_iadd (a := i.toInt) (b := 1) (by rfl) (by decide) (by omega) (by omega)
  refine va_sld hx hb hX hbl hbA hS (vp_in_iff.mpr ⟨by omega, by omega⟩) dL_law_1530 ?_
  refine g5_ti (v := q2) hq2 ?_
  refine lv_aload_n hx hb dL_law_1531 rfl (lv_at hl 3 rfl) ?_
  refine lv_iload_n hx hb dL_law_1532 rfl (lv_at hl 0 rfl) ?_
  refine lv_iconst (v := 2) hx hb dL_law_1533 (by decide) ?_
  refine lv_iadd hx hb dL_law_1534 ?_
  have t_7 : (i + 2).toInt = i.toInt + 2 := g5_iadd (a := i.toInt) (b := 2) (by rfl) (by decide) (by omega) (by omega)
  refine va_sld hx hb hX hbl hbA hS (vp_in_iff.mpr ⟨by omega, by omega⟩) dL_law_1535 ?_
  refine g5_ti (v := q4) hq4 ?_
  refine sm_wander hC hA hT hS hl.1 ⟨by omega, by omega⟩ hM hP hD (fun r8 mw hM {H} {locs} hP hD hS => ?_)
  have hP := hP.perm (List.perm_append_comm_assoc mw w (pflat G Lw))
  have hD := hD.perm (List.perm_append_comm_assoc mw w (pflat G Lw))
  refine lv_pop hx hb dL_law_1539 rfl ?_
  refine lv_goto (tgt := 1648) hx hb dL_law_1540 (by decide) ?_
  refine W.widen (k := cells + 4) (n := slots + 429) (by omega) (by omega) ?_
  exact kk f_ro f_im f_ke f_x e_tl e_fd (swand f_ro f_wd q2 q4) (swanf f_ro e_wn q2 q4) Lw w mw H locs ls hLO hI hM hP hD hS (lv_sub hl [0, 1, 2, 3] rfl)
set_option maxHeartbeats 4000000 in
set_option maxRecDepth 100000 in
theorem lc_drawn {p : Program} {l : Launch} {e : Env} {s : State} {m : MethodId} {below : List Frame} {meth : Method} {c : Code} {b Ls : Nat} {xs : Nat → Int32} {G : g5_G} {A : Nat → Prop} {Q : State → Prop} {H : Heap} {locs : List Loc} {ls : Array Slot} {cells slots : Nat} {w mw : va_W} {Lw : List LR} {x y : Nat} {f_ro : Nat → Int32} {f_im : Nat → Int32} {f_ke : Nat → Int32} {f_x : Nat → Int32} {e_tl : Int32} {e_fd : Int32} {f_wd : Nat → Int32} {e_wn : Int32} {i : Int32} (C : lwC p s m meth c b Ls xs G) (hA : ∀ q : Nat, s.heap.size ≤ q → A q) (hT : g5_S A s s.heap) (hbA : ¬ A b) (hS : va_S A s.heap H locs) (hrm : cells + 8 ≤ 600000 ∧ slots + 858 ≤ 7302250) (hLO : LOK Lw) (hI : XW G Lw x f_ro f_im f_ke f_x e_tl e_fd f_wd e_wn w) (hM : MW G y f_ro f_im f_ke f_x e_tl e_fd f_wd e_wn mw) (hP : va_P G.1 vwCl (w ++ (mw ++ pflat G Lw)) H) (hD : va_D A (w ++ (mw ++ pflat G Lw))) (hl : lv_has ls 4 [(3, .int i), (2, .ref y), (1, .ref x), (0, .ref b)]) (hi : 0 ≤ i.toInt ∧ i.toInt + 7 ≤ (Ls : Int)) (hLs : Ls ≤ 3584) (kk : ∀ (f_ro : Nat → Int32) (f_im : Nat → Int32) (f_ke : Nat → Int32) (f_x : Nat → Int32) (e_tl : Int32) (e_fd : Int32) (f_wd : Nat → Int32) (e_wn : Int32) (Lw : List LR) (w mw : va_W) (H : Heap) (locs : List Loc) (ls : Array Slot), LOK Lw → XW G Lw x f_ro f_im f_ke f_x e_tl e_fd f_wd e_wn w → MW G y f_ro f_im f_ke f_x e_tl e_fd f_wd e_wn mw → va_P G.1 vwCl (w ++ (mw ++ pflat G Lw)) H → va_D A (w ++ (mw ++ pflat G Lw)) → va_S A s.heap H locs → lv_has ls 4 [(3, .int i), (2, .ref y), (1, .ref x), (0, .ref b)] → W p l e room_1 s m #[Value.ref b] below meth c H locs (cells + 4) (slots + 429) Q (F0 m 1648 ls [])) : W p l e room_1 s m #[Value.ref b] below meth c H locs cells slots Q (F0 m 1543 ls []) := by
  have hC := C
  obtain ⟨⟨hx, hb, hr, hml, hown, hts0, hX, hbl, hlocks, hgv⟩, hK, hN⟩ := C
  have hown : s.vm.findClass RL = some m.cls := hown
  have hts : ∀ w ∈ tblG, w.before #[Value.ref b] s = true := fun w h => hts0 w (List.mem_filter.mp h).1
  refine lv_aload_n hx hb dL_law_1543 rfl (lv_at hl 2 rfl) ?_
  refine lv_aload_n hx hb dL_law_1544 rfl (lv_at hl 3 rfl) ?_
  refine lv_iload_n hx hb dL_law_1545 rfl (lv_at hl 0 rfl) ?_
  refine lv_iconst (v := 1) hx hb dL_law_1546 (by decide) ?_
  refine lv_iadd hx hb dL_law_1547 ?_
  have t_1 : (i + 1).toInt = i.toInt + 1 := g5_iadd (a := i.toInt) (b := 1) (by rfl) (by decide) (by omega) (by omega)
  refine va_sld hx hb hX hbl hbA hS (vp_in_iff.mpr ⟨by omega, by omega⟩) dL_law_1548 ?_
  obtain ⟨q2, hq2⟩ : ∃ y : Int32, xs (i + 1).toNatClampNeg = y := ⟨_, rfl⟩
  refine g5_ti (v := q2) hq2 ?_
  refine sx_drawn hC hA hT hS hl.1 ⟨by omega, by omega⟩ hLO hI hP hD (fun r3 w hI {H} {locs} hP hD hS => ?_)
  have hP := hP.perm (List.perm_append_comm_assoc w mw (pflat G Lw))
  have hD := hD.perm (List.perm_append_comm_assoc w mw (pflat G Lw))
  refine lv_pop hx hb dL_law_1552 rfl ?_
  refine lv_aload_n hx hb dL_law_1553 rfl (lv_at hl 1 rfl) ?_
  refine lv_aload_n hx hb dL_law_1554 rfl (lv_at hl 3 rfl) ?_
  refine lv_iload_n hx hb dL_law_1555 rfl (lv_at hl 0 rfl) ?_
  refine lv_iconst (v := 1) hx hb dL_law_1556 (by decide) ?_
  refine lv_iadd hx hb dL_law_1557 ?_
  have t_4 : (i + 1).toInt = i.toInt + 1 := g5_iadd (a := i.toInt) (b := 1) (by rfl) (by decide) (by omega) (by omega)
  refine va_sld hx hb hX hbl hbA hS (vp_in_iff.mpr ⟨by omega, by omega⟩) dL_law_1558 ?_
  refine g5_ti (v := q2) hq2 ?_
  refine sm_drawn hC hA hT hS hl.1 ⟨by omega, by omega⟩ hM hP hD (fun r5 mw hM {H} {locs} hP hD hS => ?_)
  have hP := hP.perm (List.perm_append_comm_assoc mw w (pflat G Lw))
  have hD := hD.perm (List.perm_append_comm_assoc mw w (pflat G Lw))
  refine lv_pop hx hb dL_law_1562 rfl ?_
  refine lv_goto (tgt := 1648) hx hb dL_law_1563 (by decide) ?_
  refine W.widen (k := cells + 4) (n := slots + 429) (by omega) (by omega) ?_
  exact kk f_ro f_im f_ke f_x e_tl e_fd f_wd e_wn Lw w mw H locs ls hLO hI hM hP hD hS (lv_sub hl [0, 1, 2, 3] rfl)
set_option maxHeartbeats 4000000 in
set_option maxRecDepth 100000 in
theorem lc_image {p : Program} {l : Launch} {e : Env} {s : State} {m : MethodId} {below : List Frame} {meth : Method} {c : Code} {b Ls : Nat} {xs : Nat → Int32} {G : g5_G} {A : Nat → Prop} {Q : State → Prop} {H : Heap} {locs : List Loc} {ls : Array Slot} {cells slots : Nat} {w mw : va_W} {Lw : List LR} {x y : Nat} {f_ro : Nat → Int32} {f_im : Nat → Int32} {f_ke : Nat → Int32} {f_x : Nat → Int32} {e_tl : Int32} {e_fd : Int32} {f_wd : Nat → Int32} {e_wn : Int32} {i : Int32} (C : lwC p s m meth c b Ls xs G) (hA : ∀ q : Nat, s.heap.size ≤ q → A q) (hT : g5_S A s s.heap) (hbA : ¬ A b) (hS : va_S A s.heap H locs) (hrm : cells + 8 ≤ 600000 ∧ slots + 858 ≤ 7302250) (hLO : LOK Lw) (hI : XW G Lw x f_ro f_im f_ke f_x e_tl e_fd f_wd e_wn w) (hM : MW G y f_ro f_im f_ke f_x e_tl e_fd f_wd e_wn mw) (hP : va_P G.1 vwCl (w ++ (mw ++ pflat G Lw)) H) (hD : va_D A (w ++ (mw ++ pflat G Lw))) (hl : lv_has ls 4 [(3, .int i), (2, .ref y), (1, .ref x), (0, .ref b)]) (hi : 0 ≤ i.toInt ∧ i.toInt + 7 ≤ (Ls : Int)) (hLs : Ls ≤ 3584) (kk : ∀ (f_ro : Nat → Int32) (f_im : Nat → Int32) (f_ke : Nat → Int32) (f_x : Nat → Int32) (e_tl : Int32) (e_fd : Int32) (f_wd : Nat → Int32) (e_wn : Int32) (Lw : List LR) (w mw : va_W) (H : Heap) (locs : List Loc) (ls : Array Slot), LOK Lw → XW G Lw x f_ro f_im f_ke f_x e_tl e_fd f_wd e_wn w → MW G y f_ro f_im f_ke f_x e_tl e_fd f_wd e_wn mw → va_P G.1 vwCl (w ++ (mw ++ pflat G Lw)) H → va_D A (w ++ (mw ++ pflat G Lw)) → va_S A s.heap H locs → lv_has ls 4 [(3, .int i), (2, .ref y), (1, .ref x), (0, .ref b)] → W p l e room_1 s m #[Value.ref b] below meth c H locs (cells + 4) (slots + 429) Q (F0 m 1648 ls [])) : W p l e room_1 s m #[Value.ref b] below meth c H locs cells slots Q (F0 m 1566 ls []) := by
  have hC := C
  obtain ⟨⟨hx, hb, hr, hml, hown, hts0, hX, hbl, hlocks, hgv⟩, hK, hN⟩ := C
  have hown : s.vm.findClass RL = some m.cls := hown
  have hts : ∀ w ∈ tblG, w.before #[Value.ref b] s = true := fun w h => hts0 w (List.mem_filter.mp h).1
  refine lv_aload_n hx hb dL_law_1566 rfl (lv_at hl 2 rfl) ?_
  refine lv_aload_n hx hb dL_law_1567 rfl (lv_at hl 3 rfl) ?_
  refine lv_iload_n hx hb dL_law_1568 rfl (lv_at hl 0 rfl) ?_
  refine lv_iconst (v := 1) hx hb dL_law_1569 (by decide) ?_
  refine lv_iadd hx hb dL_law_1570 ?_
  have t_1 : (i + 1).toInt = i.toInt + 1 := g5_iadd (a := i.toInt) (b := 1) (by rfl) (by decide) (by omega) (by omega)
  refine va_sld hx hb hX hbl hbA hS (vp_in_iff.mpr ⟨by omega, by omega⟩) dL_law_1571 ?_
  obtain ⟨q2, hq2⟩ : ∃ y : Int32, xs (i + 1).toNatClampNeg = y := ⟨_, rfl⟩
  refine g5_ti (v := q2) hq2 ?_
  refine sx_image hC hA hT hS hl.1 ⟨by omega, by omega⟩ hLO hI hP hD (fun r3 w hI hrel {H} {locs} hP hD hS => ?_)
  have hP := hP.perm (List.perm_append_comm_assoc w mw (pflat G Lw))
  have hD := hD.perm (List.perm_append_comm_assoc w mw (pflat G Lw))
  refine lv_aload_n hx hb dL_law_1575 rfl (lv_at hl 1 rfl) ?_
  refine lv_aload_n hx hb dL_law_1576 rfl (lv_at hl 3 rfl) ?_
  refine lv_iload_n hx hb dL_law_1577 rfl (lv_at hl 0 rfl) ?_
  refine lv_iconst (v := 1) hx hb dL_law_1578 (by decide) ?_
  refine lv_iadd hx hb dL_law_1579 ?_
  have t_4 : (i + 1).toInt = i.toInt + 1 := g5_iadd (a := i.toInt) (b := 1) (by rfl) (by decide) (by omega) (by omega)
  refine va_sld hx hb hX hbl hbA hS (vp_in_iff.mpr ⟨by omega, by omega⟩) dL_law_1580 ?_
  refine g5_ti (v := q2) hq2 ?_
  refine sm_image hC hA hT hS hl.1 ⟨by omega, by omega⟩ hM hP hD (fun r5 mw hM hrel2 {H} {locs} hP hD hS => ?_)
  have hP := hP.perm (List.perm_append_comm_assoc mw w (pflat G Lw))
  have hD := hD.perm (List.perm_append_comm_assoc mw w (pflat G Lw))
  refine lv_icmp_eq (tgt := 1648) hx hb dL_law_1584 (by decide) (fun _ => ?_) (fun cn => absurd (Int32.toInt_inj.mp (show r3.toInt = r5.toInt by rw [hrel, hrel2])) cn)
  refine W.widen (k := cells + 4) (n := slots + 429) (by omega) (by omega) ?_
  exact kk f_ro (simg f_im f_ro q2) (skep f_ke q2) f_x e_tl e_fd f_wd e_wn Lw w mw H locs ls hLO hI hM hP hD hS (lv_sub hl [0, 1, 2, 3] rfl)
set_option maxHeartbeats 4000000 in
set_option maxRecDepth 100000 in
theorem lc_back {p : Program} {l : Launch} {e : Env} {s : State} {m : MethodId} {below : List Frame} {meth : Method} {c : Code} {b Ls : Nat} {xs : Nat → Int32} {G : g5_G} {A : Nat → Prop} {Q : State → Prop} {H : Heap} {locs : List Loc} {ls : Array Slot} {cells slots : Nat} {w mw : va_W} {Lw : List LR} {x y : Nat} {f_ro : Nat → Int32} {f_im : Nat → Int32} {f_ke : Nat → Int32} {f_x : Nat → Int32} {e_tl : Int32} {e_fd : Int32} {f_wd : Nat → Int32} {e_wn : Int32} {i : Int32} (C : lwC p s m meth c b Ls xs G) (hA : ∀ q : Nat, s.heap.size ≤ q → A q) (hT : g5_S A s s.heap) (hbA : ¬ A b) (hS : va_S A s.heap H locs) (hrm : cells + 8 ≤ 600000 ∧ slots + 858 ≤ 7302250) (hLO : LOK Lw) (hI : XW G Lw x f_ro f_im f_ke f_x e_tl e_fd f_wd e_wn w) (hM : MW G y f_ro f_im f_ke f_x e_tl e_fd f_wd e_wn mw) (hP : va_P G.1 vwCl (w ++ (mw ++ pflat G Lw)) H) (hD : va_D A (w ++ (mw ++ pflat G Lw))) (hl : lv_has ls 4 [(3, .int i), (2, .ref y), (1, .ref x), (0, .ref b)]) (hi : 0 ≤ i.toInt ∧ i.toInt + 7 ≤ (Ls : Int)) (hLs : Ls ≤ 3584) (kk : ∀ (f_ro : Nat → Int32) (f_im : Nat → Int32) (f_ke : Nat → Int32) (f_x : Nat → Int32) (e_tl : Int32) (e_fd : Int32) (f_wd : Nat → Int32) (e_wn : Int32) (Lw : List LR) (w mw : va_W) (H : Heap) (locs : List Loc) (ls : Array Slot), LOK Lw → XW G Lw x f_ro f_im f_ke f_x e_tl e_fd f_wd e_wn w → MW G y f_ro f_im f_ke f_x e_tl e_fd f_wd e_wn mw → va_P G.1 vwCl (w ++ (mw ++ pflat G Lw)) H → va_D A (w ++ (mw ++ pflat G Lw)) → va_S A s.heap H locs → lv_has ls 4 [(3, .int i), (2, .ref y), (1, .ref x), (0, .ref b)] → W p l e room_1 s m #[Value.ref b] below meth c H locs (cells + 4) (slots + 429) Q (F0 m 1648 ls [])) : W p l e room_1 s m #[Value.ref b] below meth c H locs cells slots Q (F0 m 1589 ls []) := by
  have hC := C
  obtain ⟨⟨hx, hb, hr, hml, hown, hts0, hX, hbl, hlocks, hgv⟩, hK, hN⟩ := C
  have hown : s.vm.findClass RL = some m.cls := hown
  have hts : ∀ w ∈ tblG, w.before #[Value.ref b] s = true := fun w h => hts0 w (List.mem_filter.mp h).1
  refine lv_aload_n hx hb dL_law_1589 rfl (lv_at hl 2 rfl) ?_
  refine lv_aload_n hx hb dL_law_1590 rfl (lv_at hl 3 rfl) ?_
  refine lv_iload_n hx hb dL_law_1591 rfl (lv_at hl 0 rfl) ?_
  refine lv_iconst (v := 1) hx hb dL_law_1592 (by decide) ?_
  refine lv_iadd hx hb dL_law_1593 ?_
  have t_1 : (i + 1).toInt = i.toInt + 1 := g5_iadd (a := i.toInt) (b := 1) (by rfl) (by decide) (by omega) (by omega)
  refine va_sld hx hb hX hbl hbA hS (vp_in_iff.mpr ⟨by omega, by omega⟩) dL_law_1594 ?_
  obtain ⟨q2, hq2⟩ : ∃ y : Int32, xs (i + 1).toNatClampNeg = y := ⟨_, rfl⟩
  refine g5_ti (v := q2) hq2 ?_
  refine sx_back hC hA hT hS hl.1 ⟨by omega, by omega⟩ hLO hI hP hD (fun r3 w hI {H} {locs} hP hD hS => ?_)
  have hP := hP.perm (List.perm_append_comm_assoc w mw (pflat G Lw))
  have hD := hD.perm (List.perm_append_comm_assoc w mw (pflat G Lw))
  refine lv_pop hx hb dL_law_1598 rfl ?_
  refine lv_aload_n hx hb dL_law_1599 rfl (lv_at hl 1 rfl) ?_
  refine lv_aload_n hx hb dL_law_1600 rfl (lv_at hl 3 rfl) ?_
  refine lv_iload_n hx hb dL_law_1601 rfl (lv_at hl 0 rfl) ?_
  refine lv_iconst (v := 1) hx hb dL_law_1602 (by decide) ?_
  refine lv_iadd hx hb dL_law_1603 ?_
  have t_4 : (i + 1).toInt = i.toInt + 1 := g5_iadd (a := i.toInt) (b := 1) (by rfl) (by decide) (by omega) (by omega)
  refine va_sld hx hb hX hbl hbA hS (vp_in_iff.mpr ⟨by omega, by omega⟩) dL_law_1604 ?_
  refine g5_ti (v := q2) hq2 ?_
  refine sm_back hC hA hT hS hl.1 ⟨by omega, by omega⟩ hM hP hD (fun r5 g_ro hag mw hM {H} {locs} hP hD hS => ?_)
  replace hI := xw_ag hI hag
  have hP := hP.perm (List.perm_append_comm_assoc mw w (pflat G Lw))
  have hD := hD.perm (List.perm_append_comm_assoc mw w (pflat G Lw))
  refine lv_pop hx hb dL_law_1608 rfl ?_
  refine lv_goto (tgt := 1648) hx hb dL_law_1609 (by decide) ?_
  refine W.widen (k := cells + 4) (n := slots + 429) (by omega) (by omega) ?_
  exact kk g_ro f_im f_ke f_x e_tl e_fd f_wd e_wn Lw w mw H locs ls hLO hI hM hP hD hS (lv_sub hl [0, 1, 2, 3] rfl)
set_option maxHeartbeats 4000000 in
set_option maxRecDepth 100000 in
theorem lc_count {p : Program} {l : Launch} {e : Env} {s : State} {m : MethodId} {below : List Frame} {meth : Method} {c : Code} {b Ls : Nat} {xs : Nat → Int32} {G : g5_G} {A : Nat → Prop} {Q : State → Prop} {H : Heap} {locs : List Loc} {ls : Array Slot} {cells slots : Nat} {w mw : va_W} {Lw : List LR} {x y : Nat} {f_ro : Nat → Int32} {f_im : Nat → Int32} {f_ke : Nat → Int32} {f_x : Nat → Int32} {e_tl : Int32} {e_fd : Int32} {f_wd : Nat → Int32} {e_wn : Int32} {i : Int32} (C : lwC p s m meth c b Ls xs G) (hA : ∀ q : Nat, s.heap.size ≤ q → A q) (hT : g5_S A s s.heap) (hbA : ¬ A b) (hS : va_S A s.heap H locs) (hrm : cells + 8 ≤ 600000 ∧ slots + 858 ≤ 7302250) (hLO : LOK Lw) (hI : XW G Lw x f_ro f_im f_ke f_x e_tl e_fd f_wd e_wn w) (hM : MW G y f_ro f_im f_ke f_x e_tl e_fd f_wd e_wn mw) (hP : va_P G.1 vwCl (w ++ (mw ++ pflat G Lw)) H) (hD : va_D A (w ++ (mw ++ pflat G Lw))) (hl : lv_has ls 4 [(3, .int i), (2, .ref y), (1, .ref x), (0, .ref b)]) (hi : 0 ≤ i.toInt ∧ i.toInt + 7 ≤ (Ls : Int)) (hLs : Ls ≤ 3584) (kk : ∀ (f_ro : Nat → Int32) (f_im : Nat → Int32) (f_ke : Nat → Int32) (f_x : Nat → Int32) (e_tl : Int32) (e_fd : Int32) (f_wd : Nat → Int32) (e_wn : Int32) (Lw : List LR) (w mw : va_W) (H : Heap) (locs : List Loc) (ls : Array Slot), LOK Lw → XW G Lw x f_ro f_im f_ke f_x e_tl e_fd f_wd e_wn w → MW G y f_ro f_im f_ke f_x e_tl e_fd f_wd e_wn mw → va_P G.1 vwCl (w ++ (mw ++ pflat G Lw)) H → va_D A (w ++ (mw ++ pflat G Lw)) → va_S A s.heap H locs → lv_has ls 4 [(3, .int i), (2, .ref y), (1, .ref x), (0, .ref b)] → W p l e room_1 s m #[Value.ref b] below meth c H locs (cells + 4) (slots + 429) Q (F0 m 1648 ls [])) : W p l e room_1 s m #[Value.ref b] below meth c H locs cells slots Q (F0 m 1612 ls []) := by
  have hC := C
  obtain ⟨⟨hx, hb, hr, hml, hown, hts0, hX, hbl, hlocks, hgv⟩, hK, hN⟩ := C
  have hown : s.vm.findClass RL = some m.cls := hown
  have hts : ∀ w ∈ tblG, w.before #[Value.ref b] s = true := fun w h => hts0 w (List.mem_filter.mp h).1
  refine lv_aload_n hx hb dL_law_1612 rfl (lv_at hl 2 rfl) ?_
  refine lv_aload_n hx hb dL_law_1613 rfl (lv_at hl 3 rfl) ?_
  refine lv_iload_n hx hb dL_law_1614 rfl (lv_at hl 0 rfl) ?_
  refine lv_iconst (v := 1) hx hb dL_law_1615 (by decide) ?_
  refine lv_iadd hx hb dL_law_1616 ?_
  have t_1 : (i + 1).toInt = i.toInt + 1 := g5_iadd (a := i.toInt) (b := 1) (by rfl) (by decide) (by omega) (by omega)
  refine va_sld hx hb hX hbl hbA hS (vp_in_iff.mpr ⟨by omega, by omega⟩) dL_law_1617 ?_
  obtain ⟨q2, hq2⟩ : ∃ y : Int32, xs (i + 1).toNatClampNeg = y := ⟨_, rfl⟩
  refine g5_ti (v := q2) hq2 ?_
  refine sx_count hC hA hT hS hl.1 ⟨by omega, by omega⟩ hLO hI hP hD (fun r3 w hI {H} {locs} hP hD hS => ?_)
  have hP := hP.perm (List.perm_append_comm_assoc w mw (pflat G Lw))
  have hD := hD.perm (List.perm_append_comm_assoc w mw (pflat G Lw))
  refine lv_pop hx hb dL_law_1621 rfl ?_
  refine lv_aload_n hx hb dL_law_1622 rfl (lv_at hl 1 rfl) ?_
  refine lv_aload_n hx hb dL_law_1623 rfl (lv_at hl 3 rfl) ?_
  refine lv_iload_n hx hb dL_law_1624 rfl (lv_at hl 0 rfl) ?_
  refine lv_iconst (v := 1) hx hb dL_law_1625 (by decide) ?_
  refine lv_iadd hx hb dL_law_1626 ?_
  have t_4 : (i + 1).toInt = i.toInt + 1 := g5_iadd (a := i.toInt) (b := 1) (by rfl) (by decide) (by omega) (by omega)
  refine va_sld hx hb hX hbl hbA hS (vp_in_iff.mpr ⟨by omega, by omega⟩) dL_law_1627 ?_
  refine g5_ti (v := q2) hq2 ?_
  refine sm_count hC hA hT hS hl.1 ⟨by omega, by omega⟩ hM hP hD (fun r5 mw hM {H} {locs} hP hD hS => ?_)
  have hP := hP.perm (List.perm_append_comm_assoc mw w (pflat G Lw))
  have hD := hD.perm (List.perm_append_comm_assoc mw w (pflat G Lw))
  refine lv_pop hx hb dL_law_1631 rfl ?_
  refine lv_goto (tgt := 1648) hx hb dL_law_1632 (by decide) ?_
  refine W.widen (k := cells + 4) (n := slots + 429) (by omega) (by omega) ?_
  exact kk f_ro f_im f_ke f_x e_tl e_fd f_wd e_wn Lw w mw H locs ls hLO hI hM hP hD hS (lv_sub hl [0, 1, 2, 3] rfl)
set_option maxHeartbeats 4000000 in
set_option maxRecDepth 100000 in
theorem lc_status {p : Program} {l : Launch} {e : Env} {s : State} {m : MethodId} {below : List Frame} {meth : Method} {c : Code} {b Ls : Nat} {xs : Nat → Int32} {G : g5_G} {A : Nat → Prop} {Q : State → Prop} {H : Heap} {locs : List Loc} {ls : Array Slot} {cells slots : Nat} {w mw : va_W} {Lw : List LR} {x y : Nat} {f_ro : Nat → Int32} {f_im : Nat → Int32} {f_ke : Nat → Int32} {f_x : Nat → Int32} {e_tl : Int32} {e_fd : Int32} {f_wd : Nat → Int32} {e_wn : Int32} {i : Int32} (C : lwC p s m meth c b Ls xs G) (hA : ∀ q : Nat, s.heap.size ≤ q → A q) (hT : g5_S A s s.heap) (hbA : ¬ A b) (hS : va_S A s.heap H locs) (hrm : cells + 8 ≤ 600000 ∧ slots + 858 ≤ 7302250) (hLO : LOK Lw) (hI : XW G Lw x f_ro f_im f_ke f_x e_tl e_fd f_wd e_wn w) (hM : MW G y f_ro f_im f_ke f_x e_tl e_fd f_wd e_wn mw) (hP : va_P G.1 vwCl (w ++ (mw ++ pflat G Lw)) H) (hD : va_D A (w ++ (mw ++ pflat G Lw))) (hl : lv_has ls 4 [(3, .int i), (2, .ref y), (1, .ref x), (0, .ref b)]) (hi : 0 ≤ i.toInt ∧ i.toInt + 7 ≤ (Ls : Int)) (hLs : Ls ≤ 3584) (kk : ∀ (f_ro : Nat → Int32) (f_im : Nat → Int32) (f_ke : Nat → Int32) (f_x : Nat → Int32) (e_tl : Int32) (e_fd : Int32) (f_wd : Nat → Int32) (e_wn : Int32) (Lw : List LR) (w mw : va_W) (H : Heap) (locs : List Loc) (ls : Array Slot), LOK Lw → XW G Lw x f_ro f_im f_ke f_x e_tl e_fd f_wd e_wn w → MW G y f_ro f_im f_ke f_x e_tl e_fd f_wd e_wn mw → va_P G.1 vwCl (w ++ (mw ++ pflat G Lw)) H → va_D A (w ++ (mw ++ pflat G Lw)) → va_S A s.heap H locs → lv_has ls 4 [(3, .int i), (2, .ref y), (1, .ref x), (0, .ref b)] → W p l e room_1 s m #[Value.ref b] below meth c H locs (cells + 4) (slots + 429) Q (F0 m 1648 ls [])) : W p l e room_1 s m #[Value.ref b] below meth c H locs cells slots Q (F0 m 1635 ls []) := by
  have hC := C
  obtain ⟨⟨hx, hb, hr, hml, hown, hts0, hX, hbl, hlocks, hgv⟩, hK, hN⟩ := C
  have hown : s.vm.findClass RL = some m.cls := hown
  have hts : ∀ w ∈ tblG, w.before #[Value.ref b] s = true := fun w h => hts0 w (List.mem_filter.mp h).1
  refine lv_aload_n hx hb dL_law_1635 rfl (lv_at hl 2 rfl) ?_
  refine sx_status hC hA hT hS hl.1 ⟨by omega, by omega⟩ hLO hI hP hD (fun r1 w hI {H} {locs} hP hD hS => ?_)
  have hP := hP.perm (List.perm_append_comm_assoc w mw (pflat G Lw))
  have hD := hD.perm (List.perm_append_comm_assoc w mw (pflat G Lw))
  refine lv_pop hx hb dL_law_1639 rfl ?_
  refine lv_aload_n hx hb dL_law_1640 rfl (lv_at hl 1 rfl) ?_
  refine sm_status hC hA hT hS hl.1 ⟨by omega, by omega⟩ hM hP hD (fun r2 mw hM {H} {locs} hP hD hS => ?_)
  have hP := hP.perm (List.perm_append_comm_assoc mw w (pflat G Lw))
  have hD := hD.perm (List.perm_append_comm_assoc mw w (pflat G Lw))
  refine lv_pop hx hb dL_law_1644 rfl ?_
  refine lv_goto (tgt := 1648) hx hb dL_law_1645 (by decide) ?_
  refine W.widen (k := cells + 4) (n := slots + 429) (by omega) (by omega) ?_
  exact kk f_ro f_im f_ke f_x e_tl e_fd f_wd e_wn Lw w mw H locs ls hLO hI hM hP hD hS (lv_sub hl [0, 1, 2, 3] rfl)
set_option maxHeartbeats 8000000 in
set_option maxRecDepth 100000 in
theorem law_loop {p : Program} {l : Launch} {e : Env} {s : State} {m : MethodId} {below : List Frame} {meth : Method} {c : Code} {b Ls : Nat} {xs : Nat → Int32} {G : g5_G} {x y : Nat} (hLs : Ls ≤ 3584) (C : lwC p s m meth c b Ls xs G) (hT : g5_S (fun q : Nat => s.heap.size ≤ q) s s.heap) : ∀ (n : Nat) {H : Heap} {locs : List Loc} {ls : Array Slot} {cells slots : Nat} {w mw : va_W} {Lw : List LR} {f_ro : Nat → Int32} {f_im : Nat → Int32} {f_ke : Nat → Int32} {f_x : Nat → Int32} {e_tl : Int32} {e_fd : Int32} {f_wd : Nat → Int32} {e_wn : Int32} {i : Int32}, LOK Lw → XW G Lw x f_ro f_im f_ke f_x e_tl e_fd f_wd e_wn w → MW G y f_ro f_im f_ke f_x e_tl e_fd f_wd e_wn mw → va_P G.1 vwCl (w ++ (mw ++ pflat G Lw)) H → va_D (fun q : Nat => s.heap.size ≤ q) (w ++ (mw ++ pflat G Lw)) → va_S (fun q : Nat => s.heap.size ≤ q) s.heap H locs → lv_has ls 4 [(3, .int i), (2, .ref y), (1, .ref x), (0, .ref b)] → (0 ≤ i.toInt ∧ i.toInt ≤ (Ls : Int)) → (Ls : Int) < i.toInt + 7 * (n : Int) → cells + 4 * n + 8 ≤ 600000 → slots + 429 * n + 858 ≤ 7302250 → W p l e room_1 s m #[Value.ref b] below meth c H locs cells slots (lw_Z below #[Value.ref b] s) (F0 m 18 ls []) := by
  have hbA : ¬ (fun q : Nat => s.heap.size ≤ q) b := Nat.not_le.mpr C.1.2.2.2.2.2.2.2.1
  intro n
  induction n with
  | zero =>
    intro H locs ls cells slots w mw Lw f_ro f_im f_ke f_x e_tl e_fd f_wd e_wn i hLO hI hM hP hD hS hl hi hn
    exact absurd hn (by omega)
  | succ n ih =>
    intro H locs ls cells slots w mw Lw f_ro f_im f_ke f_x e_tl e_fd f_wd e_wn i hLO hI hM hP hD hS hl hi hn hc hs
    have hC := C
    obtain ⟨⟨hx, hb, hr, hml, hown, hts0, hX, hbl, hlocks, hgv⟩, hK, hN⟩ := id C
    have hown : s.vm.findClass RL = some m.cls := hown
    have hts : ∀ w ∈ tblG, w.before #[Value.ref b] s = true := fun w h => hts0 w (List.mem_filter.mp h).1
    have kk : i.toInt + 7 ≤ (Ls : Int) → ∀ (f_ro : Nat → Int32) (f_im : Nat → Int32) (f_ke : Nat → Int32) (f_x : Nat → Int32) (e_tl : Int32) (e_fd : Int32) (f_wd : Nat → Int32) (e_wn : Int32) (Lw : List LR) (w mw : va_W) (H : Heap) (locs : List Loc) (ls : Array Slot), LOK Lw → XW G Lw x f_ro f_im f_ke f_x e_tl e_fd f_wd e_wn w → MW G y f_ro f_im f_ke f_x e_tl e_fd f_wd e_wn mw → va_P G.1 vwCl (w ++ (mw ++ pflat G Lw)) H → va_D (fun q : Nat => s.heap.size ≤ q) (w ++ (mw ++ pflat G Lw)) → va_S (fun q : Nat => s.heap.size ≤ q) s.heap H locs → lv_has ls 4 [(3, .int i), (2, .ref y), (1, .ref x), (0, .ref b)] → W p l e room_1 s m #[Value.ref b] below meth c H locs (cells + 4) (slots + 429) (lw_Z below #[Value.ref b] s) (F0 m 1648 ls []) := by
      intro hi7 f_ro f_im f_ke f_x e_tl e_fd f_wd e_wn Lw w mw H locs ls hLO hI hM hP hD hS hl
      refine lv_iinc (v := (i + 7)) (lv' := [(3, .int (i + 7)), (2, .ref y), (1, .ref x), (0, .ref b)]) hx hb dL_law_1648 hl (k := 0) rfl rfl (by decide) rfl (fun ls hl => ?_)
      have t_1 : (i + 7).toInt = i.toInt + 7 := g5_iadd (a := i.toInt) (b := 7) rfl (by decide) (by omega) (by omega)
      refine lv_goto (tgt := 18) hx hb dL_law_1651 (by decide) ?_
      exact ih hLO hI hM hP hD hS (lv_sub hl [0, 1, 2, 3] rfl) ⟨by omega, by omega⟩ (by omega) (by omega) (by omega)
    refine lv_iload_n hx hb dL_law_18 rfl (lv_at hl 0 rfl) ?_
    refine lv_aload_n hx hb dL_law_19 rfl (lv_at hl 3 rfl) ?_
    refine va_slen hx hb hX hbl hbA hS dL_law_20 ?_
    obtain ⟨yl, hyl, hyi⟩ : ∃ z : Int32, Int32.ofNat Ls = z ∧ z.toInt = (Ls : Int) := ⟨_, rfl, g5_len hLs⟩
    refine g5_ti (v := yl) hyl ?_
    refine lv_bipush (v := 7) hx hb dL_law_21 (by decide) ?_
    refine lv_isub hx hb dL_law_23 ?_
    have t_2 : (yl - 7).toInt = yl.toInt - 7 := g5_isub (a := yl.toInt) (b := 7) (by rfl) (by decide) (by omega) (by omega)
    refine lv_icmp_gt (tgt := 1654) hx hb dL_law_24 (by decide) (fun c_3 => ?_) (fun c_3 => ?_)
    ·
      have i_3 : i.toInt > (yl.toInt - 7) := by have z := g5_gt (a := i.toInt) (b := (yl - 7).toInt) (by rfl) (by rfl) c_3; omega
      refine lv_iconst (v := 1) hx hb dL_law_1654 (by decide) ?_
      refine va_forget (fun q h => hS.2.2 q h) ?_
      refine W.widen (k := 600000) (n := 7302250) (by omega) (by omega) ?_
      exact lw_ret hx hb hr hlocks dL_law_1655
    ·
      have i_3 : i.toInt ≤ (yl.toInt - 7) := by have z := g5_gtN (a := i.toInt) (b := (yl - 7).toInt) (by rfl) (by rfl) c_3; omega
      refine lv_aload_n hx hb dL_law_27 rfl (lv_at hl 3 rfl) ?_
      refine lv_iload_n hx hb dL_law_28 rfl (lv_at hl 0 rfl) ?_
      refine va_sld hx hb hX hbl hbA hS (vp_in_iff.mpr ⟨by omega, by omega⟩) dL_law_29 ?_
      obtain ⟨q4, hq4⟩ : ∃ y : Int32, xs i.toNatClampNeg = y := ⟨_, rfl⟩
      refine g5_ti (v := q4) hq4 ?_
      refine lv_bipush (v := 63) hx hb dL_law_30 (by decide) ?_
      have ha6 := g5_a63 q4
      refine lv_iand hx hb dL_law_32 ?_
      rcases (show (q4 &&& 63).toInt = 0 ∨ (q4 &&& 63).toInt = 1 ∨ (q4 &&& 63).toInt = 2 ∨ (q4 &&& 63).toInt = 3 ∨ (q4 &&& 63).toInt = 4 ∨ (q4 &&& 63).toInt = 5 ∨ (q4 &&& 63).toInt = 6 ∨ (q4 &&& 63).toInt = 7 ∨ (q4 &&& 63).toInt = 8 ∨ (q4 &&& 63).toInt = 9 ∨ (q4 &&& 63).toInt = 10 ∨ (q4 &&& 63).toInt = 11 ∨ (q4 &&& 63).toInt = 12 ∨ (q4 &&& 63).toInt = 13 ∨ (q4 &&& 63).toInt = 14 ∨ (q4 &&& 63).toInt = 15 ∨ (q4 &&& 63).toInt = 16 ∨ (q4 &&& 63).toInt = 17 ∨ (q4 &&& 63).toInt = 18 ∨ (q4 &&& 63).toInt = 19 ∨ (q4 &&& 63).toInt = 20 ∨ (q4 &&& 63).toInt = 21 ∨ (q4 &&& 63).toInt = 22 ∨ (q4 &&& 63).toInt = 23 ∨ (q4 &&& 63).toInt = 24 ∨ (q4 &&& 63).toInt = 25 ∨ (q4 &&& 63).toInt = 26 ∨ (q4 &&& 63).toInt = 27 ∨ (q4 &&& 63).toInt = 28 ∨ (q4 &&& 63).toInt = 29 ∨ (q4 &&& 63).toInt = 30 ∨ (q4 &&& 63).toInt = 31 ∨ (q4 &&& 63).toInt = 32 ∨ (q4 &&& 63).toInt = 33 ∨ (q4 &&& 63).toInt = 34 ∨ (q4 &&& 63).toInt = 35 ∨ (q4 &&& 63).toInt = 36 ∨ (q4 &&& 63).toInt = 37 ∨ (q4 &&& 63).toInt = 38 ∨ (q4 &&& 63).toInt = 39 ∨ (q4 &&& 63).toInt = 40 ∨ (q4 &&& 63).toInt = 41 ∨ (q4 &&& 63).toInt = 42 ∨ (q4 &&& 63).toInt = 43 ∨ (q4 &&& 63).toInt > 43 by omega) with s_5 | s_5 | s_5 | s_5 | s_5 | s_5 | s_5 | s_5 | s_5 | s_5 | s_5 | s_5 | s_5 | s_5 | s_5 | s_5 | s_5 | s_5 | s_5 | s_5 | s_5 | s_5 | s_5 | s_5 | s_5 | s_5 | s_5 | s_5 | s_5 | s_5 | s_5 | s_5 | s_5 | s_5 | s_5 | s_5 | s_5 | s_5 | s_5 | s_5 | s_5 | s_5 | s_5 | s_5 | s_5
      ·
        have i_5 : (q4 &&& 63).toInt = 0 := by omega
        refine lv_tableIn (tgt := 224) hx hb dL_law_33 (by omega) (by omega) (by rw [s_5]; rfl) (by decide) ?_
        exact lc_wall hC (fun _ h => h) hT hbA hS ⟨by omega, by omega⟩ hLO hI hM hP hD (lv_sub hl [0, 1, 2, 3] rfl) ⟨by omega, by omega⟩ hLs (kk (by omega))
      ·
        have i_5 : (q4 &&& 63).toInt = 1 := by omega
        refine lv_tableIn (tgt := 257) hx hb dL_law_33 (by omega) (by omega) (by rw [s_5]; rfl) (by decide) ?_
        exact lc_glass hC (fun _ h => h) hT hbA hS ⟨by omega, by omega⟩ hLO hI hM hP hD (lv_sub hl [0, 1, 2, 3] rfl) ⟨by omega, by omega⟩ hLs (kk (by omega))
      ·
        have i_5 : (q4 &&& 63).toInt = 2 := by omega
        refine lv_tableIn (tgt := 310) hx hb dL_law_33 (by omega) (by omega) (by rw [s_5]; rfl) (by decide) ?_
        exact lc_turn hC (fun _ h => h) hT hbA hS ⟨by omega, by omega⟩ hLO hI hM hP hD (lv_sub hl [0, 1, 2, 3] rfl) ⟨by omega, by omega⟩ hLs (kk (by omega))
      ·
        have i_5 : (q4 &&& 63).toInt = 3 := by omega
        refine lv_tableIn (tgt := 353) hx hb dL_law_33 (by omega) (by omega) (by rw [s_5]; rfl) (by decide) ?_
        exact lc_of hC (fun _ h => h) hT hbA hS ⟨by omega, by omega⟩ hLO hI hM hP hD (lv_sub hl [0, 1, 2, 3] rfl) ⟨by omega, by omega⟩ hLs (kk (by omega))
      ·
        have i_5 : (q4 &&& 63).toInt = 4 := by omega
        refine lv_tableIn (tgt := 386) hx hb dL_law_33 (by omega) (by omega) (by rw [s_5]; rfl) (by decide) ?_
        exact lc_body hC (fun _ h => h) hT hbA hS ⟨by omega, by omega⟩ hLO hI hM hP hD (lv_sub hl [0, 1, 2, 3] rfl) ⟨by omega, by omega⟩ hLs (kk (by omega))
      ·
        have i_5 : (q4 &&& 63).toInt = 5 := by omega
        refine lv_tableIn (tgt := 399) hx hb dL_law_33 (by omega) (by omega) (by rw [s_5]; rfl) (by decide) ?_
        exact lc_stay hC (fun _ h => h) hT hbA hS ⟨by omega, by omega⟩ hLO hI hM hP hD (lv_sub hl [0, 1, 2, 3] rfl) ⟨by omega, by omega⟩ hLs (kk (by omega))
      ·
        have i_5 : (q4 &&& 63).toInt = 6 := by omega
        refine lv_tableIn (tgt := 452) hx hb dL_law_33 (by omega) (by omega) (by rw [s_5]; rfl) (by decide) ?_
        exact lc_where hC (fun _ h => h) hT hbA hS ⟨by omega, by omega⟩ hLO hI hM hP hD (lv_sub hl [0, 1, 2, 3] rfl) ⟨by omega, by omega⟩ hLs (kk (by omega))
      ·
        have i_5 : (q4 &&& 63).toInt = 7 := by omega
        refine lv_tableIn (tgt := 485) hx hb dL_law_33 (by omega) (by omega) (by rw [s_5]; rfl) (by decide) ?_
        exact lc_least hC (fun _ h => h) hT hbA hS ⟨by omega, by omega⟩ hLO hI hM hP hD (lv_sub hl [0, 1, 2, 3] rfl) ⟨by omega, by omega⟩ hLs (kk (by omega))
      ·
        have i_5 : (q4 &&& 63).toInt = 8 := by omega
        refine lv_tableIn (tgt := 508) hx hb dL_law_33 (by omega) (by omega) (by rw [s_5]; rfl) (by decide) ?_
        exact lc_feed hC (fun _ h => h) hT hbA hS ⟨by omega, by omega⟩ hLO hI hM hP hD (lv_sub hl [0, 1, 2, 3] rfl) ⟨by omega, by omega⟩ hLs (kk (by omega))
      ·
        have i_5 : (q4 &&& 63).toInt = 9 := by omega
        refine lv_tableIn (tgt := 571) hx hb dL_law_33 (by omega) (by omega) (by rw [s_5]; rfl) (by decide) ?_
        exact lc_end hC (fun _ h => h) hT hbA hS ⟨by omega, by omega⟩ hLO hI hM hP hD (lv_sub hl [0, 1, 2, 3] rfl) ⟨by omega, by omega⟩ hLs (kk (by omega))
      ·
        have i_5 : (q4 &&& 63).toInt = 10 := by omega
        refine lv_tableIn (tgt := 594) hx hb dL_law_33 (by omega) (by omega) (by rw [s_5]; rfl) (by decide) ?_
        exact lc_row hC (fun _ h => h) hT hbA hS ⟨by omega, by omega⟩ hLO hI hM hP hD (lv_sub hl [0, 1, 2, 3] rfl) ⟨by omega, by omega⟩ hLs (kk (by omega))
      ·
        have i_5 : (q4 &&& 63).toInt = 11 := by omega
        refine lv_tableIn (tgt := 607) hx hb dL_law_33 (by omega) (by omega) (by rw [s_5]; rfl) (by decide) ?_
        exact lc_faded hC (fun _ h => h) hT hbA hS ⟨by omega, by omega⟩ hLO hI hM hP hD (lv_sub hl [0, 1, 2, 3] rfl) ⟨by omega, by omega⟩ hLs (kk (by omega))
      ·
        have i_5 : (q4 &&& 63).toInt = 12 := by omega
        refine lv_tableIn (tgt := 620) hx hb dL_law_33 (by omega) (by omega) (by rw [s_5]; rfl) (by decide) ?_
        exact lc_law hC (fun _ h => h) hT hbA hS ⟨by omega, by omega⟩ hLO hI hM hP hD (lv_sub hl [0, 1, 2, 3] rfl) ⟨by omega, by omega⟩ hLs (kk (by omega))
      ·
        have i_5 : (q4 &&& 63).toInt = 13 := by omega
        refine lv_tableIn (tgt := 633) hx hb dL_law_33 (by omega) (by omega) (by rw [s_5]; rfl) (by decide) ?_
        exact lc_fault hC (fun _ h => h) hT hbA hS ⟨by omega, by omega⟩ hLO hI hM hP hD (lv_sub hl [0, 1, 2, 3] rfl) ⟨by omega, by omega⟩ hLs (kk (by omega))
      ·
        have i_5 : (q4 &&& 63).toInt = 14 := by omega
        refine lv_tableIn (tgt := 646) hx hb dL_law_33 (by omega) (by omega) (by rw [s_5]; rfl) (by decide) ?_
        exact lc_force hC (fun _ h => h) hT hbA hS ⟨by omega, by omega⟩ hLO hI hM hP hD (lv_sub hl [0, 1, 2, 3] rfl) ⟨by omega, by omega⟩ hLs (kk (by omega))
      ·
        have i_5 : (q4 &&& 63).toInt = 15 := by omega
        refine lv_tableIn (tgt := 669) hx hb dL_law_33 (by omega) (by omega) (by rw [s_5]; rfl) (by decide) ?_
        exact lc_look hC (fun _ h => h) hT hbA hS ⟨by omega, by omega⟩ hLO hI hM hP hD (lv_sub hl [0, 1, 2, 3] rfl) ⟨by omega, by omega⟩ hLs (kk (by omega))
      ·
        have i_5 : (q4 &&& 63).toInt = 16 := by omega
        refine lv_tableIn (tgt := 722) hx hb dL_law_33 (by omega) (by omega) (by rw [s_5]; rfl) (by decide) ?_
        exact lc_point hC (fun _ h => h) hT hbA hS ⟨by omega, by omega⟩ hLO hI hM hP hD (lv_sub hl [0, 1, 2, 3] rfl) ⟨by omega, by omega⟩ hLs (kk (by omega))
      ·
        have i_5 : (q4 &&& 63).toInt = 17 := by omega
        refine lv_tableIn (tgt := 775) hx hb dL_law_33 (by omega) (by omega) (by rw [s_5]; rfl) (by decide) ?_
        exact lc_sees hC (fun _ h => h) hT hbA hS ⟨by omega, by omega⟩ hLO hI hM hP hD (lv_sub hl [0, 1, 2, 3] rfl) ⟨by omega, by omega⟩ hLs (kk (by omega))
      ·
        have i_5 : (q4 &&& 63).toInt = 18 := by omega
        refine lv_tableIn (tgt := 808) hx hb dL_law_33 (by omega) (by omega) (by rw [s_5]; rfl) (by decide) ?_
        exact lc_late hC (fun _ h => h) hT hbA hS ⟨by omega, by omega⟩ hLO hI hM hP hD (lv_sub hl [0, 1, 2, 3] rfl) ⟨by omega, by omega⟩ hLs (kk (by omega))
      ·
        have i_5 : (q4 &&& 63).toInt = 19 := by omega
        refine lv_tableIn (tgt := 851) hx hb dL_law_33 (by omega) (by omega) (by rw [s_5]; rfl) (by decide) ?_
        exact lc_first hC (fun _ h => h) hT hbA hS ⟨by omega, by omega⟩ hLO hI hM hP hD (lv_sub hl [0, 1, 2, 3] rfl) ⟨by omega, by omega⟩ hLs (kk (by omega))
      ·
        have i_5 : (q4 &&& 63).toInt = 20 := by omega
        refine lv_tableIn (tgt := 884) hx hb dL_law_33 (by omega) (by omega) (by rw [s_5]; rfl) (by decide) ?_
        exact lc_lit hC (fun _ h => h) hT hbA hS ⟨by omega, by omega⟩ hLO hI hM hP hD (lv_sub hl [0, 1, 2, 3] rfl) ⟨by omega, by omega⟩ hLs (kk (by omega))
      ·
        have i_5 : (q4 &&& 63).toInt = 21 := by omega
        refine lv_tableIn (tgt := 927) hx hb dL_law_33 (by omega) (by omega) (by rw [s_5]; rfl) (by decide) ?_
        exact lc_unseen hC (fun _ h => h) hT hbA hS ⟨by omega, by omega⟩ hLO hI hM hP hD (lv_sub hl [0, 1, 2, 3] rfl) ⟨by omega, by omega⟩ hLs (kk (by omega))
      ·
        have i_5 : (q4 &&& 63).toInt = 22 := by omega
        refine lv_tableIn (tgt := 950) hx hb dL_law_33 (by omega) (by omega) (by rw [s_5]; rfl) (by decide) ?_
        exact lc_sighting hC (fun _ h => h) hT hbA hS ⟨by omega, by omega⟩ hLO hI hM hP hD (lv_sub hl [0, 1, 2, 3] rfl) ⟨by omega, by omega⟩ hLs (kk (by omega))
      ·
        have i_5 : (q4 &&& 63).toInt = 23 := by omega
        refine lv_tableIn (tgt := 1003) hx hb dL_law_33 (by omega) (by omega) (by rw [s_5]; rfl) (by decide) ?_
        exact lc_drop hC (fun _ h => h) hT hbA hS ⟨by omega, by omega⟩ hLO hI hM hP hD (lv_sub hl [0, 1, 2, 3] rfl) ⟨by omega, by omega⟩ hLs (kk (by omega))
      ·
        have i_5 : (q4 &&& 63).toInt = 24 := by omega
        refine lv_tableIn (tgt := 1026) hx hb dL_law_33 (by omega) (by omega) (by rw [s_5]; rfl) (by decide) ?_
        exact lc_start hC (fun _ h => h) hT hbA hS ⟨by omega, by omega⟩ hLO hI hM hP hD (lv_sub hl [0, 1, 2, 3] rfl) ⟨by omega, by omega⟩ hLs (kk (by omega))
      ·
        have i_5 : (q4 &&& 63).toInt = 25 := by omega
        refine lv_tableIn (tgt := 1049) hx hb dL_law_33 (by omega) (by omega) (by rw [s_5]; rfl) (by decide) ?_
        exact lc_fits hC (fun _ h => h) hT hbA hS ⟨by omega, by omega⟩ hLO hI hM hP hD (lv_sub hl [0, 1, 2, 3] rfl) ⟨by omega, by omega⟩ hLs (kk (by omega))
      ·
        have i_5 : (q4 &&& 63).toInt = 26 := by omega
        refine lv_tableIn (tgt := 1062) hx hb dL_law_33 (by omega) (by omega) (by rw [s_5]; rfl) (by decide) ?_
        exact lc_could hC (fun _ h => h) hT hbA hS ⟨by omega, by omega⟩ hLO hI hM hP hD (lv_sub hl [0, 1, 2, 3] rfl) ⟨by omega, by omega⟩ hLs (kk (by omega))
      ·
        have i_5 : (q4 &&& 63).toInt = 27 := by omega
        refine lv_tableIn (tgt := 1095) hx hb dL_law_33 (by omega) (by omega) (by rw [s_5]; rfl) (by decide) ?_
        exact lc_path hC (fun _ h => h) hT hbA hS ⟨by omega, by omega⟩ hLO hI hM hP hD (lv_sub hl [0, 1, 2, 3] rfl) ⟨by omega, by omega⟩ hLs (kk (by omega))
      ·
        have i_5 : (q4 &&& 63).toInt = 28 := by omega
        refine lv_tableIn (tgt := 1118) hx hb dL_law_33 (by omega) (by omega) (by rw [s_5]; rfl) (by decide) ?_
        exact lc_core hC (fun _ h => h) hT hbA hS ⟨by omega, by omega⟩ hLO hI hM hP hD (lv_sub hl [0, 1, 2, 3] rfl) ⟨by omega, by omega⟩ hLs (kk (by omega))
      ·
        have i_5 : (q4 &&& 63).toInt = 29 := by omega
        refine lv_tableIn (tgt := 1131) hx hb dL_law_33 (by omega) (by omega) (by rw [s_5]; rfl) (by decide) ?_
        exact lc_tells hC (fun _ h => h) hT hbA hS ⟨by omega, by omega⟩ hLO hI hM hP hD (lv_sub hl [0, 1, 2, 3] rfl) ⟨by omega, by omega⟩ hLs (kk (by omega))
      ·
        have i_5 : (q4 &&& 63).toInt = 30 := by omega
        refine lv_tableIn (tgt := 1174) hx hb dL_law_33 (by omega) (by omega) (by rw [s_5]; rfl) (by decide) ?_
        exact lc_surely hC (fun _ h => h) hT hbA hS ⟨by omega, by omega⟩ hLO hI hM hP hD (lv_sub hl [0, 1, 2, 3] rfl) ⟨by omega, by omega⟩ hLs (kk (by omega))
      ·
        have i_5 : (q4 &&& 63).toInt = 31 := by omega
        refine lv_tableIn (tgt := 1197) hx hb dL_law_33 (by omega) (by omega) (by rw [s_5]; rfl) (by decide) ?_
        exact lc_spot hC (fun _ h => h) hT hbA hS ⟨by omega, by omega⟩ hLO hI hM hP hD (lv_sub hl [0, 1, 2, 3] rfl) ⟨by omega, by omega⟩ hLs (kk (by omega))
      ·
        have i_5 : (q4 &&& 63).toInt = 32 := by omega
        refine lv_tableIn (tgt := 1240) hx hb dL_law_33 (by omega) (by omega) (by rw [s_5]; rfl) (by decide) ?_
        exact lc_wish hC (fun _ h => h) hT hbA hS ⟨by omega, by omega⟩ hLO hI hM hP hD (lv_sub hl [0, 1, 2, 3] rfl) ⟨by omega, by omega⟩ hLs (kk (by omega))
      ·
        have i_5 : (q4 &&& 63).toInt = 33 := by omega
        refine lv_tableIn (tgt := 1315) hx hb dL_law_33 (by omega) (by omega) (by rw [s_5]; rfl) (by decide) ?_
        exact lc_lacks hC (fun _ h => h) hT hbA hS ⟨by omega, by omega⟩ hLO hI hM hP hD (lv_sub hl [0, 1, 2, 3] rfl) ⟨by omega, by omega⟩ hLs (kk (by omega))
      ·
        have i_5 : (q4 &&& 63).toInt = 34 := by omega
        refine lv_tableIn (tgt := 1338) hx hb dL_law_33 (by omega) (by omega) (by rw [s_5]; rfl) (by decide) ?_
        exact lc_hang hC (fun _ h => h) hT hbA hS ⟨by omega, by omega⟩ hLO hI hM hP hD (lv_sub hl [0, 1, 2, 3] rfl) ⟨by omega, by omega⟩ hLs (kk (by omega))
      ·
        have i_5 : (q4 &&& 63).toInt = 35 := by omega
        refine lv_tableIn (tgt := 1361) hx hb dL_law_33 (by omega) (by omega) (by rw [s_5]; rfl) (by decide) ?_
        exact lc_soonest hC (fun _ h => h) hT hbA hS ⟨by omega, by omega⟩ hLO hI hM hP hD (lv_sub hl [0, 1, 2, 3] rfl) ⟨by omega, by omega⟩ hLs (kk (by omega))
      ·
        have i_5 : (q4 &&& 63).toInt = 36 := by omega
        refine lv_tableIn (tgt := 1404) hx hb dL_law_33 (by omega) (by omega) (by rw [s_5]; rfl) (by decide) ?_
        exact lc_way hC (fun _ h => h) hT hbA hS ⟨by omega, by omega⟩ hLO hI hM hP hD (lv_sub hl [0, 1, 2, 3] rfl) ⟨by omega, by omega⟩ hLs (kk (by omega))
      ·
        have i_5 : (q4 &&& 63).toInt = 37 := by omega
        refine lv_tableIn (tgt := 1457) hx hb dL_law_33 (by omega) (by omega) (by rw [s_5]; rfl) (by decide) ?_
        exact lc_sooner hC (fun _ h => h) hT hbA hS ⟨by omega, by omega⟩ hLO hI hM hP hD (lv_sub hl [0, 1, 2, 3] rfl) ⟨by omega, by omega⟩ hLs (kk (by omega))
      ·
        have i_5 : (q4 &&& 63).toInt = 38 := by omega
        refine lv_tableIn (tgt := 1510) hx hb dL_law_33 (by omega) (by omega) (by rw [s_5]; rfl) (by decide) ?_
        exact lc_wander hC (fun _ h => h) hT hbA hS ⟨by omega, by omega⟩ hLO hI hM hP hD (lv_sub hl [0, 1, 2, 3] rfl) ⟨by omega, by omega⟩ hLs (kk (by omega))
      ·
        have i_5 : (q4 &&& 63).toInt = 39 := by omega
        refine lv_tableIn (tgt := 1543) hx hb dL_law_33 (by omega) (by omega) (by rw [s_5]; rfl) (by decide) ?_
        exact lc_drawn hC (fun _ h => h) hT hbA hS ⟨by omega, by omega⟩ hLO hI hM hP hD (lv_sub hl [0, 1, 2, 3] rfl) ⟨by omega, by omega⟩ hLs (kk (by omega))
      ·
        have i_5 : (q4 &&& 63).toInt = 40 := by omega
        refine lv_tableIn (tgt := 1566) hx hb dL_law_33 (by omega) (by omega) (by rw [s_5]; rfl) (by decide) ?_
        exact lc_image hC (fun _ h => h) hT hbA hS ⟨by omega, by omega⟩ hLO hI hM hP hD (lv_sub hl [0, 1, 2, 3] rfl) ⟨by omega, by omega⟩ hLs (kk (by omega))
      ·
        have i_5 : (q4 &&& 63).toInt = 41 := by omega
        refine lv_tableIn (tgt := 1589) hx hb dL_law_33 (by omega) (by omega) (by rw [s_5]; rfl) (by decide) ?_
        exact lc_back hC (fun _ h => h) hT hbA hS ⟨by omega, by omega⟩ hLO hI hM hP hD (lv_sub hl [0, 1, 2, 3] rfl) ⟨by omega, by omega⟩ hLs (kk (by omega))
      ·
        have i_5 : (q4 &&& 63).toInt = 42 := by omega
        refine lv_tableIn (tgt := 1612) hx hb dL_law_33 (by omega) (by omega) (by rw [s_5]; rfl) (by decide) ?_
        exact lc_count hC (fun _ h => h) hT hbA hS ⟨by omega, by omega⟩ hLO hI hM hP hD (lv_sub hl [0, 1, 2, 3] rfl) ⟨by omega, by omega⟩ hLs (kk (by omega))
      ·
        have i_5 : (q4 &&& 63).toInt = 43 := by omega
        refine lv_tableIn (tgt := 1635) hx hb dL_law_33 (by omega) (by omega) (by rw [s_5]; rfl) (by decide) ?_
        exact lc_status hC (fun _ h => h) hT hbA hS ⟨by omega, by omega⟩ hLO hI hM hP hD (lv_sub hl [0, 1, 2, 3] rfl) ⟨by omega, by omega⟩ hLs (kk (by omega))
      ·
        have i_5 : (q4 &&& 63).toInt > 43 := by omega
        refine lv_tableOut (tgt := 1648) hx hb dL_law_33 (by omega) (by decide) ?_
        refine W.widen (k := cells + 4) (n := slots + 429) (by omega) (by omega) ?_
        exact kk (by omega) f_ro f_im f_ke f_x e_tl e_fd f_wd e_wn Lw w mw H locs ls hLO hI hM hP hD hS (lv_sub hl [0, 1, 2, 3] rfl)
