theorem dX12_isWord_0 : decode cX12_isWord 0 = .ok (.aload_n 0, 1) := by decide +kernel
theorem dX12_isWord_1 : decode cX12_isWord 1 = .ok (.getfield 224, 3) := by decide +kernel
theorem dX12_isWord_4 : decode cX12_isWord 4 = .ok (.iconst 1, 1) := by decide +kernel
theorem dX12_isWord_5 : decode cX12_isWord 5 = .ok (.if_icmp .ne 16, 3) := by decide +kernel
theorem dX12_isWord_8 : decode cX12_isWord 8 = .ok (.aload_n 0, 1) := by decide +kernel
theorem dX12_isWord_9 : decode cX12_isWord 9 = .ok (.getfield 214, 3) := by decide +kernel
theorem dX12_isWord_12 : decode cX12_isWord 12 = .ok (.lload_n 1, 1) := by decide +kernel
theorem dX12_isWord_13 : decode cX12_isWord 13 = .ok (.lcmp, 1) := by decide +kernel
theorem dX12_isWord_14 : decode cX12_isWord 14 = .ok (.ifCond .ne 7, 3) := by decide +kernel
theorem dX12_isWord_17 : decode cX12_isWord 17 = .ok (.iconst 1, 1) := by decide +kernel
theorem dX12_isWord_18 : decode cX12_isWord 18 = .ok (.goto 4, 3) := by decide +kernel
theorem dX12_isWord_21 : decode cX12_isWord 21 = .ok (.iconst 0, 1) := by decide +kernel
theorem dX12_isWord_22 : decode cX12_isWord 22 = .ok (.ireturn, 1) := by decide +kernel
set_option maxHeartbeats 4000000 in
set_option maxRecDepth 100000 in
theorem n_isWord (l : Launch) (G : g5_G) (b_o b_rf b_ro b_im b_ke b_tp b_nl b_op b_ar b_pi b_pa b_ws b_hw b_se b_re b_pt b_ip b_ah b_be b_me b_tr b_ld b_wn : Nat) (sz : Nat) (u_th : Int32) (u_sa : Int32) (u_fd : Int32) (u_td : Int32) (u_fr : Int32) (u_to : Int32) (u_so : Int32) (u_fa : Int32) (u_bd : Int32) (u_nc : Int32) (u_co : Int32) (u_le : Int32) (u_pd : Int32) (u_od : Int32) (u_la : Int32) (u_bk : Int32) (u_ce : Int32) (u_ho : Int32) (u_wy : Int32) (u_bt : Int32) (u_ps : Int32) (u_tg : Int32) (u_sn : Int32) (u_ic : Int32) (u_wd : Int32) (u_id : Int32) (u_wo : Int64) (u_va : Int64) (u_su : Int64) (u_st : Int64) (p_1 : Int64) (h_u_td : 0 ≤ u_td.toInt ∧ u_td.toInt ≤ 400) (h_u_fr : 0 ≤ u_fr.toInt ∧ u_fr.toInt ≤ 400) (h_u_to : 0 ≤ u_to.toInt ∧ u_to.toInt ≤ 400) (h_u_bd : 0 ≤ u_bd.toInt ∧ u_bd.toInt ≤ 1) (h_u_nc : 0 ≤ u_nc.toInt ∧ u_nc.toInt ≤ 12) (h_u_co : 0 ≤ u_co.toInt ∧ u_co.toInt ≤ 400) (h_u_pd : 0 ≤ u_pd.toInt ∧ u_pd.toInt ≤ 400) (h_u_la : 0 ≤ u_la.toInt ∧ u_la.toInt ≤ 4840) (h_u_bk : 0 ≤ u_bk.toInt ∧ u_bk.toInt ≤ 1) (h_u_ce : 0 ≤ u_ce.toInt ∧ u_ce.toInt ≤ 63) (h_u_ho : 0 ≤ u_ho.toInt ∧ u_ho.toInt ≤ 23) (h_u_wy : 0 ≤ u_wy.toInt ∧ u_wy.toInt ≤ 3) (h_u_bt : 0 ≤ u_bt.toInt ∧ u_bt.toInt ≤ 1000000) (h_u_ps : 0 ≤ u_ps.toInt ∧ u_ps.toInt ≤ 200) (h_u_ic : 0 ≤ u_ic.toInt ∧ u_ic.toInt ≤ 1) (h_u_id : 0 ≤ u_id.toInt ∧ u_id.toInt ≤ 1) : Met l yX12_isWord (wsG yX12_isWord cX12_isWord 3 (some .boolean)) ({ frames := 0, cells := 0, slots := 0, locals := 0 }) (va_Pc [.ref b_o, .long p_1] (g5_P G [(b_o, .inr (12, [.int u_th, .int u_sa, .ref b_rf, .ref b_ro, .ref b_im, .ref b_ke, .int u_fd, .ref b_tp, .int u_td, .int u_fr, .int u_to, .int u_so, .long u_wo, .int u_fa, .int u_bd, .int u_nc, .ref b_nl, .int u_co, .ref b_op, .ref b_ar, .int u_le, .ref b_pi, .ref b_pa, .int u_pd, .int u_od, .ref b_ws, .ref b_hw, .int u_la, .ref b_se, .ref b_re, .int u_bk, .long u_va, .long u_su, .int u_ce, .int u_ho, .int u_wy, .int u_bt, .int u_ps, .ref b_pt, .int u_tg, .int u_sn, .ref b_ip, .int u_ic, .ref b_ah, .ref b_be, .ref b_me, .int u_wd, .ref b_tr, .ref b_ld, .long u_st, .ref b_wn, .int u_id]))] sz)) (va_Qi (fun (r : Int32) (u : va_W) => ((u_so.toInt = 1) ∧ (r = 1) ∧ (u = [(b_o, .inr (12, [.int u_th, .int u_sa, .ref b_rf, .ref b_ro, .ref b_im, .ref b_ke, .int u_fd, .ref b_tp, .int u_td, .int u_fr, .int u_to, .int u_so, .long u_wo, .int u_fa, .int u_bd, .int u_nc, .ref b_nl, .int u_co, .ref b_op, .ref b_ar, .int u_le, .ref b_pi, .ref b_pa, .int u_pd, .int u_od, .ref b_ws, .ref b_hw, .int u_la, .ref b_se, .ref b_re, .int u_bk, .long u_va, .long u_su, .int u_ce, .int u_ho, .int u_wy, .int u_bt, .int u_ps, .ref b_pt, .int u_tg, .int u_sn, .ref b_ip, .int u_ic, .ref b_ah, .ref b_be, .ref b_me, .int u_wd, .ref b_tr, .ref b_ld, .long u_st, .ref b_wn, .int u_id]))])) ∨ ((r = 0) ∧ (u = [(b_o, .inr (12, [.int u_th, .int u_sa, .ref b_rf, .ref b_ro, .ref b_im, .ref b_ke, .int u_fd, .ref b_tp, .int u_td, .int u_fr, .int u_to, .int u_so, .long u_wo, .int u_fa, .int u_bd, .int u_nc, .ref b_nl, .int u_co, .ref b_op, .ref b_ar, .int u_le, .ref b_pi, .ref b_pa, .int u_pd, .int u_od, .ref b_ws, .ref b_hw, .int u_la, .ref b_se, .ref b_re, .int u_bk, .long u_va, .long u_su, .int u_ce, .int u_ho, .int u_wy, .int u_bt, .int u_ps, .ref b_pt, .int u_tg, .int u_sn, .ref b_ip, .int u_ic, .ref b_ah, .ref b_be, .ref b_me, .int u_wd, .ref b_tr, .ref b_ld, .long u_st, .ref b_wn, .int u_id]))]))) (g5_B G (va_A [(b_o, .inr (12, [.int u_th, .int u_sa, .ref b_rf, .ref b_ro, .ref b_im, .ref b_ke, .int u_fd, .ref b_tp, .int u_td, .int u_fr, .int u_to, .int u_so, .long u_wo, .int u_fa, .int u_bd, .int u_nc, .ref b_nl, .int u_co, .ref b_op, .ref b_ar, .int u_le, .ref b_pi, .ref b_pa, .int u_pd, .int u_od, .ref b_ws, .ref b_hw, .int u_la, .ref b_se, .ref b_re, .int u_bk, .long u_va, .long u_su, .int u_ce, .int u_ho, .int u_wy, .int u_bt, .int u_ps, .ref b_pt, .int u_tg, .int u_sn, .ref b_ip, .int u_ic, .ref b_ah, .ref b_be, .ref b_me, .int u_wd, .ref b_tr, .ref b_ld, .long u_st, .ref b_wn, .int u_id]))] sz)) (va_A [(b_o, .inr (12, [.int u_th, .int u_sa, .ref b_rf, .ref b_ro, .ref b_im, .ref b_ke, .int u_fd, .ref b_tp, .int u_td, .int u_fr, .int u_to, .int u_so, .long u_wo, .int u_fa, .int u_bd, .int u_nc, .ref b_nl, .int u_co, .ref b_op, .ref b_ar, .int u_le, .ref b_pi, .ref b_pa, .int u_pd, .int u_od, .ref b_ws, .ref b_hw, .int u_la, .ref b_se, .ref b_re, .int u_bk, .long u_va, .long u_su, .int u_ce, .int u_ho, .int u_wy, .int u_bt, .int u_ps, .ref b_pt, .int u_tg, .int u_sn, .ref b_ip, .int u_ic, .ref b_ah, .ref b_be, .ref b_me, .int u_wd, .ref b_tr, .ref b_ld, .long u_st, .ref b_wn, .int u_id]))] sz)) 0 0 (va_A [(b_o, .inr (12, [.int u_th, .int u_sa, .ref b_rf, .ref b_ro, .ref b_im, .ref b_ke, .int u_fd, .ref b_tp, .int u_td, .int u_fr, .int u_to, .int u_so, .long u_wo, .int u_fa, .int u_bd, .int u_nc, .ref b_nl, .int u_co, .ref b_op, .ref b_ar, .int u_le, .ref b_pi, .ref b_pa, .int u_pd, .int u_od, .ref b_ws, .ref b_hw, .int u_la, .ref b_se, .ref b_re, .int u_bk, .long u_va, .long u_su, .int u_ce, .int u_ho, .int u_wy, .int u_bt, .int u_ps, .ref b_pt, .int u_tg, .int u_sn, .ref b_ip, .int u_ic, .ref b_ah, .ref b_be, .ref b_me, .int u_wd, .ref b_tr, .ref b_ld, .long u_st, .ref b_wn, .int u_id]))] sz) := by
  refine Met.ofW (cc := cX12_isWord) (maxL := 3) (ret := (some .boolean)) (by decide) rfl ?_
  intro p e s m args below meth c s₁ B hml hv
  obtain ⟨rfl, hsz, hP, hK, hD0, hN, hT⟩ := hv
  have hx := B.exec
  have hb := B.bytes
  have hr := B.returns
  have hts : ∀ w ∈ tblG, w.before _ s = true := fun w h => atoms_spec (ws := (wsG yX12_isWord cX12_isWord 3 (some .boolean))) B.pre w (List.mem_cons_of_mem _ h)
  have hown : s.vm.findClass RX12 = some m.cls := findClass_of_methodNamed B.named
  have hlocks := B.notSynchronized
  subst hsz
  have hD := hD0.self (sz := s.heap.size)
  generalize hAe : va_A [(b_o, .inr (12, [.int u_th, .int u_sa, .ref b_rf, .ref b_ro, .ref b_im, .ref b_ke, .int u_fd, .ref b_tp, .int u_td, .int u_fr, .int u_to, .int u_so, .long u_wo, .int u_fa, .int u_bd, .int u_nc, .ref b_nl, .int u_co, .ref b_op, .ref b_ar, .int u_le, .ref b_pi, .ref b_pa, .int u_pd, .int u_od, .ref b_ws, .ref b_hw, .int u_la, .ref b_se, .ref b_re, .int u_bk, .long u_va, .long u_su, .int u_ce, .int u_ho, .int u_wy, .int u_bt, .int u_ps, .ref b_pt, .int u_tg, .int u_sn, .ref b_ip, .int u_ic, .ref b_ah, .ref b_be, .ref b_me, .int u_wd, .ref b_tr, .ref b_ld, .long u_st, .ref b_wn, .int u_id]))] s.heap.size = A at hD hT ⊢
  have hA : ∀ q : Nat, s.heap.size ≤ q → A q := fun q h => by rw [← hAe]; exact Or.inr h
  have hS : va_S A s.heap s.heap [] := va_S.rf
  have hP : va_P G.1 vwCl [(b_o, .inr (12, [.int u_th, .int u_sa, .ref b_rf, .ref b_ro, .ref b_im, .ref b_ke, .int u_fd, .ref b_tp, .int u_td, .int u_fr, .int u_to, .int u_so, .long u_wo, .int u_fa, .int u_bd, .int u_nc, .ref b_nl, .int u_co, .ref b_op, .ref b_ar, .int u_le, .ref b_pi, .ref b_pa, .int u_pd, .int u_od, .ref b_ws, .ref b_hw, .int u_la, .ref b_se, .ref b_re, .int u_bk, .long u_va, .long u_su, .int u_ce, .int u_ho, .int u_wy, .int u_bt, .int u_ps, .ref b_pt, .int u_tg, .int u_sn, .ref b_ip, .int u_ic, .ref b_ah, .ref b_be, .ref b_me, .int u_wd, .ref b_tr, .ref b_ld, .long u_st, .ref b_wn, .int u_id]))] s.heap := hP
  have hl := lv_entry ([.ref b_o, .long p_1]) (n := 3) (Nat.le_of_ble_eq_true rfl)
  rw [lg_entry_eq]
  generalize (lg_sl ([.ref b_o, .long p_1]) ++ List.replicate (3 - (lg_sl ([.ref b_o, .long p_1])).length) Slot.unset).toArray = ls at hl ⊢
  have hl : lv_has ls 3 [(0, .ref b_o), (1, .long p_1)] := hl
  refine lv_aload_n hx hb dX12_isWord_0 rfl (lv_at hl 0 rfl) ?_
  refine va_get (D := G.1) (ci := 12) (v := .int u_so) (C := RX12) (T := TX12) (N := 52) hx hb hts inG_X12 hown hK hP 0 rfl rfl 11 (by decide) (hts _ fl_X12_224) (fun _ h9 => h9) rfl dX12_isWord_1 ?_
  refine lv_iconst (v := 1) hx hb dX12_isWord_4 (by decide) ?_
  refine lv_icmp_ne (tgt := 21) hx hb dX12_isWord_5 (by decide) (fun c_1 => ?_) (fun c_1 => ?_)
  ·
    have n_1 : gNe (u_so.toInt) (1) := by have z := g5_ne (a := u_so.toInt) (b := 1) (by rfl) (by decide) c_1; unfold gNe; omega
    refine lv_iconst (v := 0) hx hb dX12_isWord_21 (by decide) ?_
    exact W.zret (v := 0) hx hb hr rfl (fun t ht hW => ⟨⟨0, [(b_o, .inr (12, [.int u_th, .int u_sa, .ref b_rf, .ref b_ro, .ref b_im, .ref b_ke, .int u_fd, .ref b_tp, .int u_td, .int u_fr, .int u_to, .int u_so, .long u_wo, .int u_fa, .int u_bd, .int u_nc, .ref b_nl, .int u_co, .ref b_op, .ref b_ar, .int u_le, .ref b_pi, .ref b_pa, .int u_pd, .int u_od, .ref b_ws, .ref b_hw, .int u_la, .ref b_se, .ref b_re, .int u_bk, .long u_va, .long u_su, .int u_ce, .int u_ho, .int u_wy, .int u_bt, .int u_ps, .ref b_pt, .int u_tg, .int u_sn, .ref b_ip, .int u_ic, .ref b_ah, .ref b_be, .ref b_me, .int u_wd, .ref b_tr, .ref b_ld, .long u_st, .ref b_wn, .int u_id]))], rfl, Or.inr (⟨rfl, rfl⟩), by rw [ht]; exact hP.sub [0] rfl, hD.sub [0] (by decide) rfl⟩, hS.F ht⟩) hS.2.2 dX12_isWord_22
  ·
    have i_1 : u_so.toInt = 1 := by have z := g5_neN (a := u_so.toInt) (b := 1) (by rfl) (by decide) c_1; omega
    refine lv_aload_n hx hb dX12_isWord_8 rfl (lv_at hl 0 rfl) ?_
    refine va_get (D := G.1) (ci := 12) (v := .long u_wo) (C := RX12) (T := TX12) (N := 52) hx hb hts inG_X12 hown hK hP 0 rfl rfl 12 (by decide) (hts _ fl_X12_214) (fun _ h9 => h9) rfl dX12_isWord_9 ?_
    refine lv_lload_n hx hb dX12_isWord_12 rfl (lv_at hl 1 rfl) ?_
    refine W.lcmp hx hb dX12_isWord_13 ?_
    refine lv_if_ne (tgt := 21) hx hb dX12_isWord_14 (by decide) (fun c_2 => ?_) (fun c_2 => ?_)
    ·
      have n_2 : gNe ((lg_cmp u_wo p_1).toInt) (0) := by have z := g5_ne (a := (lg_cmp u_wo p_1).toInt) (b := 0) (by rfl) (by decide) c_2; unfold gNe; omega
      refine lv_iconst (v := 0) hx hb dX12_isWord_21 (by decide) ?_
      exact W.zret (v := 0) hx hb hr rfl (fun t ht hW => ⟨⟨0, [(b_o, .inr (12, [.int u_th, .int u_sa, .ref b_rf, .ref b_ro, .ref b_im, .ref b_ke, .int u_fd, .ref b_tp, .int u_td, .int u_fr, .int u_to, .int u_so, .long u_wo, .int u_fa, .int u_bd, .int u_nc, .ref b_nl, .int u_co, .ref b_op, .ref b_ar, .int u_le, .ref b_pi, .ref b_pa, .int u_pd, .int u_od, .ref b_ws, .ref b_hw, .int u_la, .ref b_se, .ref b_re, .int u_bk, .long u_va, .long u_su, .int u_ce, .int u_ho, .int u_wy, .int u_bt, .int u_ps, .ref b_pt, .int u_tg, .int u_sn, .ref b_ip, .int u_ic, .ref b_ah, .ref b_be, .ref b_me, .int u_wd, .ref b_tr, .ref b_ld, .long u_st, .ref b_wn, .int u_id]))], rfl, Or.inr (⟨rfl, rfl⟩), by rw [ht]; exact hP.sub [0] rfl, hD.sub [0] (by decide) rfl⟩, hS.F ht⟩) hS.2.2 dX12_isWord_22
    ·
      have i_2 : (lg_cmp u_wo p_1).toInt = 0 := by have z := g5_neN (a := (lg_cmp u_wo p_1).toInt) (b := 0) (by rfl) (by decide) c_2; omega
      refine lv_iconst (v := 1) hx hb dX12_isWord_17 (by decide) ?_
      refine lv_goto (tgt := 22) hx hb dX12_isWord_18 (by decide) ?_
      exact W.zret (v := 1) hx hb hr rfl (fun t ht hW => ⟨⟨1, [(b_o, .inr (12, [.int u_th, .int u_sa, .ref b_rf, .ref b_ro, .ref b_im, .ref b_ke, .int u_fd, .ref b_tp, .int u_td, .int u_fr, .int u_to, .int u_so, .long u_wo, .int u_fa, .int u_bd, .int u_nc, .ref b_nl, .int u_co, .ref b_op, .ref b_ar, .int u_le, .ref b_pi, .ref b_pa, .int u_pd, .int u_od, .ref b_ws, .ref b_hw, .int u_la, .ref b_se, .ref b_re, .int u_bk, .long u_va, .long u_su, .int u_ce, .int u_ho, .int u_wy, .int u_bt, .int u_ps, .ref b_pt, .int u_tg, .int u_sn, .ref b_ip, .int u_ic, .ref b_ah, .ref b_be, .ref b_me, .int u_wd, .ref b_tr, .ref b_ld, .long u_st, .ref b_wn, .int u_id]))], rfl, Or.inl (⟨by omega, rfl, rfl⟩), by rw [ht]; exact hP.sub [0] rfl, hD.sub [0] (by decide) rfl⟩, hS.F ht⟩) hS.2.2 dX12_isWord_22
theorem dX12_isSign_0 : decode cX12_isSign 0 = .ok (.aload_n 0, 1) := by decide +kernel
theorem dX12_isSign_1 : decode cX12_isSign 1 = .ok (.getfield 224, 3) := by decide +kernel
theorem dX12_isSign_4 : decode cX12_isSign 4 = .ok (.iconst 3, 1) := by decide +kernel
theorem dX12_isSign_5 : decode cX12_isSign 5 = .ok (.if_icmp .ne 17, 3) := by decide +kernel
theorem dX12_isSign_8 : decode cX12_isSign 8 = .ok (.aload_n 0, 1) := by decide +kernel
theorem dX12_isSign_9 : decode cX12_isSign 9 = .ok (.getfield 214, 3) := by decide +kernel
theorem dX12_isSign_12 : decode cX12_isSign 12 = .ok (.iload_n 1, 1) := by decide +kernel
theorem dX12_isSign_13 : decode cX12_isSign 13 = .ok (.i2l, 1) := by decide +kernel
theorem dX12_isSign_14 : decode cX12_isSign 14 = .ok (.lcmp, 1) := by decide +kernel
theorem dX12_isSign_15 : decode cX12_isSign 15 = .ok (.ifCond .ne 7, 3) := by decide +kernel
theorem dX12_isSign_18 : decode cX12_isSign 18 = .ok (.iconst 1, 1) := by decide +kernel
theorem dX12_isSign_19 : decode cX12_isSign 19 = .ok (.goto 4, 3) := by decide +kernel
theorem dX12_isSign_22 : decode cX12_isSign 22 = .ok (.iconst 0, 1) := by decide +kernel
theorem dX12_isSign_23 : decode cX12_isSign 23 = .ok (.ireturn, 1) := by decide +kernel
set_option maxHeartbeats 4000000 in
set_option maxRecDepth 100000 in
theorem n_isSign (l : Launch) (G : g5_G) (b_o b_rf b_ro b_im b_ke b_tp b_nl b_op b_ar b_pi b_pa b_ws b_hw b_se b_re b_pt b_ip b_ah b_be b_me b_tr b_ld b_wn : Nat) (sz : Nat) (u_th : Int32) (u_sa : Int32) (u_fd : Int32) (u_td : Int32) (u_fr : Int32) (u_to : Int32) (u_so : Int32) (u_fa : Int32) (u_bd : Int32) (u_nc : Int32) (u_co : Int32) (u_le : Int32) (u_pd : Int32) (u_od : Int32) (u_la : Int32) (u_bk : Int32) (u_ce : Int32) (u_ho : Int32) (u_wy : Int32) (u_bt : Int32) (u_ps : Int32) (u_tg : Int32) (u_sn : Int32) (u_ic : Int32) (u_wd : Int32) (u_id : Int32) (p_1 : Int32) (u_wo : Int64) (u_va : Int64) (u_su : Int64) (u_st : Int64) (h_u_td : 0 ≤ u_td.toInt ∧ u_td.toInt ≤ 400) (h_u_fr : 0 ≤ u_fr.toInt ∧ u_fr.toInt ≤ 400) (h_u_to : 0 ≤ u_to.toInt ∧ u_to.toInt ≤ 400) (h_u_bd : 0 ≤ u_bd.toInt ∧ u_bd.toInt ≤ 1) (h_u_nc : 0 ≤ u_nc.toInt ∧ u_nc.toInt ≤ 12) (h_u_co : 0 ≤ u_co.toInt ∧ u_co.toInt ≤ 400) (h_u_pd : 0 ≤ u_pd.toInt ∧ u_pd.toInt ≤ 400) (h_u_la : 0 ≤ u_la.toInt ∧ u_la.toInt ≤ 4840) (h_u_bk : 0 ≤ u_bk.toInt ∧ u_bk.toInt ≤ 1) (h_u_ce : 0 ≤ u_ce.toInt ∧ u_ce.toInt ≤ 63) (h_u_ho : 0 ≤ u_ho.toInt ∧ u_ho.toInt ≤ 23) (h_u_wy : 0 ≤ u_wy.toInt ∧ u_wy.toInt ≤ 3) (h_u_bt : 0 ≤ u_bt.toInt ∧ u_bt.toInt ≤ 1000000) (h_u_ps : 0 ≤ u_ps.toInt ∧ u_ps.toInt ≤ 200) (h_u_ic : 0 ≤ u_ic.toInt ∧ u_ic.toInt ≤ 1) (h_u_id : 0 ≤ u_id.toInt ∧ u_id.toInt ≤ 1) : Met l yX12_isSign (wsG yX12_isSign cX12_isSign 2 (some .boolean)) ({ frames := 0, cells := 0, slots := 0, locals := 0 }) (va_Pc [.ref b_o, .int p_1] (g5_P G [(b_o, .inr (12, [.int u_th, .int u_sa, .ref b_rf, .ref b_ro, .ref b_im, .ref b_ke, .int u_fd, .ref b_tp, .int u_td, .int u_fr, .int u_to, .int u_so, .long u_wo, .int u_fa, .int u_bd, .int u_nc, .ref b_nl, .int u_co, .ref b_op, .ref b_ar, .int u_le, .ref b_pi, .ref b_pa, .int u_pd, .int u_od, .ref b_ws, .ref b_hw, .int u_la, .ref b_se, .ref b_re, .int u_bk, .long u_va, .long u_su, .int u_ce, .int u_ho, .int u_wy, .int u_bt, .int u_ps, .ref b_pt, .int u_tg, .int u_sn, .ref b_ip, .int u_ic, .ref b_ah, .ref b_be, .ref b_me, .int u_wd, .ref b_tr, .ref b_ld, .long u_st, .ref b_wn, .int u_id]))] sz)) (va_Qi (fun (r : Int32) (u : va_W) => ((u_so.toInt = 3) ∧ (r = 1) ∧ (u = [(b_o, .inr (12, [.int u_th, .int u_sa, .ref b_rf, .ref b_ro, .ref b_im, .ref b_ke, .int u_fd, .ref b_tp, .int u_td, .int u_fr, .int u_to, .int u_so, .long u_wo, .int u_fa, .int u_bd, .int u_nc, .ref b_nl, .int u_co, .ref b_op, .ref b_ar, .int u_le, .ref b_pi, .ref b_pa, .int u_pd, .int u_od, .ref b_ws, .ref b_hw, .int u_la, .ref b_se, .ref b_re, .int u_bk, .long u_va, .long u_su, .int u_ce, .int u_ho, .int u_wy, .int u_bt, .int u_ps, .ref b_pt, .int u_tg, .int u_sn, .ref b_ip, .int u_ic, .ref b_ah, .ref b_be, .ref b_me, .int u_wd, .ref b_tr, .ref b_ld, .long u_st, .ref b_wn, .int u_id]))])) ∨ ((r = 0) ∧ (u = [(b_o, .inr (12, [.int u_th, .int u_sa, .ref b_rf, .ref b_ro, .ref b_im, .ref b_ke, .int u_fd, .ref b_tp, .int u_td, .int u_fr, .int u_to, .int u_so, .long u_wo, .int u_fa, .int u_bd, .int u_nc, .ref b_nl, .int u_co, .ref b_op, .ref b_ar, .int u_le, .ref b_pi, .ref b_pa, .int u_pd, .int u_od, .ref b_ws, .ref b_hw, .int u_la, .ref b_se, .ref b_re, .int u_bk, .long u_va, .long u_su, .int u_ce, .int u_ho, .int u_wy, .int u_bt, .int u_ps, .ref b_pt, .int u_tg, .int u_sn, .ref b_ip, .int u_ic, .ref b_ah, .ref b_be, .ref b_me, .int u_wd, .ref b_tr, .ref b_ld, .long u_st, .ref b_wn, .int u_id]))]))) (g5_B G (va_A [(b_o, .inr (12, [.int u_th, .int u_sa, .ref b_rf, .ref b_ro, .ref b_im, .ref b_ke, .int u_fd, .ref b_tp, .int u_td, .int u_fr, .int u_to, .int u_so, .long u_wo, .int u_fa, .int u_bd, .int u_nc, .ref b_nl, .int u_co, .ref b_op, .ref b_ar, .int u_le, .ref b_pi, .ref b_pa, .int u_pd, .int u_od, .ref b_ws, .ref b_hw, .int u_la, .ref b_se, .ref b_re, .int u_bk, .long u_va, .long u_su, .int u_ce, .int u_ho, .int u_wy, .int u_bt, .int u_ps, .ref b_pt, .int u_tg, .int u_sn, .ref b_ip, .int u_ic, .ref b_ah, .ref b_be, .ref b_me, .int u_wd, .ref b_tr, .ref b_ld, .long u_st, .ref b_wn, .int u_id]))] sz)) (va_A [(b_o, .inr (12, [.int u_th, .int u_sa, .ref b_rf, .ref b_ro, .ref b_im, .ref b_ke, .int u_fd, .ref b_tp, .int u_td, .int u_fr, .int u_to, .int u_so, .long u_wo, .int u_fa, .int u_bd, .int u_nc, .ref b_nl, .int u_co, .ref b_op, .ref b_ar, .int u_le, .ref b_pi, .ref b_pa, .int u_pd, .int u_od, .ref b_ws, .ref b_hw, .int u_la, .ref b_se, .ref b_re, .int u_bk, .long u_va, .long u_su, .int u_ce, .int u_ho, .int u_wy, .int u_bt, .int u_ps, .ref b_pt, .int u_tg, .int u_sn, .ref b_ip, .int u_ic, .ref b_ah, .ref b_be, .ref b_me, .int u_wd, .ref b_tr, .ref b_ld, .long u_st, .ref b_wn, .int u_id]))] sz)) 0 0 (va_A [(b_o, .inr (12, [.int u_th, .int u_sa, .ref b_rf, .ref b_ro, .ref b_im, .ref b_ke, .int u_fd, .ref b_tp, .int u_td, .int u_fr, .int u_to, .int u_so, .long u_wo, .int u_fa, .int u_bd, .int u_nc, .ref b_nl, .int u_co, .ref b_op, .ref b_ar, .int u_le, .ref b_pi, .ref b_pa, .int u_pd, .int u_od, .ref b_ws, .ref b_hw, .int u_la, .ref b_se, .ref b_re, .int u_bk, .long u_va, .long u_su, .int u_ce, .int u_ho, .int u_wy, .int u_bt, .int u_ps, .ref b_pt, .int u_tg, .int u_sn, .ref b_ip, .int u_ic, .ref b_ah, .ref b_be, .ref b_me, .int u_wd, .ref b_tr, .ref b_ld, .long u_st, .ref b_wn, .int u_id]))] sz) := by
  refine Met.ofW (cc := cX12_isSign) (maxL := 2) (ret := (some .boolean)) (by decide) rfl ?_
  intro p e s m args below meth c s₁ B hml hv
  obtain ⟨rfl, hsz, hP, hK, hD0, hN, hT⟩ := hv
  have hx := B.exec
  have hb := B.bytes
  have hr := B.returns
  have hts : ∀ w ∈ tblG, w.before _ s = true := fun w h => atoms_spec (ws := (wsG yX12_isSign cX12_isSign 2 (some .boolean))) B.pre w (List.mem_cons_of_mem _ h)
  have hown : s.vm.findClass RX12 = some m.cls := findClass_of_methodNamed B.named
  have hlocks := B.notSynchronized
  subst hsz
  have hD := hD0.self (sz := s.heap.size)
  generalize hAe : va_A [(b_o, .inr (12, [.int u_th, .int u_sa, .ref b_rf, .ref b_ro, .ref b_im, .ref b_ke, .int u_fd, .ref b_tp, .int u_td, .int u_fr, .int u_to, .int u_so, .long u_wo, .int u_fa, .int u_bd, .int u_nc, .ref b_nl, .int u_co, .ref b_op, .ref b_ar, .int u_le, .ref b_pi, .ref b_pa, .int u_pd, .int u_od, .ref b_ws, .ref b_hw, .int u_la, .ref b_se, .ref b_re, .int u_bk, .long u_va, .long u_su, .int u_ce, .int u_ho, .int u_wy, .int u_bt, .int u_ps, .ref b_pt, .int u_tg, .int u_sn, .ref b_ip, .int u_ic, .ref b_ah, .ref b_be, .ref b_me, .int u_wd, .ref b_tr, .ref b_ld, .long u_st, .ref b_wn, .int u_id]))] s.heap.size = A at hD hT ⊢
  have hA : ∀ q : Nat, s.heap.size ≤ q → A q := fun q h => by rw [← hAe]; exact Or.inr h
  have hS : va_S A s.heap s.heap [] := va_S.rf
  have hP : va_P G.1 vwCl [(b_o, .inr (12, [.int u_th, .int u_sa, .ref b_rf, .ref b_ro, .ref b_im, .ref b_ke, .int u_fd, .ref b_tp, .int u_td, .int u_fr, .int u_to, .int u_so, .long u_wo, .int u_fa, .int u_bd, .int u_nc, .ref b_nl, .int u_co, .ref b_op, .ref b_ar, .int u_le, .ref b_pi, .ref b_pa, .int u_pd, .int u_od, .ref b_ws, .ref b_hw, .int u_la, .ref b_se, .ref b_re, .int u_bk, .long u_va, .long u_su, .int u_ce, .int u_ho, .int u_wy, .int u_bt, .int u_ps, .ref b_pt, .int u_tg, .int u_sn, .ref b_ip, .int u_ic, .ref b_ah, .ref b_be, .ref b_me, .int u_wd, .ref b_tr, .ref b_ld, .long u_st, .ref b_wn, .int u_id]))] s.heap := hP
  have hl := lv_entry ([.ref b_o, .int p_1]) (n := 2) (Nat.le_of_ble_eq_true rfl)
  rw [lg_entry_eq]
  generalize (lg_sl ([.ref b_o, .int p_1]) ++ List.replicate (2 - (lg_sl ([.ref b_o, .int p_1])).length) Slot.unset).toArray = ls at hl ⊢
  have hl : lv_has ls 2 [(0, .ref b_o), (1, .int p_1)] := hl
  refine lv_aload_n hx hb dX12_isSign_0 rfl (lv_at hl 0 rfl) ?_
  refine va_get (D := G.1) (ci := 12) (v := .int u_so) (C := RX12) (T := TX12) (N := 52) hx hb hts inG_X12 hown hK hP 0 rfl rfl 11 (by decide) (hts _ fl_X12_224) (fun _ h9 => h9) rfl dX12_isSign_1 ?_
  refine lv_iconst (v := 3) hx hb dX12_isSign_4 (by decide) ?_
  refine lv_icmp_ne (tgt := 22) hx hb dX12_isSign_5 (by decide) (fun c_1 => ?_) (fun c_1 => ?_)
  ·
    have n_1 : gNe (u_so.toInt) (3) := by have z := g5_ne (a := u_so.toInt) (b := 3) (by rfl) (by decide) c_1; unfold gNe; omega
    refine lv_iconst (v := 0) hx hb dX12_isSign_22 (by decide) ?_
    exact W.zret (v := 0) hx hb hr rfl (fun t ht hW => ⟨⟨0, [(b_o, .inr (12, [.int u_th, .int u_sa, .ref b_rf, .ref b_ro, .ref b_im, .ref b_ke, .int u_fd, .ref b_tp, .int u_td, .int u_fr, .int u_to, .int u_so, .long u_wo, .int u_fa, .int u_bd, .int u_nc, .ref b_nl, .int u_co, .ref b_op, .ref b_ar, .int u_le, .ref b_pi, .ref b_pa, .int u_pd, .int u_od, .ref b_ws, .ref b_hw, .int u_la, .ref b_se, .ref b_re, .int u_bk, .long u_va, .long u_su, .int u_ce, .int u_ho, .int u_wy, .int u_bt, .int u_ps, .ref b_pt, .int u_tg, .int u_sn, .ref b_ip, .int u_ic, .ref b_ah, .ref b_be, .ref b_me, .int u_wd, .ref b_tr, .ref b_ld, .long u_st, .ref b_wn, .int u_id]))], rfl, Or.inr (⟨rfl, rfl⟩), by rw [ht]; exact hP.sub [0] rfl, hD.sub [0] (by decide) rfl⟩, hS.F ht⟩) hS.2.2 dX12_isSign_23
  ·
    have i_1 : u_so.toInt = 3 := by have z := g5_neN (a := u_so.toInt) (b := 3) (by rfl) (by decide) c_1; omega
    refine lv_aload_n hx hb dX12_isSign_8 rfl (lv_at hl 0 rfl) ?_
    refine va_get (D := G.1) (ci := 12) (v := .long u_wo) (C := RX12) (T := TX12) (N := 52) hx hb hts inG_X12 hown hK hP 0 rfl rfl 12 (by decide) (hts _ fl_X12_214) (fun _ h9 => h9) rfl dX12_isSign_9 ?_
    refine lv_iload_n hx hb dX12_isSign_12 rfl (lv_at hl 1 rfl) ?_
    refine lv_i2l (v := p_1.toInt64) hx hb dX12_isSign_13 rfl ?_
    refine W.lcmp hx hb dX12_isSign_14 ?_
    refine lv_if_ne (tgt := 22) hx hb dX12_isSign_15 (by decide) (fun c_2 => ?_) (fun c_2 => ?_)
    ·
      have n_2 : gNe ((lg_cmp u_wo p_1.toInt64).toInt) (0) := by have z := g5_ne (a := (lg_cmp u_wo p_1.toInt64).toInt) (b := 0) (by rfl) (by decide) c_2; unfold gNe; omega
      refine lv_iconst (v := 0) hx hb dX12_isSign_22 (by decide) ?_
      exact W.zret (v := 0) hx hb hr rfl (fun t ht hW => ⟨⟨0, [(b_o, .inr (12, [.int u_th, .int u_sa, .ref b_rf, .ref b_ro, .ref b_im, .ref b_ke, .int u_fd, .ref b_tp, .int u_td, .int u_fr, .int u_to, .int u_so, .long u_wo, .int u_fa, .int u_bd, .int u_nc, .ref b_nl, .int u_co, .ref b_op, .ref b_ar, .int u_le, .ref b_pi, .ref b_pa, .int u_pd, .int u_od, .ref b_ws, .ref b_hw, .int u_la, .ref b_se, .ref b_re, .int u_bk, .long u_va, .long u_su, .int u_ce, .int u_ho, .int u_wy, .int u_bt, .int u_ps, .ref b_pt, .int u_tg, .int u_sn, .ref b_ip, .int u_ic, .ref b_ah, .ref b_be, .ref b_me, .int u_wd, .ref b_tr, .ref b_ld, .long u_st, .ref b_wn, .int u_id]))], rfl, Or.inr (⟨rfl, rfl⟩), by rw [ht]; exact hP.sub [0] rfl, hD.sub [0] (by decide) rfl⟩, hS.F ht⟩) hS.2.2 dX12_isSign_23
    ·
      have i_2 : (lg_cmp u_wo p_1.toInt64).toInt = 0 := by have z := g5_neN (a := (lg_cmp u_wo p_1.toInt64).toInt) (b := 0) (by rfl) (by decide) c_2; omega
      refine lv_iconst (v := 1) hx hb dX12_isSign_18 (by decide) ?_
      refine lv_goto (tgt := 23) hx hb dX12_isSign_19 (by decide) ?_
      exact W.zret (v := 1) hx hb hr rfl (fun t ht hW => ⟨⟨1, [(b_o, .inr (12, [.int u_th, .int u_sa, .ref b_rf, .ref b_ro, .ref b_im, .ref b_ke, .int u_fd, .ref b_tp, .int u_td, .int u_fr, .int u_to, .int u_so, .long u_wo, .int u_fa, .int u_bd, .int u_nc, .ref b_nl, .int u_co, .ref b_op, .ref b_ar, .int u_le, .ref b_pi, .ref b_pa, .int u_pd, .int u_od, .ref b_ws, .ref b_hw, .int u_la, .ref b_se, .ref b_re, .int u_bk, .long u_va, .long u_su, .int u_ce, .int u_ho, .int u_wy, .int u_bt, .int u_ps, .ref b_pt, .int u_tg, .int u_sn, .ref b_ip, .int u_ic, .ref b_ah, .ref b_be, .ref b_me, .int u_wd, .ref b_tr, .ref b_ld, .long u_st, .ref b_wn, .int u_id]))], rfl, Or.inl (⟨by omega, rfl, rfl⟩), by rw [ht]; exact hP.sub [0] rfl, hD.sub [0] (by decide) rfl⟩, hS.F ht⟩) hS.2.2 dX12_isSign_23
theorem dX12_must_0 : decode cX12_must 0 = .ok (.aload_n 0, 1) := by decide +kernel
theorem dX12_must_1 : decode cX12_must 1 = .ok (.getfield 205, 3) := by decide +kernel
theorem dX12_must_4 : decode cX12_must 4 = .ok (.ifCond .ne 20, 3) := by decide +kernel
theorem dX12_must_7 : decode cX12_must 7 = .ok (.iload_n 1, 1) := by decide +kernel
theorem dX12_must_8 : decode cX12_must 8 = .ok (.ifCond .ne 16, 3) := by decide +kernel
theorem dX12_must_11 : decode cX12_must 11 = .ok (.aload_n 0, 1) := by decide +kernel
theorem dX12_must_12 : decode cX12_must 12 = .ok (.iconst 1, 1) := by decide +kernel
theorem dX12_must_13 : decode cX12_must 13 = .ok (.putfield 205, 3) := by decide +kernel
theorem dX12_must_16 : decode cX12_must 16 = .ok (.aload_n 0, 1) := by decide +kernel
theorem dX12_must_17 : decode cX12_must 17 = .ok (.aload_n 0, 1) := by decide +kernel
theorem dX12_must_18 : decode cX12_must 18 = .ok (.getfield 211, 3) := by decide +kernel
theorem dX12_must_21 : decode cX12_must 21 = .ok (.putfield 26, 3) := by decide +kernel
theorem dX12_must_24 : decode cX12_must 24 = .ok (.aload_n 0, 1) := by decide +kernel
theorem dX12_must_25 : decode cX12_must 25 = .ok (.getfield 205, 3) := by decide +kernel
theorem dX12_must_28 : decode cX12_must 28 = .ok (.ifCond .ne 7, 3) := by decide +kernel
theorem dX12_must_31 : decode cX12_must 31 = .ok (.aload_n 0, 1) := by decide +kernel
theorem dX12_must_32 : decode cX12_must 32 = .ok (.invokevirtual 208, 3) := by decide +kernel
theorem dX12_must_35 : decode cX12_must 35 = .ok (.return_, 1) := by decide +kernel
theorem fl_X12_205 : Cond.fieldLink RX12 205 "LateGlassModel" "bad" "Z" ∈ tblG := tg 1217 (by decide +kernel) (by decide +kernel)
theorem ml_X12_208 : Cond.methodLink RX12 208 yX12_next ∈ tblG := tg 1504 (by decide +kernel) (by decide +kernel)
theorem im_X12_next : Cond.instanceMethod yX12_next ∈ tblG := tg 1506 (by decide +kernel) (by decide +kernel)
theorem se_X12_next : Cond.selects RX12 yX12_next yX12_next ∈ tblG := tg 44 (by decide +kernel) (by decide +kernel)
theorem cd_X12_next : Cond.code yX12_next cX12_next 1 none ∈ tblG := tg 1507 (by decide +kernel) (by decide +kernel)
theorem gW_X12_next : GoodIn tblG (wsG yX12_next cX12_next 1 none) := tgi cd_X12_next
theorem gV_X12_208 : GoodIn tblG (wsV RX12 208 RX12 yX12_next (wsG yX12_next cX12_next 1 none)) := tgV ml_X12_208 im_X12_next se_X12_next ini_X12 gW_X12_next
theorem hv_X12_next : yX12_next.cls = RX12 ∧ yX12_next.cls ≠ "java/lang/invoke/MethodHandle" ∧ yX12_next.cls ≠ "java/lang/invoke/VarHandle" ∧ (parseMethodDescriptor yX12_next.desc).map (fun d => d.parameters.length) = some 0 := by decide +kernel
set_option maxHeartbeats 4000000 in
set_option maxRecDepth 100000 in
theorem n_must1 (l : Launch) (G : g5_G) (b_o b_tp b_rf b_ro b_im b_ke b_nl b_op b_ar b_pi b_pa b_ws b_hw b_se b_re b_pt b_ip b_ah b_be b_me b_tr b_ld b_wn : Nat) (sz : Nat) (u_th : Int32) (u_sa : Int32) (u_fd : Int32) (u_td : Int32) (u_fr : Int32) (u_to : Int32) (u_so : Int32) (u_fa : Int32) (u_bd : Int32) (u_nc : Int32) (u_co : Int32) (u_le : Int32) (u_pd : Int32) (u_od : Int32) (u_la : Int32) (u_bk : Int32) (u_ce : Int32) (u_ho : Int32) (u_wy : Int32) (u_bt : Int32) (u_ps : Int32) (u_tg : Int32) (u_sn : Int32) (u_ic : Int32) (u_wd : Int32) (u_id : Int32) (u_wo : Int64) (u_va : Int64) (u_su : Int64) (u_st : Int64) (v_tp : Nat → Int32) (h_u_td : 0 ≤ u_td.toInt ∧ u_td.toInt ≤ 400) (h_u_fr : 0 ≤ u_fr.toInt ∧ u_fr.toInt ≤ 400) (h_u_to : 0 ≤ u_to.toInt ∧ u_to.toInt ≤ 400) (h_u_bd : 0 ≤ u_bd.toInt ∧ u_bd.toInt ≤ 0) (h_u_nc : 0 ≤ u_nc.toInt ∧ u_nc.toInt ≤ 12) (h_u_co : 0 ≤ u_co.toInt ∧ u_co.toInt ≤ 400) (h_u_pd : 0 ≤ u_pd.toInt ∧ u_pd.toInt ≤ 400) (h_u_la : 0 ≤ u_la.toInt ∧ u_la.toInt ≤ 4840) (h_u_bk : 0 ≤ u_bk.toInt ∧ u_bk.toInt ≤ 1) (h_u_ce : 0 ≤ u_ce.toInt ∧ u_ce.toInt ≤ 63) (h_u_ho : 0 ≤ u_ho.toInt ∧ u_ho.toInt ≤ 23) (h_u_wy : 0 ≤ u_wy.toInt ∧ u_wy.toInt ≤ 3) (h_u_bt : 0 ≤ u_bt.toInt ∧ u_bt.toInt ≤ 1000000) (h_u_ps : 0 ≤ u_ps.toInt ∧ u_ps.toInt ≤ 200) (h_u_ic : 0 ≤ u_ic.toInt ∧ u_ic.toInt ≤ 1) (h_u_id : 0 ≤ u_id.toInt ∧ u_id.toInt ≤ 1) (e_t : u_fr.toInt < u_to.toInt ∧ u_to.toInt ≤ u_td.toInt) : Met l yX12_must (wsG yX12_must cX12_must 2 none) ({ frames := 2, cells := 0, slots := 0, locals := 40 }) (va_Pc [.ref b_o, .int 1] (g5_P G [(b_o, .inr (12, [.int u_th, .int u_sa, .ref b_rf, .ref b_ro, .ref b_im, .ref b_ke, .int u_fd, .ref b_tp, .int u_td, .int u_fr, .int u_to, .int u_so, .long u_wo, .int u_fa, .int u_bd, .int u_nc, .ref b_nl, .int u_co, .ref b_op, .ref b_ar, .int u_le, .ref b_pi, .ref b_pa, .int u_pd, .int u_od, .ref b_ws, .ref b_hw, .int u_la, .ref b_se, .ref b_re, .int u_bk, .long u_va, .long u_su, .int u_ce, .int u_ho, .int u_wy, .int u_bt, .int u_ps, .ref b_pt, .int u_tg, .int u_sn, .ref b_ip, .int u_ic, .ref b_ah, .ref b_be, .ref b_me, .int u_wd, .ref b_tr, .ref b_ld, .long u_st, .ref b_wn, .int u_id])), (b_tp, .inl (G.2 0, 400, .inl v_tp))] sz)) (va_Qv (fun (u : va_W) => (∃ (o_fr : Int32) (o_to : Int32) (o_so : Int32) (o_wo : Int64), (0 ≤ o_fr.toInt ∧ o_fr.toInt ≤ 400) ∧ (0 ≤ o_to.toInt ∧ o_to.toInt ≤ 400) ∧ (u_to.toInt ≤ o_fr.toInt ∧ o_fr.toInt ≤ o_to.toInt ∧ o_to.toInt ≤ u_td.toInt) ∧ (TKs o_so.toInt o_fr.toInt o_to.toInt) ∧ (u = [(b_o, .inr (12, [.int u_th, .int u_sa, .ref b_rf, .ref b_ro, .ref b_im, .ref b_ke, .int u_fd, .ref b_tp, .int u_td, .int o_fr, .int o_to, .int o_so, .long o_wo, .int u_fa, .int u_bd, .int u_nc, .ref b_nl, .int u_co, .ref b_op, .ref b_ar, .int u_le, .ref b_pi, .ref b_pa, .int u_pd, .int u_od, .ref b_ws, .ref b_hw, .int u_la, .ref b_se, .ref b_re, .int u_bk, .long u_va, .long u_su, .int u_ce, .int u_ho, .int u_wy, .int u_bt, .int u_ps, .ref b_pt, .int u_tg, .int u_sn, .ref b_ip, .int u_ic, .ref b_ah, .ref b_be, .ref b_me, .int u_wd, .ref b_tr, .ref b_ld, .long u_st, .ref b_wn, .int u_id])), (b_tp, .inl (G.2 0, 400, .inl v_tp))]))) (g5_B G (va_A [(b_o, .inr (12, [.int u_th, .int u_sa, .ref b_rf, .ref b_ro, .ref b_im, .ref b_ke, .int u_fd, .ref b_tp, .int u_td, .int u_fr, .int u_to, .int u_so, .long u_wo, .int u_fa, .int u_bd, .int u_nc, .ref b_nl, .int u_co, .ref b_op, .ref b_ar, .int u_le, .ref b_pi, .ref b_pa, .int u_pd, .int u_od, .ref b_ws, .ref b_hw, .int u_la, .ref b_se, .ref b_re, .int u_bk, .long u_va, .long u_su, .int u_ce, .int u_ho, .int u_wy, .int u_bt, .int u_ps, .ref b_pt, .int u_tg, .int u_sn, .ref b_ip, .int u_ic, .ref b_ah, .ref b_be, .ref b_me, .int u_wd, .ref b_tr, .ref b_ld, .long u_st, .ref b_wn, .int u_id])), (b_tp, .inl (G.2 0, 400, .inl v_tp))] sz)) (va_A [(b_o, .inr (12, [.int u_th, .int u_sa, .ref b_rf, .ref b_ro, .ref b_im, .ref b_ke, .int u_fd, .ref b_tp, .int u_td, .int u_fr, .int u_to, .int u_so, .long u_wo, .int u_fa, .int u_bd, .int u_nc, .ref b_nl, .int u_co, .ref b_op, .ref b_ar, .int u_le, .ref b_pi, .ref b_pa, .int u_pd, .int u_od, .ref b_ws, .ref b_hw, .int u_la, .ref b_se, .ref b_re, .int u_bk, .long u_va, .long u_su, .int u_ce, .int u_ho, .int u_wy, .int u_bt, .int u_ps, .ref b_pt, .int u_tg, .int u_sn, .ref b_ip, .int u_ic, .ref b_ah, .ref b_be, .ref b_me, .int u_wd, .ref b_tr, .ref b_ld, .long u_st, .ref b_wn, .int u_id])), (b_tp, .inl (G.2 0, 400, .inl v_tp))] sz)) 0 0 (va_A [(b_o, .inr (12, [.int u_th, .int u_sa, .ref b_rf, .ref b_ro, .ref b_im, .ref b_ke, .int u_fd, .ref b_tp, .int u_td, .int u_fr, .int u_to, .int u_so, .long u_wo, .int u_fa, .int u_bd, .int u_nc, .ref b_nl, .int u_co, .ref b_op, .ref b_ar, .int u_le, .ref b_pi, .ref b_pa, .int u_pd, .int u_od, .ref b_ws, .ref b_hw, .int u_la, .ref b_se, .ref b_re, .int u_bk, .long u_va, .long u_su, .int u_ce, .int u_ho, .int u_wy, .int u_bt, .int u_ps, .ref b_pt, .int u_tg, .int u_sn, .ref b_ip, .int u_ic, .ref b_ah, .ref b_be, .ref b_me, .int u_wd, .ref b_tr, .ref b_ld, .long u_st, .ref b_wn, .int u_id])), (b_tp, .inl (G.2 0, 400, .inl v_tp))] sz) := by
  refine Met.ofW (cc := cX12_must) (maxL := 2) (ret := none) (by decide) rfl ?_
  intro p e s m args below meth c s₁ B hml hv
  obtain ⟨rfl, hsz, hP, hK, hD0, hN, hT⟩ := hv
  have hx := B.exec
  have hb := B.bytes
  have hr := B.returns
  have hts : ∀ w ∈ tblG, w.before _ s = true := fun w h => atoms_spec (ws := (wsG yX12_must cX12_must 2 none)) B.pre w (List.mem_cons_of_mem _ h)
  have hown : s.vm.findClass RX12 = some m.cls := findClass_of_methodNamed B.named
  have hlocks := B.notSynchronized
  subst hsz
  have hD := hD0.self (sz := s.heap.size)
  generalize hAe : va_A [(b_o, .inr (12, [.int u_th, .int u_sa, .ref b_rf, .ref b_ro, .ref b_im, .ref b_ke, .int u_fd, .ref b_tp, .int u_td, .int u_fr, .int u_to, .int u_so, .long u_wo, .int u_fa, .int u_bd, .int u_nc, .ref b_nl, .int u_co, .ref b_op, .ref b_ar, .int u_le, .ref b_pi, .ref b_pa, .int u_pd, .int u_od, .ref b_ws, .ref b_hw, .int u_la, .ref b_se, .ref b_re, .int u_bk, .long u_va, .long u_su, .int u_ce, .int u_ho, .int u_wy, .int u_bt, .int u_ps, .ref b_pt, .int u_tg, .int u_sn, .ref b_ip, .int u_ic, .ref b_ah, .ref b_be, .ref b_me, .int u_wd, .ref b_tr, .ref b_ld, .long u_st, .ref b_wn, .int u_id])), (b_tp, .inl (G.2 0, 400, .inl v_tp))] s.heap.size = A at hD hT ⊢
  have hA : ∀ q : Nat, s.heap.size ≤ q → A q := fun q h => by rw [← hAe]; exact Or.inr h
  have hS : va_S A s.heap s.heap [] := va_S.rf
  have hP : va_P G.1 vwCl [(b_o, .inr (12, [.int u_th, .int u_sa, .ref b_rf, .ref b_ro, .ref b_im, .ref b_ke, .int u_fd, .ref b_tp, .int u_td, .int u_fr, .int u_to, .int u_so, .long u_wo, .int u_fa, .int u_bd, .int u_nc, .ref b_nl, .int u_co, .ref b_op, .ref b_ar, .int u_le, .ref b_pi, .ref b_pa, .int u_pd, .int u_od, .ref b_ws, .ref b_hw, .int u_la, .ref b_se, .ref b_re, .int u_bk, .long u_va, .long u_su, .int u_ce, .int u_ho, .int u_wy, .int u_bt, .int u_ps, .ref b_pt, .int u_tg, .int u_sn, .ref b_ip, .int u_ic, .ref b_ah, .ref b_be, .ref b_me, .int u_wd, .ref b_tr, .ref b_ld, .long u_st, .ref b_wn, .int u_id])), (b_tp, .inl (G.2 0, 400, .inl v_tp))] s.heap := hP
  have hl := lv_entry ([.ref b_o, .int 1]) (n := 2) (Nat.le_of_ble_eq_true rfl)
  rw [lg_entry_eq]
  generalize (lg_sl ([.ref b_o, .int 1]) ++ List.replicate (2 - (lg_sl ([.ref b_o, .int 1])).length) Slot.unset).toArray = ls at hl ⊢
  have hl : lv_has ls 2 [(0, .ref b_o), (1, .int 1)] := hl
  refine lv_aload_n hx hb dX12_must_0 rfl (lv_at hl 0 rfl) ?_
  refine va_get (D := G.1) (ci := 12) (v := .int u_bd) (C := RX12) (T := TX12) (N := 52) hx hb hts inG_X12 hown hK hP 0 rfl rfl 14 (by decide) (hts _ fl_X12_205) (fun _ h9 => h9) rfl dX12_must_1 ?_
  refine lv_if_ne (tgt := 24) hx hb dX12_must_4 (by decide) (fun c_1 => ?_) (fun c_1 => ?_)
  ·
    have i_1 : u_bd.toInt ≠ 0 := by have z := g5_ne (a := u_bd.toInt) (b := 0) (by rfl) (by decide) c_1; omega
    omega
  ·
    have i_1 : u_bd.toInt = 0 := by have z := g5_neN (a := u_bd.toInt) (b := 0) (by rfl) (by decide) c_1; omega
    refine lv_iload_n hx hb dX12_must_7 rfl (lv_at hl 1 rfl) ?_
    refine lv_if_ne (tgt := 24) hx hb dX12_must_8 (by decide) (fun c_2 => ?_) (fun c_2 => ?_)
    ·
      refine lv_aload_n hx hb dX12_must_24 rfl (lv_at hl 0 rfl) ?_
      refine va_get (D := G.1) (ci := 12) (v := .int u_bd) (C := RX12) (T := TX12) (N := 52) hx hb hts inG_X12 hown hK hP 0 rfl rfl 14 (by decide) (hts _ fl_X12_205) (fun _ h9 => h9) rfl dX12_must_25 ?_
      refine lv_if_ne (tgt := 35) hx hb dX12_must_28 (by decide) (fun c_3 => ?_) (fun c_3 => ?_)
      ·
        have i_3 : u_bd.toInt ≠ 0 := by have z := g5_ne (a := u_bd.toInt) (b := 0) (by rfl) (by decide) c_3; omega
        omega
      ·
        have i_3 : u_bd.toInt = 0 := by have z := g5_neN (a := u_bd.toInt) (b := 0) (by rfl) (by decide) c_3; omega
        refine lv_aload_n hx hb dX12_must_31 rfl (lv_at hl 0 rfl) ?_
        have hPc := hP.sub (ws' := [(b_o, .inr (12, [.int u_th, .int u_sa, .ref b_rf, .ref b_ro, .ref b_im, .ref b_ke, .int u_fd, .ref b_tp, .int u_td, .int u_fr, .int u_to, .int u_so, .long u_wo, .int u_fa, .int u_bd, .int u_nc, .ref b_nl, .int u_co, .ref b_op, .ref b_ar, .int u_le, .ref b_pi, .ref b_pa, .int u_pd, .int u_od, .ref b_ws, .ref b_hw, .int u_la, .ref b_se, .ref b_re, .int u_bk, .long u_va, .long u_su, .int u_ce, .int u_ho, .int u_wy, .int u_bt, .int u_ps, .ref b_pt, .int u_tg, .int u_sn, .ref b_ip, .int u_ic, .ref b_ah, .ref b_be, .ref b_me, .int u_wd, .ref b_tr, .ref b_ld, .long u_st, .ref b_wn, .int u_id])), (b_tp, .inl (G.2 0, 400, .inl v_tp))]) [0, 1] rfl
        have hDc := hD.sub (ws' := [(b_o, .inr (12, [.int u_th, .int u_sa, .ref b_rf, .ref b_ro, .ref b_im, .ref b_ke, .int u_fd, .ref b_tp, .int u_td, .int u_fr, .int u_to, .int u_so, .long u_wo, .int u_fa, .int u_bd, .int u_nc, .ref b_nl, .int u_co, .ref b_op, .ref b_ar, .int u_le, .ref b_pi, .ref b_pa, .int u_pd, .int u_od, .ref b_ws, .ref b_hw, .int u_la, .ref b_se, .ref b_re, .int u_bk, .long u_va, .long u_su, .int u_ce, .int u_ho, .int u_wy, .int u_bt, .int u_ps, .ref b_pt, .int u_tg, .int u_sn, .ref b_ip, .int u_ic, .ref b_ah, .ref b_be, .ref b_me, .int u_wd, .ref b_tr, .ref b_ld, .long u_st, .ref b_wn, .int u_id])), (b_tp, .inl (G.2 0, 400, .inl v_tp))]) [0, 1] (by decide) rfl
        have hFc := va_free (wc := [(b_o, .inr (12, [.int u_th, .int u_sa, .ref b_rf, .ref b_ro, .ref b_im, .ref b_ke, .int u_fd, .ref b_tp, .int u_td, .int u_fr, .int u_to, .int u_so, .long u_wo, .int u_fa, .int u_bd, .int u_nc, .ref b_nl, .int u_co, .ref b_op, .ref b_ar, .int u_le, .ref b_pi, .ref b_pa, .int u_pd, .int u_od, .ref b_ws, .ref b_hw, .int u_la, .ref b_se, .ref b_re, .int u_bk, .long u_va, .long u_su, .int u_ce, .int u_ho, .int u_wy, .int u_bt, .int u_ps, .ref b_pt, .int u_tg, .int u_sn, .ref b_ip, .int u_ic, .ref b_ah, .ref b_be, .ref b_me, .int u_wd, .ref b_tr, .ref b_ld, .long u_st, .ref b_wn, .int u_id])), (b_tp, .inl (G.2 0, 400, .inl v_tp))]) hD hS hA [0, 1] rfl
        refine va_callv (va_runV (As := []) (rest := []) ⟨hx, hb, hml, hown, hts⟩ (n_next l G b_o b_tp b_rf b_ro b_im b_ke b_nl b_op b_ar b_pi b_pa b_ws b_hw b_se b_re b_pt b_ip b_ah b_be b_me b_tr b_ld b_wn s.heap.size u_th u_sa u_fd u_td u_fr u_to u_so u_fa u_bd u_nc u_co u_le u_pd u_od u_la u_bk u_ce u_ho u_wy u_bt u_ps u_tg u_sn u_ic u_wd u_id u_wo u_va u_su u_st v_tp ⟨by omega, by omega⟩ ⟨by omega, by omega⟩ ⟨by omega, by omega⟩ ⟨by omega, by omega⟩ ⟨by omega, by omega⟩ ⟨by omega, by omega⟩ ⟨by omega, by omega⟩ ⟨by omega, by omega⟩ ⟨by omega, by omega⟩ ⟨by omega, by omega⟩ ⟨by omega, by omega⟩ ⟨by omega, by omega⟩ ⟨by omega, by omega⟩ ⟨by omega, by omega⟩ ⟨by omega, by omega⟩ ⟨by omega, by omega⟩ (by omega)) (cwV 0 hts gV_X12_208 rfl rfl rfl hv_X12_next ⟨Nat.le_of_ble_eq_true rfl, Nat.le_of_ble_eq_true rfl⟩) (g5_preV hPc hK hDc hN hT hS hFc (ci := 12) (q0 := 0) rfl rfl) rfl rfl hl.1 rfl (lv_room (Nat.le_of_ble_eq_true rfl)) dX12_must_32 ⟨Nat.le_of_ble_eq_true rfl, Nat.le_of_ble_eq_true rfl⟩) hS (fun q _ h => hFc q h) hFc (fun u t H1 locs ht hvm hw hB hz1 hk1 hS => ?_)
        obtain ⟨hP1, hD1⟩ := hB
        rw [ht] at hP1
        obtain ⟨z8, z9, z10, z11, i_4, i_5, i_6, i_7, rfl⟩ := hw
        have i_4 : 0 ≤ z8.toInt ∧ z8.toInt ≤ 400 := i_4
        have i_5 : 0 ≤ z9.toInt ∧ z9.toInt ≤ 400 := i_5
        have i_6 : u_to.toInt ≤ z8.toInt ∧ z8.toInt ≤ z9.toInt ∧ z9.toInt ≤ u_td.toInt := i_6
        have i_7 : TKs z10.toInt z8.toInt z9.toInt := i_7
        obtain ⟨hP, hD⟩ := va_join (wr := []) (w1 := [(b_o, .inr (12, [.int u_th, .int u_sa, .ref b_rf, .ref b_ro, .ref b_im, .ref b_ke, .int u_fd, .ref b_tp, .int u_td, .int z8, .int z9, .int z10, .long z11, .int u_fa, .int u_bd, .int u_nc, .ref b_nl, .int u_co, .ref b_op, .ref b_ar, .int u_le, .ref b_pi, .ref b_pa, .int u_pd, .int u_od, .ref b_ws, .ref b_hw, .int u_la, .ref b_se, .ref b_re, .int u_bk, .long u_va, .long u_su, .int u_ce, .int u_ho, .int u_wy, .int u_bt, .int u_ps, .ref b_pt, .int u_tg, .int u_sn, .ref b_ip, .int u_ic, .ref b_ah, .ref b_be, .ref b_me, .int u_wd, .ref b_tr, .ref b_ld, .long u_st, .ref b_wn, .int u_id])), (b_tp, .inl (G.2 0, 400, .inl v_tp))]) hP hD [0, 1] [] rfl rfl (by decide) (by decide) hk1 hFc hP1 hD1
        generalize H1 = H at hP hS ⊢
        have hP : va_P G.1 vwCl [(b_o, .inr (12, [.int u_th, .int u_sa, .ref b_rf, .ref b_ro, .ref b_im, .ref b_ke, .int u_fd, .ref b_tp, .int u_td, .int z8, .int z9, .int z10, .long z11, .int u_fa, .int u_bd, .int u_nc, .ref b_nl, .int u_co, .ref b_op, .ref b_ar, .int u_le, .ref b_pi, .ref b_pa, .int u_pd, .int u_od, .ref b_ws, .ref b_hw, .int u_la, .ref b_se, .ref b_re, .int u_bk, .long u_va, .long u_su, .int u_ce, .int u_ho, .int u_wy, .int u_bt, .int u_ps, .ref b_pt, .int u_tg, .int u_sn, .ref b_ip, .int u_ic, .ref b_ah, .ref b_be, .ref b_me, .int u_wd, .ref b_tr, .ref b_ld, .long u_st, .ref b_wn, .int u_id])), (b_tp, .inl (G.2 0, 400, .inl v_tp))] H := hP
        have hD : va_D A [(b_o, .inr (12, [.int u_th, .int u_sa, .ref b_rf, .ref b_ro, .ref b_im, .ref b_ke, .int u_fd, .ref b_tp, .int u_td, .int z8, .int z9, .int z10, .long z11, .int u_fa, .int u_bd, .int u_nc, .ref b_nl, .int u_co, .ref b_op, .ref b_ar, .int u_le, .ref b_pi, .ref b_pa, .int u_pd, .int u_od, .ref b_ws, .ref b_hw, .int u_la, .ref b_se, .ref b_re, .int u_bk, .long u_va, .long u_su, .int u_ce, .int u_ho, .int u_wy, .int u_bt, .int u_ps, .ref b_pt, .int u_tg, .int u_sn, .ref b_ip, .int u_ic, .ref b_ah, .ref b_be, .ref b_me, .int u_wd, .ref b_tr, .ref b_ld, .long u_st, .ref b_wn, .int u_id])), (b_tp, .inl (G.2 0, 400, .inl v_tp))] := hD
        exact W.vret hx hb hr (fun t ht hW => ⟨⟨[(b_o, .inr (12, [.int u_th, .int u_sa, .ref b_rf, .ref b_ro, .ref b_im, .ref b_ke, .int u_fd, .ref b_tp, .int u_td, .int z8, .int z9, .int z10, .long z11, .int u_fa, .int u_bd, .int u_nc, .ref b_nl, .int u_co, .ref b_op, .ref b_ar, .int u_le, .ref b_pi, .ref b_pa, .int u_pd, .int u_od, .ref b_ws, .ref b_hw, .int u_la, .ref b_se, .ref b_re, .int u_bk, .long u_va, .long u_su, .int u_ce, .int u_ho, .int u_wy, .int u_bt, .int u_ps, .ref b_pt, .int u_tg, .int u_sn, .ref b_ip, .int u_ic, .ref b_ah, .ref b_be, .ref b_me, .int u_wd, .ref b_tr, .ref b_ld, .long u_st, .ref b_wn, .int u_id])), (b_tp, .inl (G.2 0, 400, .inl v_tp))], rfl, ⟨z8, z9, z10, z11, ⟨by omega, by omega⟩, ⟨by omega, by omega⟩, by omega, i_7, rfl⟩, by rw [ht]; exact hP.sub [0, 1] rfl, hD.sub [0, 1] (by decide) rfl⟩, hS.F ht⟩) hS.2.2 dX12_must_35
    ·
      exact absurd c_2 (by decide)
set_option maxHeartbeats 4000000 in
set_option maxRecDepth 100000 in
theorem n_must0 (l : Launch) (G : g5_G) (b_o b_tp b_rf b_ro b_im b_ke b_nl b_op b_ar b_pi b_pa b_ws b_hw b_se b_re b_pt b_ip b_ah b_be b_me b_tr b_ld b_wn : Nat) (sz : Nat) (u_th : Int32) (u_sa : Int32) (u_fd : Int32) (u_td : Int32) (u_fr : Int32) (u_to : Int32) (u_so : Int32) (u_fa : Int32) (u_bd : Int32) (u_nc : Int32) (u_co : Int32) (u_le : Int32) (u_pd : Int32) (u_od : Int32) (u_la : Int32) (u_bk : Int32) (u_ce : Int32) (u_ho : Int32) (u_wy : Int32) (u_bt : Int32) (u_ps : Int32) (u_tg : Int32) (u_sn : Int32) (u_ic : Int32) (u_wd : Int32) (u_id : Int32) (u_wo : Int64) (u_va : Int64) (u_su : Int64) (u_st : Int64) (v_tp : Nat → Int32) (h_u_td : 0 ≤ u_td.toInt ∧ u_td.toInt ≤ 400) (h_u_fr : 0 ≤ u_fr.toInt ∧ u_fr.toInt ≤ 400) (h_u_to : 0 ≤ u_to.toInt ∧ u_to.toInt ≤ 400) (h_u_bd : 0 ≤ u_bd.toInt ∧ u_bd.toInt ≤ 0) (h_u_nc : 0 ≤ u_nc.toInt ∧ u_nc.toInt ≤ 12) (h_u_co : 0 ≤ u_co.toInt ∧ u_co.toInt ≤ 400) (h_u_pd : 0 ≤ u_pd.toInt ∧ u_pd.toInt ≤ 400) (h_u_la : 0 ≤ u_la.toInt ∧ u_la.toInt ≤ 4840) (h_u_bk : 0 ≤ u_bk.toInt ∧ u_bk.toInt ≤ 1) (h_u_ce : 0 ≤ u_ce.toInt ∧ u_ce.toInt ≤ 63) (h_u_ho : 0 ≤ u_ho.toInt ∧ u_ho.toInt ≤ 23) (h_u_wy : 0 ≤ u_wy.toInt ∧ u_wy.toInt ≤ 3) (h_u_bt : 0 ≤ u_bt.toInt ∧ u_bt.toInt ≤ 1000000) (h_u_ps : 0 ≤ u_ps.toInt ∧ u_ps.toInt ≤ 200) (h_u_ic : 0 ≤ u_ic.toInt ∧ u_ic.toInt ≤ 1) (h_u_id : 0 ≤ u_id.toInt ∧ u_id.toInt ≤ 1) : Met l yX12_must (wsG yX12_must cX12_must 2 none) ({ frames := 0, cells := 0, slots := 0, locals := 0 }) (va_Pc [.ref b_o, .int 0] (g5_P G [(b_o, .inr (12, [.int u_th, .int u_sa, .ref b_rf, .ref b_ro, .ref b_im, .ref b_ke, .int u_fd, .ref b_tp, .int u_td, .int u_fr, .int u_to, .int u_so, .long u_wo, .int u_fa, .int u_bd, .int u_nc, .ref b_nl, .int u_co, .ref b_op, .ref b_ar, .int u_le, .ref b_pi, .ref b_pa, .int u_pd, .int u_od, .ref b_ws, .ref b_hw, .int u_la, .ref b_se, .ref b_re, .int u_bk, .long u_va, .long u_su, .int u_ce, .int u_ho, .int u_wy, .int u_bt, .int u_ps, .ref b_pt, .int u_tg, .int u_sn, .ref b_ip, .int u_ic, .ref b_ah, .ref b_be, .ref b_me, .int u_wd, .ref b_tr, .ref b_ld, .long u_st, .ref b_wn, .int u_id])), (b_tp, .inl (G.2 0, 400, .inl v_tp))] sz)) (va_Qv (fun (u : va_W) => ((u = [(b_o, .inr (12, [.int u_th, .int u_sa, .ref b_rf, .ref b_ro, .ref b_im, .ref b_ke, .int u_fd, .ref b_tp, .int u_td, .int u_fr, .int u_to, .int u_so, .long u_wo, .int u_fr, .int 1, .int u_nc, .ref b_nl, .int u_co, .ref b_op, .ref b_ar, .int u_le, .ref b_pi, .ref b_pa, .int u_pd, .int u_od, .ref b_ws, .ref b_hw, .int u_la, .ref b_se, .ref b_re, .int u_bk, .long u_va, .long u_su, .int u_ce, .int u_ho, .int u_wy, .int u_bt, .int u_ps, .ref b_pt, .int u_tg, .int u_sn, .ref b_ip, .int u_ic, .ref b_ah, .ref b_be, .ref b_me, .int u_wd, .ref b_tr, .ref b_ld, .long u_st, .ref b_wn, .int u_id])), (b_tp, .inl (G.2 0, 400, .inl v_tp))]))) (g5_B G (va_A [(b_o, .inr (12, [.int u_th, .int u_sa, .ref b_rf, .ref b_ro, .ref b_im, .ref b_ke, .int u_fd, .ref b_tp, .int u_td, .int u_fr, .int u_to, .int u_so, .long u_wo, .int u_fa, .int u_bd, .int u_nc, .ref b_nl, .int u_co, .ref b_op, .ref b_ar, .int u_le, .ref b_pi, .ref b_pa, .int u_pd, .int u_od, .ref b_ws, .ref b_hw, .int u_la, .ref b_se, .ref b_re, .int u_bk, .long u_va, .long u_su, .int u_ce, .int u_ho, .int u_wy, .int u_bt, .int u_ps, .ref b_pt, .int u_tg, .int u_sn, .ref b_ip, .int u_ic, .ref b_ah, .ref b_be, .ref b_me, .int u_wd, .ref b_tr, .ref b_ld, .long u_st, .ref b_wn, .int u_id])), (b_tp, .inl (G.2 0, 400, .inl v_tp))] sz)) (va_A [(b_o, .inr (12, [.int u_th, .int u_sa, .ref b_rf, .ref b_ro, .ref b_im, .ref b_ke, .int u_fd, .ref b_tp, .int u_td, .int u_fr, .int u_to, .int u_so, .long u_wo, .int u_fa, .int u_bd, .int u_nc, .ref b_nl, .int u_co, .ref b_op, .ref b_ar, .int u_le, .ref b_pi, .ref b_pa, .int u_pd, .int u_od, .ref b_ws, .ref b_hw, .int u_la, .ref b_se, .ref b_re, .int u_bk, .long u_va, .long u_su, .int u_ce, .int u_ho, .int u_wy, .int u_bt, .int u_ps, .ref b_pt, .int u_tg, .int u_sn, .ref b_ip, .int u_ic, .ref b_ah, .ref b_be, .ref b_me, .int u_wd, .ref b_tr, .ref b_ld, .long u_st, .ref b_wn, .int u_id])), (b_tp, .inl (G.2 0, 400, .inl v_tp))] sz)) 0 0 (va_A [(b_o, .inr (12, [.int u_th, .int u_sa, .ref b_rf, .ref b_ro, .ref b_im, .ref b_ke, .int u_fd, .ref b_tp, .int u_td, .int u_fr, .int u_to, .int u_so, .long u_wo, .int u_fa, .int u_bd, .int u_nc, .ref b_nl, .int u_co, .ref b_op, .ref b_ar, .int u_le, .ref b_pi, .ref b_pa, .int u_pd, .int u_od, .ref b_ws, .ref b_hw, .int u_la, .ref b_se, .ref b_re, .int u_bk, .long u_va, .long u_su, .int u_ce, .int u_ho, .int u_wy, .int u_bt, .int u_ps, .ref b_pt, .int u_tg, .int u_sn, .ref b_ip, .int u_ic, .ref b_ah, .ref b_be, .ref b_me, .int u_wd, .ref b_tr, .ref b_ld, .long u_st, .ref b_wn, .int u_id])), (b_tp, .inl (G.2 0, 400, .inl v_tp))] sz) := by
  refine Met.ofW (cc := cX12_must) (maxL := 2) (ret := none) (by decide) rfl ?_
  intro p e s m args below meth c s₁ B hml hv
  obtain ⟨rfl, hsz, hP, hK, hD0, hN, hT⟩ := hv
  have hx := B.exec
  have hb := B.bytes
  have hr := B.returns
  have hts : ∀ w ∈ tblG, w.before _ s = true := fun w h => atoms_spec (ws := (wsG yX12_must cX12_must 2 none)) B.pre w (List.mem_cons_of_mem _ h)
  have hown : s.vm.findClass RX12 = some m.cls := findClass_of_methodNamed B.named
  have hlocks := B.notSynchronized
  subst hsz
  have hD := hD0.self (sz := s.heap.size)
  generalize hAe : va_A [(b_o, .inr (12, [.int u_th, .int u_sa, .ref b_rf, .ref b_ro, .ref b_im, .ref b_ke, .int u_fd, .ref b_tp, .int u_td, .int u_fr, .int u_to, .int u_so, .long u_wo, .int u_fa, .int u_bd, .int u_nc, .ref b_nl, .int u_co, .ref b_op, .ref b_ar, .int u_le, .ref b_pi, .ref b_pa, .int u_pd, .int u_od, .ref b_ws, .ref b_hw, .int u_la, .ref b_se, .ref b_re, .int u_bk, .long u_va, .long u_su, .int u_ce, .int u_ho, .int u_wy, .int u_bt, .int u_ps, .ref b_pt, .int u_tg, .int u_sn, .ref b_ip, .int u_ic, .ref b_ah, .ref b_be, .ref b_me, .int u_wd, .ref b_tr, .ref b_ld, .long u_st, .ref b_wn, .int u_id])), (b_tp, .inl (G.2 0, 400, .inl v_tp))] s.heap.size = A at hD hT ⊢
  have hA : ∀ q : Nat, s.heap.size ≤ q → A q := fun q h => by rw [← hAe]; exact Or.inr h
  have hS : va_S A s.heap s.heap [] := va_S.rf
  have hP : va_P G.1 vwCl [(b_o, .inr (12, [.int u_th, .int u_sa, .ref b_rf, .ref b_ro, .ref b_im, .ref b_ke, .int u_fd, .ref b_tp, .int u_td, .int u_fr, .int u_to, .int u_so, .long u_wo, .int u_fa, .int u_bd, .int u_nc, .ref b_nl, .int u_co, .ref b_op, .ref b_ar, .int u_le, .ref b_pi, .ref b_pa, .int u_pd, .int u_od, .ref b_ws, .ref b_hw, .int u_la, .ref b_se, .ref b_re, .int u_bk, .long u_va, .long u_su, .int u_ce, .int u_ho, .int u_wy, .int u_bt, .int u_ps, .ref b_pt, .int u_tg, .int u_sn, .ref b_ip, .int u_ic, .ref b_ah, .ref b_be, .ref b_me, .int u_wd, .ref b_tr, .ref b_ld, .long u_st, .ref b_wn, .int u_id])), (b_tp, .inl (G.2 0, 400, .inl v_tp))] s.heap := hP
  have hl := lv_entry ([.ref b_o, .int 0]) (n := 2) (Nat.le_of_ble_eq_true rfl)
  rw [lg_entry_eq]
  generalize (lg_sl ([.ref b_o, .int 0]) ++ List.replicate (2 - (lg_sl ([.ref b_o, .int 0])).length) Slot.unset).toArray = ls at hl ⊢
  have hl : lv_has ls 2 [(0, .ref b_o), (1, .int 0)] := hl
  refine lv_aload_n hx hb dX12_must_0 rfl (lv_at hl 0 rfl) ?_
  refine va_get (D := G.1) (ci := 12) (v := .int u_bd) (C := RX12) (T := TX12) (N := 52) hx hb hts inG_X12 hown hK hP 0 rfl rfl 14 (by decide) (hts _ fl_X12_205) (fun _ h9 => h9) rfl dX12_must_1 ?_
  refine lv_if_ne (tgt := 24) hx hb dX12_must_4 (by decide) (fun c_1 => ?_) (fun c_1 => ?_)
  ·
    have i_1 : u_bd.toInt ≠ 0 := by have z := g5_ne (a := u_bd.toInt) (b := 0) (by rfl) (by decide) c_1; omega
    omega
  ·
    have i_1 : u_bd.toInt = 0 := by have z := g5_neN (a := u_bd.toInt) (b := 0) (by rfl) (by decide) c_1; omega
    refine lv_iload_n hx hb dX12_must_7 rfl (lv_at hl 1 rfl) ?_
    refine lv_if_ne (tgt := 24) hx hb dX12_must_8 (by decide) (fun c_2 => ?_) (fun c_2 => ?_)
    ·
      exact absurd c_2 (by decide)
    ·
      refine lv_aload_n hx hb dX12_must_11 rfl (lv_at hl 0 rfl) ?_
      refine lv_iconst (v := 1) hx hb dX12_must_12 (by decide) ?_
      refine va_put (D := G.1) (ci := 12) (v := .int 1) (ty := .boolean) (C := RX12) (T := TX12) (N := 52) hx hb hts inG_X12 tyX12 tyX12_ok nmX12 hown hK hP hD hS 0 rfl rfl 14 (by decide) (hts _ fl_X12_205) (fun _ h9 => h9) rfl (by decide +kernel) rfl rfl (Nat.le_of_ble_eq_true rfl) dX12_must_13 (fun H locs hP hD hS => ?_)
      have hP : va_P G.1 vwCl [(b_o, .inr (12, [.int u_th, .int u_sa, .ref b_rf, .ref b_ro, .ref b_im, .ref b_ke, .int u_fd, .ref b_tp, .int u_td, .int u_fr, .int u_to, .int u_so, .long u_wo, .int u_fa, .int 1, .int u_nc, .ref b_nl, .int u_co, .ref b_op, .ref b_ar, .int u_le, .ref b_pi, .ref b_pa, .int u_pd, .int u_od, .ref b_ws, .ref b_hw, .int u_la, .ref b_se, .ref b_re, .int u_bk, .long u_va, .long u_su, .int u_ce, .int u_ho, .int u_wy, .int u_bt, .int u_ps, .ref b_pt, .int u_tg, .int u_sn, .ref b_ip, .int u_ic, .ref b_ah, .ref b_be, .ref b_me, .int u_wd, .ref b_tr, .ref b_ld, .long u_st, .ref b_wn, .int u_id])), (b_tp, .inl (G.2 0, 400, .inl v_tp))] H := hP
      have hD : va_D A [(b_o, .inr (12, [.int u_th, .int u_sa, .ref b_rf, .ref b_ro, .ref b_im, .ref b_ke, .int u_fd, .ref b_tp, .int u_td, .int u_fr, .int u_to, .int u_so, .long u_wo, .int u_fa, .int 1, .int u_nc, .ref b_nl, .int u_co, .ref b_op, .ref b_ar, .int u_le, .ref b_pi, .ref b_pa, .int u_pd, .int u_od, .ref b_ws, .ref b_hw, .int u_la, .ref b_se, .ref b_re, .int u_bk, .long u_va, .long u_su, .int u_ce, .int u_ho, .int u_wy, .int u_bt, .int u_ps, .ref b_pt, .int u_tg, .int u_sn, .ref b_ip, .int u_ic, .ref b_ah, .ref b_be, .ref b_me, .int u_wd, .ref b_tr, .ref b_ld, .long u_st, .ref b_wn, .int u_id])), (b_tp, .inl (G.2 0, 400, .inl v_tp))] := hD
      refine lv_aload_n hx hb dX12_must_16 rfl (lv_at hl 0 rfl) ?_
      refine lv_aload_n hx hb dX12_must_17 rfl (lv_at hl 0 rfl) ?_
      refine va_get (D := G.1) (ci := 12) (v := .int u_fr) (C := RX12) (T := TX12) (N := 52) hx hb hts inG_X12 hown hK hP 0 rfl rfl 9 (by decide) (hts _ fl_X12_211) (fun _ h9 => h9) rfl dX12_must_18 ?_
      refine va_put (D := G.1) (ci := 12) (v := .int u_fr) (ty := .int) (C := RX12) (T := TX12) (N := 52) hx hb hts inG_X12 tyX12 tyX12_ok nmX12 hown hK hP hD hS 0 rfl rfl 13 (by decide) (hts _ fl_X12_26) (fun _ h9 => h9) rfl (by decide +kernel) rfl rfl (Nat.le_of_ble_eq_true rfl) dX12_must_21 (fun H locs hP hD hS => ?_)
      have hP : va_P G.1 vwCl [(b_o, .inr (12, [.int u_th, .int u_sa, .ref b_rf, .ref b_ro, .ref b_im, .ref b_ke, .int u_fd, .ref b_tp, .int u_td, .int u_fr, .int u_to, .int u_so, .long u_wo, .int u_fr, .int 1, .int u_nc, .ref b_nl, .int u_co, .ref b_op, .ref b_ar, .int u_le, .ref b_pi, .ref b_pa, .int u_pd, .int u_od, .ref b_ws, .ref b_hw, .int u_la, .ref b_se, .ref b_re, .int u_bk, .long u_va, .long u_su, .int u_ce, .int u_ho, .int u_wy, .int u_bt, .int u_ps, .ref b_pt, .int u_tg, .int u_sn, .ref b_ip, .int u_ic, .ref b_ah, .ref b_be, .ref b_me, .int u_wd, .ref b_tr, .ref b_ld, .long u_st, .ref b_wn, .int u_id])), (b_tp, .inl (G.2 0, 400, .inl v_tp))] H := hP
      have hD : va_D A [(b_o, .inr (12, [.int u_th, .int u_sa, .ref b_rf, .ref b_ro, .ref b_im, .ref b_ke, .int u_fd, .ref b_tp, .int u_td, .int u_fr, .int u_to, .int u_so, .long u_wo, .int u_fr, .int 1, .int u_nc, .ref b_nl, .int u_co, .ref b_op, .ref b_ar, .int u_le, .ref b_pi, .ref b_pa, .int u_pd, .int u_od, .ref b_ws, .ref b_hw, .int u_la, .ref b_se, .ref b_re, .int u_bk, .long u_va, .long u_su, .int u_ce, .int u_ho, .int u_wy, .int u_bt, .int u_ps, .ref b_pt, .int u_tg, .int u_sn, .ref b_ip, .int u_ic, .ref b_ah, .ref b_be, .ref b_me, .int u_wd, .ref b_tr, .ref b_ld, .long u_st, .ref b_wn, .int u_id])), (b_tp, .inl (G.2 0, 400, .inl v_tp))] := hD
      refine lv_aload_n hx hb dX12_must_24 rfl (lv_at hl 0 rfl) ?_
      refine va_get (D := G.1) (ci := 12) (v := .int 1) (C := RX12) (T := TX12) (N := 52) hx hb hts inG_X12 hown hK hP 0 rfl rfl 14 (by decide) (hts _ fl_X12_205) (fun _ h9 => h9) rfl dX12_must_25 ?_
      refine lv_if_ne (tgt := 35) hx hb dX12_must_28 (by decide) (fun c_3 => ?_) (fun c_3 => ?_)
      ·
        exact W.vret hx hb hr (fun t ht hW => ⟨⟨[(b_o, .inr (12, [.int u_th, .int u_sa, .ref b_rf, .ref b_ro, .ref b_im, .ref b_ke, .int u_fd, .ref b_tp, .int u_td, .int u_fr, .int u_to, .int u_so, .long u_wo, .int u_fr, .int 1, .int u_nc, .ref b_nl, .int u_co, .ref b_op, .ref b_ar, .int u_le, .ref b_pi, .ref b_pa, .int u_pd, .int u_od, .ref b_ws, .ref b_hw, .int u_la, .ref b_se, .ref b_re, .int u_bk, .long u_va, .long u_su, .int u_ce, .int u_ho, .int u_wy, .int u_bt, .int u_ps, .ref b_pt, .int u_tg, .int u_sn, .ref b_ip, .int u_ic, .ref b_ah, .ref b_be, .ref b_me, .int u_wd, .ref b_tr, .ref b_ld, .long u_st, .ref b_wn, .int u_id])), (b_tp, .inl (G.2 0, 400, .inl v_tp))], rfl, rfl, by rw [ht]; exact hP.sub [0, 1] rfl, hD.sub [0, 1] (by decide) rfl⟩, hS.F ht⟩) hS.2.2 dX12_must_35
      ·
        exact absurd c_3 (by decide)
theorem dX12_emit_0 : decode cX12_emit 0 = .ok (.aload_n 0, 1) := by decide +kernel
theorem dX12_emit_1 : decode cX12_emit 1 = .ok (.getfield 33, 3) := by decide +kernel
theorem dX12_emit_4 : decode cX12_emit 4 = .ok (.aload_n 0, 1) := by decide +kernel
theorem dX12_emit_5 : decode cX12_emit 5 = .ok (.getfield 237, 3) := by decide +kernel
theorem dX12_emit_8 : decode cX12_emit 8 = .ok (.iload_n 1, 1) := by decide +kernel
theorem dX12_emit_9 : decode cX12_emit 9 = .ok (.iastore, 1) := by decide +kernel
theorem dX12_emit_10 : decode cX12_emit 10 = .ok (.aload_n 0, 1) := by decide +kernel
theorem dX12_emit_11 : decode cX12_emit 11 = .ok (.getfield 36, 3) := by decide +kernel
theorem dX12_emit_14 : decode cX12_emit 14 = .ok (.aload_n 0, 1) := by decide +kernel
theorem dX12_emit_15 : decode cX12_emit 15 = .ok (.getfield 237, 3) := by decide +kernel
theorem dX12_emit_18 : decode cX12_emit 18 = .ok (.iload_n 2, 1) := by decide +kernel
theorem dX12_emit_19 : decode cX12_emit 19 = .ok (.iastore, 1) := by decide +kernel
theorem dX12_emit_20 : decode cX12_emit 20 = .ok (.aload_n 0, 1) := by decide +kernel
theorem dX12_emit_21 : decode cX12_emit 21 = .ok (.dup, 1) := by decide +kernel
theorem dX12_emit_22 : decode cX12_emit 22 = .ok (.getfield 237, 3) := by decide +kernel
theorem dX12_emit_25 : decode cX12_emit 25 = .ok (.iconst 1, 1) := by decide +kernel
theorem dX12_emit_26 : decode cX12_emit 26 = .ok (.iadd, 1) := by decide +kernel
theorem dX12_emit_27 : decode cX12_emit 27 = .ok (.putfield 237, 3) := by decide +kernel
theorem dX12_emit_30 : decode cX12_emit 30 = .ok (.return_, 1) := by decide +kernel
theorem fl_X12_33 : Cond.fieldLink RX12 33 "LateGlassModel" "nOp" "[I" ∈ tblG := tg 1221 (by decide +kernel) (by decide +kernel)
theorem fl_X12_237 : Cond.fieldLink RX12 237 "LateGlassModel" "nCode" "I" ∈ tblG := tg 1220 (by decide +kernel) (by decide +kernel)
theorem fl_X12_36 : Cond.fieldLink RX12 36 "LateGlassModel" "nArg" "[I" ∈ tblG := tg 1222 (by decide +kernel) (by decide +kernel)
set_option maxHeartbeats 4000000 in
set_option maxRecDepth 100000 in
theorem n_emit (l : Launch) (G : g5_G) (b_o b_op b_ar b_rf b_ro b_im b_ke b_tp b_nl b_pi b_pa b_ws b_hw b_se b_re b_pt b_ip b_ah b_be b_me b_tr b_ld b_wn : Nat) (sz : Nat) (u_th : Int32) (u_sa : Int32) (u_fd : Int32) (u_td : Int32) (u_fr : Int32) (u_to : Int32) (u_so : Int32) (u_fa : Int32) (u_bd : Int32) (u_nc : Int32) (u_co : Int32) (u_le : Int32) (u_pd : Int32) (u_od : Int32) (u_la : Int32) (u_bk : Int32) (u_ce : Int32) (u_ho : Int32) (u_wy : Int32) (u_bt : Int32) (u_ps : Int32) (u_tg : Int32) (u_sn : Int32) (u_ic : Int32) (u_wd : Int32) (u_id : Int32) (p_1 : Int32) (p_2 : Int32) (u_wo : Int64) (u_va : Int64) (u_su : Int64) (u_st : Int64) (v_op : Nat → Int32) (v_ar : Nat → Int32) (h_u_td : 0 ≤ u_td.toInt ∧ u_td.toInt ≤ 400) (h_u_fr : 0 ≤ u_fr.toInt ∧ u_fr.toInt ≤ 400) (h_u_to : 0 ≤ u_to.toInt ∧ u_to.toInt ≤ 400) (h_u_bd : 0 ≤ u_bd.toInt ∧ u_bd.toInt ≤ 1) (h_u_nc : 0 ≤ u_nc.toInt ∧ u_nc.toInt ≤ 12) (h_u_co : 0 ≤ u_co.toInt ∧ u_co.toInt ≤ 400) (h_u_pd : 0 ≤ u_pd.toInt ∧ u_pd.toInt ≤ 400) (h_u_la : 0 ≤ u_la.toInt ∧ u_la.toInt ≤ 4840) (h_u_bk : 0 ≤ u_bk.toInt ∧ u_bk.toInt ≤ 1) (h_u_ce : 0 ≤ u_ce.toInt ∧ u_ce.toInt ≤ 63) (h_u_ho : 0 ≤ u_ho.toInt ∧ u_ho.toInt ≤ 23) (h_u_wy : 0 ≤ u_wy.toInt ∧ u_wy.toInt ≤ 3) (h_u_bt : 0 ≤ u_bt.toInt ∧ u_bt.toInt ≤ 1000000) (h_u_ps : 0 ≤ u_ps.toInt ∧ u_ps.toInt ≤ 200) (h_u_ic : 0 ≤ u_ic.toInt ∧ u_ic.toInt ≤ 1) (h_u_id : 0 ≤ u_id.toInt ∧ u_id.toInt ≤ 1) (e_c : u_co.toInt < 400) : Met l yX12_emit (wsG yX12_emit cX12_emit 3 none) ({ frames := 0, cells := 0, slots := 0, locals := 0 }) (va_Pc [.ref b_o, .int p_1, .int p_2] (g5_P G [(b_o, .inr (12, [.int u_th, .int u_sa, .ref b_rf, .ref b_ro, .ref b_im, .ref b_ke, .int u_fd, .ref b_tp, .int u_td, .int u_fr, .int u_to, .int u_so, .long u_wo, .int u_fa, .int u_bd, .int u_nc, .ref b_nl, .int u_co, .ref b_op, .ref b_ar, .int u_le, .ref b_pi, .ref b_pa, .int u_pd, .int u_od, .ref b_ws, .ref b_hw, .int u_la, .ref b_se, .ref b_re, .int u_bk, .long u_va, .long u_su, .int u_ce, .int u_ho, .int u_wy, .int u_bt, .int u_ps, .ref b_pt, .int u_tg, .int u_sn, .ref b_ip, .int u_ic, .ref b_ah, .ref b_be, .ref b_me, .int u_wd, .ref b_tr, .ref b_ld, .long u_st, .ref b_wn, .int u_id])), (b_op, .inl (G.2 0, 400, .inl v_op)), (b_ar, .inl (G.2 0, 400, .inl v_ar))] sz)) (va_Qv (fun (u : va_W) => (∃ (o_co : Int32), (0 ≤ o_co.toInt ∧ o_co.toInt ≤ 400) ∧ (o_co.toInt = u_co.toInt + 1) ∧ (u = [(b_o, .inr (12, [.int u_th, .int u_sa, .ref b_rf, .ref b_ro, .ref b_im, .ref b_ke, .int u_fd, .ref b_tp, .int u_td, .int u_fr, .int u_to, .int u_so, .long u_wo, .int u_fa, .int u_bd, .int u_nc, .ref b_nl, .int o_co, .ref b_op, .ref b_ar, .int u_le, .ref b_pi, .ref b_pa, .int u_pd, .int u_od, .ref b_ws, .ref b_hw, .int u_la, .ref b_se, .ref b_re, .int u_bk, .long u_va, .long u_su, .int u_ce, .int u_ho, .int u_wy, .int u_bt, .int u_ps, .ref b_pt, .int u_tg, .int u_sn, .ref b_ip, .int u_ic, .ref b_ah, .ref b_be, .ref b_me, .int u_wd, .ref b_tr, .ref b_ld, .long u_st, .ref b_wn, .int u_id])), (b_op, .inl (G.2 0, 400, .inl (upd v_op u_co.toNatClampNeg p_1))), (b_ar, .inl (G.2 0, 400, .inl (upd v_ar u_co.toNatClampNeg p_2)))]))) (g5_B G (va_A [(b_o, .inr (12, [.int u_th, .int u_sa, .ref b_rf, .ref b_ro, .ref b_im, .ref b_ke, .int u_fd, .ref b_tp, .int u_td, .int u_fr, .int u_to, .int u_so, .long u_wo, .int u_fa, .int u_bd, .int u_nc, .ref b_nl, .int u_co, .ref b_op, .ref b_ar, .int u_le, .ref b_pi, .ref b_pa, .int u_pd, .int u_od, .ref b_ws, .ref b_hw, .int u_la, .ref b_se, .ref b_re, .int u_bk, .long u_va, .long u_su, .int u_ce, .int u_ho, .int u_wy, .int u_bt, .int u_ps, .ref b_pt, .int u_tg, .int u_sn, .ref b_ip, .int u_ic, .ref b_ah, .ref b_be, .ref b_me, .int u_wd, .ref b_tr, .ref b_ld, .long u_st, .ref b_wn, .int u_id])), (b_op, .inl (G.2 0, 400, .inl v_op)), (b_ar, .inl (G.2 0, 400, .inl v_ar))] sz)) (va_A [(b_o, .inr (12, [.int u_th, .int u_sa, .ref b_rf, .ref b_ro, .ref b_im, .ref b_ke, .int u_fd, .ref b_tp, .int u_td, .int u_fr, .int u_to, .int u_so, .long u_wo, .int u_fa, .int u_bd, .int u_nc, .ref b_nl, .int u_co, .ref b_op, .ref b_ar, .int u_le, .ref b_pi, .ref b_pa, .int u_pd, .int u_od, .ref b_ws, .ref b_hw, .int u_la, .ref b_se, .ref b_re, .int u_bk, .long u_va, .long u_su, .int u_ce, .int u_ho, .int u_wy, .int u_bt, .int u_ps, .ref b_pt, .int u_tg, .int u_sn, .ref b_ip, .int u_ic, .ref b_ah, .ref b_be, .ref b_me, .int u_wd, .ref b_tr, .ref b_ld, .long u_st, .ref b_wn, .int u_id])), (b_op, .inl (G.2 0, 400, .inl v_op)), (b_ar, .inl (G.2 0, 400, .inl v_ar))] sz)) 0 0 (va_A [(b_o, .inr (12, [.int u_th, .int u_sa, .ref b_rf, .ref b_ro, .ref b_im, .ref b_ke, .int u_fd, .ref b_tp, .int u_td, .int u_fr, .int u_to, .int u_so, .long u_wo, .int u_fa, .int u_bd, .int u_nc, .ref b_nl, .int u_co, .ref b_op, .ref b_ar, .int u_le, .ref b_pi, .ref b_pa, .int u_pd, .int u_od, .ref b_ws, .ref b_hw, .int u_la, .ref b_se, .ref b_re, .int u_bk, .long u_va, .long u_su, .int u_ce, .int u_ho, .int u_wy, .int u_bt, .int u_ps, .ref b_pt, .int u_tg, .int u_sn, .ref b_ip, .int u_ic, .ref b_ah, .ref b_be, .ref b_me, .int u_wd, .ref b_tr, .ref b_ld, .long u_st, .ref b_wn, .int u_id])), (b_op, .inl (G.2 0, 400, .inl v_op)), (b_ar, .inl (G.2 0, 400, .inl v_ar))] sz) := by
  refine Met.ofW (cc := cX12_emit) (maxL := 3) (ret := none) (by decide) rfl ?_
  intro p e s m args below meth c s₁ B hml hv
  obtain ⟨rfl, hsz, hP, hK, hD0, hN, hT⟩ := hv
  have hx := B.exec
  have hb := B.bytes
  have hr := B.returns
  have hts : ∀ w ∈ tblG, w.before _ s = true := fun w h => atoms_spec (ws := (wsG yX12_emit cX12_emit 3 none)) B.pre w (List.mem_cons_of_mem _ h)
  have hown : s.vm.findClass RX12 = some m.cls := findClass_of_methodNamed B.named
  have hlocks := B.notSynchronized
  subst hsz
  have hD := hD0.self (sz := s.heap.size)
  generalize hAe : va_A [(b_o, .inr (12, [.int u_th, .int u_sa, .ref b_rf, .ref b_ro, .ref b_im, .ref b_ke, .int u_fd, .ref b_tp, .int u_td, .int u_fr, .int u_to, .int u_so, .long u_wo, .int u_fa, .int u_bd, .int u_nc, .ref b_nl, .int u_co, .ref b_op, .ref b_ar, .int u_le, .ref b_pi, .ref b_pa, .int u_pd, .int u_od, .ref b_ws, .ref b_hw, .int u_la, .ref b_se, .ref b_re, .int u_bk, .long u_va, .long u_su, .int u_ce, .int u_ho, .int u_wy, .int u_bt, .int u_ps, .ref b_pt, .int u_tg, .int u_sn, .ref b_ip, .int u_ic, .ref b_ah, .ref b_be, .ref b_me, .int u_wd, .ref b_tr, .ref b_ld, .long u_st, .ref b_wn, .int u_id])), (b_op, .inl (G.2 0, 400, .inl v_op)), (b_ar, .inl (G.2 0, 400, .inl v_ar))] s.heap.size = A at hD hT ⊢
  have hA : ∀ q : Nat, s.heap.size ≤ q → A q := fun q h => by rw [← hAe]; exact Or.inr h
  have hS : va_S A s.heap s.heap [] := va_S.rf
  have hP : va_P G.1 vwCl [(b_o, .inr (12, [.int u_th, .int u_sa, .ref b_rf, .ref b_ro, .ref b_im, .ref b_ke, .int u_fd, .ref b_tp, .int u_td, .int u_fr, .int u_to, .int u_so, .long u_wo, .int u_fa, .int u_bd, .int u_nc, .ref b_nl, .int u_co, .ref b_op, .ref b_ar, .int u_le, .ref b_pi, .ref b_pa, .int u_pd, .int u_od, .ref b_ws, .ref b_hw, .int u_la, .ref b_se, .ref b_re, .int u_bk, .long u_va, .long u_su, .int u_ce, .int u_ho, .int u_wy, .int u_bt, .int u_ps, .ref b_pt, .int u_tg, .int u_sn, .ref b_ip, .int u_ic, .ref b_ah, .ref b_be, .ref b_me, .int u_wd, .ref b_tr, .ref b_ld, .long u_st, .ref b_wn, .int u_id])), (b_op, .inl (G.2 0, 400, .inl v_op)), (b_ar, .inl (G.2 0, 400, .inl v_ar))] s.heap := hP
  have hl := lv_entry ([.ref b_o, .int p_1, .int p_2]) (n := 3) (Nat.le_of_ble_eq_true rfl)
  rw [lg_entry_eq]
  generalize (lg_sl ([.ref b_o, .int p_1, .int p_2]) ++ List.replicate (3 - (lg_sl ([.ref b_o, .int p_1, .int p_2])).length) Slot.unset).toArray = ls at hl ⊢
  have hl : lv_has ls 3 [(0, .ref b_o), (1, .int p_1), (2, .int p_2)] := hl
  refine lv_aload_n hx hb dX12_emit_0 rfl (lv_at hl 0 rfl) ?_
  refine va_get (D := G.1) (ci := 12) (v := .ref b_op) (C := RX12) (T := TX12) (N := 52) hx hb hts inG_X12 hown hK hP 0 rfl rfl 18 (by decide) (hts _ fl_X12_33) (fun _ h9 => h9) rfl dX12_emit_1 ?_
  refine lv_aload_n hx hb dX12_emit_4 rfl (lv_at hl 0 rfl) ?_
  refine va_get (D := G.1) (ci := 12) (v := .int u_co) (C := RX12) (T := TX12) (N := 52) hx hb hts inG_X12 hown hK hP 0 rfl rfl 17 (by decide) (hts _ fl_X12_237) (fun _ h9 => h9) rfl dX12_emit_5 ?_
  refine lv_iload_n hx hb dX12_emit_8 rfl (lv_at hl 1 rfl) ?_
  refine va_iast hx hb hK hP hD hS 1 0 rfl rfl (i := u_co) (x := p_1) (vp_in_iff.mpr ⟨by omega, by omega⟩) dX12_emit_9 (fun H locs hP hD hS => ?_)
  have hP : va_P G.1 vwCl [(b_o, .inr (12, [.int u_th, .int u_sa, .ref b_rf, .ref b_ro, .ref b_im, .ref b_ke, .int u_fd, .ref b_tp, .int u_td, .int u_fr, .int u_to, .int u_so, .long u_wo, .int u_fa, .int u_bd, .int u_nc, .ref b_nl, .int u_co, .ref b_op, .ref b_ar, .int u_le, .ref b_pi, .ref b_pa, .int u_pd, .int u_od, .ref b_ws, .ref b_hw, .int u_la, .ref b_se, .ref b_re, .int u_bk, .long u_va, .long u_su, .int u_ce, .int u_ho, .int u_wy, .int u_bt, .int u_ps, .ref b_pt, .int u_tg, .int u_sn, .ref b_ip, .int u_ic, .ref b_ah, .ref b_be, .ref b_me, .int u_wd, .ref b_tr, .ref b_ld, .long u_st, .ref b_wn, .int u_id])), (b_op, .inl (G.2 0, 400, .inl (upd v_op u_co.toNatClampNeg p_1))), (b_ar, .inl (G.2 0, 400, .inl v_ar))] H := hP
  have hD : va_D A [(b_o, .inr (12, [.int u_th, .int u_sa, .ref b_rf, .ref b_ro, .ref b_im, .ref b_ke, .int u_fd, .ref b_tp, .int u_td, .int u_fr, .int u_to, .int u_so, .long u_wo, .int u_fa, .int u_bd, .int u_nc, .ref b_nl, .int u_co, .ref b_op, .ref b_ar, .int u_le, .ref b_pi, .ref b_pa, .int u_pd, .int u_od, .ref b_ws, .ref b_hw, .int u_la, .ref b_se, .ref b_re, .int u_bk, .long u_va, .long u_su, .int u_ce, .int u_ho, .int u_wy, .int u_bt, .int u_ps, .ref b_pt, .int u_tg, .int u_sn, .ref b_ip, .int u_ic, .ref b_ah, .ref b_be, .ref b_me, .int u_wd, .ref b_tr, .ref b_ld, .long u_st, .ref b_wn, .int u_id])), (b_op, .inl (G.2 0, 400, .inl (upd v_op u_co.toNatClampNeg p_1))), (b_ar, .inl (G.2 0, 400, .inl v_ar))] := hD
  refine lv_aload_n hx hb dX12_emit_10 rfl (lv_at hl 0 rfl) ?_
  refine va_get (D := G.1) (ci := 12) (v := .ref b_ar) (C := RX12) (T := TX12) (N := 52) hx hb hts inG_X12 hown hK hP 0 rfl rfl 19 (by decide) (hts _ fl_X12_36) (fun _ h9 => h9) rfl dX12_emit_11 ?_
  refine lv_aload_n hx hb dX12_emit_14 rfl (lv_at hl 0 rfl) ?_
  refine va_get (D := G.1) (ci := 12) (v := .int u_co) (C := RX12) (T := TX12) (N := 52) hx hb hts inG_X12 hown hK hP 0 rfl rfl 17 (by decide) (hts _ fl_X12_237) (fun _ h9 => h9) rfl dX12_emit_15 ?_
  refine lv_iload_n hx hb dX12_emit_18 rfl (lv_at hl 2 rfl) ?_
  refine va_iast hx hb hK hP hD hS 2 0 rfl rfl (i := u_co) (x := p_2) (vp_in_iff.mpr ⟨by omega, by omega⟩) dX12_emit_19 (fun H locs hP hD hS => ?_)
  have hP : va_P G.1 vwCl [(b_o, .inr (12, [.int u_th, .int u_sa, .ref b_rf, .ref b_ro, .ref b_im, .ref b_ke, .int u_fd, .ref b_tp, .int u_td, .int u_fr, .int u_to, .int u_so, .long u_wo, .int u_fa, .int u_bd, .int u_nc, .ref b_nl, .int u_co, .ref b_op, .ref b_ar, .int u_le, .ref b_pi, .ref b_pa, .int u_pd, .int u_od, .ref b_ws, .ref b_hw, .int u_la, .ref b_se, .ref b_re, .int u_bk, .long u_va, .long u_su, .int u_ce, .int u_ho, .int u_wy, .int u_bt, .int u_ps, .ref b_pt, .int u_tg, .int u_sn, .ref b_ip, .int u_ic, .ref b_ah, .ref b_be, .ref b_me, .int u_wd, .ref b_tr, .ref b_ld, .long u_st, .ref b_wn, .int u_id])), (b_op, .inl (G.2 0, 400, .inl (upd v_op u_co.toNatClampNeg p_1))), (b_ar, .inl (G.2 0, 400, .inl (upd v_ar u_co.toNatClampNeg p_2)))] H := hP
  have hD : va_D A [(b_o, .inr (12, [.int u_th, .int u_sa, .ref b_rf, .ref b_ro, .ref b_im, .ref b_ke, .int u_fd, .ref b_tp, .int u_td, .int u_fr, .int u_to, .int u_so, .long u_wo, .int u_fa, .int u_bd, .int u_nc, .ref b_nl, .int u_co, .ref b_op, .ref b_ar, .int u_le, .ref b_pi, .ref b_pa, .int u_pd, .int u_od, .ref b_ws, .ref b_hw, .int u_la, .ref b_se, .ref b_re, .int u_bk, .long u_va, .long u_su, .int u_ce, .int u_ho, .int u_wy, .int u_bt, .int u_ps, .ref b_pt, .int u_tg, .int u_sn, .ref b_ip, .int u_ic, .ref b_ah, .ref b_be, .ref b_me, .int u_wd, .ref b_tr, .ref b_ld, .long u_st, .ref b_wn, .int u_id])), (b_op, .inl (G.2 0, 400, .inl (upd v_op u_co.toNatClampNeg p_1))), (b_ar, .inl (G.2 0, 400, .inl (upd v_ar u_co.toNatClampNeg p_2)))] := hD
  refine lv_aload_n hx hb dX12_emit_20 rfl (lv_at hl 0 rfl) ?_
  refine lv_dup hx hb dX12_emit_21 rfl ?_
  refine va_get (D := G.1) (ci := 12) (v := .int u_co) (C := RX12) (T := TX12) (N := 52) hx hb hts inG_X12 hown hK hP 0 rfl rfl 17 (by decide) (hts _ fl_X12_237) (fun _ h9 => h9) rfl dX12_emit_22 ?_
  refine lv_iconst (v := 1) hx hb dX12_emit_25 (by decide) ?_
  refine lv_iadd hx hb dX12_emit_26 ?_
  have t_1 : (u_co + 1).toInt = u_co.toInt + 1 := g5_iadd (a := u_co.toInt) (b := 1) (by rfl) (by decide) (by omega) (by omega)
  refine va_put (D := G.1) (ci := 12) (v := .int (u_co + 1)) (ty := .int) (C := RX12) (T := TX12) (N := 52) hx hb hts inG_X12 tyX12 tyX12_ok nmX12 hown hK hP hD hS 0 rfl rfl 17 (by decide) (hts _ fl_X12_237) (fun _ h9 => h9) rfl (by decide +kernel) rfl rfl (Nat.le_of_ble_eq_true rfl) dX12_emit_27 (fun H locs hP hD hS => ?_)
  have hP : va_P G.1 vwCl [(b_o, .inr (12, [.int u_th, .int u_sa, .ref b_rf, .ref b_ro, .ref b_im, .ref b_ke, .int u_fd, .ref b_tp, .int u_td, .int u_fr, .int u_to, .int u_so, .long u_wo, .int u_fa, .int u_bd, .int u_nc, .ref b_nl, .int (u_co + 1), .ref b_op, .ref b_ar, .int u_le, .ref b_pi, .ref b_pa, .int u_pd, .int u_od, .ref b_ws, .ref b_hw, .int u_la, .ref b_se, .ref b_re, .int u_bk, .long u_va, .long u_su, .int u_ce, .int u_ho, .int u_wy, .int u_bt, .int u_ps, .ref b_pt, .int u_tg, .int u_sn, .ref b_ip, .int u_ic, .ref b_ah, .ref b_be, .ref b_me, .int u_wd, .ref b_tr, .ref b_ld, .long u_st, .ref b_wn, .int u_id])), (b_op, .inl (G.2 0, 400, .inl (upd v_op u_co.toNatClampNeg p_1))), (b_ar, .inl (G.2 0, 400, .inl (upd v_ar u_co.toNatClampNeg p_2)))] H := hP
  have hD : va_D A [(b_o, .inr (12, [.int u_th, .int u_sa, .ref b_rf, .ref b_ro, .ref b_im, .ref b_ke, .int u_fd, .ref b_tp, .int u_td, .int u_fr, .int u_to, .int u_so, .long u_wo, .int u_fa, .int u_bd, .int u_nc, .ref b_nl, .int (u_co + 1), .ref b_op, .ref b_ar, .int u_le, .ref b_pi, .ref b_pa, .int u_pd, .int u_od, .ref b_ws, .ref b_hw, .int u_la, .ref b_se, .ref b_re, .int u_bk, .long u_va, .long u_su, .int u_ce, .int u_ho, .int u_wy, .int u_bt, .int u_ps, .ref b_pt, .int u_tg, .int u_sn, .ref b_ip, .int u_ic, .ref b_ah, .ref b_be, .ref b_me, .int u_wd, .ref b_tr, .ref b_ld, .long u_st, .ref b_wn, .int u_id])), (b_op, .inl (G.2 0, 400, .inl (upd v_op u_co.toNatClampNeg p_1))), (b_ar, .inl (G.2 0, 400, .inl (upd v_ar u_co.toNatClampNeg p_2)))] := hD
  exact W.vret hx hb hr (fun t ht hW => ⟨⟨[(b_o, .inr (12, [.int u_th, .int u_sa, .ref b_rf, .ref b_ro, .ref b_im, .ref b_ke, .int u_fd, .ref b_tp, .int u_td, .int u_fr, .int u_to, .int u_so, .long u_wo, .int u_fa, .int u_bd, .int u_nc, .ref b_nl, .int (u_co + 1), .ref b_op, .ref b_ar, .int u_le, .ref b_pi, .ref b_pa, .int u_pd, .int u_od, .ref b_ws, .ref b_hw, .int u_la, .ref b_se, .ref b_re, .int u_bk, .long u_va, .long u_su, .int u_ce, .int u_ho, .int u_wy, .int u_bt, .int u_ps, .ref b_pt, .int u_tg, .int u_sn, .ref b_ip, .int u_ic, .ref b_ah, .ref b_be, .ref b_me, .int u_wd, .ref b_tr, .ref b_ld, .long u_st, .ref b_wn, .int u_id])), (b_op, .inl (G.2 0, 400, .inl (upd v_op u_co.toNatClampNeg p_1))), (b_ar, .inl (G.2 0, 400, .inl (upd v_ar u_co.toNatClampNeg p_2)))], rfl, ⟨(u_co + 1), ⟨by omega, by omega⟩, by omega, rfl⟩, by rw [ht]; exact hP.sub [0, 1, 2] rfl, hD.sub [0, 1, 2] (by decide) rfl⟩, hS.F ht⟩) hS.2.2 dX12_emit_30
theorem dX12_push_0 : decode cX12_push 0 = .ok (.aload_n 0, 1) := by decide +kernel
theorem dX12_push_1 : decode cX12_push 1 = .ok (.getfield 39, 3) := by decide +kernel
theorem dX12_push_4 : decode cX12_push 4 = .ok (.aload_n 0, 1) := by decide +kernel
theorem dX12_push_5 : decode cX12_push 5 = .ok (.getfield 240, 3) := by decide +kernel
theorem dX12_push_8 : decode cX12_push 8 = .ok (.iload_n 1, 1) := by decide +kernel
theorem dX12_push_9 : decode cX12_push 9 = .ok (.iastore, 1) := by decide +kernel
theorem dX12_push_10 : decode cX12_push 10 = .ok (.aload_n 0, 1) := by decide +kernel
theorem dX12_push_11 : decode cX12_push 11 = .ok (.getfield 42, 3) := by decide +kernel
theorem dX12_push_14 : decode cX12_push 14 = .ok (.aload_n 0, 1) := by decide +kernel
theorem dX12_push_15 : decode cX12_push 15 = .ok (.getfield 240, 3) := by decide +kernel
theorem dX12_push_18 : decode cX12_push 18 = .ok (.iload_n 2, 1) := by decide +kernel
theorem dX12_push_19 : decode cX12_push 19 = .ok (.iastore, 1) := by decide +kernel
theorem dX12_push_20 : decode cX12_push 20 = .ok (.aload_n 0, 1) := by decide +kernel
theorem dX12_push_21 : decode cX12_push 21 = .ok (.dup, 1) := by decide +kernel
theorem dX12_push_22 : decode cX12_push 22 = .ok (.getfield 240, 3) := by decide +kernel
theorem dX12_push_25 : decode cX12_push 25 = .ok (.iconst 1, 1) := by decide +kernel
theorem dX12_push_26 : decode cX12_push 26 = .ok (.iadd, 1) := by decide +kernel
theorem dX12_push_27 : decode cX12_push 27 = .ok (.putfield 240, 3) := by decide +kernel
theorem dX12_push_30 : decode cX12_push 30 = .ok (.return_, 1) := by decide +kernel
theorem fl_X12_39 : Cond.fieldLink RX12 39 "LateGlassModel" "pile" "[I" ∈ tblG := tg 1224 (by decide +kernel) (by decide +kernel)
theorem fl_X12_240 : Cond.fieldLink RX12 240 "LateGlassModel" "piled" "I" ∈ tblG := tg 1226 (by decide +kernel) (by decide +kernel)
theorem fl_X12_42 : Cond.fieldLink RX12 42 "LateGlassModel" "pileAt" "[I" ∈ tblG := tg 1225 (by decide +kernel) (by decide +kernel)
set_option maxHeartbeats 4000000 in
set_option maxRecDepth 100000 in
theorem n_push (l : Launch) (G : g5_G) (b_o b_pi b_pa b_rf b_ro b_im b_ke b_tp b_nl b_op b_ar b_ws b_hw b_se b_re b_pt b_ip b_ah b_be b_me b_tr b_ld b_wn : Nat) (sz : Nat) (u_th : Int32) (u_sa : Int32) (u_fd : Int32) (u_td : Int32) (u_fr : Int32) (u_to : Int32) (u_so : Int32) (u_fa : Int32) (u_bd : Int32) (u_nc : Int32) (u_co : Int32) (u_le : Int32) (u_pd : Int32) (u_od : Int32) (u_la : Int32) (u_bk : Int32) (u_ce : Int32) (u_ho : Int32) (u_wy : Int32) (u_bt : Int32) (u_ps : Int32) (u_tg : Int32) (u_sn : Int32) (u_ic : Int32) (u_wd : Int32) (u_id : Int32) (p_1 : Int32) (p_2 : Int32) (u_wo : Int64) (u_va : Int64) (u_su : Int64) (u_st : Int64) (v_pi : Nat → Int32) (v_pa : Nat → Int32) (h_u_td : 0 ≤ u_td.toInt ∧ u_td.toInt ≤ 400) (h_u_fr : 0 ≤ u_fr.toInt ∧ u_fr.toInt ≤ 400) (h_u_to : 0 ≤ u_to.toInt ∧ u_to.toInt ≤ 400) (h_u_bd : 0 ≤ u_bd.toInt ∧ u_bd.toInt ≤ 1) (h_u_nc : 0 ≤ u_nc.toInt ∧ u_nc.toInt ≤ 12) (h_u_co : 0 ≤ u_co.toInt ∧ u_co.toInt ≤ 400) (h_u_pd : 0 ≤ u_pd.toInt ∧ u_pd.toInt ≤ 400) (h_u_la : 0 ≤ u_la.toInt ∧ u_la.toInt ≤ 4840) (h_u_bk : 0 ≤ u_bk.toInt ∧ u_bk.toInt ≤ 1) (h_u_ce : 0 ≤ u_ce.toInt ∧ u_ce.toInt ≤ 63) (h_u_ho : 0 ≤ u_ho.toInt ∧ u_ho.toInt ≤ 23) (h_u_wy : 0 ≤ u_wy.toInt ∧ u_wy.toInt ≤ 3) (h_u_bt : 0 ≤ u_bt.toInt ∧ u_bt.toInt ≤ 1000000) (h_u_ps : 0 ≤ u_ps.toInt ∧ u_ps.toInt ≤ 200) (h_u_ic : 0 ≤ u_ic.toInt ∧ u_ic.toInt ≤ 1) (h_u_id : 0 ≤ u_id.toInt ∧ u_id.toInt ≤ 1) (e_c : u_pd.toInt < 400) : Met l yX12_push (wsG yX12_push cX12_push 3 none) ({ frames := 0, cells := 0, slots := 0, locals := 0 }) (va_Pc [.ref b_o, .int p_1, .int p_2] (g5_P G [(b_o, .inr (12, [.int u_th, .int u_sa, .ref b_rf, .ref b_ro, .ref b_im, .ref b_ke, .int u_fd, .ref b_tp, .int u_td, .int u_fr, .int u_to, .int u_so, .long u_wo, .int u_fa, .int u_bd, .int u_nc, .ref b_nl, .int u_co, .ref b_op, .ref b_ar, .int u_le, .ref b_pi, .ref b_pa, .int u_pd, .int u_od, .ref b_ws, .ref b_hw, .int u_la, .ref b_se, .ref b_re, .int u_bk, .long u_va, .long u_su, .int u_ce, .int u_ho, .int u_wy, .int u_bt, .int u_ps, .ref b_pt, .int u_tg, .int u_sn, .ref b_ip, .int u_ic, .ref b_ah, .ref b_be, .ref b_me, .int u_wd, .ref b_tr, .ref b_ld, .long u_st, .ref b_wn, .int u_id])), (b_pi, .inl (G.2 0, 400, .inl v_pi)), (b_pa, .inl (G.2 0, 400, .inl v_pa))] sz)) (va_Qv (fun (u : va_W) => (∃ (o_pd : Int32), (0 ≤ o_pd.toInt ∧ o_pd.toInt ≤ 400) ∧ (o_pd.toInt = u_pd.toInt + 1) ∧ (u = [(b_o, .inr (12, [.int u_th, .int u_sa, .ref b_rf, .ref b_ro, .ref b_im, .ref b_ke, .int u_fd, .ref b_tp, .int u_td, .int u_fr, .int u_to, .int u_so, .long u_wo, .int u_fa, .int u_bd, .int u_nc, .ref b_nl, .int u_co, .ref b_op, .ref b_ar, .int u_le, .ref b_pi, .ref b_pa, .int o_pd, .int u_od, .ref b_ws, .ref b_hw, .int u_la, .ref b_se, .ref b_re, .int u_bk, .long u_va, .long u_su, .int u_ce, .int u_ho, .int u_wy, .int u_bt, .int u_ps, .ref b_pt, .int u_tg, .int u_sn, .ref b_ip, .int u_ic, .ref b_ah, .ref b_be, .ref b_me, .int u_wd, .ref b_tr, .ref b_ld, .long u_st, .ref b_wn, .int u_id])), (b_pi, .inl (G.2 0, 400, .inl (upd v_pi u_pd.toNatClampNeg p_1))), (b_pa, .inl (G.2 0, 400, .inl (upd v_pa u_pd.toNatClampNeg p_2)))]))) (g5_B G (va_A [(b_o, .inr (12, [.int u_th, .int u_sa, .ref b_rf, .ref b_ro, .ref b_im, .ref b_ke, .int u_fd, .ref b_tp, .int u_td, .int u_fr, .int u_to, .int u_so, .long u_wo, .int u_fa, .int u_bd, .int u_nc, .ref b_nl, .int u_co, .ref b_op, .ref b_ar, .int u_le, .ref b_pi, .ref b_pa, .int u_pd, .int u_od, .ref b_ws, .ref b_hw, .int u_la, .ref b_se, .ref b_re, .int u_bk, .long u_va, .long u_su, .int u_ce, .int u_ho, .int u_wy, .int u_bt, .int u_ps, .ref b_pt, .int u_tg, .int u_sn, .ref b_ip, .int u_ic, .ref b_ah, .ref b_be, .ref b_me, .int u_wd, .ref b_tr, .ref b_ld, .long u_st, .ref b_wn, .int u_id])), (b_pi, .inl (G.2 0, 400, .inl v_pi)), (b_pa, .inl (G.2 0, 400, .inl v_pa))] sz)) (va_A [(b_o, .inr (12, [.int u_th, .int u_sa, .ref b_rf, .ref b_ro, .ref b_im, .ref b_ke, .int u_fd, .ref b_tp, .int u_td, .int u_fr, .int u_to, .int u_so, .long u_wo, .int u_fa, .int u_bd, .int u_nc, .ref b_nl, .int u_co, .ref b_op, .ref b_ar, .int u_le, .ref b_pi, .ref b_pa, .int u_pd, .int u_od, .ref b_ws, .ref b_hw, .int u_la, .ref b_se, .ref b_re, .int u_bk, .long u_va, .long u_su, .int u_ce, .int u_ho, .int u_wy, .int u_bt, .int u_ps, .ref b_pt, .int u_tg, .int u_sn, .ref b_ip, .int u_ic, .ref b_ah, .ref b_be, .ref b_me, .int u_wd, .ref b_tr, .ref b_ld, .long u_st, .ref b_wn, .int u_id])), (b_pi, .inl (G.2 0, 400, .inl v_pi)), (b_pa, .inl (G.2 0, 400, .inl v_pa))] sz)) 0 0 (va_A [(b_o, .inr (12, [.int u_th, .int u_sa, .ref b_rf, .ref b_ro, .ref b_im, .ref b_ke, .int u_fd, .ref b_tp, .int u_td, .int u_fr, .int u_to, .int u_so, .long u_wo, .int u_fa, .int u_bd, .int u_nc, .ref b_nl, .int u_co, .ref b_op, .ref b_ar, .int u_le, .ref b_pi, .ref b_pa, .int u_pd, .int u_od, .ref b_ws, .ref b_hw, .int u_la, .ref b_se, .ref b_re, .int u_bk, .long u_va, .long u_su, .int u_ce, .int u_ho, .int u_wy, .int u_bt, .int u_ps, .ref b_pt, .int u_tg, .int u_sn, .ref b_ip, .int u_ic, .ref b_ah, .ref b_be, .ref b_me, .int u_wd, .ref b_tr, .ref b_ld, .long u_st, .ref b_wn, .int u_id])), (b_pi, .inl (G.2 0, 400, .inl v_pi)), (b_pa, .inl (G.2 0, 400, .inl v_pa))] sz) := by
  refine Met.ofW (cc := cX12_push) (maxL := 3) (ret := none) (by decide) rfl ?_
  intro p e s m args below meth c s₁ B hml hv
  obtain ⟨rfl, hsz, hP, hK, hD0, hN, hT⟩ := hv
  have hx := B.exec
  have hb := B.bytes
  have hr := B.returns
  have hts : ∀ w ∈ tblG, w.before _ s = true := fun w h => atoms_spec (ws := (wsG yX12_push cX12_push 3 none)) B.pre w (List.mem_cons_of_mem _ h)
  have hown : s.vm.findClass RX12 = some m.cls := findClass_of_methodNamed B.named
  have hlocks := B.notSynchronized
  subst hsz
  have hD := hD0.self (sz := s.heap.size)
  generalize hAe : va_A [(b_o, .inr (12, [.int u_th, .int u_sa, .ref b_rf, .ref b_ro, .ref b_im, .ref b_ke, .int u_fd, .ref b_tp, .int u_td, .int u_fr, .int u_to, .int u_so, .long u_wo, .int u_fa, .int u_bd, .int u_nc, .ref b_nl, .int u_co, .ref b_op, .ref b_ar, .int u_le, .ref b_pi, .ref b_pa, .int u_pd, .int u_od, .ref b_ws, .ref b_hw, .int u_la, .ref b_se, .ref b_re, .int u_bk, .long u_va, .long u_su, .int u_ce, .int u_ho, .int u_wy, .int u_bt, .int u_ps, .ref b_pt, .int u_tg, .int u_sn, .ref b_ip, .int u_ic, .ref b_ah, .ref b_be, .ref b_me, .int u_wd, .ref b_tr, .ref b_ld, .long u_st, .ref b_wn, .int u_id])), (b_pi, .inl (G.2 0, 400, .inl v_pi)), (b_pa, .inl (G.2 0, 400, .inl v_pa))] s.heap.size = A at hD hT ⊢
  have hA : ∀ q : Nat, s.heap.size ≤ q → A q := fun q h => by rw [← hAe]; exact Or.inr h
  have hS : va_S A s.heap s.heap [] := va_S.rf
  have hP : va_P G.1 vwCl [(b_o, .inr (12, [.int u_th, .int u_sa, .ref b_rf, .ref b_ro, .ref b_im, .ref b_ke, .int u_fd, .ref b_tp, .int u_td, .int u_fr, .int u_to, .int u_so, .long u_wo, .int u_fa, .int u_bd, .int u_nc, .ref b_nl, .int u_co, .ref b_op, .ref b_ar, .int u_le, .ref b_pi, .ref b_pa, .int u_pd, .int u_od, .ref b_ws, .ref b_hw, .int u_la, .ref b_se, .ref b_re, .int u_bk, .long u_va, .long u_su, .int u_ce, .int u_ho, .int u_wy, .int u_bt, .int u_ps, .ref b_pt, .int u_tg, .int u_sn, .ref b_ip, .int u_ic, .ref b_ah, .ref b_be, .ref b_me, .int u_wd, .ref b_tr, .ref b_ld, .long u_st, .ref b_wn, .int u_id])), (b_pi, .inl (G.2 0, 400, .inl v_pi)), (b_pa, .inl (G.2 0, 400, .inl v_pa))] s.heap := hP
  have hl := lv_entry ([.ref b_o, .int p_1, .int p_2]) (n := 3) (Nat.le_of_ble_eq_true rfl)
  rw [lg_entry_eq]
  generalize (lg_sl ([.ref b_o, .int p_1, .int p_2]) ++ List.replicate (3 - (lg_sl ([.ref b_o, .int p_1, .int p_2])).length) Slot.unset).toArray = ls at hl ⊢
  have hl : lv_has ls 3 [(0, .ref b_o), (1, .int p_1), (2, .int p_2)] := hl
  refine lv_aload_n hx hb dX12_push_0 rfl (lv_at hl 0 rfl) ?_
  refine va_get (D := G.1) (ci := 12) (v := .ref b_pi) (C := RX12) (T := TX12) (N := 52) hx hb hts inG_X12 hown hK hP 0 rfl rfl 21 (by decide) (hts _ fl_X12_39) (fun _ h9 => h9) rfl dX12_push_1 ?_
  refine lv_aload_n hx hb dX12_push_4 rfl (lv_at hl 0 rfl) ?_
  refine va_get (D := G.1) (ci := 12) (v := .int u_pd) (C := RX12) (T := TX12) (N := 52) hx hb hts inG_X12 hown hK hP 0 rfl rfl 23 (by decide) (hts _ fl_X12_240) (fun _ h9 => h9) rfl dX12_push_5 ?_
  refine lv_iload_n hx hb dX12_push_8 rfl (lv_at hl 1 rfl) ?_
  refine va_iast hx hb hK hP hD hS 1 0 rfl rfl (i := u_pd) (x := p_1) (vp_in_iff.mpr ⟨by omega, by omega⟩) dX12_push_9 (fun H locs hP hD hS => ?_)
  have hP : va_P G.1 vwCl [(b_o, .inr (12, [.int u_th, .int u_sa, .ref b_rf, .ref b_ro, .ref b_im, .ref b_ke, .int u_fd, .ref b_tp, .int u_td, .int u_fr, .int u_to, .int u_so, .long u_wo, .int u_fa, .int u_bd, .int u_nc, .ref b_nl, .int u_co, .ref b_op, .ref b_ar, .int u_le, .ref b_pi, .ref b_pa, .int u_pd, .int u_od, .ref b_ws, .ref b_hw, .int u_la, .ref b_se, .ref b_re, .int u_bk, .long u_va, .long u_su, .int u_ce, .int u_ho, .int u_wy, .int u_bt, .int u_ps, .ref b_pt, .int u_tg, .int u_sn, .ref b_ip, .int u_ic, .ref b_ah, .ref b_be, .ref b_me, .int u_wd, .ref b_tr, .ref b_ld, .long u_st, .ref b_wn, .int u_id])), (b_pi, .inl (G.2 0, 400, .inl (upd v_pi u_pd.toNatClampNeg p_1))), (b_pa, .inl (G.2 0, 400, .inl v_pa))] H := hP
  have hD : va_D A [(b_o, .inr (12, [.int u_th, .int u_sa, .ref b_rf, .ref b_ro, .ref b_im, .ref b_ke, .int u_fd, .ref b_tp, .int u_td, .int u_fr, .int u_to, .int u_so, .long u_wo, .int u_fa, .int u_bd, .int u_nc, .ref b_nl, .int u_co, .ref b_op, .ref b_ar, .int u_le, .ref b_pi, .ref b_pa, .int u_pd, .int u_od, .ref b_ws, .ref b_hw, .int u_la, .ref b_se, .ref b_re, .int u_bk, .long u_va, .long u_su, .int u_ce, .int u_ho, .int u_wy, .int u_bt, .int u_ps, .ref b_pt, .int u_tg, .int u_sn, .ref b_ip, .int u_ic, .ref b_ah, .ref b_be, .ref b_me, .int u_wd, .ref b_tr, .ref b_ld, .long u_st, .ref b_wn, .int u_id])), (b_pi, .inl (G.2 0, 400, .inl (upd v_pi u_pd.toNatClampNeg p_1))), (b_pa, .inl (G.2 0, 400, .inl v_pa))] := hD
  refine lv_aload_n hx hb dX12_push_10 rfl (lv_at hl 0 rfl) ?_
  refine va_get (D := G.1) (ci := 12) (v := .ref b_pa) (C := RX12) (T := TX12) (N := 52) hx hb hts inG_X12 hown hK hP 0 rfl rfl 22 (by decide) (hts _ fl_X12_42) (fun _ h9 => h9) rfl dX12_push_11 ?_
  refine lv_aload_n hx hb dX12_push_14 rfl (lv_at hl 0 rfl) ?_
  refine va_get (D := G.1) (ci := 12) (v := .int u_pd) (C := RX12) (T := TX12) (N := 52) hx hb hts inG_X12 hown hK hP 0 rfl rfl 23 (by decide) (hts _ fl_X12_240) (fun _ h9 => h9) rfl dX12_push_15 ?_
  refine lv_iload_n hx hb dX12_push_18 rfl (lv_at hl 2 rfl) ?_
  refine va_iast hx hb hK hP hD hS 2 0 rfl rfl (i := u_pd) (x := p_2) (vp_in_iff.mpr ⟨by omega, by omega⟩) dX12_push_19 (fun H locs hP hD hS => ?_)
  have hP : va_P G.1 vwCl [(b_o, .inr (12, [.int u_th, .int u_sa, .ref b_rf, .ref b_ro, .ref b_im, .ref b_ke, .int u_fd, .ref b_tp, .int u_td, .int u_fr, .int u_to, .int u_so, .long u_wo, .int u_fa, .int u_bd, .int u_nc, .ref b_nl, .int u_co, .ref b_op, .ref b_ar, .int u_le, .ref b_pi, .ref b_pa, .int u_pd, .int u_od, .ref b_ws, .ref b_hw, .int u_la, .ref b_se, .ref b_re, .int u_bk, .long u_va, .long u_su, .int u_ce, .int u_ho, .int u_wy, .int u_bt, .int u_ps, .ref b_pt, .int u_tg, .int u_sn, .ref b_ip, .int u_ic, .ref b_ah, .ref b_be, .ref b_me, .int u_wd, .ref b_tr, .ref b_ld, .long u_st, .ref b_wn, .int u_id])), (b_pi, .inl (G.2 0, 400, .inl (upd v_pi u_pd.toNatClampNeg p_1))), (b_pa, .inl (G.2 0, 400, .inl (upd v_pa u_pd.toNatClampNeg p_2)))] H := hP
  have hD : va_D A [(b_o, .inr (12, [.int u_th, .int u_sa, .ref b_rf, .ref b_ro, .ref b_im, .ref b_ke, .int u_fd, .ref b_tp, .int u_td, .int u_fr, .int u_to, .int u_so, .long u_wo, .int u_fa, .int u_bd, .int u_nc, .ref b_nl, .int u_co, .ref b_op, .ref b_ar, .int u_le, .ref b_pi, .ref b_pa, .int u_pd, .int u_od, .ref b_ws, .ref b_hw, .int u_la, .ref b_se, .ref b_re, .int u_bk, .long u_va, .long u_su, .int u_ce, .int u_ho, .int u_wy, .int u_bt, .int u_ps, .ref b_pt, .int u_tg, .int u_sn, .ref b_ip, .int u_ic, .ref b_ah, .ref b_be, .ref b_me, .int u_wd, .ref b_tr, .ref b_ld, .long u_st, .ref b_wn, .int u_id])), (b_pi, .inl (G.2 0, 400, .inl (upd v_pi u_pd.toNatClampNeg p_1))), (b_pa, .inl (G.2 0, 400, .inl (upd v_pa u_pd.toNatClampNeg p_2)))] := hD
  refine lv_aload_n hx hb dX12_push_20 rfl (lv_at hl 0 rfl) ?_
  refine lv_dup hx hb dX12_push_21 rfl ?_
  refine va_get (D := G.1) (ci := 12) (v := .int u_pd) (C := RX12) (T := TX12) (N := 52) hx hb hts inG_X12 hown hK hP 0 rfl rfl 23 (by decide) (hts _ fl_X12_240) (fun _ h9 => h9) rfl dX12_push_22 ?_
  refine lv_iconst (v := 1) hx hb dX12_push_25 (by decide) ?_
  refine lv_iadd hx hb dX12_push_26 ?_
  have t_1 : (u_pd + 1).toInt = u_pd.toInt + 1 := g5_iadd (a := u_pd.toInt) (b := 1) (by rfl) (by decide) (by omega) (by omega)
  refine va_put (D := G.1) (ci := 12) (v := .int (u_pd + 1)) (ty := .int) (C := RX12) (T := TX12) (N := 52) hx hb hts inG_X12 tyX12 tyX12_ok nmX12 hown hK hP hD hS 0 rfl rfl 23 (by decide) (hts _ fl_X12_240) (fun _ h9 => h9) rfl (by decide +kernel) rfl rfl (Nat.le_of_ble_eq_true rfl) dX12_push_27 (fun H locs hP hD hS => ?_)
  have hP : va_P G.1 vwCl [(b_o, .inr (12, [.int u_th, .int u_sa, .ref b_rf, .ref b_ro, .ref b_im, .ref b_ke, .int u_fd, .ref b_tp, .int u_td, .int u_fr, .int u_to, .int u_so, .long u_wo, .int u_fa, .int u_bd, .int u_nc, .ref b_nl, .int u_co, .ref b_op, .ref b_ar, .int u_le, .ref b_pi, .ref b_pa, .int (u_pd + 1), .int u_od, .ref b_ws, .ref b_hw, .int u_la, .ref b_se, .ref b_re, .int u_bk, .long u_va, .long u_su, .int u_ce, .int u_ho, .int u_wy, .int u_bt, .int u_ps, .ref b_pt, .int u_tg, .int u_sn, .ref b_ip, .int u_ic, .ref b_ah, .ref b_be, .ref b_me, .int u_wd, .ref b_tr, .ref b_ld, .long u_st, .ref b_wn, .int u_id])), (b_pi, .inl (G.2 0, 400, .inl (upd v_pi u_pd.toNatClampNeg p_1))), (b_pa, .inl (G.2 0, 400, .inl (upd v_pa u_pd.toNatClampNeg p_2)))] H := hP
  have hD : va_D A [(b_o, .inr (12, [.int u_th, .int u_sa, .ref b_rf, .ref b_ro, .ref b_im, .ref b_ke, .int u_fd, .ref b_tp, .int u_td, .int u_fr, .int u_to, .int u_so, .long u_wo, .int u_fa, .int u_bd, .int u_nc, .ref b_nl, .int u_co, .ref b_op, .ref b_ar, .int u_le, .ref b_pi, .ref b_pa, .int (u_pd + 1), .int u_od, .ref b_ws, .ref b_hw, .int u_la, .ref b_se, .ref b_re, .int u_bk, .long u_va, .long u_su, .int u_ce, .int u_ho, .int u_wy, .int u_bt, .int u_ps, .ref b_pt, .int u_tg, .int u_sn, .ref b_ip, .int u_ic, .ref b_ah, .ref b_be, .ref b_me, .int u_wd, .ref b_tr, .ref b_ld, .long u_st, .ref b_wn, .int u_id])), (b_pi, .inl (G.2 0, 400, .inl (upd v_pi u_pd.toNatClampNeg p_1))), (b_pa, .inl (G.2 0, 400, .inl (upd v_pa u_pd.toNatClampNeg p_2)))] := hD
  exact W.vret hx hb hr (fun t ht hW => ⟨⟨[(b_o, .inr (12, [.int u_th, .int u_sa, .ref b_rf, .ref b_ro, .ref b_im, .ref b_ke, .int u_fd, .ref b_tp, .int u_td, .int u_fr, .int u_to, .int u_so, .long u_wo, .int u_fa, .int u_bd, .int u_nc, .ref b_nl, .int u_co, .ref b_op, .ref b_ar, .int u_le, .ref b_pi, .ref b_pa, .int (u_pd + 1), .int u_od, .ref b_ws, .ref b_hw, .int u_la, .ref b_se, .ref b_re, .int u_bk, .long u_va, .long u_su, .int u_ce, .int u_ho, .int u_wy, .int u_bt, .int u_ps, .ref b_pt, .int u_tg, .int u_sn, .ref b_ip, .int u_ic, .ref b_ah, .ref b_be, .ref b_me, .int u_wd, .ref b_tr, .ref b_ld, .long u_st, .ref b_wn, .int u_id])), (b_pi, .inl (G.2 0, 400, .inl (upd v_pi u_pd.toNatClampNeg p_1))), (b_pa, .inl (G.2 0, 400, .inl (upd v_pa u_pd.toNatClampNeg p_2)))], rfl, ⟨(u_pd + 1), ⟨by omega, by omega⟩, by omega, rfl⟩, by rw [ht]; exact hP.sub [0, 1, 2] rfl, hD.sub [0, 1, 2] (by decide) rfl⟩, hS.F ht⟩) hS.2.2 dX12_push_30
theorem dX12_binds_0 : decode cX12_binds 0 = .ok (.iload_n 0, 1) := by decide +kernel
theorem dX12_binds_1 : decode cX12_binds 1 = .ok (.bipush 30, 2) := by decide +kernel
theorem dX12_binds_3 : decode cX12_binds 3 = .ok (.if_icmp .lt 7, 3) := by decide +kernel
theorem dX12_binds_6 : decode cX12_binds 6 = .ok (.iconst 0, 1) := by decide +kernel
theorem dX12_binds_7 : decode cX12_binds 7 = .ok (.goto 55, 3) := by decide +kernel
theorem dX12_binds_10 : decode cX12_binds 10 = .ok (.iload_n 0, 1) := by decide +kernel
theorem dX12_binds_11 : decode cX12_binds 11 = .ok (.bipush 29, 2) := by decide +kernel
theorem dX12_binds_13 : decode cX12_binds 13 = .ok (.if_icmp .ne 7, 3) := by decide +kernel
theorem dX12_binds_16 : decode cX12_binds 16 = .ok (.iconst 1, 1) := by decide +kernel
theorem dX12_binds_17 : decode cX12_binds 17 = .ok (.goto 45, 3) := by decide +kernel
theorem dX12_binds_20 : decode cX12_binds 20 = .ok (.iload_n 0, 1) := by decide +kernel
theorem dX12_binds_21 : decode cX12_binds 21 = .ok (.bipush 28, 2) := by decide +kernel
theorem dX12_binds_23 : decode cX12_binds 23 = .ok (.if_icmp .ne 7, 3) := by decide +kernel
theorem dX12_binds_26 : decode cX12_binds 26 = .ok (.iconst 2, 1) := by decide +kernel
theorem dX12_binds_27 : decode cX12_binds 27 = .ok (.goto 35, 3) := by decide +kernel
theorem dX12_binds_30 : decode cX12_binds 30 = .ok (.iload_n 0, 1) := by decide +kernel
theorem dX12_binds_31 : decode cX12_binds 31 = .ok (.bipush 27, 2) := by decide +kernel
theorem dX12_binds_33 : decode cX12_binds 33 = .ok (.if_icmp .ne 7, 3) := by decide +kernel
theorem dX12_binds_36 : decode cX12_binds 36 = .ok (.iconst 3, 1) := by decide +kernel
theorem dX12_binds_37 : decode cX12_binds 37 = .ok (.goto 25, 3) := by decide +kernel
theorem dX12_binds_40 : decode cX12_binds 40 = .ok (.iload_n 0, 1) := by decide +kernel
theorem dX12_binds_41 : decode cX12_binds 41 = .ok (.bipush 24, 2) := by decide +kernel
theorem dX12_binds_43 : decode cX12_binds 43 = .ok (.if_icmp .lt 7, 3) := by decide +kernel
theorem dX12_binds_46 : decode cX12_binds 46 = .ok (.iconst 4, 1) := by decide +kernel
theorem dX12_binds_47 : decode cX12_binds 47 = .ok (.goto 15, 3) := by decide +kernel
theorem dX12_binds_50 : decode cX12_binds 50 = .ok (.iload_n 0, 1) := by decide +kernel
theorem dX12_binds_51 : decode cX12_binds 51 = .ok (.bipush 22, 2) := by decide +kernel
theorem dX12_binds_53 : decode cX12_binds 53 = .ok (.if_icmp .lt 8, 3) := by decide +kernel
theorem dX12_binds_56 : decode cX12_binds 56 = .ok (.bipush 6, 2) := by decide +kernel
theorem dX12_binds_58 : decode cX12_binds 58 = .ok (.goto 4, 3) := by decide +kernel
theorem dX12_binds_61 : decode cX12_binds 61 = .ok (.iconst 5, 1) := by decide +kernel
theorem dX12_binds_62 : decode cX12_binds 62 = .ok (.ireturn, 1) := by decide +kernel
set_option maxHeartbeats 4000000 in
set_option maxRecDepth 100000 in
theorem n_binds (l : Launch) (G : g5_G) (sz : Nat) (p_0 : Int32) (h_p_0 : 20 ≤ p_0.toInt ∧ p_0.toInt ≤ 31) : Met l yX12_binds (wsG yX12_binds cX12_binds 1 (some .int)) ({ frames := 0, cells := 0, slots := 0, locals := 0 }) (va_Pc [.int p_0] (g5_P G [] sz)) (va_Qi (fun (r : Int32) (u : va_W) => (∃ (o_r : Int32), (0 ≤ o_r.toInt ∧ o_r.toInt ≤ 6) ∧ (o_r.toInt = bnd p_0.toInt) ∧ (r = o_r) ∧ (u = []))) (g5_B G (va_A [] sz)) (va_A [] sz)) 0 0 (va_A [] sz) := by
  refine Met.ofW (cc := cX12_binds) (maxL := 1) (ret := (some .int)) (by decide) rfl ?_
  intro p e s m args below meth c s₁ B hml hv
  obtain ⟨rfl, hsz, hP, hK, hD0, hN, hT⟩ := hv
  have hx := B.exec
  have hb := B.bytes
  have hr := B.returns
  have hts : ∀ w ∈ tblG, w.before _ s = true := fun w h => atoms_spec (ws := (wsG yX12_binds cX12_binds 1 (some .int))) B.pre w (List.mem_cons_of_mem _ h)
  have hown : s.vm.findClass RX12 = some m.cls := findClass_of_methodNamed B.named
  have hlocks := B.notSynchronized
  subst hsz
  have hD := hD0.self (sz := s.heap.size)
  generalize hAe : va_A [] s.heap.size = A at hD hT ⊢
  have hA : ∀ q : Nat, s.heap.size ≤ q → A q := fun q h => by rw [← hAe]; exact Or.inr h
  have hS : va_S A s.heap s.heap [] := va_S.rf
  have hP : va_P G.1 vwCl [] s.heap := hP
  have hl := lv_entry ([.int p_0]) (n := 1) (Nat.le_of_ble_eq_true rfl)
  rw [lg_entry_eq]
  generalize (lg_sl ([.int p_0]) ++ List.replicate (1 - (lg_sl ([.int p_0])).length) Slot.unset).toArray = ls at hl ⊢
  have hl : lv_has ls 1 [(0, .int p_0)] := hl
  refine lv_iload_n hx hb dX12_binds_0 rfl (lv_at hl 0 rfl) ?_
  refine lv_bipush (v := 30) hx hb dX12_binds_1 (by decide) ?_
  refine lv_icmp_lt (tgt := 10) hx hb dX12_binds_3 (by decide) (fun c_1 => ?_) (fun c_1 => ?_)
  ·
    have i_1 : p_0.toInt < 30 := by have z := g5_lt (a := p_0.toInt) (b := 30) (by rfl) (by decide) c_1; omega
    refine lv_iload_n hx hb dX12_binds_10 rfl (lv_at hl 0 rfl) ?_
    refine lv_bipush (v := 29) hx hb dX12_binds_11 (by decide) ?_
    refine lv_icmp_ne (tgt := 20) hx hb dX12_binds_13 (by decide) (fun c_2 => ?_) (fun c_2 => ?_)
    ·
      have n_2 : gNe (p_0.toInt) (29) := by have z := g5_ne (a := p_0.toInt) (b := 29) (by rfl) (by decide) c_2; unfold gNe; omega
      have i_2 : p_0.toInt ≤ 28 := by have z := g5_ne (a := p_0.toInt) (b := 29) (by rfl) (by decide) c_2; omega
      refine lv_iload_n hx hb dX12_binds_20 rfl (lv_at hl 0 rfl) ?_
      refine lv_bipush (v := 28) hx hb dX12_binds_21 (by decide) ?_
      refine lv_icmp_ne (tgt := 30) hx hb dX12_binds_23 (by decide) (fun c_3 => ?_) (fun c_3 => ?_)
      ·
        have n_3 : gNe (p_0.toInt) (28) := by have z := g5_ne (a := p_0.toInt) (b := 28) (by rfl) (by decide) c_3; unfold gNe; omega
        have i_3 : p_0.toInt ≤ 27 := by have z := g5_ne (a := p_0.toInt) (b := 28) (by rfl) (by decide) c_3; omega
        refine lv_iload_n hx hb dX12_binds_30 rfl (lv_at hl 0 rfl) ?_
        refine lv_bipush (v := 27) hx hb dX12_binds_31 (by decide) ?_
        refine lv_icmp_ne (tgt := 40) hx hb dX12_binds_33 (by decide) (fun c_4 => ?_) (fun c_4 => ?_)
        ·
          have n_4 : gNe (p_0.toInt) (27) := by have z := g5_ne (a := p_0.toInt) (b := 27) (by rfl) (by decide) c_4; unfold gNe; omega
          have i_4 : p_0.toInt ≤ 26 := by have z := g5_ne (a := p_0.toInt) (b := 27) (by rfl) (by decide) c_4; omega
          refine lv_iload_n hx hb dX12_binds_40 rfl (lv_at hl 0 rfl) ?_
          refine lv_bipush (v := 24) hx hb dX12_binds_41 (by decide) ?_
          refine lv_icmp_lt (tgt := 50) hx hb dX12_binds_43 (by decide) (fun c_5 => ?_) (fun c_5 => ?_)
          ·
            have i_5 : p_0.toInt < 24 := by have z := g5_lt (a := p_0.toInt) (b := 24) (by rfl) (by decide) c_5; omega
            refine lv_iload_n hx hb dX12_binds_50 rfl (lv_at hl 0 rfl) ?_
            refine lv_bipush (v := 22) hx hb dX12_binds_51 (by decide) ?_
            refine lv_icmp_lt (tgt := 61) hx hb dX12_binds_53 (by decide) (fun c_6 => ?_) (fun c_6 => ?_)
            ·
              have i_6 : p_0.toInt < 22 := by have z := g5_lt (a := p_0.toInt) (b := 22) (by rfl) (by decide) c_6; omega
              refine lv_iconst (v := 5) hx hb dX12_binds_61 (by decide) ?_
              exact W.iret (v := 5) hx hb hr (fun t ht hW => ⟨⟨5, [], rfl, ⟨5, ⟨by have zc_o_r : (5 : Int32).toInt = 5 := (by decide); omega, by have zc_o_r : (5 : Int32).toInt = 5 := (by decide); omega⟩, by rw [bnd_5 (by omega)]; decide, rfl, rfl⟩, by rw [ht]; exact hP.sub [] rfl, hD.sub [] (by decide) rfl⟩, hS.F ht⟩) hS.2.2 dX12_binds_62
            ·
              have i_6 : p_0.toInt ≥ 22 := by have z := g5_ltN (a := p_0.toInt) (b := 22) (by rfl) (by decide) c_6; omega
              refine lv_bipush (v := 6) hx hb dX12_binds_56 (by decide) ?_
              refine lv_goto (tgt := 62) hx hb dX12_binds_58 (by decide) ?_
              exact W.iret (v := 6) hx hb hr (fun t ht hW => ⟨⟨6, [], rfl, ⟨6, ⟨by have zc_o_r : (6 : Int32).toInt = 6 := (by decide); omega, by have zc_o_r : (6 : Int32).toInt = 6 := (by decide); omega⟩, by rw [bnd_6 (by omega) (by omega)]; decide, rfl, rfl⟩, by rw [ht]; exact hP.sub [] rfl, hD.sub [] (by decide) rfl⟩, hS.F ht⟩) hS.2.2 dX12_binds_62
          ·
            have i_5 : p_0.toInt ≥ 24 := by have z := g5_ltN (a := p_0.toInt) (b := 24) (by rfl) (by decide) c_5; omega
            refine lv_iconst (v := 4) hx hb dX12_binds_46 (by decide) ?_
            refine lv_goto (tgt := 62) hx hb dX12_binds_47 (by decide) ?_
            exact W.iret (v := 4) hx hb hr (fun t ht hW => ⟨⟨4, [], rfl, ⟨4, ⟨by have zc_o_r : (4 : Int32).toInt = 4 := (by decide); omega, by have zc_o_r : (4 : Int32).toInt = 4 := (by decide); omega⟩, by rw [bnd_4 (by omega) (by omega)]; decide, rfl, rfl⟩, by rw [ht]; exact hP.sub [] rfl, hD.sub [] (by decide) rfl⟩, hS.F ht⟩) hS.2.2 dX12_binds_62
        ·
          have i_4 : p_0.toInt = 27 := by have z := g5_neN (a := p_0.toInt) (b := 27) (by rfl) (by decide) c_4; omega
          refine lv_iconst (v := 3) hx hb dX12_binds_36 (by decide) ?_
          refine lv_goto (tgt := 62) hx hb dX12_binds_37 (by decide) ?_
          exact W.iret (v := 3) hx hb hr (fun t ht hW => ⟨⟨3, [], rfl, ⟨3, ⟨by have zc_o_r : (3 : Int32).toInt = 3 := (by decide); omega, by have zc_o_r : (3 : Int32).toInt = 3 := (by decide); omega⟩, by rw [bnd_3 (by omega)]; decide, rfl, rfl⟩, by rw [ht]; exact hP.sub [] rfl, hD.sub [] (by decide) rfl⟩, hS.F ht⟩) hS.2.2 dX12_binds_62
      ·
        have i_3 : p_0.toInt = 28 := by have z := g5_neN (a := p_0.toInt) (b := 28) (by rfl) (by decide) c_3; omega
        refine lv_iconst (v := 2) hx hb dX12_binds_26 (by decide) ?_
        refine lv_goto (tgt := 62) hx hb dX12_binds_27 (by decide) ?_
        exact W.iret (v := 2) hx hb hr (fun t ht hW => ⟨⟨2, [], rfl, ⟨2, ⟨by have zc_o_r : (2 : Int32).toInt = 2 := (by decide); omega, by have zc_o_r : (2 : Int32).toInt = 2 := (by decide); omega⟩, by rw [bnd_2 (by omega)]; decide, rfl, rfl⟩, by rw [ht]; exact hP.sub [] rfl, hD.sub [] (by decide) rfl⟩, hS.F ht⟩) hS.2.2 dX12_binds_62
    ·
      have i_2 : p_0.toInt = 29 := by have z := g5_neN (a := p_0.toInt) (b := 29) (by rfl) (by decide) c_2; omega
      refine lv_iconst (v := 1) hx hb dX12_binds_16 (by decide) ?_
      refine lv_goto (tgt := 62) hx hb dX12_binds_17 (by decide) ?_
      exact W.iret (v := 1) hx hb hr (fun t ht hW => ⟨⟨1, [], rfl, ⟨1, ⟨by have zc_o_r : (1 : Int32).toInt = 1 := (by decide); omega, by have zc_o_r : (1 : Int32).toInt = 1 := (by decide); omega⟩, by rw [bnd_1 (by omega)]; decide, rfl, rfl⟩, by rw [ht]; exact hP.sub [] rfl, hD.sub [] (by decide) rfl⟩, hS.F ht⟩) hS.2.2 dX12_binds_62
  ·
    have i_1 : p_0.toInt ≥ 30 := by have z := g5_ltN (a := p_0.toInt) (b := 30) (by rfl) (by decide) c_1; omega
    refine lv_iconst (v := 0) hx hb dX12_binds_6 (by decide) ?_
    refine lv_goto (tgt := 62) hx hb dX12_binds_7 (by decide) ?_
    exact W.iret (v := 0) hx hb hr (fun t ht hW => ⟨⟨0, [], rfl, ⟨0, ⟨by have zc_o_r : (0 : Int32).toInt = 0 := (by decide); omega, by have zc_o_r : (0 : Int32).toInt = 0 := (by decide); omega⟩, by rw [bnd_0 (by omega)]; decide, rfl, rfl⟩, by rw [ht]; exact hP.sub [] rfl, hD.sub [] (by decide) rfl⟩, hS.F ht⟩) hS.2.2 dX12_binds_62
set_option maxHeartbeats 4000000 in
set_option maxRecDepth 100000 in
theorem n_binds20 (l : Launch) (G : g5_G) (sz : Nat) : Met l yX12_binds (wsG yX12_binds cX12_binds 1 (some .int)) ({ frames := 0, cells := 0, slots := 0, locals := 0 }) (va_Pc [.int 20] (g5_P G [] sz)) (va_Qi (fun (r : Int32) (u : va_W) => ((r = 5) ∧ (u = []))) (g5_B G (va_A [] sz)) (va_A [] sz)) 0 0 (va_A [] sz) := by
  refine Met.ofW (cc := cX12_binds) (maxL := 1) (ret := (some .int)) (by decide) rfl ?_
  intro p e s m args below meth c s₁ B hml hv
  obtain ⟨rfl, hsz, hP, hK, hD0, hN, hT⟩ := hv
  have hx := B.exec
  have hb := B.bytes
  have hr := B.returns
  have hts : ∀ w ∈ tblG, w.before _ s = true := fun w h => atoms_spec (ws := (wsG yX12_binds cX12_binds 1 (some .int))) B.pre w (List.mem_cons_of_mem _ h)
  have hown : s.vm.findClass RX12 = some m.cls := findClass_of_methodNamed B.named
  have hlocks := B.notSynchronized
  subst hsz
  have hD := hD0.self (sz := s.heap.size)
  generalize hAe : va_A [] s.heap.size = A at hD hT ⊢
  have hA : ∀ q : Nat, s.heap.size ≤ q → A q := fun q h => by rw [← hAe]; exact Or.inr h
  have hS : va_S A s.heap s.heap [] := va_S.rf
  have hP : va_P G.1 vwCl [] s.heap := hP
  have hl := lv_entry ([.int 20]) (n := 1) (Nat.le_of_ble_eq_true rfl)
  rw [lg_entry_eq]
  generalize (lg_sl ([.int 20]) ++ List.replicate (1 - (lg_sl ([.int 20])).length) Slot.unset).toArray = ls at hl ⊢
  have hl : lv_has ls 1 [(0, .int 20)] := hl
  refine lv_iload_n hx hb dX12_binds_0 rfl (lv_at hl 0 rfl) ?_
  refine lv_bipush (v := 30) hx hb dX12_binds_1 (by decide) ?_
  refine lv_icmp_lt (tgt := 10) hx hb dX12_binds_3 (by decide) (fun c_1 => ?_) (fun c_1 => ?_)
  ·
    refine lv_iload_n hx hb dX12_binds_10 rfl (lv_at hl 0 rfl) ?_
    refine lv_bipush (v := 29) hx hb dX12_binds_11 (by decide) ?_
    refine lv_icmp_ne (tgt := 20) hx hb dX12_binds_13 (by decide) (fun c_2 => ?_) (fun c_2 => ?_)
    ·
      refine lv_iload_n hx hb dX12_binds_20 rfl (lv_at hl 0 rfl) ?_
      refine lv_bipush (v := 28) hx hb dX12_binds_21 (by decide) ?_
      refine lv_icmp_ne (tgt := 30) hx hb dX12_binds_23 (by decide) (fun c_3 => ?_) (fun c_3 => ?_)
      ·
        refine lv_iload_n hx hb dX12_binds_30 rfl (lv_at hl 0 rfl) ?_
        refine lv_bipush (v := 27) hx hb dX12_binds_31 (by decide) ?_
        refine lv_icmp_ne (tgt := 40) hx hb dX12_binds_33 (by decide) (fun c_4 => ?_) (fun c_4 => ?_)
        ·
          refine lv_iload_n hx hb dX12_binds_40 rfl (lv_at hl 0 rfl) ?_
          refine lv_bipush (v := 24) hx hb dX12_binds_41 (by decide) ?_
          refine lv_icmp_lt (tgt := 50) hx hb dX12_binds_43 (by decide) (fun c_5 => ?_) (fun c_5 => ?_)
          ·
            refine lv_iload_n hx hb dX12_binds_50 rfl (lv_at hl 0 rfl) ?_
            refine lv_bipush (v := 22) hx hb dX12_binds_51 (by decide) ?_
            refine lv_icmp_lt (tgt := 61) hx hb dX12_binds_53 (by decide) (fun c_6 => ?_) (fun c_6 => ?_)
            ·
              refine lv_iconst (v := 5) hx hb dX12_binds_61 (by decide) ?_
              exact W.iret (v := 5) hx hb hr (fun t ht hW => ⟨⟨5, [], rfl, ⟨rfl, rfl⟩, by rw [ht]; exact hP.sub [] rfl, hD.sub [] (by decide) rfl⟩, hS.F ht⟩) hS.2.2 dX12_binds_62
            ·
              exact absurd c_6 (by decide)
          ·
            exact absurd c_5 (by decide)
        ·
          exact absurd c_4 (by decide)
      ·
        exact absurd c_3 (by decide)
    ·
      exact absurd c_2 (by decide)
  ·
    exact absurd c_1 (by decide)
set_option maxHeartbeats 4000000 in
set_option maxRecDepth 100000 in
theorem n_binds21 (l : Launch) (G : g5_G) (sz : Nat) : Met l yX12_binds (wsG yX12_binds cX12_binds 1 (some .int)) ({ frames := 0, cells := 0, slots := 0, locals := 0 }) (va_Pc [.int 21] (g5_P G [] sz)) (va_Qi (fun (r : Int32) (u : va_W) => ((r = 5) ∧ (u = []))) (g5_B G (va_A [] sz)) (va_A [] sz)) 0 0 (va_A [] sz) := by
  refine Met.ofW (cc := cX12_binds) (maxL := 1) (ret := (some .int)) (by decide) rfl ?_
  intro p e s m args below meth c s₁ B hml hv
  obtain ⟨rfl, hsz, hP, hK, hD0, hN, hT⟩ := hv
  have hx := B.exec
  have hb := B.bytes
  have hr := B.returns
  have hts : ∀ w ∈ tblG, w.before _ s = true := fun w h => atoms_spec (ws := (wsG yX12_binds cX12_binds 1 (some .int))) B.pre w (List.mem_cons_of_mem _ h)
  have hown : s.vm.findClass RX12 = some m.cls := findClass_of_methodNamed B.named
  have hlocks := B.notSynchronized
  subst hsz
  have hD := hD0.self (sz := s.heap.size)
  generalize hAe : va_A [] s.heap.size = A at hD hT ⊢
  have hA : ∀ q : Nat, s.heap.size ≤ q → A q := fun q h => by rw [← hAe]; exact Or.inr h
  have hS : va_S A s.heap s.heap [] := va_S.rf
  have hP : va_P G.1 vwCl [] s.heap := hP
  have hl := lv_entry ([.int 21]) (n := 1) (Nat.le_of_ble_eq_true rfl)
  rw [lg_entry_eq]
  generalize (lg_sl ([.int 21]) ++ List.replicate (1 - (lg_sl ([.int 21])).length) Slot.unset).toArray = ls at hl ⊢
  have hl : lv_has ls 1 [(0, .int 21)] := hl
  refine lv_iload_n hx hb dX12_binds_0 rfl (lv_at hl 0 rfl) ?_
  refine lv_bipush (v := 30) hx hb dX12_binds_1 (by decide) ?_
  refine lv_icmp_lt (tgt := 10) hx hb dX12_binds_3 (by decide) (fun c_1 => ?_) (fun c_1 => ?_)
  ·
    refine lv_iload_n hx hb dX12_binds_10 rfl (lv_at hl 0 rfl) ?_
    refine lv_bipush (v := 29) hx hb dX12_binds_11 (by decide) ?_
    refine lv_icmp_ne (tgt := 20) hx hb dX12_binds_13 (by decide) (fun c_2 => ?_) (fun c_2 => ?_)
    ·
      refine lv_iload_n hx hb dX12_binds_20 rfl (lv_at hl 0 rfl) ?_
      refine lv_bipush (v := 28) hx hb dX12_binds_21 (by decide) ?_
      refine lv_icmp_ne (tgt := 30) hx hb dX12_binds_23 (by decide) (fun c_3 => ?_) (fun c_3 => ?_)
      ·
        refine lv_iload_n hx hb dX12_binds_30 rfl (lv_at hl 0 rfl) ?_
        refine lv_bipush (v := 27) hx hb dX12_binds_31 (by decide) ?_
        refine lv_icmp_ne (tgt := 40) hx hb dX12_binds_33 (by decide) (fun c_4 => ?_) (fun c_4 => ?_)
        ·
          refine lv_iload_n hx hb dX12_binds_40 rfl (lv_at hl 0 rfl) ?_
          refine lv_bipush (v := 24) hx hb dX12_binds_41 (by decide) ?_
          refine lv_icmp_lt (tgt := 50) hx hb dX12_binds_43 (by decide) (fun c_5 => ?_) (fun c_5 => ?_)
          ·
            refine lv_iload_n hx hb dX12_binds_50 rfl (lv_at hl 0 rfl) ?_
            refine lv_bipush (v := 22) hx hb dX12_binds_51 (by decide) ?_
            refine lv_icmp_lt (tgt := 61) hx hb dX12_binds_53 (by decide) (fun c_6 => ?_) (fun c_6 => ?_)
            ·
              refine lv_iconst (v := 5) hx hb dX12_binds_61 (by decide) ?_
              exact W.iret (v := 5) hx hb hr (fun t ht hW => ⟨⟨5, [], rfl, ⟨rfl, rfl⟩, by rw [ht]; exact hP.sub [] rfl, hD.sub [] (by decide) rfl⟩, hS.F ht⟩) hS.2.2 dX12_binds_62
            ·
              exact absurd c_6 (by decide)
          ·
            exact absurd c_5 (by decide)
        ·
          exact absurd c_4 (by decide)
      ·
        exact absurd c_3 (by decide)
    ·
      exact absurd c_2 (by decide)
  ·
    exact absurd c_1 (by decide)
