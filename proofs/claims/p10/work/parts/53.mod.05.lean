set_option maxHeartbeats 4000000 in
set_option maxRecDepth 100000 in
theorem n_rowsAt0 (l : Launch) (G : g5_G) (b_o b_ah b_be b_me b_rf b_ro b_im b_ke b_tp b_nl b_op b_ar b_pi b_pa b_ws b_hw b_se b_re b_pt b_ip b_tr b_ld b_wn : Nat) (sz : Nat) (u_th : Int32) (u_sa : Int32) (u_fd : Int32) (u_td : Int32) (u_fr : Int32) (u_to : Int32) (u_so : Int32) (u_fa : Int32) (u_bd : Int32) (u_nc : Int32) (u_co : Int32) (u_le : Int32) (u_pd : Int32) (u_od : Int32) (u_la : Int32) (u_bk : Int32) (u_ce : Int32) (u_ho : Int32) (u_wy : Int32) (u_bt : Int32) (u_ps : Int32) (u_tg : Int32) (u_sn : Int32) (u_ic : Int32) (u_wd : Int32) (u_id : Int32) (p_2 : Int32) (u_wo : Int64) (u_va : Int64) (u_su : Int64) (u_st : Int64) (v_ah : Nat → Int64) (v_be : Nat → Int64) (v_me : Nat → Int32) (h_u_td : 0 ≤ u_td.toInt ∧ u_td.toInt ≤ 400) (h_u_fr : 0 ≤ u_fr.toInt ∧ u_fr.toInt ≤ 400) (h_u_to : 0 ≤ u_to.toInt ∧ u_to.toInt ≤ 400) (h_u_bd : 0 ≤ u_bd.toInt ∧ u_bd.toInt ≤ 1) (h_u_nc : 0 ≤ u_nc.toInt ∧ u_nc.toInt ≤ 12) (h_u_co : 0 ≤ u_co.toInt ∧ u_co.toInt ≤ 400) (h_u_pd : 0 ≤ u_pd.toInt ∧ u_pd.toInt ≤ 400) (h_u_la : 0 ≤ u_la.toInt ∧ u_la.toInt ≤ 4840) (h_u_bk : 0 ≤ u_bk.toInt ∧ u_bk.toInt ≤ 1) (h_u_ce : 0 ≤ u_ce.toInt ∧ u_ce.toInt ≤ 63) (h_u_ho : 0 ≤ u_ho.toInt ∧ u_ho.toInt ≤ 23) (h_u_wy : 0 ≤ u_wy.toInt ∧ u_wy.toInt ≤ 3) (h_u_bt : 0 ≤ u_bt.toInt ∧ u_bt.toInt ≤ 1000000) (h_u_ps : 0 ≤ u_ps.toInt ∧ u_ps.toInt ≤ 200) (h_u_ic : 0 ≤ u_ic.toInt ∧ u_ic.toInt ≤ 1) (h_u_id : 0 ≤ u_id.toInt ∧ u_id.toInt ≤ 1) (h_p_2 : 0 ≤ p_2.toInt ∧ p_2.toInt ≤ 63) (e_ah : AH0 v_ah v_me) : Met l yX12_rowsAt (wsG yX12_rowsAt cX12_rowsAt 7 (some .long)) ({ frames := 0, cells := 0, slots := 0, locals := 0 }) (va_Pc [.ref b_o, .int 0, .int p_2] (g5_P G [(b_o, .inr (12, [.int u_th, .int u_sa, .ref b_rf, .ref b_ro, .ref b_im, .ref b_ke, .int u_fd, .ref b_tp, .int u_td, .int u_fr, .int u_to, .int u_so, .long u_wo, .int u_fa, .int u_bd, .int u_nc, .ref b_nl, .int u_co, .ref b_op, .ref b_ar, .int u_le, .ref b_pi, .ref b_pa, .int u_pd, .int u_od, .ref b_ws, .ref b_hw, .int u_la, .ref b_se, .ref b_re, .int u_bk, .long u_va, .long u_su, .int u_ce, .int u_ho, .int u_wy, .int u_bt, .int u_ps, .ref b_pt, .int u_tg, .int u_sn, .ref b_ip, .int u_ic, .ref b_ah, .ref b_be, .ref b_me, .int u_wd, .ref b_tr, .ref b_ld, .long u_st, .ref b_wn, .int u_id])), (b_ah, .inl (G.2 1, 49152, .inr (.inl v_ah))), (b_be, .inl (G.2 1, 49152, .inr (.inl v_be))), (b_me, .inl (G.2 0, 1536, .inl v_me))] sz)) (va_Ql (fun (r : Int64) (u : va_W) => (∃ (o_r : Int64), (64 ≤ (v_me p_2.toNatClampNeg).toInt → o_r = 0) ∧ (r = o_r) ∧ (u = [(b_o, .inr (12, [.int u_th, .int u_sa, .ref b_rf, .ref b_ro, .ref b_im, .ref b_ke, .int u_fd, .ref b_tp, .int u_td, .int u_fr, .int u_to, .int u_so, .long u_wo, .int u_fa, .int u_bd, .int u_nc, .ref b_nl, .int u_co, .ref b_op, .ref b_ar, .int u_le, .ref b_pi, .ref b_pa, .int u_pd, .int u_od, .ref b_ws, .ref b_hw, .int u_la, .ref b_se, .ref b_re, .int u_bk, .long u_va, .long u_su, .int u_ce, .int u_ho, .int u_wy, .int u_bt, .int u_ps, .ref b_pt, .int u_tg, .int u_sn, .ref b_ip, .int u_ic, .ref b_ah, .ref b_be, .ref b_me, .int u_wd, .ref b_tr, .ref b_ld, .long u_st, .ref b_wn, .int u_id])), (b_ah, .inl (G.2 1, 49152, .inr (.inl v_ah))), (b_be, .inl (G.2 1, 49152, .inr (.inl v_be))), (b_me, .inl (G.2 0, 1536, .inl v_me))]))) (g5_B G (va_A [(b_o, .inr (12, [.int u_th, .int u_sa, .ref b_rf, .ref b_ro, .ref b_im, .ref b_ke, .int u_fd, .ref b_tp, .int u_td, .int u_fr, .int u_to, .int u_so, .long u_wo, .int u_fa, .int u_bd, .int u_nc, .ref b_nl, .int u_co, .ref b_op, .ref b_ar, .int u_le, .ref b_pi, .ref b_pa, .int u_pd, .int u_od, .ref b_ws, .ref b_hw, .int u_la, .ref b_se, .ref b_re, .int u_bk, .long u_va, .long u_su, .int u_ce, .int u_ho, .int u_wy, .int u_bt, .int u_ps, .ref b_pt, .int u_tg, .int u_sn, .ref b_ip, .int u_ic, .ref b_ah, .ref b_be, .ref b_me, .int u_wd, .ref b_tr, .ref b_ld, .long u_st, .ref b_wn, .int u_id])), (b_ah, .inl (G.2 1, 49152, .inr (.inl v_ah))), (b_be, .inl (G.2 1, 49152, .inr (.inl v_be))), (b_me, .inl (G.2 0, 1536, .inl v_me))] sz)) (va_A [(b_o, .inr (12, [.int u_th, .int u_sa, .ref b_rf, .ref b_ro, .ref b_im, .ref b_ke, .int u_fd, .ref b_tp, .int u_td, .int u_fr, .int u_to, .int u_so, .long u_wo, .int u_fa, .int u_bd, .int u_nc, .ref b_nl, .int u_co, .ref b_op, .ref b_ar, .int u_le, .ref b_pi, .ref b_pa, .int u_pd, .int u_od, .ref b_ws, .ref b_hw, .int u_la, .ref b_se, .ref b_re, .int u_bk, .long u_va, .long u_su, .int u_ce, .int u_ho, .int u_wy, .int u_bt, .int u_ps, .ref b_pt, .int u_tg, .int u_sn, .ref b_ip, .int u_ic, .ref b_ah, .ref b_be, .ref b_me, .int u_wd, .ref b_tr, .ref b_ld, .long u_st, .ref b_wn, .int u_id])), (b_ah, .inl (G.2 1, 49152, .inr (.inl v_ah))), (b_be, .inl (G.2 1, 49152, .inr (.inl v_be))), (b_me, .inl (G.2 0, 1536, .inl v_me))] sz)) 0 0 (va_A [(b_o, .inr (12, [.int u_th, .int u_sa, .ref b_rf, .ref b_ro, .ref b_im, .ref b_ke, .int u_fd, .ref b_tp, .int u_td, .int u_fr, .int u_to, .int u_so, .long u_wo, .int u_fa, .int u_bd, .int u_nc, .ref b_nl, .int u_co, .ref b_op, .ref b_ar, .int u_le, .ref b_pi, .ref b_pa, .int u_pd, .int u_od, .ref b_ws, .ref b_hw, .int u_la, .ref b_se, .ref b_re, .int u_bk, .long u_va, .long u_su, .int u_ce, .int u_ho, .int u_wy, .int u_bt, .int u_ps, .ref b_pt, .int u_tg, .int u_sn, .ref b_ip, .int u_ic, .ref b_ah, .ref b_be, .ref b_me, .int u_wd, .ref b_tr, .ref b_ld, .long u_st, .ref b_wn, .int u_id])), (b_ah, .inl (G.2 1, 49152, .inr (.inl v_ah))), (b_be, .inl (G.2 1, 49152, .inr (.inl v_be))), (b_me, .inl (G.2 0, 1536, .inl v_me))] sz) := by
  refine Met.ofW (cc := cX12_rowsAt) (maxL := 7) (ret := (some .long)) (by decide) rfl ?_
  intro p e s m args below meth c s₁ B hml hv
  obtain ⟨rfl, hsz, hP, hK, hD0, hN, hT⟩ := hv
  have hx := B.exec
  have hb := B.bytes
  have hr := B.returns
  have hts : ∀ w ∈ tblG, w.before _ s = true := fun w h => atoms_spec (ws := (wsG yX12_rowsAt cX12_rowsAt 7 (some .long))) B.pre w (List.mem_cons_of_mem _ h)
  have hown : s.vm.findClass RX12 = some m.cls := findClass_of_methodNamed B.named
  have hlocks := B.notSynchronized
  subst hsz
  have hD := hD0.self (sz := s.heap.size)
  generalize hAe : va_A [(b_o, .inr (12, [.int u_th, .int u_sa, .ref b_rf, .ref b_ro, .ref b_im, .ref b_ke, .int u_fd, .ref b_tp, .int u_td, .int u_fr, .int u_to, .int u_so, .long u_wo, .int u_fa, .int u_bd, .int u_nc, .ref b_nl, .int u_co, .ref b_op, .ref b_ar, .int u_le, .ref b_pi, .ref b_pa, .int u_pd, .int u_od, .ref b_ws, .ref b_hw, .int u_la, .ref b_se, .ref b_re, .int u_bk, .long u_va, .long u_su, .int u_ce, .int u_ho, .int u_wy, .int u_bt, .int u_ps, .ref b_pt, .int u_tg, .int u_sn, .ref b_ip, .int u_ic, .ref b_ah, .ref b_be, .ref b_me, .int u_wd, .ref b_tr, .ref b_ld, .long u_st, .ref b_wn, .int u_id])), (b_ah, .inl (G.2 1, 49152, .inr (.inl v_ah))), (b_be, .inl (G.2 1, 49152, .inr (.inl v_be))), (b_me, .inl (G.2 0, 1536, .inl v_me))] s.heap.size = A at hD hT ⊢
  have hA : ∀ q : Nat, s.heap.size ≤ q → A q := fun q h => by rw [← hAe]; exact Or.inr h
  have hS : va_S A s.heap s.heap [] := va_S.rf
  have hP : va_P G.1 vwCl [(b_o, .inr (12, [.int u_th, .int u_sa, .ref b_rf, .ref b_ro, .ref b_im, .ref b_ke, .int u_fd, .ref b_tp, .int u_td, .int u_fr, .int u_to, .int u_so, .long u_wo, .int u_fa, .int u_bd, .int u_nc, .ref b_nl, .int u_co, .ref b_op, .ref b_ar, .int u_le, .ref b_pi, .ref b_pa, .int u_pd, .int u_od, .ref b_ws, .ref b_hw, .int u_la, .ref b_se, .ref b_re, .int u_bk, .long u_va, .long u_su, .int u_ce, .int u_ho, .int u_wy, .int u_bt, .int u_ps, .ref b_pt, .int u_tg, .int u_sn, .ref b_ip, .int u_ic, .ref b_ah, .ref b_be, .ref b_me, .int u_wd, .ref b_tr, .ref b_ld, .long u_st, .ref b_wn, .int u_id])), (b_ah, .inl (G.2 1, 49152, .inr (.inl v_ah))), (b_be, .inl (G.2 1, 49152, .inr (.inl v_be))), (b_me, .inl (G.2 0, 1536, .inl v_me))] s.heap := hP
  have hl := lv_entry ([.ref b_o, .int 0, .int p_2]) (n := 7) (Nat.le_of_ble_eq_true rfl)
  rw [lg_entry_eq]
  generalize (lg_sl ([.ref b_o, .int 0, .int p_2]) ++ List.replicate (7 - (lg_sl ([.ref b_o, .int 0, .int p_2])).length) Slot.unset).toArray = ls at hl ⊢
  have hl : lv_has ls 7 [(0, .ref b_o), (1, .int 0), (2, .int p_2)] := hl
  refine lv_lconst (v := 0) hx hb dX12_rowsAt_0 (by decide) ?_
  refine lv_lstore_n (lv' := [(3, .long 0), (0, .ref b_o), (1, .int 0), (2, .int p_2)]) hx hb dX12_rowsAt_1 rfl hl (by decide) rfl (fun ls hl => ?_)
  refine lv_iconst (v := 0) hx hb dX12_rowsAt_2 (by decide) ?_
  refine lv_istore (lv' := [(5, .int 0), (3, .long 0), (0, .ref b_o), (1, .int 0), (2, .int p_2)]) hx hb dX12_rowsAt_3 hl (by decide) rfl (fun ls hl => ?_)
  refine g5_loop (α := (Int64) × (Int32)) (fun (q : (Int64) × (Int32)) (ls : Array Slot) (H : Heap) (locs : List Loc) => match q with | (k5_3, k5_5) => lv_has ls 7 [(3, .long k5_3), (5, .int k5_5), (0, .ref b_o), (1, .int 0), (2, .int p_2)] ∧ va_P G.1 vwCl [(b_o, .inr (12, [.int u_th, .int u_sa, .ref b_rf, .ref b_ro, .ref b_im, .ref b_ke, .int u_fd, .ref b_tp, .int u_td, .int u_fr, .int u_to, .int u_so, .long u_wo, .int u_fa, .int u_bd, .int u_nc, .ref b_nl, .int u_co, .ref b_op, .ref b_ar, .int u_le, .ref b_pi, .ref b_pa, .int u_pd, .int u_od, .ref b_ws, .ref b_hw, .int u_la, .ref b_se, .ref b_re, .int u_bk, .long u_va, .long u_su, .int u_ce, .int u_ho, .int u_wy, .int u_bt, .int u_ps, .ref b_pt, .int u_tg, .int u_sn, .ref b_ip, .int u_ic, .ref b_ah, .ref b_be, .ref b_me, .int u_wd, .ref b_tr, .ref b_ld, .long u_st, .ref b_wn, .int u_id])), (b_ah, .inl (G.2 1, 49152, .inr (.inl v_ah))), (b_be, .inl (G.2 1, 49152, .inr (.inl v_be))), (b_me, .inl (G.2 0, 1536, .inl v_me))] H ∧ va_D A [(b_o, .inr (12, [.int u_th, .int u_sa, .ref b_rf, .ref b_ro, .ref b_im, .ref b_ke, .int u_fd, .ref b_tp, .int u_td, .int u_fr, .int u_to, .int u_so, .long u_wo, .int u_fa, .int u_bd, .int u_nc, .ref b_nl, .int u_co, .ref b_op, .ref b_ar, .int u_le, .ref b_pi, .ref b_pa, .int u_pd, .int u_od, .ref b_ws, .ref b_hw, .int u_la, .ref b_se, .ref b_re, .int u_bk, .long u_va, .long u_su, .int u_ce, .int u_ho, .int u_wy, .int u_bt, .int u_ps, .ref b_pt, .int u_tg, .int u_sn, .ref b_ip, .int u_ic, .ref b_ah, .ref b_be, .ref b_me, .int u_wd, .ref b_tr, .ref b_ld, .long u_st, .ref b_wn, .int u_id])), (b_ah, .inl (G.2 1, 49152, .inr (.inl v_ah))), (b_be, .inl (G.2 1, 49152, .inr (.inl v_be))), (b_me, .inl (G.2 0, 1536, .inl v_me))] ∧ va_S A s.heap H locs ∧ (0 ≤ k5_5.toInt ∧ k5_5.toInt ≤ 32) ∧ (64 ≤ (v_me p_2.toNatClampNeg).toInt → k5_3 = 0)) (fun (q : (Int64) × (Int32)) => match q with | (k5_3, k5_5) => Int.toNat (32 - k5_5.toInt)) (0, 0) ⟨lv_sub hl [1, 0, 2, 3, 4] rfl, hP, hD, hS, ⟨by decide, by decide⟩, fun _ => rfl⟩ ?_
  rintro ⟨k5_3, k5_5⟩ ls H locs ⟨hl, hP, hD, hS, i_1, i_2⟩ ih_5_3
  have hl : lv_has ls 7 [(3, .long k5_3), (5, .int k5_5), (0, .ref b_o), (1, .int 0), (2, .int p_2)] := hl
  have i_1 : 0 ≤ k5_5.toInt ∧ k5_5.toInt ≤ 32 := i_1
  have i_2 : 64 ≤ (v_me p_2.toNatClampNeg).toInt → k5_3 = 0 := i_2
  have hP : va_P G.1 vwCl [(b_o, .inr (12, [.int u_th, .int u_sa, .ref b_rf, .ref b_ro, .ref b_im, .ref b_ke, .int u_fd, .ref b_tp, .int u_td, .int u_fr, .int u_to, .int u_so, .long u_wo, .int u_fa, .int u_bd, .int u_nc, .ref b_nl, .int u_co, .ref b_op, .ref b_ar, .int u_le, .ref b_pi, .ref b_pa, .int u_pd, .int u_od, .ref b_ws, .ref b_hw, .int u_la, .ref b_se, .ref b_re, .int u_bk, .long u_va, .long u_su, .int u_ce, .int u_ho, .int u_wy, .int u_bt, .int u_ps, .ref b_pt, .int u_tg, .int u_sn, .ref b_ip, .int u_ic, .ref b_ah, .ref b_be, .ref b_me, .int u_wd, .ref b_tr, .ref b_ld, .long u_st, .ref b_wn, .int u_id])), (b_ah, .inl (G.2 1, 49152, .inr (.inl v_ah))), (b_be, .inl (G.2 1, 49152, .inr (.inl v_be))), (b_me, .inl (G.2 0, 1536, .inl v_me))] H := hP
  have hD : va_D A [(b_o, .inr (12, [.int u_th, .int u_sa, .ref b_rf, .ref b_ro, .ref b_im, .ref b_ke, .int u_fd, .ref b_tp, .int u_td, .int u_fr, .int u_to, .int u_so, .long u_wo, .int u_fa, .int u_bd, .int u_nc, .ref b_nl, .int u_co, .ref b_op, .ref b_ar, .int u_le, .ref b_pi, .ref b_pa, .int u_pd, .int u_od, .ref b_ws, .ref b_hw, .int u_la, .ref b_se, .ref b_re, .int u_bk, .long u_va, .long u_su, .int u_ce, .int u_ho, .int u_wy, .int u_bt, .int u_ps, .ref b_pt, .int u_tg, .int u_sn, .ref b_ip, .int u_ic, .ref b_ah, .ref b_be, .ref b_me, .int u_wd, .ref b_tr, .ref b_ld, .long u_st, .ref b_wn, .int u_id])), (b_ah, .inl (G.2 1, 49152, .inr (.inl v_ah))), (b_be, .inl (G.2 1, 49152, .inr (.inl v_be))), (b_me, .inl (G.2 0, 1536, .inl v_me))] := hD
  refine lv_iload hx hb dX12_rowsAt_5 (lv_at hl 1 rfl) ?_
  refine lv_bipush (v := 32) hx hb dX12_rowsAt_7 (by decide) ?_
  refine lv_icmp_ge (tgt := 50) hx hb dX12_rowsAt_9 (by decide) (fun c_4 => ?_) (fun c_4 => ?_)
  ·
    have i_4 : k5_5.toInt ≥ 32 := by have z := g5_ge (a := k5_5.toInt) (b := 32) (by rfl) (by decide) c_4; omega
    refine lv_lload_n hx hb dX12_rowsAt_50 rfl (lv_at hl 0 rfl) ?_
    exact W.lret (v := k5_3) hx hb hr (fun t ht hW => ⟨⟨k5_3, [(b_o, .inr (12, [.int u_th, .int u_sa, .ref b_rf, .ref b_ro, .ref b_im, .ref b_ke, .int u_fd, .ref b_tp, .int u_td, .int u_fr, .int u_to, .int u_so, .long u_wo, .int u_fa, .int u_bd, .int u_nc, .ref b_nl, .int u_co, .ref b_op, .ref b_ar, .int u_le, .ref b_pi, .ref b_pa, .int u_pd, .int u_od, .ref b_ws, .ref b_hw, .int u_la, .ref b_se, .ref b_re, .int u_bk, .long u_va, .long u_su, .int u_ce, .int u_ho, .int u_wy, .int u_bt, .int u_ps, .ref b_pt, .int u_tg, .int u_sn, .ref b_ip, .int u_ic, .ref b_ah, .ref b_be, .ref b_me, .int u_wd, .ref b_tr, .ref b_ld, .long u_st, .ref b_wn, .int u_id])), (b_ah, .inl (G.2 1, 49152, .inr (.inl v_ah))), (b_be, .inl (G.2 1, 49152, .inr (.inl v_be))), (b_me, .inl (G.2 0, 1536, .inl v_me))], rfl, ⟨k5_3, i_2, rfl, rfl⟩, by rw [ht]; exact hP.sub [0, 1, 2, 3] rfl, hD.sub [0, 1, 2, 3] (by decide) rfl⟩, hS.F ht⟩) hS.2.2 dX12_rowsAt_51
  ·
    have i_4 : k5_5.toInt < 32 := by have z := g5_geN (a := k5_5.toInt) (b := 32) (by rfl) (by decide) c_4; omega
    refine lv_bipush (v := 32) hx hb dX12_rowsAt_12 (by decide) ?_
    refine lv_bipush (v := 64) hx hb dX12_rowsAt_14 (by decide) ?_
    refine lv_iload_n hx hb dX12_rowsAt_16 rfl (lv_at hl 3 rfl) ?_
    refine lv_imul hx hb dX12_rowsAt_17 ?_
    refine g5_ti (v := 0) (by decide) ?_
    refine lv_iload_n hx hb dX12_rowsAt_18 rfl (lv_at hl 4 rfl) ?_
    refine lv_iadd hx hb dX12_rowsAt_19 ?_
    refine g5_ti (v := p_2) (by simp) ?_
    refine lv_imul hx hb dX12_rowsAt_20 ?_
    have t_5 : (32 * p_2).toInt = 32 * p_2.toInt := g5_imul (a := 32) (b := p_2.toInt) (by decide) (by rfl) (by omega) (by omega)
    refine lv_iload hx hb dX12_rowsAt_21 (lv_at hl 1 rfl) ?_
    refine lv_iadd hx hb dX12_rowsAt_23 ?_
    have t_6 : ((32 * p_2) + k5_5).toInt = (32 * p_2).toInt + k5_5.toInt := g5_iadd (a := (32 * p_2).toInt) (b := k5_5.toInt) (by rfl) (by rfl) (by omega) (by omega)
    refine lv_istore (lv' := [(6, .int ((32 * p_2) + k5_5)), (3, .long k5_3), (5, .int k5_5), (0, .ref b_o), (1, .int 0), (2, .int p_2)]) hx hb dX12_rowsAt_24 hl (by decide) rfl (fun ls hl => ?_)
    refine lv_lload_n hx hb dX12_rowsAt_26 rfl (lv_at hl 1 rfl) ?_
    refine lv_aload_n hx hb dX12_rowsAt_27 rfl (lv_at hl 3 rfl) ?_
    refine va_get (D := G.1) (ci := 12) (v := .ref b_ah) (C := RX12) (T := TX12) (N := 52) hx hb hts inG_X12 hown hK hP 0 rfl rfl 43 (by decide) (hts _ fl_X12_89) (fun _ h9 => h9) rfl dX12_rowsAt_28 ?_
    refine lv_iload hx hb dX12_rowsAt_31 (lv_at hl 0 rfl) ?_
    refine va_lald hx hb hK hP 1 1 rfl rfl (i := ((32 * p_2) + k5_5)) (vp_in_iff.mpr ⟨by omega, by omega⟩) dX12_rowsAt_33 ?_
    refine lv_aload_n hx hb dX12_rowsAt_34 rfl (lv_at hl 3 rfl) ?_
    refine va_get (D := G.1) (ci := 12) (v := .ref b_be) (C := RX12) (T := TX12) (N := 52) hx hb hts inG_X12 hown hK hP 0 rfl rfl 44 (by decide) (hts _ fl_X12_92) (fun _ h9 => h9) rfl dX12_rowsAt_35 ?_
    refine lv_iload hx hb dX12_rowsAt_38 (lv_at hl 0 rfl) ?_
    refine va_lald hx hb hK hP 2 1 rfl rfl (i := ((32 * p_2) + k5_5)) (vp_in_iff.mpr ⟨by omega, by omega⟩) dX12_rowsAt_40 ?_
    refine lv_lmul hx hb dX12_rowsAt_41 ?_
    refine lv_ladd hx hb dX12_rowsAt_42 ?_
    refine lv_lstore_n (lv' := [(3, .long (k5_3 + ((v_ah ((32 * p_2) + k5_5).toNatClampNeg) * (v_be ((32 * p_2) + k5_5).toNatClampNeg)))), (6, .int ((32 * p_2) + k5_5)), (5, .int k5_5), (0, .ref b_o), (1, .int 0), (2, .int p_2)]) hx hb dX12_rowsAt_43 rfl hl (by decide) rfl (fun ls hl => ?_)
    refine lv_iinc (v := (k5_5 + 1)) (lv' := [(5, .int (k5_5 + 1)), (3, .long (k5_3 + ((v_ah ((32 * p_2) + k5_5).toNatClampNeg) * (v_be ((32 * p_2) + k5_5).toNatClampNeg)))), (6, .int ((32 * p_2) + k5_5)), (0, .ref b_o), (1, .int 0), (2, .int p_2)]) hx hb dX12_rowsAt_44 hl (k := 2) rfl rfl (by decide) rfl (fun ls hl => ?_)
    have t_7 : (k5_5 + 1).toInt = k5_5.toInt + 1 := g5_iadd (a := k5_5.toInt) (b := 1) rfl (by decide) (by omega) (by omega)
    refine lv_goto (tgt := 5) hx hb dX12_rowsAt_47 (by decide) ?_
    exact ih_5_3 ((k5_3 + ((v_ah ((32 * p_2) + k5_5).toNatClampNeg) * (v_be ((32 * p_2) + k5_5).toNatClampNeg))), (k5_5 + 1)) ls H locs (show Int.toNat (32 - (k5_5 + 1).toInt) < Int.toNat (32 - k5_5.toInt) from g_up (show k5_5.toInt < (k5_5 + 1).toInt by omega) (show k5_5.toInt < 32 by omega)) ⟨lv_sub hl [1, 0, 3, 4, 5] rfl, hP, hD, hS, ⟨by omega, by omega⟩, ra_step (k := k5_5) e_ah i_2 ⟨by omega, by omega⟩ ⟨by omega, by omega⟩ (by omega)⟩
theorem dX12_path_0 : decode cX12_path 0 = .ok (.aload_n 0, 1) := by decide +kernel
theorem dX12_path_1 : decode cX12_path 1 = .ok (.iconst 0, 1) := by decide +kernel
theorem dX12_path_2 : decode cX12_path 2 = .ok (.putfield 107, 3) := by decide +kernel
theorem dX12_path_5 : decode cX12_path 5 = .ok (.iload_n 1, 1) := by decide +kernel
theorem dX12_path_6 : decode cX12_path 6 = .ok (.invokestatic 175, 3) := by decide +kernel
theorem dX12_path_9 : decode cX12_path 9 = .ok (.ifCond .ne 5, 3) := by decide +kernel
theorem dX12_path_12 : decode cX12_path 12 = .ok (.iconst (-1), 1) := by decide +kernel
theorem dX12_path_13 : decode cX12_path 13 = .ok (.ireturn, 1) := by decide +kernel
theorem dX12_path_14 : decode cX12_path 14 = .ok (.aload_n 0, 1) := by decide +kernel
theorem dX12_path_15 : decode cX12_path 15 = .ok (.invokevirtual 444, 3) := by decide +kernel
theorem dX12_path_18 : decode cX12_path 18 = .ok (.iconst (-1), 1) := by decide +kernel
theorem dX12_path_19 : decode cX12_path 19 = .ok (.istore_n 2, 1) := by decide +kernel
theorem dX12_path_20 : decode cX12_path 20 = .ok (.iconst 0, 1) := by decide +kernel
theorem dX12_path_21 : decode cX12_path 21 = .ok (.istore_n 3, 1) := by decide +kernel
theorem dX12_path_22 : decode cX12_path 22 = .ok (.iconst 0, 1) := by decide +kernel
theorem dX12_path_23 : decode cX12_path 23 = .ok (.istore 4, 2) := by decide +kernel
theorem dX12_path_25 : decode cX12_path 25 = .ok (.iload 4, 2) := by decide +kernel
theorem dX12_path_27 : decode cX12_path 27 = .ok (.iload_n 1, 1) := by decide +kernel
theorem dX12_path_28 : decode cX12_path 28 = .ok (.if_icmp .gt 166, 3) := by decide +kernel
theorem dX12_path_31 : decode cX12_path 31 = .ok (.iconst (-1), 1) := by decide +kernel
theorem dX12_path_32 : decode cX12_path 32 = .ok (.istore 5, 2) := by decide +kernel
theorem dX12_path_34 : decode cX12_path 34 = .ok (.bipush 63, 2) := by decide +kernel
theorem dX12_path_36 : decode cX12_path 36 = .ok (.istore 6, 2) := by decide +kernel
theorem dX12_path_38 : decode cX12_path 38 = .ok (.iload 6, 2) := by decide +kernel
theorem dX12_path_40 : decode cX12_path 40 = .ok (.ifCond .lt 122, 3) := by decide +kernel
theorem dX12_path_43 : decode cX12_path 43 = .ok (.iload 4, 2) := by decide +kernel
theorem dX12_path_45 : decode cX12_path 45 = .ok (.ifCond .ne 23, 3) := by decide +kernel
theorem dX12_path_48 : decode cX12_path 48 = .ok (.aload_n 0, 1) := by decide +kernel
theorem dX12_path_49 : decode cX12_path 49 = .ok (.iconst 0, 1) := by decide +kernel
theorem dX12_path_50 : decode cX12_path 50 = .ok (.iload 6, 2) := by decide +kernel
theorem dX12_path_52 : decode cX12_path 52 = .ok (.invokevirtual 440, 3) := by decide +kernel
theorem dX12_path_55 : decode cX12_path 55 = .ok (.lconst 0, 1) := by decide +kernel
theorem dX12_path_56 : decode cX12_path 56 = .ok (.lcmp, 1) := by decide +kernel
theorem dX12_path_57 : decode cX12_path 57 = .ok (.ifCond .le 7, 3) := by decide +kernel
theorem dX12_path_60 : decode cX12_path 60 = .ok (.iconst 1, 1) := by decide +kernel
theorem dX12_path_61 : decode cX12_path 61 = .ok (.goto 79, 3) := by decide +kernel
theorem dX12_path_64 : decode cX12_path 64 = .ok (.iconst 0, 1) := by decide +kernel
theorem dX12_path_65 : decode cX12_path 65 = .ok (.goto 75, 3) := by decide +kernel
theorem dX12_path_68 : decode cX12_path 68 = .ok (.iload_n 2, 1) := by decide +kernel
theorem dX12_path_69 : decode cX12_path 69 = .ok (.iload 6, 2) := by decide +kernel
theorem dX12_path_71 : decode cX12_path 71 = .ok (.invokestatic 454, 3) := by decide +kernel
theorem dX12_path_74 : decode cX12_path 74 = .ok (.ifCond .eq 65, 3) := by decide +kernel
theorem dX12_path_77 : decode cX12_path 77 = .ok (.aload_n 0, 1) := by decide +kernel
theorem dX12_path_78 : decode cX12_path 78 = .ok (.getfield 95, 3) := by decide +kernel
theorem dX12_path_81 : decode cX12_path 81 = .ok (.bipush 64, 2) := by decide +kernel
theorem dX12_path_83 : decode cX12_path 83 = .ok (.iload 4, 2) := by decide +kernel
theorem dX12_path_85 : decode cX12_path 85 = .ok (.imul, 1) := by decide +kernel
theorem dX12_path_86 : decode cX12_path 86 = .ok (.iload 6, 2) := by decide +kernel
theorem dX12_path_88 : decode cX12_path 88 = .ok (.iadd, 1) := by decide +kernel
theorem dX12_path_89 : decode cX12_path 89 = .ok (.iaload, 1) := by decide +kernel
theorem dX12_path_90 : decode cX12_path 90 = .ok (.bipush 64, 2) := by decide +kernel
theorem dX12_path_92 : decode cX12_path 92 = .ok (.if_icmp .ge 47, 3) := by decide +kernel
theorem dX12_path_95 : decode cX12_path 95 = .ok (.aload_n 0, 1) := by decide +kernel
theorem dX12_path_96 : decode cX12_path 96 = .ok (.getfield 92, 3) := by decide +kernel
theorem dX12_path_99 : decode cX12_path 99 = .ok (.bipush 32, 2) := by decide +kernel
theorem dX12_path_101 : decode cX12_path 101 = .ok (.bipush 64, 2) := by decide +kernel
theorem dX12_path_103 : decode cX12_path 103 = .ok (.iload 4, 2) := by decide +kernel
theorem dX12_path_105 : decode cX12_path 105 = .ok (.imul, 1) := by decide +kernel
theorem dX12_path_106 : decode cX12_path 106 = .ok (.iload 6, 2) := by decide +kernel
theorem dX12_path_108 : decode cX12_path 108 = .ok (.iadd, 1) := by decide +kernel
theorem dX12_path_109 : decode cX12_path 109 = .ok (.imul, 1) := by decide +kernel
theorem dX12_path_110 : decode cX12_path 110 = .ok (.iload_n 3, 1) := by decide +kernel
theorem dX12_path_111 : decode cX12_path 111 = .ok (.aload_n 0, 1) := by decide +kernel
theorem dX12_path_112 : decode cX12_path 112 = .ok (.getfield 95, 3) := by decide +kernel
theorem dX12_path_115 : decode cX12_path 115 = .ok (.bipush 64, 2) := by decide +kernel
theorem dX12_path_117 : decode cX12_path 117 = .ok (.iload 4, 2) := by decide +kernel
theorem dX12_path_119 : decode cX12_path 119 = .ok (.imul, 1) := by decide +kernel
theorem dX12_path_120 : decode cX12_path 120 = .ok (.iload 6, 2) := by decide +kernel
theorem dX12_path_122 : decode cX12_path 122 = .ok (.iadd, 1) := by decide +kernel
theorem dX12_path_123 : decode cX12_path 123 = .ok (.iaload, 1) := by decide +kernel
theorem dX12_path_124 : decode cX12_path 124 = .ok (.bipush 31, 2) := by decide +kernel
theorem dX12_path_126 : decode cX12_path 126 = .ok (.iand, 1) := by decide +kernel
theorem dX12_path_127 : decode cX12_path 127 = .ok (.ior, 1) := by decide +kernel
theorem dX12_path_128 : decode cX12_path 128 = .ok (.iadd, 1) := by decide +kernel
theorem dX12_path_129 : decode cX12_path 129 = .ok (.laload, 1) := by decide +kernel
theorem dX12_path_130 : decode cX12_path 130 = .ok (.lconst 0, 1) := by decide +kernel
theorem dX12_path_131 : decode cX12_path 131 = .ok (.lcmp, 1) := by decide +kernel
theorem dX12_path_132 : decode cX12_path 132 = .ok (.ifCond .le 7, 3) := by decide +kernel
theorem dX12_path_135 : decode cX12_path 135 = .ok (.iconst 1, 1) := by decide +kernel
theorem dX12_path_136 : decode cX12_path 136 = .ok (.goto 4, 3) := by decide +kernel
theorem dX12_path_139 : decode cX12_path 139 = .ok (.iconst 0, 1) := by decide +kernel
theorem dX12_path_140 : decode cX12_path 140 = .ok (.istore 7, 2) := by decide +kernel
theorem dX12_path_142 : decode cX12_path 142 = .ok (.iload 7, 2) := by decide +kernel
theorem dX12_path_144 : decode cX12_path 144 = .ok (.ifCond .eq 8, 3) := by decide +kernel
theorem dX12_path_147 : decode cX12_path 147 = .ok (.iload 6, 2) := by decide +kernel
theorem dX12_path_149 : decode cX12_path 149 = .ok (.goto 5, 3) := by decide +kernel
theorem dX12_path_152 : decode cX12_path 152 = .ok (.iload 5, 2) := by decide +kernel
theorem dX12_path_154 : decode cX12_path 154 = .ok (.istore 5, 2) := by decide +kernel
theorem dX12_path_156 : decode cX12_path 156 = .ok (.iinc 6 (-1), 3) := by decide +kernel
theorem dX12_path_159 : decode cX12_path 159 = .ok (.goto (-121), 3) := by decide +kernel
theorem dX12_path_162 : decode cX12_path 162 = .ok (.iload 5, 2) := by decide +kernel
theorem dX12_path_164 : decode cX12_path 164 = .ok (.iconst (-1), 1) := by decide +kernel
theorem dX12_path_165 : decode cX12_path 165 = .ok (.if_icmp .ne 5, 3) := by decide +kernel
theorem dX12_path_168 : decode cX12_path 168 = .ok (.iconst (-1), 1) := by decide +kernel
theorem dX12_path_169 : decode cX12_path 169 = .ok (.ireturn, 1) := by decide +kernel
theorem dX12_path_170 : decode cX12_path 170 = .ok (.iload 5, 2) := by decide +kernel
theorem dX12_path_172 : decode cX12_path 172 = .ok (.istore_n 2, 1) := by decide +kernel
theorem dX12_path_173 : decode cX12_path 173 = .ok (.iload_n 3, 1) := by decide +kernel
theorem dX12_path_174 : decode cX12_path 174 = .ok (.aload_n 0, 1) := by decide +kernel
theorem dX12_path_175 : decode cX12_path 175 = .ok (.getfield 95, 3) := by decide +kernel
theorem dX12_path_178 : decode cX12_path 178 = .ok (.bipush 64, 2) := by decide +kernel
theorem dX12_path_180 : decode cX12_path 180 = .ok (.iload 4, 2) := by decide +kernel
theorem dX12_path_182 : decode cX12_path 182 = .ok (.imul, 1) := by decide +kernel
theorem dX12_path_183 : decode cX12_path 183 = .ok (.iload_n 2, 1) := by decide +kernel
theorem dX12_path_184 : decode cX12_path 184 = .ok (.iadd, 1) := by decide +kernel
theorem dX12_path_185 : decode cX12_path 185 = .ok (.iaload, 1) := by decide +kernel
theorem dX12_path_186 : decode cX12_path 186 = .ok (.ior, 1) := by decide +kernel
theorem dX12_path_187 : decode cX12_path 187 = .ok (.istore_n 3, 1) := by decide +kernel
theorem dX12_path_188 : decode cX12_path 188 = .ok (.iinc 4 1, 3) := by decide +kernel
theorem dX12_path_191 : decode cX12_path 191 = .ok (.goto (-166), 3) := by decide +kernel
theorem dX12_path_194 : decode cX12_path 194 = .ok (.iload_n 2, 1) := by decide +kernel
theorem dX12_path_195 : decode cX12_path 195 = .ok (.ireturn, 1) := by decide +kernel
set_option maxHeartbeats 4000000 in
set_option maxRecDepth 100000 in
theorem n_pathP (l : Launch) (G : g5_G) (b_o b_ro b_se b_re b_pt b_ah b_be b_me b_rf b_im b_ke b_tp b_nl b_op b_ar b_pi b_pa b_ws b_hw b_ip b_tr b_ld b_wn : Nat) (sz : Nat) (u_th : Int32) (u_sa : Int32) (u_fd : Int32) (u_td : Int32) (u_fr : Int32) (u_to : Int32) (u_so : Int32) (u_fa : Int32) (u_bd : Int32) (u_nc : Int32) (u_co : Int32) (u_le : Int32) (u_pd : Int32) (u_od : Int32) (u_la : Int32) (u_bk : Int32) (u_ce : Int32) (u_ho : Int32) (u_wy : Int32) (u_bt : Int32) (u_ps : Int32) (u_tg : Int32) (u_sn : Int32) (u_ic : Int32) (u_wd : Int32) (u_id : Int32) (p_1 : Int32) (u_wo : Int64) (u_va : Int64) (u_su : Int64) (u_st : Int64) (v_ro : Nat → Int32) (v_se : Nat → Int64) (v_re : Nat → Int64) (v_pt : Nat → Int32) (v_ah : Nat → Int64) (v_be : Nat → Int64) (v_me : Nat → Int32) (h_u_td : 0 ≤ u_td.toInt ∧ u_td.toInt ≤ 400) (h_u_fr : 0 ≤ u_fr.toInt ∧ u_fr.toInt ≤ 400) (h_u_to : 0 ≤ u_to.toInt ∧ u_to.toInt ≤ 400) (h_u_bd : 0 ≤ u_bd.toInt ∧ u_bd.toInt ≤ 1) (h_u_nc : 0 ≤ u_nc.toInt ∧ u_nc.toInt ≤ 12) (h_u_co : 0 ≤ u_co.toInt ∧ u_co.toInt ≤ 400) (h_u_pd : 0 ≤ u_pd.toInt ∧ u_pd.toInt ≤ 400) (h_u_la : 0 ≤ u_la.toInt ∧ u_la.toInt ≤ 4840) (h_u_bk : 0 ≤ u_bk.toInt ∧ u_bk.toInt ≤ 1) (h_u_ce : 0 ≤ u_ce.toInt ∧ u_ce.toInt ≤ 63) (h_u_ho : 0 ≤ u_ho.toInt ∧ u_ho.toInt ≤ 23) (h_u_wy : 0 ≤ u_wy.toInt ∧ u_wy.toInt ≤ 3) (h_u_bt : 0 ≤ u_bt.toInt ∧ u_bt.toInt ≤ 1000000) (h_u_ps : 0 ≤ u_ps.toInt ∧ u_ps.toInt ≤ 200) (h_u_ic : 0 ≤ u_ic.toInt ∧ u_ic.toInt ≤ 1) (h_u_id : 0 ≤ u_id.toInt ∧ u_id.toInt ≤ 1) (r_ro : MI v_ro) (r_pt : PTI v_pt) (r_me : MEI v_me) (e_ah : AH0 v_ah v_me) : Met l yX12_path (wsG yX12_path cX12_path 8 (some .int)) ({ frames := 10, cells := 0, slots := 0, locals := 251 }) (va_Pc [.ref b_o, .int p_1] (g5_P G [(b_o, .inr (12, [.int u_th, .int u_sa, .ref b_rf, .ref b_ro, .ref b_im, .ref b_ke, .int u_fd, .ref b_tp, .int u_td, .int u_fr, .int u_to, .int u_so, .long u_wo, .int u_fa, .int u_bd, .int u_nc, .ref b_nl, .int u_co, .ref b_op, .ref b_ar, .int u_le, .ref b_pi, .ref b_pa, .int u_pd, .int u_od, .ref b_ws, .ref b_hw, .int u_la, .ref b_se, .ref b_re, .int u_bk, .long u_va, .long u_su, .int u_ce, .int u_ho, .int u_wy, .int u_bt, .int u_ps, .ref b_pt, .int u_tg, .int u_sn, .ref b_ip, .int u_ic, .ref b_ah, .ref b_be, .ref b_me, .int u_wd, .ref b_tr, .ref b_ld, .long u_st, .ref b_wn, .int u_id])), (b_ro, .inl (G.2 0, 5740, .inl v_ro)), (b_se, .inl (G.2 1, 13, .inr (.inl v_se))), (b_re, .inl (G.2 1, 400, .inr (.inl v_re))), (b_pt, .inl (G.2 0, 200, .inl v_pt)), (b_ah, .inl (G.2 1, 49152, .inr (.inl v_ah))), (b_be, .inl (G.2 1, 49152, .inr (.inl v_be))), (b_me, .inl (G.2 0, 1536, .inl v_me))] sz)) (va_Qi (fun (r : Int32) (u : va_W) => (∃ (o_r : Int32) (o_th : Int32) (o_la : Int32) (o_bk : Int32) (o_va : Int64) (o_su : Int64) (o_ce : Int32) (o_ho : Int32) (o_wy : Int32) (o_bt : Int32) (o_ps : Int32) (o_tg : Int32) (o_sn : Int32) (o_ic : Int32) (o_wd : Int32) (o_se : Nat → Int64) (o_re : Nat → Int64) (o_pt : Nat → Int32) (o_ah : Nat → Int64) (o_be : Nat → Int64) (o_me : Nat → Int32), (0 ≤ o_la.toInt ∧ o_la.toInt ≤ 4840) ∧ (0 ≤ o_bk.toInt ∧ o_bk.toInt ≤ 1) ∧ (0 ≤ o_ce.toInt ∧ o_ce.toInt ≤ 63) ∧ (0 ≤ o_ho.toInt ∧ o_ho.toInt ≤ 23) ∧ (0 ≤ o_wy.toInt ∧ o_wy.toInt ≤ 3) ∧ (0 ≤ o_bt.toInt ∧ o_bt.toInt ≤ 1000000) ∧ (0 ≤ o_ps.toInt ∧ o_ps.toInt ≤ 200) ∧ (PTI o_pt) ∧ (0 ≤ o_ic.toInt ∧ o_ic.toInt ≤ 1) ∧ (MEI o_me) ∧ (AH0 o_ah o_me) ∧ (r = o_r) ∧ (u = [(b_o, .inr (12, [.int o_th, .int u_sa, .ref b_rf, .ref b_ro, .ref b_im, .ref b_ke, .int u_fd, .ref b_tp, .int u_td, .int u_fr, .int u_to, .int u_so, .long u_wo, .int u_fa, .int u_bd, .int u_nc, .ref b_nl, .int u_co, .ref b_op, .ref b_ar, .int u_le, .ref b_pi, .ref b_pa, .int u_pd, .int u_od, .ref b_ws, .ref b_hw, .int o_la, .ref b_se, .ref b_re, .int o_bk, .long o_va, .long o_su, .int o_ce, .int o_ho, .int o_wy, .int o_bt, .int o_ps, .ref b_pt, .int o_tg, .int o_sn, .ref b_ip, .int o_ic, .ref b_ah, .ref b_be, .ref b_me, .int o_wd, .ref b_tr, .ref b_ld, .long u_st, .ref b_wn, .int u_id])), (b_ro, .inl (G.2 0, 5740, .inl v_ro)), (b_se, .inl (G.2 1, 13, .inr (.inl o_se))), (b_re, .inl (G.2 1, 400, .inr (.inl o_re))), (b_pt, .inl (G.2 0, 200, .inl o_pt)), (b_ah, .inl (G.2 1, 49152, .inr (.inl o_ah))), (b_be, .inl (G.2 1, 49152, .inr (.inl o_be))), (b_me, .inl (G.2 0, 1536, .inl o_me))]))) (g5_B G (va_A [(b_o, .inr (12, [.int u_th, .int u_sa, .ref b_rf, .ref b_ro, .ref b_im, .ref b_ke, .int u_fd, .ref b_tp, .int u_td, .int u_fr, .int u_to, .int u_so, .long u_wo, .int u_fa, .int u_bd, .int u_nc, .ref b_nl, .int u_co, .ref b_op, .ref b_ar, .int u_le, .ref b_pi, .ref b_pa, .int u_pd, .int u_od, .ref b_ws, .ref b_hw, .int u_la, .ref b_se, .ref b_re, .int u_bk, .long u_va, .long u_su, .int u_ce, .int u_ho, .int u_wy, .int u_bt, .int u_ps, .ref b_pt, .int u_tg, .int u_sn, .ref b_ip, .int u_ic, .ref b_ah, .ref b_be, .ref b_me, .int u_wd, .ref b_tr, .ref b_ld, .long u_st, .ref b_wn, .int u_id])), (b_ro, .inl (G.2 0, 5740, .inl v_ro)), (b_se, .inl (G.2 1, 13, .inr (.inl v_se))), (b_re, .inl (G.2 1, 400, .inr (.inl v_re))), (b_pt, .inl (G.2 0, 200, .inl v_pt)), (b_ah, .inl (G.2 1, 49152, .inr (.inl v_ah))), (b_be, .inl (G.2 1, 49152, .inr (.inl v_be))), (b_me, .inl (G.2 0, 1536, .inl v_me))] sz)) (va_A [(b_o, .inr (12, [.int u_th, .int u_sa, .ref b_rf, .ref b_ro, .ref b_im, .ref b_ke, .int u_fd, .ref b_tp, .int u_td, .int u_fr, .int u_to, .int u_so, .long u_wo, .int u_fa, .int u_bd, .int u_nc, .ref b_nl, .int u_co, .ref b_op, .ref b_ar, .int u_le, .ref b_pi, .ref b_pa, .int u_pd, .int u_od, .ref b_ws, .ref b_hw, .int u_la, .ref b_se, .ref b_re, .int u_bk, .long u_va, .long u_su, .int u_ce, .int u_ho, .int u_wy, .int u_bt, .int u_ps, .ref b_pt, .int u_tg, .int u_sn, .ref b_ip, .int u_ic, .ref b_ah, .ref b_be, .ref b_me, .int u_wd, .ref b_tr, .ref b_ld, .long u_st, .ref b_wn, .int u_id])), (b_ro, .inl (G.2 0, 5740, .inl v_ro)), (b_se, .inl (G.2 1, 13, .inr (.inl v_se))), (b_re, .inl (G.2 1, 400, .inr (.inl v_re))), (b_pt, .inl (G.2 0, 200, .inl v_pt)), (b_ah, .inl (G.2 1, 49152, .inr (.inl v_ah))), (b_be, .inl (G.2 1, 49152, .inr (.inl v_be))), (b_me, .inl (G.2 0, 1536, .inl v_me))] sz)) 0 0 (va_A [(b_o, .inr (12, [.int u_th, .int u_sa, .ref b_rf, .ref b_ro, .ref b_im, .ref b_ke, .int u_fd, .ref b_tp, .int u_td, .int u_fr, .int u_to, .int u_so, .long u_wo, .int u_fa, .int u_bd, .int u_nc, .ref b_nl, .int u_co, .ref b_op, .ref b_ar, .int u_le, .ref b_pi, .ref b_pa, .int u_pd, .int u_od, .ref b_ws, .ref b_hw, .int u_la, .ref b_se, .ref b_re, .int u_bk, .long u_va, .long u_su, .int u_ce, .int u_ho, .int u_wy, .int u_bt, .int u_ps, .ref b_pt, .int u_tg, .int u_sn, .ref b_ip, .int u_ic, .ref b_ah, .ref b_be, .ref b_me, .int u_wd, .ref b_tr, .ref b_ld, .long u_st, .ref b_wn, .int u_id])), (b_ro, .inl (G.2 0, 5740, .inl v_ro)), (b_se, .inl (G.2 1, 13, .inr (.inl v_se))), (b_re, .inl (G.2 1, 400, .inr (.inl v_re))), (b_pt, .inl (G.2 0, 200, .inl v_pt)), (b_ah, .inl (G.2 1, 49152, .inr (.inl v_ah))), (b_be, .inl (G.2 1, 49152, .inr (.inl v_be))), (b_me, .inl (G.2 0, 1536, .inl v_me))] sz) := by
  refine Met.ofW (cc := cX12_path) (maxL := 8) (ret := (some .int)) (by decide) rfl ?_
  intro p e s m args below meth c s₁ B hml hv
  obtain ⟨rfl, hsz, hP, hK, hD0, hN, hT⟩ := hv
  have hx := B.exec
  have hb := B.bytes
  have hr := B.returns
  have hts : ∀ w ∈ tblG, w.before _ s = true := fun w h => atoms_spec (ws := (wsG yX12_path cX12_path 8 (some .int))) B.pre w (List.mem_cons_of_mem _ h)
  have hown : s.vm.findClass RX12 = some m.cls := findClass_of_methodNamed B.named
  have hlocks := B.notSynchronized
  subst hsz
  have hD := hD0.self (sz := s.heap.size)
  generalize hAe : va_A [(b_o, .inr (12, [.int u_th, .int u_sa, .ref b_rf, .ref b_ro, .ref b_im, .ref b_ke, .int u_fd, .ref b_tp, .int u_td, .int u_fr, .int u_to, .int u_so, .long u_wo, .int u_fa, .int u_bd, .int u_nc, .ref b_nl, .int u_co, .ref b_op, .ref b_ar, .int u_le, .ref b_pi, .ref b_pa, .int u_pd, .int u_od, .ref b_ws, .ref b_hw, .int u_la, .ref b_se, .ref b_re, .int u_bk, .long u_va, .long u_su, .int u_ce, .int u_ho, .int u_wy, .int u_bt, .int u_ps, .ref b_pt, .int u_tg, .int u_sn, .ref b_ip, .int u_ic, .ref b_ah, .ref b_be, .ref b_me, .int u_wd, .ref b_tr, .ref b_ld, .long u_st, .ref b_wn, .int u_id])), (b_ro, .inl (G.2 0, 5740, .inl v_ro)), (b_se, .inl (G.2 1, 13, .inr (.inl v_se))), (b_re, .inl (G.2 1, 400, .inr (.inl v_re))), (b_pt, .inl (G.2 0, 200, .inl v_pt)), (b_ah, .inl (G.2 1, 49152, .inr (.inl v_ah))), (b_be, .inl (G.2 1, 49152, .inr (.inl v_be))), (b_me, .inl (G.2 0, 1536, .inl v_me))] s.heap.size = A at hD hT ⊢
  have hA : ∀ q : Nat, s.heap.size ≤ q → A q := fun q h => by rw [← hAe]; exact Or.inr h
  have hS : va_S A s.heap s.heap [] := va_S.rf
  have hP : va_P G.1 vwCl [(b_o, .inr (12, [.int u_th, .int u_sa, .ref b_rf, .ref b_ro, .ref b_im, .ref b_ke, .int u_fd, .ref b_tp, .int u_td, .int u_fr, .int u_to, .int u_so, .long u_wo, .int u_fa, .int u_bd, .int u_nc, .ref b_nl, .int u_co, .ref b_op, .ref b_ar, .int u_le, .ref b_pi, .ref b_pa, .int u_pd, .int u_od, .ref b_ws, .ref b_hw, .int u_la, .ref b_se, .ref b_re, .int u_bk, .long u_va, .long u_su, .int u_ce, .int u_ho, .int u_wy, .int u_bt, .int u_ps, .ref b_pt, .int u_tg, .int u_sn, .ref b_ip, .int u_ic, .ref b_ah, .ref b_be, .ref b_me, .int u_wd, .ref b_tr, .ref b_ld, .long u_st, .ref b_wn, .int u_id])), (b_ro, .inl (G.2 0, 5740, .inl v_ro)), (b_se, .inl (G.2 1, 13, .inr (.inl v_se))), (b_re, .inl (G.2 1, 400, .inr (.inl v_re))), (b_pt, .inl (G.2 0, 200, .inl v_pt)), (b_ah, .inl (G.2 1, 49152, .inr (.inl v_ah))), (b_be, .inl (G.2 1, 49152, .inr (.inl v_be))), (b_me, .inl (G.2 0, 1536, .inl v_me))] s.heap := hP
  have hl := lv_entry ([.ref b_o, .int p_1]) (n := 8) (Nat.le_of_ble_eq_true rfl)
  rw [lg_entry_eq]
  generalize (lg_sl ([.ref b_o, .int p_1]) ++ List.replicate (8 - (lg_sl ([.ref b_o, .int p_1])).length) Slot.unset).toArray = ls at hl ⊢
  have hl : lv_has ls 8 [(0, .ref b_o), (1, .int p_1)] := hl
  refine lv_aload_n hx hb dX12_path_0 rfl (lv_at hl 0 rfl) ?_
  refine lv_iconst (v := 0) hx hb dX12_path_1 (by decide) ?_
  refine va_put (D := G.1) (ci := 12) (v := .int 0) (ty := .int) (C := RX12) (T := TX12) (N := 52) hx hb hts inG_X12 tyX12 tyX12_ok nmX12 hown hK hP hD hS 0 rfl rfl 0 (by decide) (hts _ fl_X12_107) (fun _ h9 => h9) rfl (by decide +kernel) rfl rfl (Nat.le_of_ble_eq_true rfl) dX12_path_2 (fun H locs hP hD hS => ?_)
  have hP : va_P G.1 vwCl [(b_o, .inr (12, [.int 0, .int u_sa, .ref b_rf, .ref b_ro, .ref b_im, .ref b_ke, .int u_fd, .ref b_tp, .int u_td, .int u_fr, .int u_to, .int u_so, .long u_wo, .int u_fa, .int u_bd, .int u_nc, .ref b_nl, .int u_co, .ref b_op, .ref b_ar, .int u_le, .ref b_pi, .ref b_pa, .int u_pd, .int u_od, .ref b_ws, .ref b_hw, .int u_la, .ref b_se, .ref b_re, .int u_bk, .long u_va, .long u_su, .int u_ce, .int u_ho, .int u_wy, .int u_bt, .int u_ps, .ref b_pt, .int u_tg, .int u_sn, .ref b_ip, .int u_ic, .ref b_ah, .ref b_be, .ref b_me, .int u_wd, .ref b_tr, .ref b_ld, .long u_st, .ref b_wn, .int u_id])), (b_ro, .inl (G.2 0, 5740, .inl v_ro)), (b_se, .inl (G.2 1, 13, .inr (.inl v_se))), (b_re, .inl (G.2 1, 400, .inr (.inl v_re))), (b_pt, .inl (G.2 0, 200, .inl v_pt)), (b_ah, .inl (G.2 1, 49152, .inr (.inl v_ah))), (b_be, .inl (G.2 1, 49152, .inr (.inl v_be))), (b_me, .inl (G.2 0, 1536, .inl v_me))] H := hP
  have hD : va_D A [(b_o, .inr (12, [.int 0, .int u_sa, .ref b_rf, .ref b_ro, .ref b_im, .ref b_ke, .int u_fd, .ref b_tp, .int u_td, .int u_fr, .int u_to, .int u_so, .long u_wo, .int u_fa, .int u_bd, .int u_nc, .ref b_nl, .int u_co, .ref b_op, .ref b_ar, .int u_le, .ref b_pi, .ref b_pa, .int u_pd, .int u_od, .ref b_ws, .ref b_hw, .int u_la, .ref b_se, .ref b_re, .int u_bk, .long u_va, .long u_su, .int u_ce, .int u_ho, .int u_wy, .int u_bt, .int u_ps, .ref b_pt, .int u_tg, .int u_sn, .ref b_ip, .int u_ic, .ref b_ah, .ref b_be, .ref b_me, .int u_wd, .ref b_tr, .ref b_ld, .long u_st, .ref b_wn, .int u_id])), (b_ro, .inl (G.2 0, 5740, .inl v_ro)), (b_se, .inl (G.2 1, 13, .inr (.inl v_se))), (b_re, .inl (G.2 1, 400, .inr (.inl v_re))), (b_pt, .inl (G.2 0, 200, .inl v_pt)), (b_ah, .inl (G.2 1, 49152, .inr (.inl v_ah))), (b_be, .inl (G.2 1, 49152, .inr (.inl v_be))), (b_me, .inl (G.2 0, 1536, .inl v_me))] := hD
  refine lv_iload_n hx hb dX12_path_5 rfl (lv_at hl 1 rfl) ?_
  have hPc := hP.sub (ws' := []) [] rfl
  have hDc := hD.sub (ws' := []) [] (by decide) rfl
  have hFc := va_free (wc := []) hD hS hA [] rfl
  refine va_calli (va_runS (As := [.int p_1]) (rest := []) ⟨hx, hb, hml, hown, hts⟩ (n_isHour l G H.size p_1) (va_cwS 1 hts gS_X12_175 rfl rfl rfl hs_X12_isHour ⟨Nat.le_of_ble_eq_true rfl, Nat.le_of_ble_eq_true rfl⟩) (g5_preS hPc hK hDc hN hT hS hFc) rfl rfl hl.1 rfl (lv_room (Nat.le_of_ble_eq_true rfl)) dX12_path_6 ⟨Nat.le_of_ble_eq_true rfl, Nat.le_of_ble_eq_true rfl⟩) hS (fun q _ h => hFc q h) hFc (fun r u t H1 locs ht hvm hw hB hz1 hk1 hS => ?_)
  obtain ⟨hP1, hD1⟩ := hB
  rw [ht] at hP1
  rcases hw with ⟨i_1, rfl, rfl⟩ | ⟨rfl, rfl⟩
  ·
    have i_1 : 0 ≤ p_1.toInt ∧ p_1.toInt ≤ 23 := i_1
    have hP := g5_same hP hk1
    generalize H1 = H at hP hS ⊢
    refine lv_if_ne (tgt := 14) hx hb dX12_path_9 (by decide) (fun c_2 => ?_) (fun c_2 => ?_)
    ·
      refine lv_aload_n hx hb dX12_path_14 rfl (lv_at hl 0 rfl) ?_
      have hPc := hP.sub (ws' := [(b_o, .inr (12, [.int 0, .int u_sa, .ref b_rf, .ref b_ro, .ref b_im, .ref b_ke, .int u_fd, .ref b_tp, .int u_td, .int u_fr, .int u_to, .int u_so, .long u_wo, .int u_fa, .int u_bd, .int u_nc, .ref b_nl, .int u_co, .ref b_op, .ref b_ar, .int u_le, .ref b_pi, .ref b_pa, .int u_pd, .int u_od, .ref b_ws, .ref b_hw, .int u_la, .ref b_se, .ref b_re, .int u_bk, .long u_va, .long u_su, .int u_ce, .int u_ho, .int u_wy, .int u_bt, .int u_ps, .ref b_pt, .int u_tg, .int u_sn, .ref b_ip, .int u_ic, .ref b_ah, .ref b_be, .ref b_me, .int u_wd, .ref b_tr, .ref b_ld, .long u_st, .ref b_wn, .int u_id])), (b_ro, .inl (G.2 0, 5740, .inl v_ro)), (b_se, .inl (G.2 1, 13, .inr (.inl v_se))), (b_re, .inl (G.2 1, 400, .inr (.inl v_re))), (b_pt, .inl (G.2 0, 200, .inl v_pt)), (b_ah, .inl (G.2 1, 49152, .inr (.inl v_ah))), (b_be, .inl (G.2 1, 49152, .inr (.inl v_be))), (b_me, .inl (G.2 0, 1536, .inl v_me))]) [0, 1, 2, 3, 4, 5, 6, 7] rfl
      have hDc := hD.sub (ws' := [(b_o, .inr (12, [.int 0, .int u_sa, .ref b_rf, .ref b_ro, .ref b_im, .ref b_ke, .int u_fd, .ref b_tp, .int u_td, .int u_fr, .int u_to, .int u_so, .long u_wo, .int u_fa, .int u_bd, .int u_nc, .ref b_nl, .int u_co, .ref b_op, .ref b_ar, .int u_le, .ref b_pi, .ref b_pa, .int u_pd, .int u_od, .ref b_ws, .ref b_hw, .int u_la, .ref b_se, .ref b_re, .int u_bk, .long u_va, .long u_su, .int u_ce, .int u_ho, .int u_wy, .int u_bt, .int u_ps, .ref b_pt, .int u_tg, .int u_sn, .ref b_ip, .int u_ic, .ref b_ah, .ref b_be, .ref b_me, .int u_wd, .ref b_tr, .ref b_ld, .long u_st, .ref b_wn, .int u_id])), (b_ro, .inl (G.2 0, 5740, .inl v_ro)), (b_se, .inl (G.2 1, 13, .inr (.inl v_se))), (b_re, .inl (G.2 1, 400, .inr (.inl v_re))), (b_pt, .inl (G.2 0, 200, .inl v_pt)), (b_ah, .inl (G.2 1, 49152, .inr (.inl v_ah))), (b_be, .inl (G.2 1, 49152, .inr (.inl v_be))), (b_me, .inl (G.2 0, 1536, .inl v_me))]) [0, 1, 2, 3, 4, 5, 6, 7] (by decide) rfl
      have hFc := va_free (wc := [(b_o, .inr (12, [.int 0, .int u_sa, .ref b_rf, .ref b_ro, .ref b_im, .ref b_ke, .int u_fd, .ref b_tp, .int u_td, .int u_fr, .int u_to, .int u_so, .long u_wo, .int u_fa, .int u_bd, .int u_nc, .ref b_nl, .int u_co, .ref b_op, .ref b_ar, .int u_le, .ref b_pi, .ref b_pa, .int u_pd, .int u_od, .ref b_ws, .ref b_hw, .int u_la, .ref b_se, .ref b_re, .int u_bk, .long u_va, .long u_su, .int u_ce, .int u_ho, .int u_wy, .int u_bt, .int u_ps, .ref b_pt, .int u_tg, .int u_sn, .ref b_ip, .int u_ic, .ref b_ah, .ref b_be, .ref b_me, .int u_wd, .ref b_tr, .ref b_ld, .long u_st, .ref b_wn, .int u_id])), (b_ro, .inl (G.2 0, 5740, .inl v_ro)), (b_se, .inl (G.2 1, 13, .inr (.inl v_se))), (b_re, .inl (G.2 1, 400, .inr (.inl v_re))), (b_pt, .inl (G.2 0, 200, .inl v_pt)), (b_ah, .inl (G.2 1, 49152, .inr (.inl v_ah))), (b_be, .inl (G.2 1, 49152, .inr (.inl v_be))), (b_me, .inl (G.2 0, 1536, .inl v_me))]) hD hS hA [0, 1, 2, 3, 4, 5, 6, 7] rfl
      refine va_callv (va_runV (As := []) (rest := []) ⟨hx, hb, hml, hown, hts⟩ (n_countRowsP l G b_o b_ro b_se b_re b_pt b_ah b_be b_me b_rf b_im b_ke b_tp b_nl b_op b_ar b_pi b_pa b_ws b_hw b_ip b_tr b_ld b_wn H.size 0 u_sa u_fd u_td u_fr u_to u_so u_fa u_bd u_nc u_co u_le u_pd u_od u_la u_bk u_ce u_ho u_wy u_bt u_ps u_tg u_sn u_ic u_wd u_id u_wo u_va u_su u_st v_ro v_se v_re v_pt v_ah v_be v_me ⟨by omega, by omega⟩ ⟨by omega, by omega⟩ ⟨by omega, by omega⟩ ⟨by omega, by omega⟩ ⟨by omega, by omega⟩ ⟨by omega, by omega⟩ ⟨by omega, by omega⟩ ⟨by omega, by omega⟩ ⟨by omega, by omega⟩ ⟨by omega, by omega⟩ ⟨by omega, by omega⟩ ⟨by omega, by omega⟩ ⟨by omega, by omega⟩ ⟨by omega, by omega⟩ ⟨by omega, by omega⟩ ⟨by omega, by omega⟩ (r_ro) (r_pt) (r_me) (e_ah)) (cwV 0 hts gV_X12_444 rfl rfl rfl hv_X12_countRows ⟨Nat.le_of_ble_eq_true rfl, Nat.le_of_ble_eq_true rfl⟩) (g5_preV hPc hK hDc hN hT hS hFc (ci := 12) (q0 := 0) rfl rfl) rfl rfl hl.1 rfl (lv_room (Nat.le_of_ble_eq_true rfl)) dX12_path_15 ⟨Nat.le_of_ble_eq_true rfl, Nat.le_of_ble_eq_true rfl⟩) hS (fun q _ h => hFc q h) hFc (fun u t H1 locs ht hvm hw hB hz1 hk1 hS => ?_)
      obtain ⟨hP1, hD1⟩ := hB
      rw [ht] at hP1
      obtain ⟨z14, z15, z16, z17, z18, z19, z20, z21, z22, z23, z24, z25, z26, z27, z28, z29, z30, z31, z32, i_3, i_4, i_5, i_6, i_7, i_8, i_9, i_10, i_11, i_12, i_13, rfl⟩ := hw
      have i_3 : 0 ≤ z14.toInt ∧ z14.toInt ≤ 4840 := i_3
      have i_4 : 0 ≤ z15.toInt ∧ z15.toInt ≤ 1 := i_4
      have i_5 : 0 ≤ z18.toInt ∧ z18.toInt ≤ 63 := i_5
      have i_6 : 0 ≤ z19.toInt ∧ z19.toInt ≤ 23 := i_6
      have i_7 : 0 ≤ z20.toInt ∧ z20.toInt ≤ 3 := i_7
      have i_8 : 0 ≤ z21.toInt ∧ z21.toInt ≤ 1000000 := i_8
      have i_9 : 0 ≤ z22.toInt ∧ z22.toInt ≤ 200 := i_9
      have i_10 : PTI z29 := i_10
      have i_11 : 0 ≤ z25.toInt ∧ z25.toInt ≤ 1 := i_11
      have i_12 : MEI z32 := i_12
      have i_13 : AH0 z30 z32 := i_13
      obtain ⟨hP, hD⟩ := va_join (wr := []) (w1 := [(b_o, .inr (12, [.int 0, .int u_sa, .ref b_rf, .ref b_ro, .ref b_im, .ref b_ke, .int u_fd, .ref b_tp, .int u_td, .int u_fr, .int u_to, .int u_so, .long u_wo, .int u_fa, .int u_bd, .int u_nc, .ref b_nl, .int u_co, .ref b_op, .ref b_ar, .int u_le, .ref b_pi, .ref b_pa, .int u_pd, .int u_od, .ref b_ws, .ref b_hw, .int z14, .ref b_se, .ref b_re, .int z15, .long z16, .long z17, .int z18, .int z19, .int z20, .int z21, .int z22, .ref b_pt, .int z23, .int z24, .ref b_ip, .int z25, .ref b_ah, .ref b_be, .ref b_me, .int z26, .ref b_tr, .ref b_ld, .long u_st, .ref b_wn, .int u_id])), (b_ro, .inl (G.2 0, 5740, .inl v_ro)), (b_se, .inl (G.2 1, 13, .inr (.inl z27))), (b_re, .inl (G.2 1, 400, .inr (.inl z28))), (b_pt, .inl (G.2 0, 200, .inl z29)), (b_ah, .inl (G.2 1, 49152, .inr (.inl z30))), (b_be, .inl (G.2 1, 49152, .inr (.inl z31))), (b_me, .inl (G.2 0, 1536, .inl z32))]) hP hD [0, 1, 2, 3, 4, 5, 6, 7] [] rfl rfl (by decide) (by decide) hk1 hFc hP1 hD1
      generalize H1 = H at hP hS ⊢
      have hP : va_P G.1 vwCl [(b_o, .inr (12, [.int 0, .int u_sa, .ref b_rf, .ref b_ro, .ref b_im, .ref b_ke, .int u_fd, .ref b_tp, .int u_td, .int u_fr, .int u_to, .int u_so, .long u_wo, .int u_fa, .int u_bd, .int u_nc, .ref b_nl, .int u_co, .ref b_op, .ref b_ar, .int u_le, .ref b_pi, .ref b_pa, .int u_pd, .int u_od, .ref b_ws, .ref b_hw, .int z14, .ref b_se, .ref b_re, .int z15, .long z16, .long z17, .int z18, .int z19, .int z20, .int z21, .int z22, .ref b_pt, .int z23, .int z24, .ref b_ip, .int z25, .ref b_ah, .ref b_be, .ref b_me, .int z26, .ref b_tr, .ref b_ld, .long u_st, .ref b_wn, .int u_id])), (b_ro, .inl (G.2 0, 5740, .inl v_ro)), (b_se, .inl (G.2 1, 13, .inr (.inl z27))), (b_re, .inl (G.2 1, 400, .inr (.inl z28))), (b_pt, .inl (G.2 0, 200, .inl z29)), (b_ah, .inl (G.2 1, 49152, .inr (.inl z30))), (b_be, .inl (G.2 1, 49152, .inr (.inl z31))), (b_me, .inl (G.2 0, 1536, .inl z32))] H := hP
      have hD : va_D A [(b_o, .inr (12, [.int 0, .int u_sa, .ref b_rf, .ref b_ro, .ref b_im, .ref b_ke, .int u_fd, .ref b_tp, .int u_td, .int u_fr, .int u_to, .int u_so, .long u_wo, .int u_fa, .int u_bd, .int u_nc, .ref b_nl, .int u_co, .ref b_op, .ref b_ar, .int u_le, .ref b_pi, .ref b_pa, .int u_pd, .int u_od, .ref b_ws, .ref b_hw, .int z14, .ref b_se, .ref b_re, .int z15, .long z16, .long z17, .int z18, .int z19, .int z20, .int z21, .int z22, .ref b_pt, .int z23, .int z24, .ref b_ip, .int z25, .ref b_ah, .ref b_be, .ref b_me, .int z26, .ref b_tr, .ref b_ld, .long u_st, .ref b_wn, .int u_id])), (b_ro, .inl (G.2 0, 5740, .inl v_ro)), (b_se, .inl (G.2 1, 13, .inr (.inl z27))), (b_re, .inl (G.2 1, 400, .inr (.inl z28))), (b_pt, .inl (G.2 0, 200, .inl z29)), (b_ah, .inl (G.2 1, 49152, .inr (.inl z30))), (b_be, .inl (G.2 1, 49152, .inr (.inl z31))), (b_me, .inl (G.2 0, 1536, .inl z32))] := hD
      refine lv_iconst (v := (-1)) hx hb dX12_path_18 (by decide) ?_
      refine lv_istore_n (lv' := [(2, .int (-1)), (0, .ref b_o), (1, .int p_1)]) hx hb dX12_path_19 rfl hl (by decide) rfl (fun ls hl => ?_)
      refine lv_iconst (v := 0) hx hb dX12_path_20 (by decide) ?_
      refine lv_istore_n (lv' := [(3, .int 0), (2, .int (-1)), (0, .ref b_o), (1, .int p_1)]) hx hb dX12_path_21 rfl hl (by decide) rfl (fun ls hl => ?_)
      refine lv_iconst (v := 0) hx hb dX12_path_22 (by decide) ?_
      refine lv_istore (lv' := [(4, .int 0), (3, .int 0), (2, .int (-1)), (0, .ref b_o), (1, .int p_1)]) hx hb dX12_path_23 hl (by decide) rfl (fun ls hl => ?_)
      refine g5_loop (α := (Int32) × (Int32) × (Int32)) (fun (q : (Int32) × (Int32) × (Int32)) (ls : Array Slot) (H : Heap) (locs : List Loc) => match q with | (k25_4, k25_3, k25_2) => lv_has ls 8 [(2, .int k25_2), (3, .int k25_3), (4, .int k25_4), (0, .ref b_o), (1, .int p_1)] ∧ va_P G.1 vwCl [(b_o, .inr (12, [.int 0, .int u_sa, .ref b_rf, .ref b_ro, .ref b_im, .ref b_ke, .int u_fd, .ref b_tp, .int u_td, .int u_fr, .int u_to, .int u_so, .long u_wo, .int u_fa, .int u_bd, .int u_nc, .ref b_nl, .int u_co, .ref b_op, .ref b_ar, .int u_le, .ref b_pi, .ref b_pa, .int u_pd, .int u_od, .ref b_ws, .ref b_hw, .int z14, .ref b_se, .ref b_re, .int z15, .long z16, .long z17, .int z18, .int z19, .int z20, .int z21, .int z22, .ref b_pt, .int z23, .int z24, .ref b_ip, .int z25, .ref b_ah, .ref b_be, .ref b_me, .int z26, .ref b_tr, .ref b_ld, .long u_st, .ref b_wn, .int u_id])), (b_ro, .inl (G.2 0, 5740, .inl v_ro)), (b_se, .inl (G.2 1, 13, .inr (.inl z27))), (b_re, .inl (G.2 1, 400, .inr (.inl z28))), (b_pt, .inl (G.2 0, 200, .inl z29)), (b_ah, .inl (G.2 1, 49152, .inr (.inl z30))), (b_be, .inl (G.2 1, 49152, .inr (.inl z31))), (b_me, .inl (G.2 0, 1536, .inl z32))] H ∧ va_D A [(b_o, .inr (12, [.int 0, .int u_sa, .ref b_rf, .ref b_ro, .ref b_im, .ref b_ke, .int u_fd, .ref b_tp, .int u_td, .int u_fr, .int u_to, .int u_so, .long u_wo, .int u_fa, .int u_bd, .int u_nc, .ref b_nl, .int u_co, .ref b_op, .ref b_ar, .int u_le, .ref b_pi, .ref b_pa, .int u_pd, .int u_od, .ref b_ws, .ref b_hw, .int z14, .ref b_se, .ref b_re, .int z15, .long z16, .long z17, .int z18, .int z19, .int z20, .int z21, .int z22, .ref b_pt, .int z23, .int z24, .ref b_ip, .int z25, .ref b_ah, .ref b_be, .ref b_me, .int z26, .ref b_tr, .ref b_ld, .long u_st, .ref b_wn, .int u_id])), (b_ro, .inl (G.2 0, 5740, .inl v_ro)), (b_se, .inl (G.2 1, 13, .inr (.inl z27))), (b_re, .inl (G.2 1, 400, .inr (.inl z28))), (b_pt, .inl (G.2 0, 200, .inl z29)), (b_ah, .inl (G.2 1, 49152, .inr (.inl z30))), (b_be, .inl (G.2 1, 49152, .inr (.inl z31))), (b_me, .inl (G.2 0, 1536, .inl z32))] ∧ va_S A s.heap H locs ∧ (0 ≤ k25_4.toInt ∧ k25_4.toInt ≤ 24) ∧ (0 ≤ k25_3.toInt ∧ k25_3.toInt ≤ 31) ∧ ((-1) ≤ k25_2.toInt ∧ k25_2.toInt ≤ 63)) (fun (q : (Int32) × (Int32) × (Int32)) => match q with | (k25_4, k25_3, k25_2) => Int.toNat (24 - k25_4.toInt)) (0, 0, (-1)) ⟨lv_sub hl [2, 1, 0, 3, 4] rfl, hP, hD, hS, ⟨by decide, by decide⟩, ⟨by decide, by decide⟩, ⟨by decide, by decide⟩⟩ ?_
      rintro ⟨k25_4, k25_3, k25_2⟩ ls H locs ⟨hl, hP, hD, hS, i_33, i_34, i_35⟩ ih_25_36
      have hl : lv_has ls 8 [(2, .int k25_2), (3, .int k25_3), (4, .int k25_4), (0, .ref b_o), (1, .int p_1)] := hl
      have i_33 : 0 ≤ k25_4.toInt ∧ k25_4.toInt ≤ 24 := i_33
      have i_34 : 0 ≤ k25_3.toInt ∧ k25_3.toInt ≤ 31 := i_34
      have i_35 : (-1) ≤ k25_2.toInt ∧ k25_2.toInt ≤ 63 := i_35
      have hP : va_P G.1 vwCl [(b_o, .inr (12, [.int 0, .int u_sa, .ref b_rf, .ref b_ro, .ref b_im, .ref b_ke, .int u_fd, .ref b_tp, .int u_td, .int u_fr, .int u_to, .int u_so, .long u_wo, .int u_fa, .int u_bd, .int u_nc, .ref b_nl, .int u_co, .ref b_op, .ref b_ar, .int u_le, .ref b_pi, .ref b_pa, .int u_pd, .int u_od, .ref b_ws, .ref b_hw, .int z14, .ref b_se, .ref b_re, .int z15, .long z16, .long z17, .int z18, .int z19, .int z20, .int z21, .int z22, .ref b_pt, .int z23, .int z24, .ref b_ip, .int z25, .ref b_ah, .ref b_be, .ref b_me, .int z26, .ref b_tr, .ref b_ld, .long u_st, .ref b_wn, .int u_id])), (b_ro, .inl (G.2 0, 5740, .inl v_ro)), (b_se, .inl (G.2 1, 13, .inr (.inl z27))), (b_re, .inl (G.2 1, 400, .inr (.inl z28))), (b_pt, .inl (G.2 0, 200, .inl z29)), (b_ah, .inl (G.2 1, 49152, .inr (.inl z30))), (b_be, .inl (G.2 1, 49152, .inr (.inl z31))), (b_me, .inl (G.2 0, 1536, .inl z32))] H := hP
      have hD : va_D A [(b_o, .inr (12, [.int 0, .int u_sa, .ref b_rf, .ref b_ro, .ref b_im, .ref b_ke, .int u_fd, .ref b_tp, .int u_td, .int u_fr, .int u_to, .int u_so, .long u_wo, .int u_fa, .int u_bd, .int u_nc, .ref b_nl, .int u_co, .ref b_op, .ref b_ar, .int u_le, .ref b_pi, .ref b_pa, .int u_pd, .int u_od, .ref b_ws, .ref b_hw, .int z14, .ref b_se, .ref b_re, .int z15, .long z16, .long z17, .int z18, .int z19, .int z20, .int z21, .int z22, .ref b_pt, .int z23, .int z24, .ref b_ip, .int z25, .ref b_ah, .ref b_be, .ref b_me, .int z26, .ref b_tr, .ref b_ld, .long u_st, .ref b_wn, .int u_id])), (b_ro, .inl (G.2 0, 5740, .inl v_ro)), (b_se, .inl (G.2 1, 13, .inr (.inl z27))), (b_re, .inl (G.2 1, 400, .inr (.inl z28))), (b_pt, .inl (G.2 0, 200, .inl z29)), (b_ah, .inl (G.2 1, 49152, .inr (.inl z30))), (b_be, .inl (G.2 1, 49152, .inr (.inl z31))), (b_me, .inl (G.2 0, 1536, .inl z32))] := hD
      refine lv_iload hx hb dX12_path_25 (lv_at hl 2 rfl) ?_
      refine lv_iload_n hx hb dX12_path_27 rfl (lv_at hl 4 rfl) ?_
      refine lv_icmp_gt (tgt := 194) hx hb dX12_path_28 (by decide) (fun c_37 => ?_) (fun c_37 => ?_)
      ·
        have i_37 : k25_4.toInt > p_1.toInt := by have z := g5_gt (a := k25_4.toInt) (b := p_1.toInt) (by rfl) (by rfl) c_37; omega
        refine lv_iload_n hx hb dX12_path_194 rfl (lv_at hl 0 rfl) ?_
        exact W.iret (v := k25_2) hx hb hr (fun t ht hW => ⟨⟨k25_2, [(b_o, .inr (12, [.int 0, .int u_sa, .ref b_rf, .ref b_ro, .ref b_im, .ref b_ke, .int u_fd, .ref b_tp, .int u_td, .int u_fr, .int u_to, .int u_so, .long u_wo, .int u_fa, .int u_bd, .int u_nc, .ref b_nl, .int u_co, .ref b_op, .ref b_ar, .int u_le, .ref b_pi, .ref b_pa, .int u_pd, .int u_od, .ref b_ws, .ref b_hw, .int z14, .ref b_se, .ref b_re, .int z15, .long z16, .long z17, .int z18, .int z19, .int z20, .int z21, .int z22, .ref b_pt, .int z23, .int z24, .ref b_ip, .int z25, .ref b_ah, .ref b_be, .ref b_me, .int z26, .ref b_tr, .ref b_ld, .long u_st, .ref b_wn, .int u_id])), (b_ro, .inl (G.2 0, 5740, .inl v_ro)), (b_se, .inl (G.2 1, 13, .inr (.inl z27))), (b_re, .inl (G.2 1, 400, .inr (.inl z28))), (b_pt, .inl (G.2 0, 200, .inl z29)), (b_ah, .inl (G.2 1, 49152, .inr (.inl z30))), (b_be, .inl (G.2 1, 49152, .inr (.inl z31))), (b_me, .inl (G.2 0, 1536, .inl z32))], rfl, ⟨k25_2, 0, z14, z15, z16, z17, z18, z19, z20, z21, z22, z23, z24, z25, z26, z27, z28, z29, z30, z31, z32, ⟨by omega, by omega⟩, ⟨by omega, by omega⟩, ⟨by omega, by omega⟩, ⟨by omega, by omega⟩, ⟨by omega, by omega⟩, ⟨by omega, by omega⟩, ⟨by omega, by omega⟩, i_10, ⟨by omega, by omega⟩, i_12, i_13, rfl, rfl⟩, by rw [ht]; exact hP.sub [0, 1, 2, 3, 4, 5, 6, 7] rfl, hD.sub [0, 1, 2, 3, 4, 5, 6, 7] (by decide) rfl⟩, hS.F ht⟩) hS.2.2 dX12_path_195
      ·
        have i_37 : k25_4.toInt ≤ p_1.toInt := by have z := g5_gtN (a := k25_4.toInt) (b := p_1.toInt) (by rfl) (by rfl) c_37; omega
        refine lv_iconst (v := (-1)) hx hb dX12_path_31 (by decide) ?_
        refine lv_istore (lv' := [(5, .int (-1)), (2, .int k25_2), (3, .int k25_3), (4, .int k25_4), (0, .ref b_o), (1, .int p_1)]) hx hb dX12_path_32 hl (by decide) rfl (fun ls hl => ?_)
        refine lv_bipush (v := 63) hx hb dX12_path_34 (by decide) ?_
        refine lv_istore (lv' := [(6, .int 63), (5, .int (-1)), (2, .int k25_2), (3, .int k25_3), (4, .int k25_4), (0, .ref b_o), (1, .int p_1)]) hx hb dX12_path_36 hl (by decide) rfl (fun ls hl => ?_)
        refine g5_loop (α := (Int32) × (Int32)) (fun (q : (Int32) × (Int32)) (ls : Array Slot) (H : Heap) (locs : List Loc) => match q with | (k38_6, k38_5) => lv_has ls 8 [(5, .int k38_5), (6, .int k38_6), (2, .int k25_2), (3, .int k25_3), (4, .int k25_4), (0, .ref b_o), (1, .int p_1)] ∧ va_P G.1 vwCl [(b_o, .inr (12, [.int 0, .int u_sa, .ref b_rf, .ref b_ro, .ref b_im, .ref b_ke, .int u_fd, .ref b_tp, .int u_td, .int u_fr, .int u_to, .int u_so, .long u_wo, .int u_fa, .int u_bd, .int u_nc, .ref b_nl, .int u_co, .ref b_op, .ref b_ar, .int u_le, .ref b_pi, .ref b_pa, .int u_pd, .int u_od, .ref b_ws, .ref b_hw, .int z14, .ref b_se, .ref b_re, .int z15, .long z16, .long z17, .int z18, .int z19, .int z20, .int z21, .int z22, .ref b_pt, .int z23, .int z24, .ref b_ip, .int z25, .ref b_ah, .ref b_be, .ref b_me, .int z26, .ref b_tr, .ref b_ld, .long u_st, .ref b_wn, .int u_id])), (b_ro, .inl (G.2 0, 5740, .inl v_ro)), (b_se, .inl (G.2 1, 13, .inr (.inl z27))), (b_re, .inl (G.2 1, 400, .inr (.inl z28))), (b_pt, .inl (G.2 0, 200, .inl z29)), (b_ah, .inl (G.2 1, 49152, .inr (.inl z30))), (b_be, .inl (G.2 1, 49152, .inr (.inl z31))), (b_me, .inl (G.2 0, 1536, .inl z32))] H ∧ va_D A [(b_o, .inr (12, [.int 0, .int u_sa, .ref b_rf, .ref b_ro, .ref b_im, .ref b_ke, .int u_fd, .ref b_tp, .int u_td, .int u_fr, .int u_to, .int u_so, .long u_wo, .int u_fa, .int u_bd, .int u_nc, .ref b_nl, .int u_co, .ref b_op, .ref b_ar, .int u_le, .ref b_pi, .ref b_pa, .int u_pd, .int u_od, .ref b_ws, .ref b_hw, .int z14, .ref b_se, .ref b_re, .int z15, .long z16, .long z17, .int z18, .int z19, .int z20, .int z21, .int z22, .ref b_pt, .int z23, .int z24, .ref b_ip, .int z25, .ref b_ah, .ref b_be, .ref b_me, .int z26, .ref b_tr, .ref b_ld, .long u_st, .ref b_wn, .int u_id])), (b_ro, .inl (G.2 0, 5740, .inl v_ro)), (b_se, .inl (G.2 1, 13, .inr (.inl z27))), (b_re, .inl (G.2 1, 400, .inr (.inl z28))), (b_pt, .inl (G.2 0, 200, .inl z29)), (b_ah, .inl (G.2 1, 49152, .inr (.inl z30))), (b_be, .inl (G.2 1, 49152, .inr (.inl z31))), (b_me, .inl (G.2 0, 1536, .inl z32))] ∧ va_S A s.heap H locs ∧ ((-1) ≤ k38_6.toInt ∧ k38_6.toInt ≤ 63) ∧ ((-1) ≤ k38_5.toInt ∧ k38_5.toInt ≤ 63) ∧ (k38_5.toInt = -1 ∨ (z32 (64 * k25_4.toInt + k38_5.toInt).toNat).toInt < 64)) (fun (q : (Int32) × (Int32)) => match q with | (k38_6, k38_5) => Int.toNat (k38_6.toInt + 1)) (63, (-1)) ⟨lv_sub hl [1, 0, 2, 3, 4, 5, 6] rfl, hP, hD, hS, ⟨by decide, by decide⟩, ⟨by decide, by decide⟩, Or.inl (by decide)⟩ ?_
        rintro ⟨k38_6, k38_5⟩ ls H locs ⟨hl, hP, hD, hS, i_38, i_39, i_40⟩ ih_38_41
        have hl : lv_has ls 8 [(5, .int k38_5), (6, .int k38_6), (2, .int k25_2), (3, .int k25_3), (4, .int k25_4), (0, .ref b_o), (1, .int p_1)] := hl
        have i_38 : (-1) ≤ k38_6.toInt ∧ k38_6.toInt ≤ 63 := i_38
        have i_39 : (-1) ≤ k38_5.toInt ∧ k38_5.toInt ≤ 63 := i_39
        have i_40 : k38_5.toInt = -1 ∨ (z32 (64 * k25_4.toInt + k38_5.toInt).toNat).toInt < 64 := i_40
        have hP : va_P G.1 vwCl [(b_o, .inr (12, [.int 0, .int u_sa, .ref b_rf, .ref b_ro, .ref b_im, .ref b_ke, .int u_fd, .ref b_tp, .int u_td, .int u_fr, .int u_to, .int u_so, .long u_wo, .int u_fa, .int u_bd, .int u_nc, .ref b_nl, .int u_co, .ref b_op, .ref b_ar, .int u_le, .ref b_pi, .ref b_pa, .int u_pd, .int u_od, .ref b_ws, .ref b_hw, .int z14, .ref b_se, .ref b_re, .int z15, .long z16, .long z17, .int z18, .int z19, .int z20, .int z21, .int z22, .ref b_pt, .int z23, .int z24, .ref b_ip, .int z25, .ref b_ah, .ref b_be, .ref b_me, .int z26, .ref b_tr, .ref b_ld, .long u_st, .ref b_wn, .int u_id])), (b_ro, .inl (G.2 0, 5740, .inl v_ro)), (b_se, .inl (G.2 1, 13, .inr (.inl z27))), (b_re, .inl (G.2 1, 400, .inr (.inl z28))), (b_pt, .inl (G.2 0, 200, .inl z29)), (b_ah, .inl (G.2 1, 49152, .inr (.inl z30))), (b_be, .inl (G.2 1, 49152, .inr (.inl z31))), (b_me, .inl (G.2 0, 1536, .inl z32))] H := hP
        have hD : va_D A [(b_o, .inr (12, [.int 0, .int u_sa, .ref b_rf, .ref b_ro, .ref b_im, .ref b_ke, .int u_fd, .ref b_tp, .int u_td, .int u_fr, .int u_to, .int u_so, .long u_wo, .int u_fa, .int u_bd, .int u_nc, .ref b_nl, .int u_co, .ref b_op, .ref b_ar, .int u_le, .ref b_pi, .ref b_pa, .int u_pd, .int u_od, .ref b_ws, .ref b_hw, .int z14, .ref b_se, .ref b_re, .int z15, .long z16, .long z17, .int z18, .int z19, .int z20, .int z21, .int z22, .ref b_pt, .int z23, .int z24, .ref b_ip, .int z25, .ref b_ah, .ref b_be, .ref b_me, .int z26, .ref b_tr, .ref b_ld, .long u_st, .ref b_wn, .int u_id])), (b_ro, .inl (G.2 0, 5740, .inl v_ro)), (b_se, .inl (G.2 1, 13, .inr (.inl z27))), (b_re, .inl (G.2 1, 400, .inr (.inl z28))), (b_pt, .inl (G.2 0, 200, .inl z29)), (b_ah, .inl (G.2 1, 49152, .inr (.inl z30))), (b_be, .inl (G.2 1, 49152, .inr (.inl z31))), (b_me, .inl (G.2 0, 1536, .inl z32))] := hD
        refine lv_iload hx hb dX12_path_38 (lv_at hl 1 rfl) ?_
        refine lv_if_lt (tgt := 162) hx hb dX12_path_40 (by decide) (fun c_42 => ?_) (fun c_42 => ?_)
        ·
          have i_42 : k38_6.toInt < 0 := by have z := g5_lt (a := k38_6.toInt) (b := 0) (by rfl) (by decide) c_42; omega
          refine lv_iload hx hb dX12_path_162 (lv_at hl 0 rfl) ?_
          refine lv_iconst (v := (-1)) hx hb dX12_path_164 (by decide) ?_
          refine lv_icmp_ne (tgt := 170) hx hb dX12_path_165 (by decide) (fun c_43 => ?_) (fun c_43 => ?_)
          ·
            have n_43 : gNe (k38_5.toInt) ((-1)) := by have z := g5_ne (a := k38_5.toInt) (b := (-1)) (by rfl) (by decide) c_43; unfold gNe; omega
            have i_43 : k38_5.toInt ≥ 0 := by have z := g5_ne (a := k38_5.toInt) (b := (-1)) (by rfl) (by decide) c_43; omega
            refine lv_iload hx hb dX12_path_170 (lv_at hl 0 rfl) ?_
            refine lv_istore_n (lv' := [(2, .int k38_5), (5, .int k38_5), (6, .int k38_6), (3, .int k25_3), (4, .int k25_4), (0, .ref b_o), (1, .int p_1)]) hx hb dX12_path_172 rfl hl (by decide) rfl (fun ls hl => ?_)
            refine lv_iload_n hx hb dX12_path_173 rfl (lv_at hl 3 rfl) ?_
            refine lv_aload_n hx hb dX12_path_174 rfl (lv_at hl 5 rfl) ?_
            refine va_get (D := G.1) (ci := 12) (v := .ref b_me) (C := RX12) (T := TX12) (N := 52) hx hb hts inG_X12 hown hK hP 0 rfl rfl 45 (by decide) (hts _ fl_X12_95) (fun _ h9 => h9) rfl dX12_path_175 ?_
            refine lv_bipush (v := 64) hx hb dX12_path_178 (by decide) ?_
            refine lv_iload hx hb dX12_path_180 (lv_at hl 4 rfl) ?_
            refine lv_imul hx hb dX12_path_182 ?_
            have t_44 : (64 * k25_4).toInt = 64 * k25_4.toInt := g5_imul (a := 64) (b := k25_4.toInt) (by decide) (by rfl) (by omega) (by omega)
            refine lv_iload_n hx hb dX12_path_183 rfl (lv_at hl 0 rfl) ?_
            refine lv_iadd hx hb dX12_path_184 ?_
            have t_45 : ((64 * k25_4) + k38_5).toInt = (64 * k25_4).toInt + k38_5.toInt := g5_iadd (a := (64 * k25_4).toInt) (b := k38_5.toInt) (by rfl) (by rfl) (by omega) (by omega)
            refine va_iald hx hb hK hP 7 0 rfl rfl (i := ((64 * k25_4) + k38_5)) (vp_in_iff.mpr ⟨by omega, by omega⟩) dX12_path_185 ?_
            have hr_46 : 0 ≤ (z32 ((64 * k25_4) + k38_5).toNatClampNeg).toInt ∧ ((z32 ((64 * k25_4) + k38_5).toNatClampNeg).toInt < 32 ∨ 64 ≤ (z32 ((64 * k25_4) + k38_5).toNatClampNeg).toInt) ∧ (z32 ((64 * k25_4) + k38_5).toNatClampNeg).toInt ≤ 127 := i_12 (((64 * k25_4) + k38_5).toNatClampNeg)
            have h64_47 : (z32 ((64 * k25_4) + k38_5).toNatClampNeg).toInt < 64 := by have e9 : ((64 * k25_4) + k38_5).toNatClampNeg = (64 * k25_4.toInt + k38_5.toInt).toNat := (by have zz := g5_clamp ((64 * k25_4) + k38_5); omega); rw [e9]; rcases i_40 with q | q; omega; exact q
            refine lv_ior hx hb dX12_path_186 ?_
            have ho_48 : 0 ≤ (k25_3 ||| (z32 ((64 * k25_4) + k38_5).toNatClampNeg)).toInt ∧ (k25_3 ||| (z32 ((64 * k25_4) + k38_5).toNatClampNeg)).toInt < 32 := me_low ⟨by omega, by omega⟩ ⟨by omega, by omega⟩
            refine lv_istore_n (lv' := [(3, .int (k25_3 ||| (z32 ((64 * k25_4) + k38_5).toNatClampNeg))), (2, .int k38_5), (5, .int k38_5), (6, .int k38_6), (4, .int k25_4), (0, .ref b_o), (1, .int p_1)]) hx hb dX12_path_187 rfl hl (by decide) rfl (fun ls hl => ?_)
            refine lv_iinc (v := (k25_4 + 1)) (lv' := [(4, .int (k25_4 + 1)), (3, .int (k25_3 ||| (z32 ((64 * k25_4) + k38_5).toNatClampNeg))), (2, .int k38_5), (5, .int k38_5), (6, .int k38_6), (0, .ref b_o), (1, .int p_1)]) hx hb dX12_path_188 hl (k := 4) rfl rfl (by decide) rfl (fun ls hl => ?_)
            have t_49 : (k25_4 + 1).toInt = k25_4.toInt + 1 := g5_iadd (a := k25_4.toInt) (b := 1) rfl (by decide) (by omega) (by omega)
            refine lv_goto (tgt := 25) hx hb dX12_path_191 (by decide) ?_
            exact ih_25_36 ((k25_4 + 1), (k25_3 ||| (z32 ((64 * k25_4) + k38_5).toNatClampNeg)), k38_5) ls H locs (show Int.toNat (24 - (k25_4 + 1).toInt) < Int.toNat (24 - k25_4.toInt) from g_up (show k25_4.toInt < (k25_4 + 1).toInt by omega) (show k25_4.toInt < 24 by omega)) ⟨lv_sub hl [2, 1, 0, 5, 6] rfl, hP, hD, hS, ⟨by omega, by omega⟩, ⟨by omega, by omega⟩, ⟨by omega, by omega⟩⟩
          ·
            have i_43 : k38_5.toInt = (-1) := by have z := g5_neN (a := k38_5.toInt) (b := (-1)) (by rfl) (by decide) c_43; omega
            refine lv_iconst (v := (-1)) hx hb dX12_path_168 (by decide) ?_
            exact W.iret (v := (-1)) hx hb hr (fun t ht hW => ⟨⟨(-1), [(b_o, .inr (12, [.int 0, .int u_sa, .ref b_rf, .ref b_ro, .ref b_im, .ref b_ke, .int u_fd, .ref b_tp, .int u_td, .int u_fr, .int u_to, .int u_so, .long u_wo, .int u_fa, .int u_bd, .int u_nc, .ref b_nl, .int u_co, .ref b_op, .ref b_ar, .int u_le, .ref b_pi, .ref b_pa, .int u_pd, .int u_od, .ref b_ws, .ref b_hw, .int z14, .ref b_se, .ref b_re, .int z15, .long z16, .long z17, .int z18, .int z19, .int z20, .int z21, .int z22, .ref b_pt, .int z23, .int z24, .ref b_ip, .int z25, .ref b_ah, .ref b_be, .ref b_me, .int z26, .ref b_tr, .ref b_ld, .long u_st, .ref b_wn, .int u_id])), (b_ro, .inl (G.2 0, 5740, .inl v_ro)), (b_se, .inl (G.2 1, 13, .inr (.inl z27))), (b_re, .inl (G.2 1, 400, .inr (.inl z28))), (b_pt, .inl (G.2 0, 200, .inl z29)), (b_ah, .inl (G.2 1, 49152, .inr (.inl z30))), (b_be, .inl (G.2 1, 49152, .inr (.inl z31))), (b_me, .inl (G.2 0, 1536, .inl z32))], rfl, ⟨(-1), 0, z14, z15, z16, z17, z18, z19, z20, z21, z22, z23, z24, z25, z26, z27, z28, z29, z30, z31, z32, ⟨by omega, by omega⟩, ⟨by omega, by omega⟩, ⟨by omega, by omega⟩, ⟨by omega, by omega⟩, ⟨by omega, by omega⟩, ⟨by omega, by omega⟩, ⟨by omega, by omega⟩, i_10, ⟨by omega, by omega⟩, i_12, i_13, rfl, rfl⟩, by rw [ht]; exact hP.sub [0, 1, 2, 3, 4, 5, 6, 7] rfl, hD.sub [0, 1, 2, 3, 4, 5, 6, 7] (by decide) rfl⟩, hS.F ht⟩) hS.2.2 dX12_path_169
        ·
          have i_42 : k38_6.toInt ≥ 0 := by have z := g5_ltN (a := k38_6.toInt) (b := 0) (by rfl) (by decide) c_42; omega
          refine lv_iload hx hb dX12_path_43 (lv_at hl 4 rfl) ?_
          refine lv_if_ne (tgt := 68) hx hb dX12_path_45 (by decide) (fun c_50 => ?_) (fun c_50 => ?_)
          ·
            have n_50 : gNe (k25_4.toInt) (0) := by have z := g5_ne (a := k25_4.toInt) (b := 0) (by rfl) (by decide) c_50; unfold gNe; omega
            have i_50 : k25_4.toInt ≥ 1 := by have z := g5_ne (a := k25_4.toInt) (b := 0) (by rfl) (by decide) c_50; omega
            refine lv_iload_n hx hb dX12_path_68 rfl (lv_at hl 2 rfl) ?_
            refine lv_iload hx hb dX12_path_69 (lv_at hl 1 rfl) ?_
            have hPc := hP.sub (ws' := []) [] rfl
            have hDc := hD.sub (ws' := []) [] (by decide) rfl
            have hFc := va_free (wc := []) hD hS hA [] rfl
            refine va_calli (va_runS (As := [.int k25_2, .int k38_6]) (rest := []) ⟨hx, hb, hml, hown, hts⟩ (n_isStep l G H.size k25_2 k38_6 ⟨by omega, by omega⟩ ⟨by omega, by omega⟩) (va_cwS 2 hts gS_X12_454 rfl rfl rfl hs_X12_isStep ⟨Nat.le_of_ble_eq_true rfl, Nat.le_of_ble_eq_true rfl⟩) (g5_preS hPc hK hDc hN hT hS hFc) rfl rfl hl.1 rfl (lv_room (Nat.le_of_ble_eq_true rfl)) dX12_path_71 ⟨Nat.le_of_ble_eq_true rfl, Nat.le_of_ble_eq_true rfl⟩) hS (fun q _ h => hFc q h) hFc (fun r u t H1 locs ht hvm hw hB hz1 hk1 hS => ?_)
            obtain ⟨hP1, hD1⟩ := hB
            rw [ht] at hP1
            obtain ⟨z52, i_51, y53, rfl⟩ := hw
            have i_51 : 0 ≤ z52.toInt ∧ z52.toInt ≤ 1 := i_51
            have hP := g5_same hP hk1
            generalize H1 = H at hP hS ⊢
            refine g5_ti (v := z52) y53 ?_
            refine lv_if_eq (tgt := 139) hx hb dX12_path_74 (by decide) (fun c_54 => ?_) (fun c_54 => ?_)
            ·
              have i_54 : z52.toInt = 0 := by have z := g5_eq (a := z52.toInt) (b := 0) (by rfl) (by decide) c_54; omega
              refine lv_iconst (v := 0) hx hb dX12_path_139 (by decide) ?_
              refine lv_istore (lv' := [(7, .int 0), (5, .int k38_5), (6, .int k38_6), (2, .int k25_2), (3, .int k25_3), (4, .int k25_4), (0, .ref b_o), (1, .int p_1)]) hx hb dX12_path_140 hl (by decide) rfl (fun ls hl => ?_)
              refine lv_iload hx hb dX12_path_142 (lv_at hl 0 rfl) ?_
              refine lv_if_eq (tgt := 152) hx hb dX12_path_144 (by decide) (fun c_55 => ?_) (fun c_55 => ?_)
              ·
                refine lv_iload hx hb dX12_path_152 (lv_at hl 1 rfl) ?_
                refine lv_istore (lv' := [(5, .int k38_5), (7, .int 0), (6, .int k38_6), (2, .int k25_2), (3, .int k25_3), (4, .int k25_4), (0, .ref b_o), (1, .int p_1)]) hx hb dX12_path_154 hl (by decide) rfl (fun ls hl => ?_)
                obtain ⟨y56, hy_56, t_56⟩ := g_incN k38_6 (-1) (by decide) (by omega) (by omega)
                have t_56 : y56.toInt = k38_6.toInt + (-1) := t_56
                refine lv_iinc (v := y56) (lv' := [(6, .int y56), (5, .int k38_5), (7, .int 0), (2, .int k25_2), (3, .int k25_3), (4, .int k25_4), (0, .ref b_o), (1, .int p_1)]) hx hb dX12_path_156 hl (k := 2) rfl hy_56 (by decide) rfl (fun ls hl => ?_)
                refine lv_goto (tgt := 38) hx hb dX12_path_159 (by decide) ?_
                exact ih_38_41 (y56, k38_5) ls H locs (show Int.toNat (y56.toInt + 1) < Int.toNat (k38_6.toInt + 1) from g_dn (show y56.toInt < k38_6.toInt by omega) (show 0 ≤ k38_6.toInt by omega)) ⟨lv_sub hl [1, 0, 3, 4, 5, 6, 7] rfl, hP, hD, hS, ⟨by omega, by omega⟩, ⟨by omega, by omega⟩, i_40⟩
              ·
                exact absurd c_55 (by decide)
            ·
              have n_54 : gNe (z52.toInt) (0) := by have z := g5_eqN (a := z52.toInt) (b := 0) (by rfl) (by decide) c_54; unfold gNe; omega
              have i_54 : z52.toInt ≥ 1 := by have z := g5_eqN (a := z52.toInt) (b := 0) (by rfl) (by decide) c_54; omega
              refine lv_aload_n hx hb dX12_path_77 rfl (lv_at hl 5 rfl) ?_
              refine va_get (D := G.1) (ci := 12) (v := .ref b_me) (C := RX12) (T := TX12) (N := 52) hx hb hts inG_X12 hown hK hP 0 rfl rfl 45 (by decide) (hts _ fl_X12_95) (fun _ h9 => h9) rfl dX12_path_78 ?_
              refine lv_bipush (v := 64) hx hb dX12_path_81 (by decide) ?_
              refine lv_iload hx hb dX12_path_83 (lv_at hl 4 rfl) ?_
              refine lv_imul hx hb dX12_path_85 ?_
              have t_57 : (64 * k25_4).toInt = 64 * k25_4.toInt := g5_imul (a := 64) (b := k25_4.toInt) (by decide) (by rfl) (by omega) (by omega)
              refine lv_iload hx hb dX12_path_86 (lv_at hl 1 rfl) ?_
              refine lv_iadd hx hb dX12_path_88 ?_
              have t_58 : ((64 * k25_4) + k38_6).toInt = (64 * k25_4).toInt + k38_6.toInt := g5_iadd (a := (64 * k25_4).toInt) (b := k38_6.toInt) (by rfl) (by rfl) (by omega) (by omega)
              refine va_iald hx hb hK hP 7 0 rfl rfl (i := ((64 * k25_4) + k38_6)) (vp_in_iff.mpr ⟨by omega, by omega⟩) dX12_path_89 ?_
              have hr_59 : 0 ≤ (z32 ((64 * k25_4) + k38_6).toNatClampNeg).toInt ∧ ((z32 ((64 * k25_4) + k38_6).toNatClampNeg).toInt < 32 ∨ 64 ≤ (z32 ((64 * k25_4) + k38_6).toNatClampNeg).toInt) ∧ (z32 ((64 * k25_4) + k38_6).toNatClampNeg).toInt ≤ 127 := i_12 (((64 * k25_4) + k38_6).toNatClampNeg)
              refine lv_bipush (v := 64) hx hb dX12_path_90 (by decide) ?_
              refine lv_icmp_ge (tgt := 139) hx hb dX12_path_92 (by decide) (fun c_60 => ?_) (fun c_60 => ?_)
              ·
                have i_60 : (z32 ((64 * k25_4) + k38_6).toNatClampNeg).toInt ≥ 64 := by have z := g5_ge (a := (z32 ((64 * k25_4) + k38_6).toNatClampNeg).toInt) (b := 64) (by rfl) (by decide) c_60; omega
                refine lv_iconst (v := 0) hx hb dX12_path_139 (by decide) ?_
                refine lv_istore (lv' := [(7, .int 0), (5, .int k38_5), (6, .int k38_6), (2, .int k25_2), (3, .int k25_3), (4, .int k25_4), (0, .ref b_o), (1, .int p_1)]) hx hb dX12_path_140 hl (by decide) rfl (fun ls hl => ?_)
                refine lv_iload hx hb dX12_path_142 (lv_at hl 0 rfl) ?_
                refine lv_if_eq (tgt := 152) hx hb dX12_path_144 (by decide) (fun c_61 => ?_) (fun c_61 => ?_)
                ·
                  refine lv_iload hx hb dX12_path_152 (lv_at hl 1 rfl) ?_
                  refine lv_istore (lv' := [(5, .int k38_5), (7, .int 0), (6, .int k38_6), (2, .int k25_2), (3, .int k25_3), (4, .int k25_4), (0, .ref b_o), (1, .int p_1)]) hx hb dX12_path_154 hl (by decide) rfl (fun ls hl => ?_)
                  obtain ⟨y62, hy_62, t_62⟩ := g_incN k38_6 (-1) (by decide) (by omega) (by omega)
                  have t_62 : y62.toInt = k38_6.toInt + (-1) := t_62
                  refine lv_iinc (v := y62) (lv' := [(6, .int y62), (5, .int k38_5), (7, .int 0), (2, .int k25_2), (3, .int k25_3), (4, .int k25_4), (0, .ref b_o), (1, .int p_1)]) hx hb dX12_path_156 hl (k := 2) rfl hy_62 (by decide) rfl (fun ls hl => ?_)
                  refine lv_goto (tgt := 38) hx hb dX12_path_159 (by decide) ?_
                  exact ih_38_41 (y62, k38_5) ls H locs (show Int.toNat (y62.toInt + 1) < Int.toNat (k38_6.toInt + 1) from g_dn (show y62.toInt < k38_6.toInt by omega) (show 0 ≤ k38_6.toInt by omega)) ⟨lv_sub hl [1, 0, 3, 4, 5, 6, 7] rfl, hP, hD, hS, ⟨by omega, by omega⟩, ⟨by omega, by omega⟩, i_40⟩
                ·
                  exact absurd c_61 (by decide)
              ·
                have i_60 : (z32 ((64 * k25_4) + k38_6).toNatClampNeg).toInt < 64 := by have z := g5_geN (a := (z32 ((64 * k25_4) + k38_6).toNatClampNeg).toInt) (b := 64) (by rfl) (by decide) c_60; omega
                refine lv_aload_n hx hb dX12_path_95 rfl (lv_at hl 5 rfl) ?_
                refine va_get (D := G.1) (ci := 12) (v := .ref b_be) (C := RX12) (T := TX12) (N := 52) hx hb hts inG_X12 hown hK hP 0 rfl rfl 44 (by decide) (hts _ fl_X12_92) (fun _ h9 => h9) rfl dX12_path_96 ?_
                refine lv_bipush (v := 32) hx hb dX12_path_99 (by decide) ?_
                refine lv_bipush (v := 64) hx hb dX12_path_101 (by decide) ?_
                refine lv_iload hx hb dX12_path_103 (lv_at hl 4 rfl) ?_
                refine lv_imul hx hb dX12_path_105 ?_
                have t_63 : (64 * k25_4).toInt = 64 * k25_4.toInt := g5_imul (a := 64) (b := k25_4.toInt) (by decide) (by rfl) (by omega) (by omega)
                refine lv_iload hx hb dX12_path_106 (lv_at hl 1 rfl) ?_
                refine lv_iadd hx hb dX12_path_108 ?_
                have t_64 : ((64 * k25_4) + k38_6).toInt = (64 * k25_4).toInt + k38_6.toInt := g5_iadd (a := (64 * k25_4).toInt) (b := k38_6.toInt) (by rfl) (by rfl) (by omega) (by omega)
                refine lv_imul hx hb dX12_path_109 ?_
                have t_65 : (32 * ((64 * k25_4) + k38_6)).toInt = 32 * ((64 * k25_4) + k38_6).toInt := g5_imul (a := 32) (b := ((64 * k25_4) + k38_6).toInt) (by decide) (by rfl) (by omega) (by omega)
                refine lv_iload_n hx hb dX12_path_110 rfl (lv_at hl 3 rfl) ?_
                refine lv_aload_n hx hb dX12_path_111 rfl (lv_at hl 5 rfl) ?_
                refine va_get (D := G.1) (ci := 12) (v := .ref b_me) (C := RX12) (T := TX12) (N := 52) hx hb hts inG_X12 hown hK hP 0 rfl rfl 45 (by decide) (hts _ fl_X12_95) (fun _ h9 => h9) rfl dX12_path_112 ?_
                refine lv_bipush (v := 64) hx hb dX12_path_115 (by decide) ?_
                refine lv_iload hx hb dX12_path_117 (lv_at hl 4 rfl) ?_
                refine lv_imul hx hb dX12_path_119 ?_
                have t_66 : (64 * k25_4).toInt = 64 * k25_4.toInt := g5_imul (a := 64) (b := k25_4.toInt) (by decide) (by rfl) (by omega) (by omega)
                refine lv_iload hx hb dX12_path_120 (lv_at hl 1 rfl) ?_
                refine lv_iadd hx hb dX12_path_122 ?_
                have t_67 : ((64 * k25_4) + k38_6).toInt = (64 * k25_4).toInt + k38_6.toInt := g5_iadd (a := (64 * k25_4).toInt) (b := k38_6.toInt) (by rfl) (by rfl) (by omega) (by omega)
                refine va_iald hx hb hK hP 7 0 rfl rfl (i := ((64 * k25_4) + k38_6)) (vp_in_iff.mpr ⟨by omega, by omega⟩) dX12_path_123 ?_
                have hr_68 : 0 ≤ (z32 ((64 * k25_4) + k38_6).toNatClampNeg).toInt ∧ ((z32 ((64 * k25_4) + k38_6).toNatClampNeg).toInt < 32 ∨ 64 ≤ (z32 ((64 * k25_4) + k38_6).toNatClampNeg).toInt) ∧ (z32 ((64 * k25_4) + k38_6).toNatClampNeg).toInt ≤ 127 := i_12 (((64 * k25_4) + k38_6).toNatClampNeg)
                refine lv_bipush (v := 31) hx hb dX12_path_124 (by decide) ?_
                refine lv_iand hx hb dX12_path_126 ?_
                have t_69 : ((z32 ((64 * k25_4) + k38_6).toNatClampNeg) &&& 31).toInt = (z32 ((64 * k25_4) + k38_6).toNatClampNeg).toInt % 32 := g5_and31 (a := (z32 ((64 * k25_4) + k38_6).toNatClampNeg).toInt) rfl (by omega)
                refine lv_ior hx hb dX12_path_127 ?_
                have ho_70 : 0 ≤ (k25_3 ||| ((z32 ((64 * k25_4) + k38_6).toNatClampNeg) &&& 31)).toInt ∧ (k25_3 ||| ((z32 ((64 * k25_4) + k38_6).toNatClampNeg) &&& 31)).toInt < 32 := me_low ⟨by omega, by omega⟩ ⟨by omega, by omega⟩
                refine lv_iadd hx hb dX12_path_128 ?_
                have t_71 : ((32 * ((64 * k25_4) + k38_6)) + (k25_3 ||| ((z32 ((64 * k25_4) + k38_6).toNatClampNeg) &&& 31))).toInt = (32 * ((64 * k25_4) + k38_6)).toInt + (k25_3 ||| ((z32 ((64 * k25_4) + k38_6).toNatClampNeg) &&& 31)).toInt := g5_iadd (a := (32 * ((64 * k25_4) + k38_6)).toInt) (b := (k25_3 ||| ((z32 ((64 * k25_4) + k38_6).toNatClampNeg) &&& 31)).toInt) (by rfl) (by rfl) (by omega) (by omega)
                refine va_lald hx hb hK hP 6 1 rfl rfl (i := ((32 * ((64 * k25_4) + k38_6)) + (k25_3 ||| ((z32 ((64 * k25_4) + k38_6).toNatClampNeg) &&& 31)))) (vp_in_iff.mpr ⟨by omega, by omega⟩) dX12_path_129 ?_
                refine lv_lconst (v := 0) hx hb dX12_path_130 (by decide) ?_
                refine W.lcmp hx hb dX12_path_131 ?_
                refine lv_if_le (tgt := 139) hx hb dX12_path_132 (by decide) (fun c_72 => ?_) (fun c_72 => ?_)
                ·
                  have i_72 : (lg_cmp (z31 ((32 * ((64 * k25_4) + k38_6)) + (k25_3 ||| ((z32 ((64 * k25_4) + k38_6).toNatClampNeg) &&& 31))).toNatClampNeg) 0).toInt ≤ 0 := by have z := g5_le (a := (lg_cmp (z31 ((32 * ((64 * k25_4) + k38_6)) + (k25_3 ||| ((z32 ((64 * k25_4) + k38_6).toNatClampNeg) &&& 31))).toNatClampNeg) 0).toInt) (b := 0) (by rfl) (by decide) c_72; omega
                  refine lv_iconst (v := 0) hx hb dX12_path_139 (by decide) ?_
                  refine lv_istore (lv' := [(7, .int 0), (5, .int k38_5), (6, .int k38_6), (2, .int k25_2), (3, .int k25_3), (4, .int k25_4), (0, .ref b_o), (1, .int p_1)]) hx hb dX12_path_140 hl (by decide) rfl (fun ls hl => ?_)
                  refine lv_iload hx hb dX12_path_142 (lv_at hl 0 rfl) ?_
                  refine lv_if_eq (tgt := 152) hx hb dX12_path_144 (by decide) (fun c_73 => ?_) (fun c_73 => ?_)
                  ·
                    refine lv_iload hx hb dX12_path_152 (lv_at hl 1 rfl) ?_
                    refine lv_istore (lv' := [(5, .int k38_5), (7, .int 0), (6, .int k38_6), (2, .int k25_2), (3, .int k25_3), (4, .int k25_4), (0, .ref b_o), (1, .int p_1)]) hx hb dX12_path_154 hl (by decide) rfl (fun ls hl => ?_)
                    obtain ⟨y74, hy_74, t_74⟩ := g_incN k38_6 (-1) (by decide) (by omega) (by omega)
                    have t_74 : y74.toInt = k38_6.toInt + (-1) := t_74
                    refine lv_iinc (v := y74) (lv' := [(6, .int y74), (5, .int k38_5), (7, .int 0), (2, .int k25_2), (3, .int k25_3), (4, .int k25_4), (0, .ref b_o), (1, .int p_1)]) hx hb dX12_path_156 hl (k := 2) rfl hy_74 (by decide) rfl (fun ls hl => ?_)
                    refine lv_goto (tgt := 38) hx hb dX12_path_159 (by decide) ?_
                    exact ih_38_41 (y74, k38_5) ls H locs (show Int.toNat (y74.toInt + 1) < Int.toNat (k38_6.toInt + 1) from g_dn (show y74.toInt < k38_6.toInt by omega) (show 0 ≤ k38_6.toInt by omega)) ⟨lv_sub hl [1, 0, 3, 4, 5, 6, 7] rfl, hP, hD, hS, ⟨by omega, by omega⟩, ⟨by omega, by omega⟩, i_40⟩
                  ·
                    exact absurd c_73 (by decide)
                ·
                  have i_72 : (lg_cmp (z31 ((32 * ((64 * k25_4) + k38_6)) + (k25_3 ||| ((z32 ((64 * k25_4) + k38_6).toNatClampNeg) &&& 31))).toNatClampNeg) 0).toInt > 0 := by have z := g5_leN (a := (lg_cmp (z31 ((32 * ((64 * k25_4) + k38_6)) + (k25_3 ||| ((z32 ((64 * k25_4) + k38_6).toNatClampNeg) &&& 31))).toNatClampNeg) 0).toInt) (b := 0) (by rfl) (by decide) c_72; omega
                  refine lv_iconst (v := 1) hx hb dX12_path_135 (by decide) ?_
                  refine lv_goto (tgt := 140) hx hb dX12_path_136 (by decide) ?_
                  refine lv_istore (lv' := [(7, .int 1), (5, .int k38_5), (6, .int k38_6), (2, .int k25_2), (3, .int k25_3), (4, .int k25_4), (0, .ref b_o), (1, .int p_1)]) hx hb dX12_path_140 hl (by decide) rfl (fun ls hl => ?_)
                  refine lv_iload hx hb dX12_path_142 (lv_at hl 0 rfl) ?_
                  refine lv_if_eq (tgt := 152) hx hb dX12_path_144 (by decide) (fun c_75 => ?_) (fun c_75 => ?_)
                  ·
                    exact absurd c_75 (by decide)
                  ·
                    refine lv_iload hx hb dX12_path_147 (lv_at hl 2 rfl) ?_
                    refine lv_goto (tgt := 154) hx hb dX12_path_149 (by decide) ?_
                    refine lv_istore (lv' := [(5, .int k38_6), (7, .int 1), (6, .int k38_6), (2, .int k25_2), (3, .int k25_3), (4, .int k25_4), (0, .ref b_o), (1, .int p_1)]) hx hb dX12_path_154 hl (by decide) rfl (fun ls hl => ?_)
                    obtain ⟨y76, hy_76, t_76⟩ := g_incN k38_6 (-1) (by decide) (by omega) (by omega)
                    have t_76 : y76.toInt = k38_6.toInt + (-1) := t_76
                    refine lv_iinc (v := y76) (lv' := [(6, .int y76), (5, .int k38_6), (7, .int 1), (2, .int k25_2), (3, .int k25_3), (4, .int k25_4), (0, .ref b_o), (1, .int p_1)]) hx hb dX12_path_156 hl (k := 2) rfl hy_76 (by decide) rfl (fun ls hl => ?_)
                    refine lv_goto (tgt := 38) hx hb dX12_path_159 (by decide) ?_
                    exact ih_38_41 (y76, k38_6) ls H locs (show Int.toNat (y76.toInt + 1) < Int.toNat (k38_6.toInt + 1) from g_dn (show y76.toInt < k38_6.toInt by omega) (show 0 ≤ k38_6.toInt by omega)) ⟨lv_sub hl [1, 0, 3, 4, 5, 6, 7] rfl, hP, hD, hS, ⟨by omega, by omega⟩, ⟨by omega, by omega⟩, Or.inr (by have e9 : (64 * k25_4.toInt + k38_6.toInt).toNat = ((64 * k25_4) + k38_6).toNatClampNeg := (by have zz := g5_clamp ((64 * k25_4) + k38_6); omega); rw [e9]; omega)⟩
          ·
            have i_50 : k25_4.toInt = 0 := by have z := g5_neN (a := k25_4.toInt) (b := 0) (by rfl) (by decide) c_50; omega
            refine lv_aload_n hx hb dX12_path_48 rfl (lv_at hl 5 rfl) ?_
            refine lv_iconst (v := 0) hx hb dX12_path_49 (by decide) ?_
            refine lv_iload hx hb dX12_path_50 (lv_at hl 1 rfl) ?_
            have hPc := hP.sub (ws' := [(b_o, .inr (12, [.int 0, .int u_sa, .ref b_rf, .ref b_ro, .ref b_im, .ref b_ke, .int u_fd, .ref b_tp, .int u_td, .int u_fr, .int u_to, .int u_so, .long u_wo, .int u_fa, .int u_bd, .int u_nc, .ref b_nl, .int u_co, .ref b_op, .ref b_ar, .int u_le, .ref b_pi, .ref b_pa, .int u_pd, .int u_od, .ref b_ws, .ref b_hw, .int z14, .ref b_se, .ref b_re, .int z15, .long z16, .long z17, .int z18, .int z19, .int z20, .int z21, .int z22, .ref b_pt, .int z23, .int z24, .ref b_ip, .int z25, .ref b_ah, .ref b_be, .ref b_me, .int z26, .ref b_tr, .ref b_ld, .long u_st, .ref b_wn, .int u_id])), (b_ah, .inl (G.2 1, 49152, .inr (.inl z30))), (b_be, .inl (G.2 1, 49152, .inr (.inl z31))), (b_me, .inl (G.2 0, 1536, .inl z32))]) [0, 5, 6, 7] rfl
            have hDc := hD.sub (ws' := [(b_o, .inr (12, [.int 0, .int u_sa, .ref b_rf, .ref b_ro, .ref b_im, .ref b_ke, .int u_fd, .ref b_tp, .int u_td, .int u_fr, .int u_to, .int u_so, .long u_wo, .int u_fa, .int u_bd, .int u_nc, .ref b_nl, .int u_co, .ref b_op, .ref b_ar, .int u_le, .ref b_pi, .ref b_pa, .int u_pd, .int u_od, .ref b_ws, .ref b_hw, .int z14, .ref b_se, .ref b_re, .int z15, .long z16, .long z17, .int z18, .int z19, .int z20, .int z21, .int z22, .ref b_pt, .int z23, .int z24, .ref b_ip, .int z25, .ref b_ah, .ref b_be, .ref b_me, .int z26, .ref b_tr, .ref b_ld, .long u_st, .ref b_wn, .int u_id])), (b_ah, .inl (G.2 1, 49152, .inr (.inl z30))), (b_be, .inl (G.2 1, 49152, .inr (.inl z31))), (b_me, .inl (G.2 0, 1536, .inl z32))]) [0, 5, 6, 7] (by decide) rfl
            have hFc := va_free (wc := [(b_o, .inr (12, [.int 0, .int u_sa, .ref b_rf, .ref b_ro, .ref b_im, .ref b_ke, .int u_fd, .ref b_tp, .int u_td, .int u_fr, .int u_to, .int u_so, .long u_wo, .int u_fa, .int u_bd, .int u_nc, .ref b_nl, .int u_co, .ref b_op, .ref b_ar, .int u_le, .ref b_pi, .ref b_pa, .int u_pd, .int u_od, .ref b_ws, .ref b_hw, .int z14, .ref b_se, .ref b_re, .int z15, .long z16, .long z17, .int z18, .int z19, .int z20, .int z21, .int z22, .ref b_pt, .int z23, .int z24, .ref b_ip, .int z25, .ref b_ah, .ref b_be, .ref b_me, .int z26, .ref b_tr, .ref b_ld, .long u_st, .ref b_wn, .int u_id])), (b_ah, .inl (G.2 1, 49152, .inr (.inl z30))), (b_be, .inl (G.2 1, 49152, .inr (.inl z31))), (b_me, .inl (G.2 0, 1536, .inl z32))]) hD hS hA [0, 5, 6, 7] rfl
            refine va_calll (va_runV (As := [.int 0, .int k38_6]) (rest := []) ⟨hx, hb, hml, hown, hts⟩ (n_rowsAt0 l G b_o b_ah b_be b_me b_rf b_ro b_im b_ke b_tp b_nl b_op b_ar b_pi b_pa b_ws b_hw b_se b_re b_pt b_ip b_tr b_ld b_wn H.size 0 u_sa u_fd u_td u_fr u_to u_so u_fa u_bd u_nc u_co u_le u_pd u_od z14 z15 z18 z19 z20 z21 z22 z23 z24 z25 z26 u_id k38_6 u_wo z16 z17 u_st z30 z31 z32 ⟨by omega, by omega⟩ ⟨by omega, by omega⟩ ⟨by omega, by omega⟩ ⟨by omega, by omega⟩ ⟨by omega, by omega⟩ ⟨by omega, by omega⟩ ⟨by omega, by omega⟩ ⟨by omega, by omega⟩ ⟨by omega, by omega⟩ ⟨by omega, by omega⟩ ⟨by omega, by omega⟩ ⟨by omega, by omega⟩ ⟨by omega, by omega⟩ ⟨by omega, by omega⟩ ⟨by omega, by omega⟩ ⟨by omega, by omega⟩ ⟨by omega, by omega⟩ (i_13)) (cwV 2 hts gV_X12_440 rfl rfl rfl hv_X12_rowsAt ⟨Nat.le_of_ble_eq_true rfl, Nat.le_of_ble_eq_true rfl⟩) (g5_preV hPc hK hDc hN hT hS hFc (ci := 12) (q0 := 0) rfl rfl) rfl rfl hl.1 rfl (lv_room (Nat.le_of_ble_eq_true rfl)) dX12_path_52 ⟨Nat.le_of_ble_eq_true rfl, Nat.le_of_ble_eq_true rfl⟩) hS (fun q _ h => hFc q h) hFc (fun r u t H1 locs ht hvm hw hB hz1 hk1 hS => ?_)
            obtain ⟨hP1, hD1⟩ := hB
            rw [ht] at hP1
            obtain ⟨z78, i_77, y79, rfl⟩ := hw
            have i_77 : 64 ≤ (z32 k38_6.toNatClampNeg).toInt → z78 = 0 := i_77
            obtain ⟨hP, hD⟩ := va_join (wr := [(b_ro, .inl (G.2 0, 5740, .inl v_ro)), (b_se, .inl (G.2 1, 13, .inr (.inl z27))), (b_re, .inl (G.2 1, 400, .inr (.inl z28))), (b_pt, .inl (G.2 0, 200, .inl z29))]) (w1 := [(b_o, .inr (12, [.int 0, .int u_sa, .ref b_rf, .ref b_ro, .ref b_im, .ref b_ke, .int u_fd, .ref b_tp, .int u_td, .int u_fr, .int u_to, .int u_so, .long u_wo, .int u_fa, .int u_bd, .int u_nc, .ref b_nl, .int u_co, .ref b_op, .ref b_ar, .int u_le, .ref b_pi, .ref b_pa, .int u_pd, .int u_od, .ref b_ws, .ref b_hw, .int z14, .ref b_se, .ref b_re, .int z15, .long z16, .long z17, .int z18, .int z19, .int z20, .int z21, .int z22, .ref b_pt, .int z23, .int z24, .ref b_ip, .int z25, .ref b_ah, .ref b_be, .ref b_me, .int z26, .ref b_tr, .ref b_ld, .long u_st, .ref b_wn, .int u_id])), (b_ah, .inl (G.2 1, 49152, .inr (.inl z30))), (b_be, .inl (G.2 1, 49152, .inr (.inl z31))), (b_me, .inl (G.2 0, 1536, .inl z32))]) hP hD [0, 5, 6, 7] [1, 2, 3, 4] rfl rfl (by decide) (by decide) hk1 hFc hP1 hD1
            generalize H1 = H at hP hS ⊢
            have hP : va_P G.1 vwCl [(b_ro, .inl (G.2 0, 5740, .inl v_ro)), (b_se, .inl (G.2 1, 13, .inr (.inl z27))), (b_re, .inl (G.2 1, 400, .inr (.inl z28))), (b_pt, .inl (G.2 0, 200, .inl z29)), (b_o, .inr (12, [.int 0, .int u_sa, .ref b_rf, .ref b_ro, .ref b_im, .ref b_ke, .int u_fd, .ref b_tp, .int u_td, .int u_fr, .int u_to, .int u_so, .long u_wo, .int u_fa, .int u_bd, .int u_nc, .ref b_nl, .int u_co, .ref b_op, .ref b_ar, .int u_le, .ref b_pi, .ref b_pa, .int u_pd, .int u_od, .ref b_ws, .ref b_hw, .int z14, .ref b_se, .ref b_re, .int z15, .long z16, .long z17, .int z18, .int z19, .int z20, .int z21, .int z22, .ref b_pt, .int z23, .int z24, .ref b_ip, .int z25, .ref b_ah, .ref b_be, .ref b_me, .int z26, .ref b_tr, .ref b_ld, .long u_st, .ref b_wn, .int u_id])), (b_ah, .inl (G.2 1, 49152, .inr (.inl z30))), (b_be, .inl (G.2 1, 49152, .inr (.inl z31))), (b_me, .inl (G.2 0, 1536, .inl z32))] H := hP
            have hD : va_D A [(b_ro, .inl (G.2 0, 5740, .inl v_ro)), (b_se, .inl (G.2 1, 13, .inr (.inl z27))), (b_re, .inl (G.2 1, 400, .inr (.inl z28))), (b_pt, .inl (G.2 0, 200, .inl z29)), (b_o, .inr (12, [.int 0, .int u_sa, .ref b_rf, .ref b_ro, .ref b_im, .ref b_ke, .int u_fd, .ref b_tp, .int u_td, .int u_fr, .int u_to, .int u_so, .long u_wo, .int u_fa, .int u_bd, .int u_nc, .ref b_nl, .int u_co, .ref b_op, .ref b_ar, .int u_le, .ref b_pi, .ref b_pa, .int u_pd, .int u_od, .ref b_ws, .ref b_hw, .int z14, .ref b_se, .ref b_re, .int z15, .long z16, .long z17, .int z18, .int z19, .int z20, .int z21, .int z22, .ref b_pt, .int z23, .int z24, .ref b_ip, .int z25, .ref b_ah, .ref b_be, .ref b_me, .int z26, .ref b_tr, .ref b_ld, .long u_st, .ref b_wn, .int u_id])), (b_ah, .inl (G.2 1, 49152, .inr (.inl z30))), (b_be, .inl (G.2 1, 49152, .inr (.inl z31))), (b_me, .inl (G.2 0, 1536, .inl z32))] := hD
            refine g5_tl (v := z78) y79 ?_
            refine lv_lconst (v := 0) hx hb dX12_path_55 (by decide) ?_
            refine W.lcmp hx hb dX12_path_56 ?_
            refine lv_if_le (tgt := 64) hx hb dX12_path_57 (by decide) (fun c_80 => ?_) (fun c_80 => ?_)
            ·
              have i_80 : (lg_cmp z78 0).toInt ≤ 0 := by have z := g5_le (a := (lg_cmp z78 0).toInt) (b := 0) (by rfl) (by decide) c_80; omega
              refine lv_iconst (v := 0) hx hb dX12_path_64 (by decide) ?_
              refine lv_goto (tgt := 140) hx hb dX12_path_65 (by decide) ?_
              refine lv_istore (lv' := [(7, .int 0), (5, .int k38_5), (6, .int k38_6), (2, .int k25_2), (3, .int k25_3), (4, .int k25_4), (0, .ref b_o), (1, .int p_1)]) hx hb dX12_path_140 hl (by decide) rfl (fun ls hl => ?_)
              refine lv_iload hx hb dX12_path_142 (lv_at hl 0 rfl) ?_
              refine lv_if_eq (tgt := 152) hx hb dX12_path_144 (by decide) (fun c_81 => ?_) (fun c_81 => ?_)
              ·
                refine lv_iload hx hb dX12_path_152 (lv_at hl 1 rfl) ?_
                refine lv_istore (lv' := [(5, .int k38_5), (7, .int 0), (6, .int k38_6), (2, .int k25_2), (3, .int k25_3), (4, .int k25_4), (0, .ref b_o), (1, .int p_1)]) hx hb dX12_path_154 hl (by decide) rfl (fun ls hl => ?_)
                obtain ⟨y82, hy_82, t_82⟩ := g_incN k38_6 (-1) (by decide) (by omega) (by omega)
                have t_82 : y82.toInt = k38_6.toInt + (-1) := t_82
                refine lv_iinc (v := y82) (lv' := [(6, .int y82), (5, .int k38_5), (7, .int 0), (2, .int k25_2), (3, .int k25_3), (4, .int k25_4), (0, .ref b_o), (1, .int p_1)]) hx hb dX12_path_156 hl (k := 2) rfl hy_82 (by decide) rfl (fun ls hl => ?_)
                refine lv_goto (tgt := 38) hx hb dX12_path_159 (by decide) ?_
                exact ih_38_41 (y82, k38_5) ls H locs (show Int.toNat (y82.toInt + 1) < Int.toNat (k38_6.toInt + 1) from g_dn (show y82.toInt < k38_6.toInt by omega) (show 0 ≤ k38_6.toInt by omega)) ⟨lv_sub hl [1, 0, 3, 4, 5, 6, 7] rfl, hP.sub [4, 0, 1, 2, 3, 5, 6, 7] rfl, hD.sub [4, 0, 1, 2, 3, 5, 6, 7] (by decide) rfl, hS, ⟨by omega, by omega⟩, ⟨by omega, by omega⟩, i_40⟩
              ·
                exact absurd c_81 (by decide)
            ·
              have i_80 : (lg_cmp z78 0).toInt > 0 := by have z := g5_leN (a := (lg_cmp z78 0).toInt) (b := 0) (by rfl) (by decide) c_80; omega
              refine lv_iconst (v := 1) hx hb dX12_path_60 (by decide) ?_
              refine lv_goto (tgt := 140) hx hb dX12_path_61 (by decide) ?_
              refine lv_istore (lv' := [(7, .int 1), (5, .int k38_5), (6, .int k38_6), (2, .int k25_2), (3, .int k25_3), (4, .int k25_4), (0, .ref b_o), (1, .int p_1)]) hx hb dX12_path_140 hl (by decide) rfl (fun ls hl => ?_)
              refine lv_iload hx hb dX12_path_142 (lv_at hl 0 rfl) ?_
              refine lv_if_eq (tgt := 152) hx hb dX12_path_144 (by decide) (fun c_83 => ?_) (fun c_83 => ?_)
              ·
                exact absurd c_83 (by decide)
              ·
                refine lv_iload hx hb dX12_path_147 (lv_at hl 2 rfl) ?_
                refine lv_goto (tgt := 154) hx hb dX12_path_149 (by decide) ?_
                refine lv_istore (lv' := [(5, .int k38_6), (7, .int 1), (6, .int k38_6), (2, .int k25_2), (3, .int k25_3), (4, .int k25_4), (0, .ref b_o), (1, .int p_1)]) hx hb dX12_path_154 hl (by decide) rfl (fun ls hl => ?_)
                obtain ⟨y84, hy_84, t_84⟩ := g_incN k38_6 (-1) (by decide) (by omega) (by omega)
                have t_84 : y84.toInt = k38_6.toInt + (-1) := t_84
                refine lv_iinc (v := y84) (lv' := [(6, .int y84), (5, .int k38_6), (7, .int 1), (2, .int k25_2), (3, .int k25_3), (4, .int k25_4), (0, .ref b_o), (1, .int p_1)]) hx hb dX12_path_156 hl (k := 2) rfl hy_84 (by decide) rfl (fun ls hl => ?_)
                refine lv_goto (tgt := 38) hx hb dX12_path_159 (by decide) ?_
                exact ih_38_41 (y84, k38_6) ls H locs (show Int.toNat (y84.toInt + 1) < Int.toNat (k38_6.toInt + 1) from g_dn (show y84.toInt < k38_6.toInt by omega) (show 0 ≤ k38_6.toInt by omega)) ⟨lv_sub hl [1, 0, 3, 4, 5, 6, 7] rfl, hP.sub [4, 0, 1, 2, 3, 5, 6, 7] rfl, hD.sub [4, 0, 1, 2, 3, 5, 6, 7] (by decide) rfl, hS, ⟨by omega, by omega⟩, ⟨by omega, by omega⟩, Or.inr (by have e9 : (64 * k25_4.toInt + k38_6.toInt).toNat = k38_6.toNatClampNeg := (by have zz := g5_clamp k38_6; omega); rw [e9]; have z9 := ra_pos i_77 i_80; omega)⟩
    ·
      exact absurd c_2 (by decide)
  ·
    have hP := g5_same hP hk1
    generalize H1 = H at hP hS ⊢
    refine lv_if_ne (tgt := 14) hx hb dX12_path_9 (by decide) (fun c_85 => ?_) (fun c_85 => ?_)
    ·
      exact absurd c_85 (by decide)
    ·
      refine lv_iconst (v := (-1)) hx hb dX12_path_12 (by decide) ?_
      exact W.iret (v := (-1)) hx hb hr (fun t ht hW => ⟨⟨(-1), [(b_o, .inr (12, [.int 0, .int u_sa, .ref b_rf, .ref b_ro, .ref b_im, .ref b_ke, .int u_fd, .ref b_tp, .int u_td, .int u_fr, .int u_to, .int u_so, .long u_wo, .int u_fa, .int u_bd, .int u_nc, .ref b_nl, .int u_co, .ref b_op, .ref b_ar, .int u_le, .ref b_pi, .ref b_pa, .int u_pd, .int u_od, .ref b_ws, .ref b_hw, .int u_la, .ref b_se, .ref b_re, .int u_bk, .long u_va, .long u_su, .int u_ce, .int u_ho, .int u_wy, .int u_bt, .int u_ps, .ref b_pt, .int u_tg, .int u_sn, .ref b_ip, .int u_ic, .ref b_ah, .ref b_be, .ref b_me, .int u_wd, .ref b_tr, .ref b_ld, .long u_st, .ref b_wn, .int u_id])), (b_ro, .inl (G.2 0, 5740, .inl v_ro)), (b_se, .inl (G.2 1, 13, .inr (.inl v_se))), (b_re, .inl (G.2 1, 400, .inr (.inl v_re))), (b_pt, .inl (G.2 0, 200, .inl v_pt)), (b_ah, .inl (G.2 1, 49152, .inr (.inl v_ah))), (b_be, .inl (G.2 1, 49152, .inr (.inl v_be))), (b_me, .inl (G.2 0, 1536, .inl v_me))], rfl, ⟨(-1), 0, u_la, u_bk, u_va, u_su, u_ce, u_ho, u_wy, u_bt, u_ps, u_tg, u_sn, u_ic, u_wd, v_se, v_re, v_pt, v_ah, v_be, v_me, ⟨by omega, by omega⟩, ⟨by omega, by omega⟩, ⟨by omega, by omega⟩, ⟨by omega, by omega⟩, ⟨by omega, by omega⟩, ⟨by omega, by omega⟩, ⟨by omega, by omega⟩, r_pt, ⟨by omega, by omega⟩, r_me, e_ah, rfl, rfl⟩, by rw [ht]; exact hP.sub [0, 1, 2, 3, 4, 5, 6, 7] rfl, hD.sub [0, 1, 2, 3, 4, 5, 6, 7] (by decide) rfl⟩, hS.F ht⟩) hS.2.2 dX12_path_13
