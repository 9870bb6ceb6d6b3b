set_option maxHeartbeats 4000000 in
set_option maxRecDepth 100000 in
theorem n_goesOnP (l : Launch) (G : g5_G) (b_o b_ah b_me b_rf b_ro b_im b_ke b_tp b_nl b_op b_ar b_pi b_pa b_ws b_hw b_se b_re b_pt b_ip b_be b_tr b_ld b_wn : Nat) (sz : Nat) (u_th : Int32) (u_sa : Int32) (u_fd : Int32) (u_td : Int32) (u_fr : Int32) (u_to : Int32) (u_so : Int32) (u_fa : Int32) (u_bd : Int32) (u_nc : Int32) (u_co : Int32) (u_le : Int32) (u_pd : Int32) (u_od : Int32) (u_la : Int32) (u_bk : Int32) (u_ce : Int32) (u_ho : Int32) (u_wy : Int32) (u_bt : Int32) (u_ps : Int32) (u_tg : Int32) (u_sn : Int32) (u_ic : Int32) (u_wd : Int32) (u_id : Int32) (p_1 : Int32) (p_2 : Int32) (u_wo : Int64) (u_va : Int64) (u_su : Int64) (u_st : Int64) (v_ah : Nat → Int64) (v_me : Nat → Int32) (h_u_td : 0 ≤ u_td.toInt ∧ u_td.toInt ≤ 400) (h_u_fr : 0 ≤ u_fr.toInt ∧ u_fr.toInt ≤ 400) (h_u_to : 0 ≤ u_to.toInt ∧ u_to.toInt ≤ 400) (h_u_bd : 0 ≤ u_bd.toInt ∧ u_bd.toInt ≤ 1) (h_u_nc : 0 ≤ u_nc.toInt ∧ u_nc.toInt ≤ 12) (h_u_co : 0 ≤ u_co.toInt ∧ u_co.toInt ≤ 400) (h_u_pd : 0 ≤ u_pd.toInt ∧ u_pd.toInt ≤ 400) (h_u_la : 0 ≤ u_la.toInt ∧ u_la.toInt ≤ 4840) (h_u_bk : 0 ≤ u_bk.toInt ∧ u_bk.toInt ≤ 1) (h_u_ce : 0 ≤ u_ce.toInt ∧ u_ce.toInt ≤ 63) (h_u_ho : 0 ≤ u_ho.toInt ∧ u_ho.toInt ≤ 23) (h_u_wy : 0 ≤ u_wy.toInt ∧ u_wy.toInt ≤ 3) (h_u_bt : 0 ≤ u_bt.toInt ∧ u_bt.toInt ≤ 1000000) (h_u_ps : 0 ≤ u_ps.toInt ∧ u_ps.toInt ≤ 200) (h_u_ic : 0 ≤ u_ic.toInt ∧ u_ic.toInt ≤ 1) (h_u_id : 0 ≤ u_id.toInt ∧ u_id.toInt ≤ 1) (h_p_1 : 0 ≤ p_1.toInt ∧ p_1.toInt ≤ 22) (h_p_2 : 0 ≤ p_2.toInt ∧ p_2.toInt ≤ 63) (r_me : MEI v_me) : Met l yX12_goesOn (wsG yX12_goesOn cX12_goesOn 6 none) ({ frames := 2, cells := 0, slots := 0, locals := 45 }) (va_Pc [.ref b_o, .int p_1, .int p_2] (g5_P G [(b_o, (oc12 u_th u_sa b_rf b_ro b_im b_ke u_fd b_tp u_td u_fr u_to u_so u_wo u_fa u_bd u_nc b_nl u_co b_op b_ar u_le b_pi b_pa u_pd u_od b_ws b_hw u_la b_se b_re u_bk u_va u_su u_ce u_ho u_wy u_bt u_ps b_pt u_tg u_sn b_ip u_ic b_ah b_be b_me u_wd b_tr b_ld u_st b_wn u_id)), (b_ah, (arJ G 49152 v_ah)), (b_me, (arI G 1536 v_me))] sz)) (va_Qv (fun (u : va_W) => (∃ (o_ah : Nat → Int64), (AHK o_ah v_ah) ∧ (u = [(b_o, (oc12 u_th u_sa b_rf b_ro b_im b_ke u_fd b_tp u_td u_fr u_to u_so u_wo u_fa u_bd u_nc b_nl u_co b_op b_ar u_le b_pi b_pa u_pd u_od b_ws b_hw u_la b_se b_re u_bk u_va u_su u_ce u_ho u_wy u_bt u_ps b_pt u_tg u_sn b_ip u_ic b_ah b_be b_me u_wd b_tr b_ld u_st b_wn u_id)), (b_ah, (arJ G 49152 o_ah)), (b_me, (arI G 1536 v_me))]))) (g5_B G (va_A [(b_o, (oc12 u_th u_sa b_rf b_ro b_im b_ke u_fd b_tp u_td u_fr u_to u_so u_wo u_fa u_bd u_nc b_nl u_co b_op b_ar u_le b_pi b_pa u_pd u_od b_ws b_hw u_la b_se b_re u_bk u_va u_su u_ce u_ho u_wy u_bt u_ps b_pt u_tg u_sn b_ip u_ic b_ah b_be b_me u_wd b_tr b_ld u_st b_wn u_id)), (b_ah, (arJ G 49152 v_ah)), (b_me, (arI G 1536 v_me))] sz)) (va_A [(b_o, (oc12 u_th u_sa b_rf b_ro b_im b_ke u_fd b_tp u_td u_fr u_to u_so u_wo u_fa u_bd u_nc b_nl u_co b_op b_ar u_le b_pi b_pa u_pd u_od b_ws b_hw u_la b_se b_re u_bk u_va u_su u_ce u_ho u_wy u_bt u_ps b_pt u_tg u_sn b_ip u_ic b_ah b_be b_me u_wd b_tr b_ld u_st b_wn u_id)), (b_ah, (arJ G 49152 v_ah)), (b_me, (arI G 1536 v_me))] sz)) 0 0 (va_A [(b_o, (oc12 u_th u_sa b_rf b_ro b_im b_ke u_fd b_tp u_td u_fr u_to u_so u_wo u_fa u_bd u_nc b_nl u_co b_op b_ar u_le b_pi b_pa u_pd u_od b_ws b_hw u_la b_se b_re u_bk u_va u_su u_ce u_ho u_wy u_bt u_ps b_pt u_tg u_sn b_ip u_ic b_ah b_be b_me u_wd b_tr b_ld u_st b_wn u_id)), (b_ah, (arJ G 49152 v_ah)), (b_me, (arI G 1536 v_me))] sz) := by
  refine Met.ofW (cc := cX12_goesOn) (maxL := 6) (ret := none) (by decide) rfl ?_
  intro p e s m args below meth c s₁ B hml hv
  obtain ⟨rfl, hsz, hP, hK, hD0, hN, hT⟩ := hv
  have hx := B.exec
  have hb := B.bytes
  have hr := B.returns
  have hts : ∀ w ∈ tblG, w.before _ s = true := fun w h => atoms_spec (ws := (wsG yX12_goesOn cX12_goesOn 6 none)) B.pre w (List.mem_cons_of_mem _ h)
  have hown : s.vm.findClass RX12 = some m.cls := findClass_of_methodNamed B.named
  have hlocks := B.notSynchronized
  subst hsz
  have hD := hD0.self (sz := s.heap.size)
  generalize hAe : va_A [(b_o, (oc12 u_th u_sa b_rf b_ro b_im b_ke u_fd b_tp u_td u_fr u_to u_so u_wo u_fa u_bd u_nc b_nl u_co b_op b_ar u_le b_pi b_pa u_pd u_od b_ws b_hw u_la b_se b_re u_bk u_va u_su u_ce u_ho u_wy u_bt u_ps b_pt u_tg u_sn b_ip u_ic b_ah b_be b_me u_wd b_tr b_ld u_st b_wn u_id)), (b_ah, (arJ G 49152 v_ah)), (b_me, (arI G 1536 v_me))] s.heap.size = A at hD hT ⊢
  have hA : ∀ q : Nat, s.heap.size ≤ q → A q := fun q h => by rw [← hAe]; exact Or.inr h
  have hS : va_S A s.heap s.heap [] := va_S.rf
  have hP : va_P G.1 vwCl [(b_o, (oc12 u_th u_sa b_rf b_ro b_im b_ke u_fd b_tp u_td u_fr u_to u_so u_wo u_fa u_bd u_nc b_nl u_co b_op b_ar u_le b_pi b_pa u_pd u_od b_ws b_hw u_la b_se b_re u_bk u_va u_su u_ce u_ho u_wy u_bt u_ps b_pt u_tg u_sn b_ip u_ic b_ah b_be b_me u_wd b_tr b_ld u_st b_wn u_id)), (b_ah, (arJ G 49152 v_ah)), (b_me, (arI G 1536 v_me))] s.heap := hP
  have hl := lv_entry ([.ref b_o, .int p_1, .int p_2]) (n := 6) (Nat.le_of_ble_eq_true rfl)
  rw [lg_entry_eq]
  generalize (lg_sl ([.ref b_o, .int p_1, .int p_2]) ++ List.replicate (6 - (lg_sl ([.ref b_o, .int p_1, .int p_2])).length) Slot.unset).toArray = ls at hl ⊢
  have hl : lv_has ls 6 [(0, .ref b_o), (1, .int p_1), (2, .int p_2)] := hl
  refine lv_iconst (v := 0) hx hb dX12_goesOn_0 (by decide) ?_
  refine lv_istore_n (lv' := [(3, .int 0), (0, .ref b_o), (1, .int p_1), (2, .int p_2)]) hx hb dX12_goesOn_1 rfl hl (by decide) rfl (fun ls hl => ?_)
  refine g5_loop (α := (Int32) × (Nat → Int64)) (fun (q : (Int32) × (Nat → Int64)) (ls : Array Slot) (H : Heap) (locs : List Loc) => match q with | (k2_3, k2_ah) => lv_has ls 6 [(3, .int k2_3), (0, .ref b_o), (1, .int p_1), (2, .int p_2)] ∧ va_P G.1 vwCl [(b_o, (oc12 u_th u_sa b_rf b_ro b_im b_ke u_fd b_tp u_td u_fr u_to u_so u_wo u_fa u_bd u_nc b_nl u_co b_op b_ar u_le b_pi b_pa u_pd u_od b_ws b_hw u_la b_se b_re u_bk u_va u_su u_ce u_ho u_wy u_bt u_ps b_pt u_tg u_sn b_ip u_ic b_ah b_be b_me u_wd b_tr b_ld u_st b_wn u_id)), (b_ah, (arJ G 49152 k2_ah)), (b_me, (arI G 1536 v_me))] H ∧ va_D A [(b_o, (oc12 u_th u_sa b_rf b_ro b_im b_ke u_fd b_tp u_td u_fr u_to u_so u_wo u_fa u_bd u_nc b_nl u_co b_op b_ar u_le b_pi b_pa u_pd u_od b_ws b_hw u_la b_se b_re u_bk u_va u_su u_ce u_ho u_wy u_bt u_ps b_pt u_tg u_sn b_ip u_ic b_ah b_be b_me u_wd b_tr b_ld u_st b_wn u_id)), (b_ah, (arJ G 49152 k2_ah)), (b_me, (arI G 1536 v_me))] ∧ va_S A s.heap H locs ∧ (0 ≤ k2_3.toInt ∧ k2_3.toInt ≤ 5) ∧ (AHK k2_ah v_ah)) (fun (q : (Int32) × (Nat → Int64)) => match q with | (k2_3, k2_ah) => Int.toNat (5 - k2_3.toInt)) (0, v_ah) ⟨lv_sub hl [0, 1, 2, 3] rfl, hP, hD, hS, ⟨by decide, by decide⟩, ahk_rf⟩ ?_
  rintro ⟨k2_3, k2_ah⟩ ls H locs ⟨hl, hP, hD, hS, i_1, i_2⟩ ih_2_3
  have hl : lv_has ls 6 [(3, .int k2_3), (0, .ref b_o), (1, .int p_1), (2, .int p_2)] := hl
  have i_1 : 0 ≤ k2_3.toInt ∧ k2_3.toInt ≤ 5 := i_1
  have i_2 : AHK k2_ah v_ah := i_2
  refine g5_rs [(b_o, (oc12 u_th u_sa b_rf b_ro b_im b_ke u_fd b_tp u_td u_fr u_to u_so u_wo u_fa u_bd u_nc b_nl u_co b_op b_ar u_le b_pi b_pa u_pd u_od b_ws b_hw u_la b_se b_re u_bk u_va u_su u_ce u_ho u_wy u_bt u_ps b_pt u_tg u_sn b_ip u_ic b_ah b_be b_me u_wd b_tr b_ld u_st b_wn u_id)), (b_ah, (arJ G 49152 k2_ah)), (b_me, (arI G 1536 v_me))] hP hD (fun hP hD => ?_)
  refine lv_iload_n hx hb dX12_goesOn_2 rfl (lv_at hl 0 rfl) ?_
  refine lv_iconst (v := 5) hx hb dX12_goesOn_3 (by decide) ?_
  refine lv_icmp_ge (tgt := 101) hx hb dX12_goesOn_4 (by decide) (fun c_4 => ?_) (fun c_4 => ?_)
  ·
    have i_4 : k2_3.toInt ≥ 5 := by have z := g5_ge (a := k2_3.toInt) (b := 5) (by rfl) (by decide) c_4; omega
    exact W.vret hx hb hr (fun t ht hW => ⟨⟨[(b_o, (oc12 u_th u_sa b_rf b_ro b_im b_ke u_fd b_tp u_td u_fr u_to u_so u_wo u_fa u_bd u_nc b_nl u_co b_op b_ar u_le b_pi b_pa u_pd u_od b_ws b_hw u_la b_se b_re u_bk u_va u_su u_ce u_ho u_wy u_bt u_ps b_pt u_tg u_sn b_ip u_ic b_ah b_be b_me u_wd b_tr b_ld u_st b_wn u_id)), (b_ah, (arJ G 49152 k2_ah)), (b_me, (arI G 1536 v_me))], rfl, ⟨k2_ah, i_2, rfl⟩, by rw [ht]; exact hP.sub [0, 1, 2] rfl, hD.sub [0, 1, 2] (by decide) rfl⟩, hS.F ht⟩) hS.2.2 dX12_goesOn_101
  ·
    have i_4 : k2_3.toInt < 5 := by have z := g5_geN (a := k2_3.toInt) (b := 5) (by rfl) (by decide) c_4; omega
    refine lv_aload_n hx hb dX12_goesOn_7 rfl (lv_at hl 1 rfl) ?_
    refine lv_iload_n hx hb dX12_goesOn_8 rfl (lv_at hl 3 rfl) ?_
    refine lv_iload_n hx hb dX12_goesOn_9 rfl (lv_at hl 0 rfl) ?_
    refine lv_iload_n hx hb dX12_goesOn_10 rfl (lv_at hl 2 rfl) ?_
    refine lv_iconst (v := 1) hx hb dX12_goesOn_11 (by decide) ?_
    refine lv_iadd hx hb dX12_goesOn_12 ?_
    have t_5 : (p_1 + 1).toInt = p_1.toInt + 1 := g5_iadd (a := p_1.toInt) (b := 1) (by rfl) (by decide) (by omega) (by omega)
    obtain ⟨hPc, hDc, hFc⟩ := g5_sub3 (wc := [(b_o, (oc12 u_th u_sa b_rf b_ro b_im b_ke u_fd b_tp u_td u_fr u_to u_so u_wo u_fa u_bd u_nc b_nl u_co b_op b_ar u_le b_pi b_pa u_pd u_od b_ws b_hw u_la b_se b_re u_bk u_va u_su u_ce u_ho u_wy u_bt u_ps b_pt u_tg u_sn b_ip u_ic b_ah b_be b_me u_wd b_tr b_ld u_st b_wn u_id)), (b_me, (arI G 1536 v_me))]) hP hD hS hA [0, 2] (by decide) rfl
    refine va_calli (va_runV (As := [.int p_2, .int k2_3, .int (p_1 + 1)]) (rest := []) ⟨hx, hb, hml, hown, hts⟩ (n_step l G b_o b_me b_rf b_ro b_im b_ke b_tp b_nl b_op b_ar b_pi b_pa b_ws b_hw b_se b_re b_pt b_ip b_ah b_be b_tr b_ld b_wn H.size u_th u_sa u_fd u_td u_fr u_to u_so u_fa u_bd u_nc u_co u_le u_pd u_od u_la u_bk u_ce u_ho u_wy u_bt u_ps u_tg u_sn u_ic u_wd u_id p_2 k2_3 (p_1 + 1) u_wo u_va u_su u_st v_me h_u_td h_u_fr h_u_to h_u_bd h_u_nc h_u_co h_u_pd h_u_la h_u_bk h_u_ce h_u_ho h_u_wy h_u_bt h_u_ps h_u_ic h_u_id h_p_2 ⟨by omega, by omega⟩ ⟨by omega, by omega⟩ (r_me)) (cwV 3 hts gV_X12_437 rfl rfl rfl hv_X12_step ⟨Nat.le_of_ble_eq_true rfl, Nat.le_of_ble_eq_true rfl⟩) (g5_preV hPc hK hDc hN hT hS hFc (ci := 12) (q0 := 0) rfl rfl) rfl rfl hl.1 rfl (lv_room (Nat.le_of_ble_eq_true rfl)) dX12_goesOn_13 ⟨Nat.le_of_ble_eq_true rfl, Nat.le_of_ble_eq_true rfl⟩) hS (fun q _ h => hFc q h) hFc (fun r u t H1 locs ht hvm hw hB hz1 hk1 hS => ?_)
    obtain ⟨hP1, hD1⟩ := hB
    rw [ht] at hP1
    obtain ⟨z8, i_6, i_7, y9, rfl⟩ := hw
    have i_6 : (-1) ≤ z8.toInt ∧ z8.toInt ≤ 63 := i_6
    have i_7 : z8.toInt = -1 ∨ (v_me (64 * (p_1 + 1).toInt + z8.toInt).toNat).toInt < 64 := i_7
    obtain ⟨hP, hD⟩ := va_join (wr := [(b_ah, (arJ G 49152 k2_ah))]) hP hD [0, 2] [1] rfl rfl (by decide) (by decide) hk1 hFc hP1 hD1
    generalize H1 = H at hP hS ⊢
    refine g5_rs [(b_ah, (arJ G 49152 k2_ah)), (b_o, (oc12 u_th u_sa b_rf b_ro b_im b_ke u_fd b_tp u_td u_fr u_to u_so u_wo u_fa u_bd u_nc b_nl u_co b_op b_ar u_le b_pi b_pa u_pd u_od b_ws b_hw u_la b_se b_re u_bk u_va u_su u_ce u_ho u_wy u_bt u_ps b_pt u_tg u_sn b_ip u_ic b_ah b_be b_me u_wd b_tr b_ld u_st b_wn u_id)), (b_me, (arI G 1536 v_me))] hP hD (fun hP hD => ?_)
    refine g5_ti (v := z8) y9 ?_
    refine lv_istore (lv' := [(4, .int z8), (3, .int k2_3), (0, .ref b_o), (1, .int p_1), (2, .int p_2)]) hx hb dX12_goesOn_16 hl (by decide) rfl (fun ls hl => ?_)
    refine lv_iconst (v := 0) hx hb dX12_goesOn_18 (by decide) ?_
    refine lv_istore (lv' := [(5, .int 0), (4, .int z8), (3, .int k2_3), (0, .ref b_o), (1, .int p_1), (2, .int p_2)]) hx hb dX12_goesOn_19 hl (by decide) rfl (fun ls hl => ?_)
    refine g5_loop (α := (Int32) × (Nat → Int64)) (fun (q : (Int32) × (Nat → Int64)) (ls : Array Slot) (H : Heap) (locs : List Loc) => match q with | (k21_5, k21_ah) => lv_has ls 6 [(5, .int k21_5), (4, .int z8), (3, .int k2_3), (0, .ref b_o), (1, .int p_1), (2, .int p_2)] ∧ va_P G.1 vwCl [(b_ah, (arJ G 49152 k21_ah)), (b_o, (oc12 u_th u_sa b_rf b_ro b_im b_ke u_fd b_tp u_td u_fr u_to u_so u_wo u_fa u_bd u_nc b_nl u_co b_op b_ar u_le b_pi b_pa u_pd u_od b_ws b_hw u_la b_se b_re u_bk u_va u_su u_ce u_ho u_wy u_bt u_ps b_pt u_tg u_sn b_ip u_ic b_ah b_be b_me u_wd b_tr b_ld u_st b_wn u_id)), (b_me, (arI G 1536 v_me))] H ∧ va_D A [(b_ah, (arJ G 49152 k21_ah)), (b_o, (oc12 u_th u_sa b_rf b_ro b_im b_ke u_fd b_tp u_td u_fr u_to u_so u_wo u_fa u_bd u_nc b_nl u_co b_op b_ar u_le b_pi b_pa u_pd u_od b_ws b_hw u_la b_se b_re u_bk u_va u_su u_ce u_ho u_wy u_bt u_ps b_pt u_tg u_sn b_ip u_ic b_ah b_be b_me u_wd b_tr b_ld u_st b_wn u_id)), (b_me, (arI G 1536 v_me))] ∧ va_S A s.heap H locs ∧ (0 ≤ k21_5.toInt ∧ k21_5.toInt ≤ 32) ∧ (AHK k21_ah v_ah)) (fun (q : (Int32) × (Nat → Int64)) => match q with | (k21_5, k21_ah) => Int.toNat (32 - k21_5.toInt)) (0, k2_ah) ⟨lv_sub hl [0, 1, 2, 3, 4, 5] rfl, hP, hD, hS, ⟨by decide, by decide⟩, i_2⟩ ?_
    rintro ⟨k21_5, k21_ah⟩ ls H locs ⟨hl, hP, hD, hS, i_10, i_11⟩ ih_21_12
    have hl : lv_has ls 6 [(5, .int k21_5), (4, .int z8), (3, .int k2_3), (0, .ref b_o), (1, .int p_1), (2, .int p_2)] := hl
    have i_10 : 0 ≤ k21_5.toInt ∧ k21_5.toInt ≤ 32 := i_10
    have i_11 : AHK k21_ah v_ah := i_11
    refine g5_rs [(b_ah, (arJ G 49152 k21_ah)), (b_o, (oc12 u_th u_sa b_rf b_ro b_im b_ke u_fd b_tp u_td u_fr u_to u_so u_wo u_fa u_bd u_nc b_nl u_co b_op b_ar u_le b_pi b_pa u_pd u_od b_ws b_hw u_la b_se b_re u_bk u_va u_su u_ce u_ho u_wy u_bt u_ps b_pt u_tg u_sn b_ip u_ic b_ah b_be b_me u_wd b_tr b_ld u_st b_wn u_id)), (b_me, (arI G 1536 v_me))] hP hD (fun hP hD => ?_)
    refine lv_iload hx hb dX12_goesOn_21 (lv_at hl 0 rfl) ?_
    refine lv_bipush (v := 32) hx hb dX12_goesOn_23 (by decide) ?_
    refine lv_icmp_ge (tgt := 95) hx hb dX12_goesOn_25 (by decide) (fun c_13 => ?_) (fun c_13 => ?_)
    ·
      have i_13 : k21_5.toInt ≥ 32 := by have z := g5_ge (a := k21_5.toInt) (b := 32) (by rfl) (by decide) c_13; omega
      refine lv_iinc (v := (k2_3 + 1)) (lv' := [(3, .int (k2_3 + 1)), (5, .int k21_5), (4, .int z8), (0, .ref b_o), (1, .int p_1), (2, .int p_2)]) hx hb dX12_goesOn_95 hl (k := 2) rfl rfl (by decide) rfl (fun ls hl => ?_)
      have t_14 : (k2_3 + 1).toInt = k2_3.toInt + 1 := g5_iadd (a := k2_3.toInt) (b := 1) rfl (by decide) (by omega) (by omega)
      refine lv_goto (tgt := 2) hx hb dX12_goesOn_98 (by decide) ?_
      exact ih_2_3 ((k2_3 + 1), k21_ah) ls H locs (show Int.toNat (5 - (k2_3 + 1).toInt) < Int.toNat (5 - k2_3.toInt) from g_up (show k2_3.toInt < (k2_3 + 1).toInt by omega) (show k2_3.toInt < 5 by omega)) ⟨lv_sub hl [0, 3, 4, 5] rfl, hP.sub [1, 0, 2] rfl, hD.sub [1, 0, 2] (by decide) rfl, hS, ⟨by omega, by omega⟩, i_11⟩
    ·
      have i_13 : k21_5.toInt < 32 := by have z := g5_geN (a := k21_5.toInt) (b := 32) (by rfl) (by decide) c_13; omega
      refine lv_iload hx hb dX12_goesOn_28 (lv_at hl 1 rfl) ?_
      refine lv_iconst (v := (-1)) hx hb dX12_goesOn_30 (by decide) ?_
      refine lv_icmp_eq (tgt := 95) hx hb dX12_goesOn_31 (by decide) (fun c_15 => ?_) (fun c_15 => ?_)
      ·
        have i_15 : z8.toInt = (-1) := by have z := g5_eq (a := z8.toInt) (b := (-1)) (by rfl) (by decide) c_15; omega
        refine lv_iinc (v := (k2_3 + 1)) (lv' := [(3, .int (k2_3 + 1)), (5, .int k21_5), (4, .int z8), (0, .ref b_o), (1, .int p_1), (2, .int p_2)]) hx hb dX12_goesOn_95 hl (k := 2) rfl rfl (by decide) rfl (fun ls hl => ?_)
        have t_16 : (k2_3 + 1).toInt = k2_3.toInt + 1 := g5_iadd (a := k2_3.toInt) (b := 1) rfl (by decide) (by omega) (by omega)
        refine lv_goto (tgt := 2) hx hb dX12_goesOn_98 (by decide) ?_
        exact ih_2_3 ((k2_3 + 1), k21_ah) ls H locs (show Int.toNat (5 - (k2_3 + 1).toInt) < Int.toNat (5 - k2_3.toInt) from g_up (show k2_3.toInt < (k2_3 + 1).toInt by omega) (show k2_3.toInt < 5 by omega)) ⟨lv_sub hl [0, 3, 4, 5] rfl, hP.sub [1, 0, 2] rfl, hD.sub [1, 0, 2] (by decide) rfl, hS, ⟨by omega, by omega⟩, i_11⟩
      ·
        have n_15 : gNe (z8.toInt) ((-1)) := by have z := g5_eqN (a := z8.toInt) (b := (-1)) (by rfl) (by decide) c_15; unfold gNe; omega
        have i_15 : z8.toInt ≥ 0 := by have z := g5_eqN (a := z8.toInt) (b := (-1)) (by rfl) (by decide) c_15; omega
        refine lv_aload_n hx hb dX12_goesOn_34 rfl (lv_at hl 3 rfl) ?_
        refine va_get (D := G.1) (ci := 12) (v := .ref b_ah) (C := RX12) (T := TX12) (N := 52) hx hb hts inG_X12 hown hK hP 1 rfl rfl 43 (by decide) (hts _ fl_X12_89) (fun _ h9 => h9) rfl dX12_goesOn_35 ?_
        refine lv_bipush (v := 32) hx hb dX12_goesOn_38 (by decide) ?_
        refine lv_bipush (v := 64) hx hb dX12_goesOn_40 (by decide) ?_
        refine lv_iload_n hx hb dX12_goesOn_42 rfl (lv_at hl 4 rfl) ?_
        refine lv_iconst (v := 1) hx hb dX12_goesOn_43 (by decide) ?_
        refine lv_iadd hx hb dX12_goesOn_44 ?_
        have t_17 : (p_1 + 1).toInt = p_1.toInt + 1 := g5_iadd (a := p_1.toInt) (b := 1) (by rfl) (by decide) (by omega) (by omega)
        refine lv_imul hx hb dX12_goesOn_45 ?_
        have t_18 : (64 * (p_1 + 1)).toInt = 64 * (p_1 + 1).toInt := g5_imul (a := 64) (b := (p_1 + 1).toInt) (by decide) (by rfl) (by omega) (by omega)
        refine lv_iload hx hb dX12_goesOn_46 (lv_at hl 1 rfl) ?_
        refine lv_iadd hx hb dX12_goesOn_48 ?_
        have t_19 : ((64 * (p_1 + 1)) + z8).toInt = (64 * (p_1 + 1)).toInt + z8.toInt := g5_iadd (a := (64 * (p_1 + 1)).toInt) (b := z8.toInt) (by rfl) (by rfl) (by omega) (by omega)
        refine lv_imul hx hb dX12_goesOn_49 ?_
        have t_20 : (32 * ((64 * (p_1 + 1)) + z8)).toInt = 32 * ((64 * (p_1 + 1)) + z8).toInt := g5_imul (a := 32) (b := ((64 * (p_1 + 1)) + z8).toInt) (by decide) (by rfl) (by omega) (by omega)
        refine lv_iload hx hb dX12_goesOn_50 (lv_at hl 0 rfl) ?_
        refine lv_aload_n hx hb dX12_goesOn_52 rfl (lv_at hl 3 rfl) ?_
        refine va_get (D := G.1) (ci := 12) (v := .ref b_me) (C := RX12) (T := TX12) (N := 52) hx hb hts inG_X12 hown hK hP 1 rfl rfl 45 (by decide) (hts _ fl_X12_95) (fun _ h9 => h9) rfl dX12_goesOn_53 ?_
        refine lv_bipush (v := 64) hx hb dX12_goesOn_56 (by decide) ?_
        refine lv_iload_n hx hb dX12_goesOn_58 rfl (lv_at hl 4 rfl) ?_
        refine lv_iconst (v := 1) hx hb dX12_goesOn_59 (by decide) ?_
        refine lv_iadd hx hb dX12_goesOn_60 ?_
        have t_21 : (p_1 + 1).toInt = p_1.toInt + 1 := g5_iadd (a := p_1.toInt) (b := 1) (by rfl) (by decide) (by omega) (by omega)
        refine lv_imul hx hb dX12_goesOn_61 ?_
        have t_22 : (64 * (p_1 + 1)).toInt = 64 * (p_1 + 1).toInt := g5_imul (a := 64) (b := (p_1 + 1).toInt) (by decide) (by rfl) (by omega) (by omega)
        refine lv_iload hx hb dX12_goesOn_62 (lv_at hl 1 rfl) ?_
        refine lv_iadd hx hb dX12_goesOn_64 ?_
        have t_23 : ((64 * (p_1 + 1)) + z8).toInt = (64 * (p_1 + 1)).toInt + z8.toInt := g5_iadd (a := (64 * (p_1 + 1)).toInt) (b := z8.toInt) (by rfl) (by rfl) (by omega) (by omega)
        refine va_iald hx hb hK hP 2 0 rfl rfl (i := ((64 * (p_1 + 1)) + z8)) (vp_in_iff.mpr ⟨by omega, by omega⟩) dX12_goesOn_65 ?_
        have hr_24 : 0 ≤ (v_me ((64 * (p_1 + 1)) + z8).toNatClampNeg).toInt ∧ ((v_me ((64 * (p_1 + 1)) + z8).toNatClampNeg).toInt < 32 ∨ 64 ≤ (v_me ((64 * (p_1 + 1)) + z8).toNatClampNeg).toInt) ∧ (v_me ((64 * (p_1 + 1)) + z8).toNatClampNeg).toInt ≤ 127 := r_me (((64 * (p_1 + 1)) + z8).toNatClampNeg)
        have h64_25 : (v_me ((64 * (p_1 + 1)) + z8).toNatClampNeg).toInt < 64 := by have e9 : ((64 * (p_1 + 1)) + z8).toNatClampNeg = (64 * (p_1 + 1).toInt + z8.toInt).toNat := (by have zz := g5_clamp ((64 * (p_1 + 1)) + z8); omega); rw [e9]; rcases i_7 with q | q; omega; exact q
        refine lv_ior hx hb dX12_goesOn_66 ?_
        have ho_26 : 0 ≤ (k21_5 ||| (v_me ((64 * (p_1 + 1)) + z8).toNatClampNeg)).toInt ∧ (k21_5 ||| (v_me ((64 * (p_1 + 1)) + z8).toNatClampNeg)).toInt < 32 := me_low ⟨by omega, by omega⟩ ⟨by omega, by omega⟩
        refine lv_iadd hx hb dX12_goesOn_67 ?_
        have t_27 : ((32 * ((64 * (p_1 + 1)) + z8)) + (k21_5 ||| (v_me ((64 * (p_1 + 1)) + z8).toNatClampNeg))).toInt = (32 * ((64 * (p_1 + 1)) + z8)).toInt + (k21_5 ||| (v_me ((64 * (p_1 + 1)) + z8).toNatClampNeg)).toInt := g5_iadd (a := (32 * ((64 * (p_1 + 1)) + z8)).toInt) (b := (k21_5 ||| (v_me ((64 * (p_1 + 1)) + z8).toNatClampNeg)).toInt) (by rfl) (by rfl) (by omega) (by omega)
        refine lv_dup2_11 hx hb dX12_goesOn_68 rfl rfl ?_
        refine va_lald hx hb hK hP 0 1 rfl rfl (i := ((32 * ((64 * (p_1 + 1)) + z8)) + (k21_5 ||| (v_me ((64 * (p_1 + 1)) + z8).toNatClampNeg)))) (vp_in_iff.mpr ⟨by omega, by omega⟩) dX12_goesOn_69 ?_
        refine lv_aload_n hx hb dX12_goesOn_70 rfl (lv_at hl 3 rfl) ?_
        refine va_get (D := G.1) (ci := 12) (v := .ref b_ah) (C := RX12) (T := TX12) (N := 52) hx hb hts inG_X12 hown hK hP 1 rfl rfl 43 (by decide) (hts _ fl_X12_89) (fun _ h9 => h9) rfl dX12_goesOn_71 ?_
        refine lv_bipush (v := 32) hx hb dX12_goesOn_74 (by decide) ?_
        refine lv_bipush (v := 64) hx hb dX12_goesOn_76 (by decide) ?_
        refine lv_iload_n hx hb dX12_goesOn_78 rfl (lv_at hl 4 rfl) ?_
        refine lv_imul hx hb dX12_goesOn_79 ?_
        have t_28 : (64 * p_1).toInt = 64 * p_1.toInt := g5_imul (a := 64) (b := p_1.toInt) (by decide) (by rfl) (by omega) (by omega)
        refine lv_iload_n hx hb dX12_goesOn_80 rfl (lv_at hl 5 rfl) ?_
        refine lv_iadd hx hb dX12_goesOn_81 ?_
        have t_29 : ((64 * p_1) + p_2).toInt = (64 * p_1).toInt + p_2.toInt := g5_iadd (a := (64 * p_1).toInt) (b := p_2.toInt) (by rfl) (by rfl) (by omega) (by omega)
        refine lv_imul hx hb dX12_goesOn_82 ?_
        have t_30 : (32 * ((64 * p_1) + p_2)).toInt = 32 * ((64 * p_1) + p_2).toInt := g5_imul (a := 32) (b := ((64 * p_1) + p_2).toInt) (by decide) (by rfl) (by omega) (by omega)
        refine lv_iload hx hb dX12_goesOn_83 (lv_at hl 0 rfl) ?_
        refine lv_iadd hx hb dX12_goesOn_85 ?_
        have t_31 : ((32 * ((64 * p_1) + p_2)) + k21_5).toInt = (32 * ((64 * p_1) + p_2)).toInt + k21_5.toInt := g5_iadd (a := (32 * ((64 * p_1) + p_2)).toInt) (b := k21_5.toInt) (by rfl) (by rfl) (by omega) (by omega)
        refine va_lald hx hb hK hP 0 1 rfl rfl (i := ((32 * ((64 * p_1) + p_2)) + k21_5)) (vp_in_iff.mpr ⟨by omega, by omega⟩) dX12_goesOn_86 ?_
        refine lv_ladd hx hb dX12_goesOn_87 ?_
        refine va_last hx hb hK hP hD hS 0 1 rfl rfl (i := ((32 * ((64 * (p_1 + 1)) + z8)) + (k21_5 ||| (v_me ((64 * (p_1 + 1)) + z8).toNatClampNeg)))) (x := ((k21_ah ((32 * ((64 * (p_1 + 1)) + z8)) + (k21_5 ||| (v_me ((64 * (p_1 + 1)) + z8).toNatClampNeg))).toNatClampNeg) + (k21_ah ((32 * ((64 * p_1) + p_2)) + k21_5).toNatClampNeg))) (vp_in_iff.mpr ⟨by omega, by omega⟩) dX12_goesOn_88 (fun H locs hP hD hS => ?_)
        refine g5_rs [(b_ah, (arJ G 49152 (vp_updL k21_ah ((32 * ((64 * (p_1 + 1)) + z8)) + (k21_5 ||| (v_me ((64 * (p_1 + 1)) + z8).toNatClampNeg))).toNatClampNeg ((k21_ah ((32 * ((64 * (p_1 + 1)) + z8)) + (k21_5 ||| (v_me ((64 * (p_1 + 1)) + z8).toNatClampNeg))).toNatClampNeg) + (k21_ah ((32 * ((64 * p_1) + p_2)) + k21_5).toNatClampNeg))))), (b_o, (oc12 u_th u_sa b_rf b_ro b_im b_ke u_fd b_tp u_td u_fr u_to u_so u_wo u_fa u_bd u_nc b_nl u_co b_op b_ar u_le b_pi b_pa u_pd u_od b_ws b_hw u_la b_se b_re u_bk u_va u_su u_ce u_ho u_wy u_bt u_ps b_pt u_tg u_sn b_ip u_ic b_ah b_be b_me u_wd b_tr b_ld u_st b_wn u_id)), (b_me, (arI G 1536 v_me))] hP hD (fun hP hD => ?_)
        refine lv_iinc (v := (k21_5 + 1)) (lv' := [(5, .int (k21_5 + 1)), (4, .int z8), (3, .int k2_3), (0, .ref b_o), (1, .int p_1), (2, .int p_2)]) hx hb dX12_goesOn_89 hl (k := 0) rfl rfl (by decide) rfl (fun ls hl => ?_)
        have t_32 : (k21_5 + 1).toInt = k21_5.toInt + 1 := g5_iadd (a := k21_5.toInt) (b := 1) rfl (by decide) (by omega) (by omega)
        refine lv_goto (tgt := 21) hx hb dX12_goesOn_92 (by decide) ?_
        exact ih_21_12 ((k21_5 + 1), (vp_updL k21_ah ((32 * ((64 * (p_1 + 1)) + z8)) + (k21_5 ||| (v_me ((64 * (p_1 + 1)) + z8).toNatClampNeg))).toNatClampNeg ((k21_ah ((32 * ((64 * (p_1 + 1)) + z8)) + (k21_5 ||| (v_me ((64 * (p_1 + 1)) + z8).toNatClampNeg))).toNatClampNeg) + (k21_ah ((32 * ((64 * p_1) + p_2)) + k21_5).toNatClampNeg)))) ls H locs (show Int.toNat (32 - (k21_5 + 1).toInt) < Int.toNat (32 - k21_5.toInt) from g_up (show k21_5.toInt < (k21_5 + 1).toInt by omega) (show k21_5.toInt < 32 by omega)) ⟨lv_sub hl [0, 1, 2, 3, 4, 5] rfl, hP, hD, hS, ⟨by omega, by omega⟩, ahk_upd i_11 (by omega)⟩
