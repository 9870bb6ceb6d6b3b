set_option maxHeartbeats 4000000 in
set_option maxRecDepth 100000 in
theorem n_findMeets (l : Launch) (G : g5_G) (b_o b_ro b_se b_re b_pt b_me b_rf b_im b_ke b_tp b_nl b_op b_ar b_pi b_pa b_ws b_hw b_ip b_ah b_be b_tr b_ld b_wn : Nat) (sz : Nat) (u_th : Int32) (u_sa : Int32) (u_fd : Int32) (u_td : Int32) (u_fr : Int32) (u_to : Int32) (u_so : Int32) (u_fa : Int32) (u_bd : Int32) (u_nc : Int32) (u_co : Int32) (u_le : Int32) (u_pd : Int32) (u_od : Int32) (u_la : Int32) (u_bk : Int32) (u_ce : Int32) (u_ho : Int32) (u_wy : Int32) (u_bt : Int32) (u_ps : Int32) (u_tg : Int32) (u_sn : Int32) (u_ic : Int32) (u_wd : Int32) (u_id : Int32) (p_1 : Int32) (p_2 : Int32) (p_3 : Int32) (p_4 : Int32) (u_wo : Int64) (u_va : Int64) (u_su : Int64) (u_st : Int64) (v_ro : Nat → Int32) (v_se : Nat → Int64) (v_re : Nat → Int64) (v_pt : Nat → Int32) (v_me : Nat → Int32) (h_u_td : 0 ≤ u_td.toInt ∧ u_td.toInt ≤ 400) (h_u_fr : 0 ≤ u_fr.toInt ∧ u_fr.toInt ≤ 400) (h_u_to : 0 ≤ u_to.toInt ∧ u_to.toInt ≤ 400) (h_u_bd : 0 ≤ u_bd.toInt ∧ u_bd.toInt ≤ 1) (h_u_nc : 0 ≤ u_nc.toInt ∧ u_nc.toInt ≤ 12) (h_u_co : 0 ≤ u_co.toInt ∧ u_co.toInt ≤ 400) (h_u_pd : 0 ≤ u_pd.toInt ∧ u_pd.toInt ≤ 400) (h_u_la : 0 ≤ u_la.toInt ∧ u_la.toInt ≤ 4840) (h_u_bk : 0 ≤ u_bk.toInt ∧ u_bk.toInt ≤ 1) (h_u_ce : 0 ≤ u_ce.toInt ∧ u_ce.toInt ≤ 63) (h_u_ho : 0 ≤ u_ho.toInt ∧ u_ho.toInt ≤ 23) (h_u_wy : 0 ≤ u_wy.toInt ∧ u_wy.toInt ≤ 3) (h_u_bt : 0 ≤ u_bt.toInt ∧ u_bt.toInt ≤ 1000000) (h_u_ps : 0 ≤ u_ps.toInt ∧ u_ps.toInt ≤ 200) (h_u_ic : 0 ≤ u_ic.toInt ∧ u_ic.toInt ≤ 1) (h_u_id : 0 ≤ u_id.toInt ∧ u_id.toInt ≤ 1) (h_p_2 : 0 ≤ p_2.toInt ∧ p_2.toInt ≤ 63) (h_p_3 : (-1) ≤ p_3.toInt ∧ p_3.toInt ≤ 3) (h_p_4 : 0 ≤ p_4.toInt ∧ p_4.toInt ≤ 23) (r_ro : MI v_ro) (r_pt : PTI v_pt) (r_me : MEI v_me) : Met l yX12_findMeets (wsG yX12_findMeets cX12_findMeets 10 none) ({ frames := 7, cells := 0, slots := 0, locals := 176 }) (va_Pc [.ref b_o, .int p_1, .int p_2, .int p_3, .int p_4] (g5_P G [(b_o, (oc12 u_th u_sa b_rf b_ro b_im b_ke u_fd b_tp u_td u_fr u_to u_so u_wo u_fa u_bd u_nc b_nl u_co b_op b_ar u_le b_pi b_pa u_pd u_od b_ws b_hw u_la b_se b_re u_bk u_va u_su u_ce u_ho u_wy u_bt u_ps b_pt u_tg u_sn b_ip u_ic b_ah b_be b_me u_wd b_tr b_ld u_st b_wn u_id)), (b_ro, (arI G 5740 v_ro)), (b_se, (arJ G 13 v_se)), (b_re, (arJ G 400 v_re)), (b_pt, (arI G 200 v_pt)), (b_me, (arI G 1536 v_me))] sz)) (va_Qv (fun (u : va_W) => (∃ (o_la : Int32) (o_bk : Int32) (o_va : Int64) (o_su : Int64) (o_ce : Int32) (o_ho : Int32) (o_wy : Int32) (o_bt : Int32) (o_ps : Int32) (o_tg : Int32) (o_sn : Int32) (o_wd : Int32) (o_se : Nat → Int64) (o_re : Nat → Int64) (o_pt : Nat → Int32) (o_me : Nat → Int32), (0 ≤ o_la.toInt ∧ o_la.toInt ≤ 4840) ∧ (0 ≤ o_bk.toInt ∧ o_bk.toInt ≤ 1) ∧ (0 ≤ o_ce.toInt ∧ o_ce.toInt ≤ 63) ∧ (0 ≤ o_ho.toInt ∧ o_ho.toInt ≤ 23) ∧ (0 ≤ o_wy.toInt ∧ o_wy.toInt ≤ 3) ∧ (0 ≤ o_bt.toInt ∧ o_bt.toInt ≤ 1000000) ∧ (0 ≤ o_ps.toInt ∧ o_ps.toInt ≤ 200) ∧ (PTI o_pt) ∧ (MEI o_me) ∧ (u = [(b_o, (oc12 u_th u_sa b_rf b_ro b_im b_ke u_fd b_tp u_td u_fr u_to u_so u_wo u_fa u_bd u_nc b_nl u_co b_op b_ar u_le b_pi b_pa u_pd u_od b_ws b_hw o_la b_se b_re o_bk o_va o_su o_ce o_ho o_wy o_bt o_ps b_pt o_tg o_sn b_ip u_ic b_ah b_be b_me o_wd b_tr b_ld u_st b_wn u_id)), (b_ro, (arI G 5740 v_ro)), (b_se, (arJ G 13 o_se)), (b_re, (arJ G 400 o_re)), (b_pt, (arI G 200 o_pt)), (b_me, (arI G 1536 o_me))]))) (g5_B G (va_A [(b_o, (oc12 u_th u_sa b_rf b_ro b_im b_ke u_fd b_tp u_td u_fr u_to u_so u_wo u_fa u_bd u_nc b_nl u_co b_op b_ar u_le b_pi b_pa u_pd u_od b_ws b_hw u_la b_se b_re u_bk u_va u_su u_ce u_ho u_wy u_bt u_ps b_pt u_tg u_sn b_ip u_ic b_ah b_be b_me u_wd b_tr b_ld u_st b_wn u_id)), (b_ro, (arI G 5740 v_ro)), (b_se, (arJ G 13 v_se)), (b_re, (arJ G 400 v_re)), (b_pt, (arI G 200 v_pt)), (b_me, (arI G 1536 v_me))] sz)) (va_A [(b_o, (oc12 u_th u_sa b_rf b_ro b_im b_ke u_fd b_tp u_td u_fr u_to u_so u_wo u_fa u_bd u_nc b_nl u_co b_op b_ar u_le b_pi b_pa u_pd u_od b_ws b_hw u_la b_se b_re u_bk u_va u_su u_ce u_ho u_wy u_bt u_ps b_pt u_tg u_sn b_ip u_ic b_ah b_be b_me u_wd b_tr b_ld u_st b_wn u_id)), (b_ro, (arI G 5740 v_ro)), (b_se, (arJ G 13 v_se)), (b_re, (arJ G 400 v_re)), (b_pt, (arI G 200 v_pt)), (b_me, (arI G 1536 v_me))] sz)) 0 0 (va_A [(b_o, (oc12 u_th u_sa b_rf b_ro b_im b_ke u_fd b_tp u_td u_fr u_to u_so u_wo u_fa u_bd u_nc b_nl u_co b_op b_ar u_le b_pi b_pa u_pd u_od b_ws b_hw u_la b_se b_re u_bk u_va u_su u_ce u_ho u_wy u_bt u_ps b_pt u_tg u_sn b_ip u_ic b_ah b_be b_me u_wd b_tr b_ld u_st b_wn u_id)), (b_ro, (arI G 5740 v_ro)), (b_se, (arJ G 13 v_se)), (b_re, (arJ G 400 v_re)), (b_pt, (arI G 200 v_pt)), (b_me, (arI G 1536 v_me))] sz) := by
  refine Met.ofW (cc := cX12_findMeets) (maxL := 10) (ret := none) (by decide) rfl ?_
  intro p e s m args below meth c s₁ B hml hv
  obtain ⟨rfl, hsz, hP, hK, hD0, hN, hT⟩ := hv
  have hx := B.exec
  have hb := B.bytes
  have hr := B.returns
  have hts : ∀ w ∈ tblG, w.before _ s = true := fun w h => atoms_spec (ws := (wsG yX12_findMeets cX12_findMeets 10 none)) B.pre w (List.mem_cons_of_mem _ h)
  have hown : s.vm.findClass RX12 = some m.cls := findClass_of_methodNamed B.named
  have hlocks := B.notSynchronized
  subst hsz
  have hD := hD0.self (sz := s.heap.size)
  generalize hAe : va_A [(b_o, (oc12 u_th u_sa b_rf b_ro b_im b_ke u_fd b_tp u_td u_fr u_to u_so u_wo u_fa u_bd u_nc b_nl u_co b_op b_ar u_le b_pi b_pa u_pd u_od b_ws b_hw u_la b_se b_re u_bk u_va u_su u_ce u_ho u_wy u_bt u_ps b_pt u_tg u_sn b_ip u_ic b_ah b_be b_me u_wd b_tr b_ld u_st b_wn u_id)), (b_ro, (arI G 5740 v_ro)), (b_se, (arJ G 13 v_se)), (b_re, (arJ G 400 v_re)), (b_pt, (arI G 200 v_pt)), (b_me, (arI G 1536 v_me))] s.heap.size = A at hD hT ⊢
  have hA : ∀ q : Nat, s.heap.size ≤ q → A q := fun q h => by rw [← hAe]; exact Or.inr h
  have hS : va_S A s.heap s.heap [] := va_S.rf
  have hP : va_P G.1 vwCl [(b_o, (oc12 u_th u_sa b_rf b_ro b_im b_ke u_fd b_tp u_td u_fr u_to u_so u_wo u_fa u_bd u_nc b_nl u_co b_op b_ar u_le b_pi b_pa u_pd u_od b_ws b_hw u_la b_se b_re u_bk u_va u_su u_ce u_ho u_wy u_bt u_ps b_pt u_tg u_sn b_ip u_ic b_ah b_be b_me u_wd b_tr b_ld u_st b_wn u_id)), (b_ro, (arI G 5740 v_ro)), (b_se, (arJ G 13 v_se)), (b_re, (arJ G 400 v_re)), (b_pt, (arI G 200 v_pt)), (b_me, (arI G 1536 v_me))] s.heap := hP
  have hl := lv_entry ([.ref b_o, .int p_1, .int p_2, .int p_3, .int p_4]) (n := 10) (Nat.le_of_ble_eq_true rfl)
  rw [lg_entry_eq]
  generalize (lg_sl ([.ref b_o, .int p_1, .int p_2, .int p_3, .int p_4]) ++ List.replicate (10 - (lg_sl ([.ref b_o, .int p_1, .int p_2, .int p_3, .int p_4])).length) Slot.unset).toArray = ls at hl ⊢
  have hl : lv_has ls 10 [(0, .ref b_o), (1, .int p_1), (2, .int p_2), (3, .int p_3), (4, .int p_4)] := hl
  refine lv_aload_n hx hb dX12_findMeets_0 rfl (lv_at hl 0 rfl) ?_
  refine lv_iconst (v := 0) hx hb dX12_findMeets_1 (by decide) ?_
  refine va_put (D := G.1) (ci := 12) (v := .int 0) (ty := .int) (C := RX12) (T := TX12) (N := 52) hx hb hts inG_X12 tyX12 tyX12_ok nmX12 hown hK hP hD hS 0 rfl rfl 46 (by decide) (hts _ fl_X12_422) (fun _ h9 => h9) rfl (by decide +kernel) rfl rfl (Nat.le_of_ble_eq_true rfl) dX12_findMeets_2 (fun H locs hP hD hS => ?_)
  refine g5_rs [(b_o, (oc12 u_th u_sa b_rf b_ro b_im b_ke u_fd b_tp u_td u_fr u_to u_so u_wo u_fa u_bd u_nc b_nl u_co b_op b_ar u_le b_pi b_pa u_pd u_od b_ws b_hw u_la b_se b_re u_bk u_va u_su u_ce u_ho u_wy u_bt u_ps b_pt u_tg u_sn b_ip u_ic b_ah b_be b_me 0 b_tr b_ld u_st b_wn u_id)), (b_ro, (arI G 5740 v_ro)), (b_se, (arJ G 13 v_se)), (b_re, (arJ G 400 v_re)), (b_pt, (arI G 200 v_pt)), (b_me, (arI G 1536 v_me))] hP hD (fun hP hD => ?_)
  refine lv_iconst (v := 0) hx hb dX12_findMeets_5 (by decide) ?_
  refine lv_istore (lv' := [(5, .int 0), (0, .ref b_o), (1, .int p_1), (2, .int p_2), (3, .int p_3), (4, .int p_4)]) hx hb dX12_findMeets_6 hl (by decide) rfl (fun ls hl => ?_)
  refine lv_iconst (v := 0) hx hb dX12_findMeets_8 (by decide) ?_
  refine lv_istore (lv' := [(6, .int 0), (5, .int 0), (0, .ref b_o), (1, .int p_1), (2, .int p_2), (3, .int p_3), (4, .int p_4)]) hx hb dX12_findMeets_9 hl (by decide) rfl (fun ls hl => ?_)
  refine g5_loop (α := (Int32) × (Nat → Int32)) (fun (q : (Int32) × (Nat → Int32)) (ls : Array Slot) (H : Heap) (locs : List Loc) => match q with | (k11_6, k11_me) => lv_has ls 10 [(6, .int k11_6), (5, .int 0), (0, .ref b_o), (1, .int p_1), (2, .int p_2), (3, .int p_3), (4, .int p_4)] ∧ va_P G.1 vwCl [(b_o, (oc12 u_th u_sa b_rf b_ro b_im b_ke u_fd b_tp u_td u_fr u_to u_so u_wo u_fa u_bd u_nc b_nl u_co b_op b_ar u_le b_pi b_pa u_pd u_od b_ws b_hw u_la b_se b_re u_bk u_va u_su u_ce u_ho u_wy u_bt u_ps b_pt u_tg u_sn b_ip u_ic b_ah b_be b_me 0 b_tr b_ld u_st b_wn u_id)), (b_ro, (arI G 5740 v_ro)), (b_se, (arJ G 13 v_se)), (b_re, (arJ G 400 v_re)), (b_pt, (arI G 200 v_pt)), (b_me, (arI G 1536 k11_me))] H ∧ va_D A [(b_o, (oc12 u_th u_sa b_rf b_ro b_im b_ke u_fd b_tp u_td u_fr u_to u_so u_wo u_fa u_bd u_nc b_nl u_co b_op b_ar u_le b_pi b_pa u_pd u_od b_ws b_hw u_la b_se b_re u_bk u_va u_su u_ce u_ho u_wy u_bt u_ps b_pt u_tg u_sn b_ip u_ic b_ah b_be b_me 0 b_tr b_ld u_st b_wn u_id)), (b_ro, (arI G 5740 v_ro)), (b_se, (arJ G 13 v_se)), (b_re, (arJ G 400 v_re)), (b_pt, (arI G 200 v_pt)), (b_me, (arI G 1536 k11_me))] ∧ va_S A s.heap H locs ∧ (0 ≤ k11_6.toInt ∧ k11_6.toInt ≤ 1536) ∧ (MEI k11_me)) (fun (q : (Int32) × (Nat → Int32)) => match q with | (k11_6, k11_me) => Int.toNat (1536 - k11_6.toInt)) (0, v_me) ⟨lv_sub hl [0, 1, 2, 3, 4, 5, 6] rfl, hP, hD, hS, ⟨by decide, by decide⟩, r_me⟩ ?_
  rintro ⟨k11_6, k11_me⟩ ls H locs ⟨hl, hP, hD, hS, i_1, i_2⟩ ih_11_3
  have hl : lv_has ls 10 [(6, .int k11_6), (5, .int 0), (0, .ref b_o), (1, .int p_1), (2, .int p_2), (3, .int p_3), (4, .int p_4)] := hl
  have i_1 : 0 ≤ k11_6.toInt ∧ k11_6.toInt ≤ 1536 := i_1
  have i_2 : MEI k11_me := i_2
  refine g5_rs [(b_o, (oc12 u_th u_sa b_rf b_ro b_im b_ke u_fd b_tp u_td u_fr u_to u_so u_wo u_fa u_bd u_nc b_nl u_co b_op b_ar u_le b_pi b_pa u_pd u_od b_ws b_hw u_la b_se b_re u_bk u_va u_su u_ce u_ho u_wy u_bt u_ps b_pt u_tg u_sn b_ip u_ic b_ah b_be b_me 0 b_tr b_ld u_st b_wn u_id)), (b_ro, (arI G 5740 v_ro)), (b_se, (arJ G 13 v_se)), (b_re, (arJ G 400 v_re)), (b_pt, (arI G 200 v_pt)), (b_me, (arI G 1536 k11_me))] hP hD (fun hP hD => ?_)
  refine lv_iload hx hb dX12_findMeets_11 (lv_at hl 0 rfl) ?_
  refine lv_sipush (v := 1536) hx hb dX12_findMeets_13 (by decide) ?_
  refine lv_icmp_ge (tgt := 50) hx hb dX12_findMeets_16 (by decide) (fun c_4 => ?_) (fun c_4 => ?_)
  ·
    have i_4 : k11_6.toInt ≥ 1536 := by have z := g5_ge (a := k11_6.toInt) (b := 1536) (by rfl) (by decide) c_4; omega
    refine lv_iconst (v := 0) hx hb dX12_findMeets_50 (by decide) ?_
    refine lv_istore (lv' := [(6, .int 0), (5, .int 0), (0, .ref b_o), (1, .int p_1), (2, .int p_2), (3, .int p_3), (4, .int p_4)]) hx hb dX12_findMeets_51 hl (by decide) rfl (fun ls hl => ?_)
    refine g5_loop (α := (Int32) × (Int32) × (Int32) × (Int32) × (Int64) × (Int64) × (Int32) × (Int32) × (Int32) × (Int32) × (Int32) × (Int32) × (Int32) × (Int32) × (Nat → Int64) × (Nat → Int64) × (Nat → Int32) × (Nat → Int32)) (fun (q : (Int32) × (Int32) × (Int32) × (Int32) × (Int64) × (Int64) × (Int32) × (Int32) × (Int32) × (Int32) × (Int32) × (Int32) × (Int32) × (Int32) × (Nat → Int64) × (Nat → Int64) × (Nat → Int32) × (Nat → Int32)) (ls : Array Slot) (H : Heap) (locs : List Loc) => match q with | (k53_6, k53_5, k53_la, k53_bk, k53_va, k53_su, k53_ce, k53_ho, k53_wy, k53_bt, k53_ps, k53_tg, k53_sn, k53_wd, k53_se, k53_re, k53_pt, k53_me) => lv_has ls 10 [(5, .int k53_5), (6, .int k53_6), (0, .ref b_o), (1, .int p_1), (2, .int p_2), (3, .int p_3), (4, .int p_4)] ∧ va_P G.1 vwCl [(b_o, (oc12 u_th u_sa b_rf b_ro b_im b_ke u_fd b_tp u_td u_fr u_to u_so u_wo u_fa u_bd u_nc b_nl u_co b_op b_ar u_le b_pi b_pa u_pd u_od b_ws b_hw k53_la b_se b_re k53_bk k53_va k53_su k53_ce k53_ho k53_wy k53_bt k53_ps b_pt k53_tg k53_sn b_ip u_ic b_ah b_be b_me k53_wd b_tr b_ld u_st b_wn u_id)), (b_ro, (arI G 5740 v_ro)), (b_se, (arJ G 13 k53_se)), (b_re, (arJ G 400 k53_re)), (b_pt, (arI G 200 k53_pt)), (b_me, (arI G 1536 k53_me))] H ∧ va_D A [(b_o, (oc12 u_th u_sa b_rf b_ro b_im b_ke u_fd b_tp u_td u_fr u_to u_so u_wo u_fa u_bd u_nc b_nl u_co b_op b_ar u_le b_pi b_pa u_pd u_od b_ws b_hw k53_la b_se b_re k53_bk k53_va k53_su k53_ce k53_ho k53_wy k53_bt k53_ps b_pt k53_tg k53_sn b_ip u_ic b_ah b_be b_me k53_wd b_tr b_ld u_st b_wn u_id)), (b_ro, (arI G 5740 v_ro)), (b_se, (arJ G 13 k53_se)), (b_re, (arJ G 400 k53_re)), (b_pt, (arI G 200 k53_pt)), (b_me, (arI G 1536 k53_me))] ∧ va_S A s.heap H locs ∧ (0 ≤ k53_6.toInt ∧ k53_6.toInt ≤ 10) ∧ (0 ≤ k53_5.toInt ∧ k53_5.toInt ≤ 10) ∧ (0 ≤ k53_la.toInt ∧ k53_la.toInt ≤ 4840) ∧ (0 ≤ k53_bk.toInt ∧ k53_bk.toInt ≤ 1) ∧ (0 ≤ k53_ce.toInt ∧ k53_ce.toInt ≤ 63) ∧ (0 ≤ k53_ho.toInt ∧ k53_ho.toInt ≤ 23) ∧ (0 ≤ k53_wy.toInt ∧ k53_wy.toInt ≤ 3) ∧ (0 ≤ k53_bt.toInt ∧ k53_bt.toInt ≤ 1000000) ∧ (0 ≤ k53_ps.toInt ∧ k53_ps.toInt ≤ 200) ∧ (PTI k53_pt) ∧ (MEI k53_me) ∧ (k53_5.toInt ≤ snS (fun j => v_ro (230 + j)) (v_ro 5).toInt k53_6.toInt.toNat)) (fun (q : (Int32) × (Int32) × (Int32) × (Int32) × (Int64) × (Int64) × (Int32) × (Int32) × (Int32) × (Int32) × (Int32) × (Int32) × (Int32) × (Int32) × (Nat → Int64) × (Nat → Int64) × (Nat → Int32) × (Nat → Int32)) => match q with | (k53_6, k53_5, k53_la, k53_bk, k53_va, k53_su, k53_ce, k53_ho, k53_wy, k53_bt, k53_ps, k53_tg, k53_sn, k53_wd, k53_se, k53_re, k53_pt, k53_me) => Int.toNat (10 - k53_6.toInt)) (0, 0, u_la, u_bk, u_va, u_su, u_ce, u_ho, u_wy, u_bt, u_ps, u_tg, u_sn, 0, v_se, v_re, v_pt, k11_me) ⟨lv_sub hl [1, 0, 2, 3, 4, 5, 6] rfl, hP, hD, hS, ⟨by decide, by decide⟩, ⟨by decide, by decide⟩, h_u_la, h_u_bk, h_u_ce, h_u_ho, h_u_wy, h_u_bt, h_u_ps, r_pt, i_2, Int.le_refl _⟩ ?_
    rintro ⟨k53_6, k53_5, k53_la, k53_bk, k53_va, k53_su, k53_ce, k53_ho, k53_wy, k53_bt, k53_ps, k53_tg, k53_sn, k53_wd, k53_se, k53_re, k53_pt, k53_me⟩ ls H locs ⟨hl, hP, hD, hS, i_5, i_6, i_7, i_8, i_9, i_10, i_11, i_12, i_13, i_14, i_15, i_16⟩ ih_53_17
    have hl : lv_has ls 10 [(5, .int k53_5), (6, .int k53_6), (0, .ref b_o), (1, .int p_1), (2, .int p_2), (3, .int p_3), (4, .int p_4)] := hl
    have i_5 : 0 ≤ k53_6.toInt ∧ k53_6.toInt ≤ 10 := i_5
    have i_6 : 0 ≤ k53_5.toInt ∧ k53_5.toInt ≤ 10 := i_6
    have i_7 : 0 ≤ k53_la.toInt ∧ k53_la.toInt ≤ 4840 := i_7
    have i_8 : 0 ≤ k53_bk.toInt ∧ k53_bk.toInt ≤ 1 := i_8
    have i_9 : 0 ≤ k53_ce.toInt ∧ k53_ce.toInt ≤ 63 := i_9
    have i_10 : 0 ≤ k53_ho.toInt ∧ k53_ho.toInt ≤ 23 := i_10
    have i_11 : 0 ≤ k53_wy.toInt ∧ k53_wy.toInt ≤ 3 := i_11
    have i_12 : 0 ≤ k53_bt.toInt ∧ k53_bt.toInt ≤ 1000000 := i_12
    have i_13 : 0 ≤ k53_ps.toInt ∧ k53_ps.toInt ≤ 200 := i_13
    have i_14 : PTI k53_pt := i_14
    have i_15 : MEI k53_me := i_15
    have i_16 : k53_5.toInt ≤ snS (fun j => v_ro (230 + j)) (v_ro 5).toInt k53_6.toInt.toNat := i_16
    refine g5_rs [(b_o, (oc12 u_th u_sa b_rf b_ro b_im b_ke u_fd b_tp u_td u_fr u_to u_so u_wo u_fa u_bd u_nc b_nl u_co b_op b_ar u_le b_pi b_pa u_pd u_od b_ws b_hw k53_la b_se b_re k53_bk k53_va k53_su k53_ce k53_ho k53_wy k53_bt k53_ps b_pt k53_tg k53_sn b_ip u_ic b_ah b_be b_me k53_wd b_tr b_ld u_st b_wn u_id)), (b_ro, (arI G 5740 v_ro)), (b_se, (arJ G 13 k53_se)), (b_re, (arJ G 400 k53_re)), (b_pt, (arI G 200 k53_pt)), (b_me, (arI G 1536 k53_me))] hP hD (fun hP hD => ?_)
    refine lv_iload hx hb dX12_findMeets_53 (lv_at hl 1 rfl) ?_
    refine lv_aload_n hx hb dX12_findMeets_55 rfl (lv_at hl 2 rfl) ?_
    refine va_get (D := G.1) (ci := 12) (v := .ref b_ro) (C := RX12) (T := TX12) (N := 52) hx hb hts inG_X12 hown hK hP 0 rfl rfl 3 (by decide) (hts _ fl_X12_13) (fun _ h9 => h9) rfl dX12_findMeets_56 ?_
    refine lv_iconst (v := 5) hx hb dX12_findMeets_59 (by decide) ?_
    refine va_iald hx hb hK hP 1 0 rfl rfl (i := 5) (by unfold vp_in; decide) dX12_findMeets_60 ?_
    refine g5_ti (v := (v_ro 5)) rfl ?_
    have hr_18 : 0 ≤ (v_ro 5).toInt ∧ (v_ro 5).toInt ≤ 10 := mi_5 r_ro
    refine lv_icmp_ge (tgt := 223) hx hb dX12_findMeets_61 (by decide) (fun c_19 => ?_) (fun c_19 => ?_)
    ·
      have i_19 : k53_6.toInt ≥ (v_ro 5).toInt := by have z := g5_ge (a := k53_6.toInt) (b := (v_ro 5).toInt) (by rfl) (by rfl) c_19; omega
      refine lv_iload_n hx hb dX12_findMeets_223 rfl (lv_at hl 5 rfl) ?_
      refine lv_iconst (v := (-1)) hx hb dX12_findMeets_224 (by decide) ?_
      refine lv_icmp_eq (tgt := 272) hx hb dX12_findMeets_225 (by decide) (fun c_20 => ?_) (fun c_20 => ?_)
      ·
        have i_20 : p_3.toInt = (-1) := by have z := g5_eq (a := p_3.toInt) (b := (-1)) (by rfl) (by decide) c_20; omega
        exact W.vret hx hb hr (fun t ht hW => ⟨⟨[(b_o, (oc12 u_th u_sa b_rf b_ro b_im b_ke u_fd b_tp u_td u_fr u_to u_so u_wo u_fa u_bd u_nc b_nl u_co b_op b_ar u_le b_pi b_pa u_pd u_od b_ws b_hw k53_la b_se b_re k53_bk k53_va k53_su k53_ce k53_ho k53_wy k53_bt k53_ps b_pt k53_tg k53_sn b_ip u_ic b_ah b_be b_me k53_wd b_tr b_ld u_st b_wn u_id)), (b_ro, (arI G 5740 v_ro)), (b_se, (arJ G 13 k53_se)), (b_re, (arJ G 400 k53_re)), (b_pt, (arI G 200 k53_pt)), (b_me, (arI G 1536 k53_me))], rfl, ⟨k53_la, k53_bk, k53_va, k53_su, k53_ce, k53_ho, k53_wy, k53_bt, k53_ps, k53_tg, k53_sn, k53_wd, k53_se, k53_re, k53_pt, k53_me, i_7, i_8, i_9, i_10, i_11, i_12, i_13, i_14, i_15, rfl⟩, by rw [ht]; exact hP.sub [0, 1, 2, 3, 4, 5] rfl, hD.sub [0, 1, 2, 3, 4, 5] (by decide) rfl⟩, hS.F ht⟩) hS.2.2 dX12_findMeets_272
      ·
        have n_20 : gNe (p_3.toInt) ((-1)) := by have z := g5_eqN (a := p_3.toInt) (b := (-1)) (by rfl) (by decide) c_20; unfold gNe; omega
        have i_20 : p_3.toInt ≥ 0 := by have z := g5_eqN (a := p_3.toInt) (b := (-1)) (by rfl) (by decide) c_20; omega
        refine lv_aload_n hx hb dX12_findMeets_228 rfl (lv_at hl 2 rfl) ?_
        refine lv_iload_n hx hb dX12_findMeets_229 rfl (lv_at hl 4 rfl) ?_
        refine lv_iload_n hx hb dX12_findMeets_230 rfl (lv_at hl 5 rfl) ?_
        refine lv_iload hx hb dX12_findMeets_231 (lv_at hl 6 rfl) ?_
        refine lv_iconst (v := 0) hx hb dX12_findMeets_233 (by decide) ?_
        obtain ⟨hPc, hDc, hFc⟩ := g5_sub3 (wc := [(b_o, (oc12 u_th u_sa b_rf b_ro b_im b_ke u_fd b_tp u_td u_fr u_to u_so u_wo u_fa u_bd u_nc b_nl u_co b_op b_ar u_le b_pi b_pa u_pd u_od b_ws b_hw k53_la b_se b_re k53_bk k53_va k53_su k53_ce k53_ho k53_wy k53_bt k53_ps b_pt k53_tg k53_sn b_ip u_ic b_ah b_be b_me k53_wd b_tr b_ld u_st b_wn u_id)), (b_ro, (arI G 5740 v_ro)), (b_se, (arJ G 13 k53_se)), (b_re, (arJ G 400 k53_re)), (b_pt, (arI G 200 k53_pt))]) hP hD hS hA [0, 1, 2, 3, 4] (by decide) rfl
        refine va_callv (va_runV (As := [.int p_2, .int p_3, .int p_4, .int 0]) (rest := []) ⟨hx, hb, hml, hown, hts⟩ (n_go l G b_o b_ro b_se b_re b_pt b_rf b_im b_ke b_tp b_nl b_op b_ar b_pi b_pa b_ws b_hw b_ip b_ah b_be b_me b_tr b_ld b_wn H.size u_th u_sa u_fd u_td u_fr u_to u_so u_fa u_bd u_nc u_co u_le u_pd u_od k53_la k53_bk k53_ce k53_ho k53_wy k53_bt k53_ps k53_tg k53_sn u_ic k53_wd u_id p_2 p_3 p_4 0 u_wo k53_va k53_su u_st v_ro k53_se k53_re k53_pt h_u_td h_u_fr h_u_to h_u_bd h_u_nc h_u_co h_u_pd i_7 i_8 i_9 i_10 i_11 i_12 i_13 h_u_ic h_u_id h_p_2 ⟨by omega, by omega⟩ h_p_4 (r_ro) (i_14)) (cwV 4 hts gV_X12_401 rfl rfl rfl hv_X12_go ⟨Nat.le_of_ble_eq_true rfl, Nat.le_of_ble_eq_true rfl⟩) (g5_preV hPc hK hDc hN hT hS hFc (ci := 12) (q0 := 0) rfl rfl) rfl rfl hl.1 rfl (lv_room (Nat.le_of_ble_eq_true rfl)) dX12_findMeets_234 ⟨Nat.le_of_ble_eq_true rfl, Nat.le_of_ble_eq_true rfl⟩) hS (fun q _ h => hFc q h) hFc (fun u t H1 locs ht hvm hw hB hz1 hk1 hS => ?_)
        obtain ⟨hP1, hD1⟩ := hB
        rw [ht] at hP1
        obtain ⟨z29, z30, z31, z32, z33, z34, z35, z36, z37, z38, z39, z40, z41, z42, i_21, i_22, i_23, i_24, i_25, i_26, i_27, i_28, rfl⟩ := hw
        have i_21 : 0 ≤ z29.toInt ∧ z29.toInt ≤ 4840 := i_21
        have i_22 : 0 ≤ z30.toInt ∧ z30.toInt ≤ 1 := i_22
        have i_23 : 0 ≤ z33.toInt ∧ z33.toInt ≤ 63 := i_23
        have i_24 : 0 ≤ z34.toInt ∧ z34.toInt ≤ 23 := i_24
        have i_25 : 0 ≤ z35.toInt ∧ z35.toInt ≤ 3 := i_25
        have i_26 : 0 ≤ z36.toInt ∧ z36.toInt ≤ 1000000 := i_26
        have i_27 : 0 ≤ z37.toInt ∧ z37.toInt ≤ 200 := i_27
        have i_28 : PTI z42 := i_28
        obtain ⟨hP, hD⟩ := va_join (wr := [(b_me, (arI G 1536 k53_me))]) hP hD [0, 1, 2, 3, 4] [5] rfl rfl (by decide) (by decide) hk1 hFc hP1 hD1
        generalize H1 = H at hP hS ⊢
        refine g5_rs [(b_me, (arI G 1536 k53_me)), (b_o, (oc12 u_th u_sa b_rf b_ro b_im b_ke u_fd b_tp u_td u_fr u_to u_so u_wo u_fa u_bd u_nc b_nl u_co b_op b_ar u_le b_pi b_pa u_pd u_od b_ws b_hw z29 b_se b_re z30 z31 z32 z33 z34 z35 z36 z37 b_pt z38 z39 b_ip u_ic b_ah b_be b_me k53_wd b_tr b_ld u_st b_wn u_id)), (b_ro, (arI G 5740 v_ro)), (b_se, (arJ G 13 z40)), (b_re, (arJ G 400 z41)), (b_pt, (arI G 200 z42))] hP hD (fun hP hD => ?_)
        refine lv_iconst (v := 0) hx hb dX12_findMeets_237 (by decide) ?_
        refine lv_istore (lv' := [(6, .int 0), (5, .int k53_5), (0, .ref b_o), (1, .int p_1), (2, .int p_2), (3, .int p_3), (4, .int p_4)]) hx hb dX12_findMeets_238 hl (by decide) rfl (fun ls hl => ?_)
        refine g5_loop (α := (Int32) × (Nat → Int32)) (fun (q : (Int32) × (Nat → Int32)) (ls : Array Slot) (H : Heap) (locs : List Loc) => match q with | (k240_6, k240_me) => lv_has ls 10 [(6, .int k240_6), (5, .int k53_5), (0, .ref b_o), (1, .int p_1), (2, .int p_2), (3, .int p_3), (4, .int p_4)] ∧ va_P G.1 vwCl [(b_me, (arI G 1536 k240_me)), (b_o, (oc12 u_th u_sa b_rf b_ro b_im b_ke u_fd b_tp u_td u_fr u_to u_so u_wo u_fa u_bd u_nc b_nl u_co b_op b_ar u_le b_pi b_pa u_pd u_od b_ws b_hw z29 b_se b_re z30 z31 z32 z33 z34 z35 z36 z37 b_pt z38 z39 b_ip u_ic b_ah b_be b_me k53_wd b_tr b_ld u_st b_wn u_id)), (b_ro, (arI G 5740 v_ro)), (b_se, (arJ G 13 z40)), (b_re, (arJ G 400 z41)), (b_pt, (arI G 200 z42))] H ∧ va_D A [(b_me, (arI G 1536 k240_me)), (b_o, (oc12 u_th u_sa b_rf b_ro b_im b_ke u_fd b_tp u_td u_fr u_to u_so u_wo u_fa u_bd u_nc b_nl u_co b_op b_ar u_le b_pi b_pa u_pd u_od b_ws b_hw z29 b_se b_re z30 z31 z32 z33 z34 z35 z36 z37 b_pt z38 z39 b_ip u_ic b_ah b_be b_me k53_wd b_tr b_ld u_st b_wn u_id)), (b_ro, (arI G 5740 v_ro)), (b_se, (arJ G 13 z40)), (b_re, (arJ G 400 z41)), (b_pt, (arI G 200 z42))] ∧ va_S A s.heap H locs ∧ (0 ≤ k240_6.toInt ∧ k240_6.toInt ≤ 200) ∧ (MEI k240_me)) (fun (q : (Int32) × (Nat → Int32)) => match q with | (k240_6, k240_me) => Int.toNat (200 - k240_6.toInt)) (0, k53_me) ⟨lv_sub hl [0, 1, 2, 3, 4, 5, 6] rfl, hP, hD, hS, ⟨by decide, by decide⟩, i_15⟩ ?_
        rintro ⟨k240_6, k240_me⟩ ls H locs ⟨hl, hP, hD, hS, i_43, i_44⟩ ih_240_45
        have hl : lv_has ls 10 [(6, .int k240_6), (5, .int k53_5), (0, .ref b_o), (1, .int p_1), (2, .int p_2), (3, .int p_3), (4, .int p_4)] := hl
        have i_43 : 0 ≤ k240_6.toInt ∧ k240_6.toInt ≤ 200 := i_43
        have i_44 : MEI k240_me := i_44
        refine g5_rs [(b_me, (arI G 1536 k240_me)), (b_o, (oc12 u_th u_sa b_rf b_ro b_im b_ke u_fd b_tp u_td u_fr u_to u_so u_wo u_fa u_bd u_nc b_nl u_co b_op b_ar u_le b_pi b_pa u_pd u_od b_ws b_hw z29 b_se b_re z30 z31 z32 z33 z34 z35 z36 z37 b_pt z38 z39 b_ip u_ic b_ah b_be b_me k53_wd b_tr b_ld u_st b_wn u_id)), (b_ro, (arI G 5740 v_ro)), (b_se, (arJ G 13 z40)), (b_re, (arJ G 400 z41)), (b_pt, (arI G 200 z42))] hP hD (fun hP hD => ?_)
        refine lv_iload hx hb dX12_findMeets_240 (lv_at hl 0 rfl) ?_
        refine lv_aload_n hx hb dX12_findMeets_242 rfl (lv_at hl 2 rfl) ?_
        refine va_get (D := G.1) (ci := 12) (v := .int z37) (C := RX12) (T := TX12) (N := 52) hx hb hts inG_X12 hown hK hP 1 rfl rfl 37 (by decide) (hts _ fl_X12_358) (fun _ h9 => h9) rfl dX12_findMeets_243 ?_
        refine lv_icmp_ge (tgt := 272) hx hb dX12_findMeets_246 (by decide) (fun c_46 => ?_) (fun c_46 => ?_)
        ·
          have i_46 : k240_6.toInt ≥ z37.toInt := by have z := g5_ge (a := k240_6.toInt) (b := z37.toInt) (by rfl) (by rfl) c_46; omega
          exact W.vret hx hb hr (fun t ht hW => ⟨⟨[(b_o, (oc12 u_th u_sa b_rf b_ro b_im b_ke u_fd b_tp u_td u_fr u_to u_so u_wo u_fa u_bd u_nc b_nl u_co b_op b_ar u_le b_pi b_pa u_pd u_od b_ws b_hw z29 b_se b_re z30 z31 z32 z33 z34 z35 z36 z37 b_pt z38 z39 b_ip u_ic b_ah b_be b_me k53_wd b_tr b_ld u_st b_wn u_id)), (b_ro, (arI G 5740 v_ro)), (b_se, (arJ G 13 z40)), (b_re, (arJ G 400 z41)), (b_pt, (arI G 200 z42)), (b_me, (arI G 1536 k240_me))], rfl, ⟨z29, z30, z31, z32, z33, z34, z35, z36, z37, z38, z39, k53_wd, z40, z41, z42, k240_me, i_21, i_22, i_23, i_24, i_25, i_26, i_27, i_28, i_44, rfl⟩, by rw [ht]; exact hP.sub [1, 2, 3, 4, 5, 0] rfl, hD.sub [1, 2, 3, 4, 5, 0] (by decide) rfl⟩, hS.F ht⟩) hS.2.2 dX12_findMeets_272
        ·
          have i_46 : k240_6.toInt < z37.toInt := by have z := g5_geN (a := k240_6.toInt) (b := z37.toInt) (by rfl) (by rfl) c_46; omega
          refine lv_aload_n hx hb dX12_findMeets_249 rfl (lv_at hl 2 rfl) ?_
          refine va_get (D := G.1) (ci := 12) (v := .ref b_me) (C := RX12) (T := TX12) (N := 52) hx hb hts inG_X12 hown hK hP 1 rfl rfl 45 (by decide) (hts _ fl_X12_95) (fun _ h9 => h9) rfl dX12_findMeets_250 ?_
          refine lv_aload_n hx hb dX12_findMeets_253 rfl (lv_at hl 2 rfl) ?_
          refine va_get (D := G.1) (ci := 12) (v := .ref b_pt) (C := RX12) (T := TX12) (N := 52) hx hb hts inG_X12 hown hK hP 1 rfl rfl 38 (by decide) (hts _ fl_X12_82) (fun _ h9 => h9) rfl dX12_findMeets_254 ?_
          refine lv_iload hx hb dX12_findMeets_257 (lv_at hl 0 rfl) ?_
          refine va_iald hx hb hK hP 5 0 rfl rfl (i := k240_6) (vp_in_iff.mpr ⟨by omega, by omega⟩) dX12_findMeets_259 ?_
          have hr_47 : 0 ≤ (z42 k240_6.toNatClampNeg).toInt ∧ (z42 k240_6.toNatClampNeg).toInt ≤ 1535 := i_28 (k240_6.toNatClampNeg)
          refine lv_dup2_11 hx hb dX12_findMeets_260 rfl rfl ?_
          refine va_iald hx hb hK hP 0 0 rfl rfl (i := (z42 k240_6.toNatClampNeg)) (vp_in_iff.mpr ⟨by omega, by omega⟩) dX12_findMeets_261 ?_
          have hr_48 : 0 ≤ (k240_me (z42 k240_6.toNatClampNeg).toNatClampNeg).toInt ∧ ((k240_me (z42 k240_6.toNatClampNeg).toNatClampNeg).toInt < 32 ∨ 64 ≤ (k240_me (z42 k240_6.toNatClampNeg).toNatClampNeg).toInt) ∧ (k240_me (z42 k240_6.toNatClampNeg).toNatClampNeg).toInt ≤ 127 := i_44 ((z42 k240_6.toNatClampNeg).toNatClampNeg)
          refine lv_bipush (v := 64) hx hb dX12_findMeets_262 (by decide) ?_
          refine lv_ior hx hb dX12_findMeets_264 ?_
          refine va_iast hx hb hK hP hD hS 0 0 rfl rfl (i := (z42 k240_6.toNatClampNeg)) (x := ((k240_me (z42 k240_6.toNatClampNeg).toNatClampNeg) ||| 64)) (vp_in_iff.mpr ⟨by omega, by omega⟩) dX12_findMeets_265 (fun H locs hP hD hS => ?_)
          refine g5_rs [(b_me, (arI G 1536 (upd k240_me (z42 k240_6.toNatClampNeg).toNatClampNeg ((k240_me (z42 k240_6.toNatClampNeg).toNatClampNeg) ||| 64)))), (b_o, (oc12 u_th u_sa b_rf b_ro b_im b_ke u_fd b_tp u_td u_fr u_to u_so u_wo u_fa u_bd u_nc b_nl u_co b_op b_ar u_le b_pi b_pa u_pd u_od b_ws b_hw z29 b_se b_re z30 z31 z32 z33 z34 z35 z36 z37 b_pt z38 z39 b_ip u_ic b_ah b_be b_me k53_wd b_tr b_ld u_st b_wn u_id)), (b_ro, (arI G 5740 v_ro)), (b_se, (arJ G 13 z40)), (b_re, (arJ G 400 z41)), (b_pt, (arI G 200 z42))] hP hD (fun hP hD => ?_)
          refine lv_iinc (v := (k240_6 + 1)) (lv' := [(6, .int (k240_6 + 1)), (5, .int k53_5), (0, .ref b_o), (1, .int p_1), (2, .int p_2), (3, .int p_3), (4, .int p_4)]) hx hb dX12_findMeets_266 hl (k := 0) rfl rfl (by decide) rfl (fun ls hl => ?_)
          have t_49 : (k240_6 + 1).toInt = k240_6.toInt + 1 := g5_iadd (a := k240_6.toInt) (b := 1) rfl (by decide) (by omega) (by omega)
          refine lv_goto (tgt := 240) hx hb dX12_findMeets_269 (by decide) ?_
          exact ih_240_45 ((k240_6 + 1), (upd k240_me (z42 k240_6.toNatClampNeg).toNatClampNeg ((k240_me (z42 k240_6.toNatClampNeg).toNatClampNeg) ||| 64))) ls H locs (show Int.toNat (200 - (k240_6 + 1).toInt) < Int.toNat (200 - k240_6.toInt) from g_up (show k240_6.toInt < (k240_6 + 1).toInt by omega) (show k240_6.toInt < 200 by omega)) ⟨lv_sub hl [0, 1, 2, 3, 4, 5, 6] rfl, hP, hD, hS, ⟨by omega, by omega⟩, me_upd i_44 (me_or64 (i_44 _))⟩
    ·
      have i_19 : k53_6.toInt < (v_ro 5).toInt := by have z := g5_geN (a := k53_6.toInt) (b := (v_ro 5).toInt) (by rfl) (by rfl) c_19; omega
      refine lv_sipush (v := 230) hx hb dX12_findMeets_64 (by decide) ?_
      refine lv_iconst (v := 4) hx hb dX12_findMeets_67 (by decide) ?_
      refine lv_iload hx hb dX12_findMeets_68 (lv_at hl 1 rfl) ?_
      refine lv_imul hx hb dX12_findMeets_70 ?_
      have t_50 : (4 * k53_6).toInt = 4 * k53_6.toInt := g5_imul (a := 4) (b := k53_6.toInt) (by decide) (by rfl) (by omega) (by omega)
      refine lv_iadd hx hb dX12_findMeets_71 ?_
      have t_51 : (230 + (4 * k53_6)).toInt = 230 + (4 * k53_6).toInt := g5_iadd (a := 230) (b := (4 * k53_6).toInt) (by decide) (by rfl) (by omega) (by omega)
      refine lv_istore (lv' := [(7, .int (230 + (4 * k53_6))), (5, .int k53_5), (6, .int k53_6), (0, .ref b_o), (1, .int p_1), (2, .int p_2), (3, .int p_3), (4, .int p_4)]) hx hb dX12_findMeets_72 hl (by decide) rfl (fun ls hl => ?_)
      refine lv_iload_n hx hb dX12_findMeets_74 rfl (lv_at hl 4 rfl) ?_
      refine lv_iload hx hb dX12_findMeets_75 (lv_at hl 2 rfl) ?_
      obtain ⟨hPc, hDc, hFc⟩ := g5_sub3 (wc := []) hP hD hS hA [] (by decide) rfl
      refine va_calli (va_runS (As := [.int p_1, .int k53_6]) (rest := []) ⟨hx, hb, hml, hown, hts⟩ (n_is l G H.size p_1 k53_6) (va_cwS 2 hts gS_X12_387 rfl rfl rfl hs_X12_is ⟨Nat.le_of_ble_eq_true rfl, Nat.le_of_ble_eq_true rfl⟩) (g5_preS hPc hK hDc hN hT hS hFc) rfl rfl hl.1 rfl (lv_room (Nat.le_of_ble_eq_true rfl)) dX12_findMeets_77 ⟨Nat.le_of_ble_eq_true rfl, Nat.le_of_ble_eq_true rfl⟩) hS (fun q _ h => hFc q h) hFc (fun r u t H1 locs ht hvm hw hB hz1 hk1 hS => ?_)
      obtain ⟨hP1, hD1⟩ := hB
      rw [ht] at hP1
      obtain ⟨z53, i_52, y54, rfl⟩ := hw
      have i_52 : 0 ≤ z53.toInt ∧ z53.toInt ≤ 1 := i_52
      have hP := g5_same hP hk1
      generalize H1 = H at hP hS ⊢
      refine g5_ti (v := z53) y54 ?_
      refine lv_if_eq (tgt := 217) hx hb dX12_findMeets_80 (by decide) (fun c_55 => ?_) (fun c_55 => ?_)
      ·
        have i_55 : z53.toInt = 0 := by have z := g5_eq (a := z53.toInt) (b := 0) (by rfl) (by decide) c_55; omega
        refine lv_iinc (v := (k53_6 + 1)) (lv' := [(6, .int (k53_6 + 1)), (7, .int (230 + (4 * k53_6))), (5, .int k53_5), (0, .ref b_o), (1, .int p_1), (2, .int p_2), (3, .int p_3), (4, .int p_4)]) hx hb dX12_findMeets_217 hl (k := 2) rfl rfl (by decide) rfl (fun ls hl => ?_)
        have t_56 : (k53_6 + 1).toInt = k53_6.toInt + 1 := g5_iadd (a := k53_6.toInt) (b := 1) rfl (by decide) (by omega) (by omega)
        refine lv_goto (tgt := 53) hx hb dX12_findMeets_220 (by decide) ?_
        exact ih_53_17 ((k53_6 + 1), k53_5, k53_la, k53_bk, k53_va, k53_su, k53_ce, k53_ho, k53_wy, k53_bt, k53_ps, k53_tg, k53_sn, k53_wd, k53_se, k53_re, k53_pt, k53_me) ls H locs (show Int.toNat (10 - (k53_6 + 1).toInt) < Int.toNat (10 - k53_6.toInt) from g_up (show k53_6.toInt < (k53_6 + 1).toInt by omega) (show k53_6.toInt < 10 by omega)) ⟨lv_sub hl [2, 0, 3, 4, 5, 6, 7] rfl, hP, hD, hS, ⟨by omega, by omega⟩, i_6, i_7, i_8, i_9, i_10, i_11, i_12, i_13, i_14, i_15, mn_stay r_ro i_16 (by omega) (by omega) (by omega)⟩
      ·
        have n_55 : gNe (z53.toInt) (0) := by have z := g5_eqN (a := z53.toInt) (b := 0) (by rfl) (by decide) c_55; unfold gNe; omega
        have i_55 : z53.toInt ≥ 1 := by have z := g5_eqN (a := z53.toInt) (b := 0) (by rfl) (by decide) c_55; omega
        refine lv_aload_n hx hb dX12_findMeets_83 rfl (lv_at hl 3 rfl) ?_
        refine va_get (D := G.1) (ci := 12) (v := .ref b_ro) (C := RX12) (T := TX12) (N := 52) hx hb hts inG_X12 hown hK hP 0 rfl rfl 3 (by decide) (hts _ fl_X12_13) (fun _ h9 => h9) rfl dX12_findMeets_84 ?_
        refine lv_iload hx hb dX12_findMeets_87 (lv_at hl 0 rfl) ?_
        refine lv_iconst (v := 3) hx hb dX12_findMeets_89 (by decide) ?_
        refine lv_iadd hx hb dX12_findMeets_90 ?_
        have t_57 : ((230 + (4 * k53_6)) + 3).toInt = (230 + (4 * k53_6)).toInt + 3 := g5_iadd (a := (230 + (4 * k53_6)).toInt) (b := 3) (by rfl) (by decide) (by omega) (by omega)
        refine va_iald hx hb hK hP 1 0 rfl rfl (i := ((230 + (4 * k53_6)) + 3)) (vp_in_iff.mpr ⟨by omega, by omega⟩) dX12_findMeets_91 ?_
        refine lv_iconst (v := 1) hx hb dX12_findMeets_92 (by decide) ?_
        refine lv_icmp_ne (tgt := 100) hx hb dX12_findMeets_93 (by decide) (fun c_58 => ?_) (fun c_58 => ?_)
        ·
          have n_58 : gNe ((v_ro ((230 + (4 * k53_6)) + 3).toNatClampNeg).toInt) (1) := by have z := g5_ne (a := (v_ro ((230 + (4 * k53_6)) + 3).toNatClampNeg).toInt) (b := 1) (by rfl) (by decide) c_58; unfold gNe; omega
          refine lv_iconst (v := 0) hx hb dX12_findMeets_100 (by decide) ?_
          refine lv_istore (lv' := [(8, .int 0), (7, .int (230 + (4 * k53_6))), (5, .int k53_5), (6, .int k53_6), (0, .ref b_o), (1, .int p_1), (2, .int p_2), (3, .int p_3), (4, .int p_4)]) hx hb dX12_findMeets_101 hl (by decide) rfl (fun ls hl => ?_)
          refine lv_aload_n hx hb dX12_findMeets_103 rfl (lv_at hl 4 rfl) ?_
          refine lv_aload_n hx hb dX12_findMeets_104 rfl (lv_at hl 4 rfl) ?_
          refine va_get (D := G.1) (ci := 12) (v := .ref b_ro) (C := RX12) (T := TX12) (N := 52) hx hb hts inG_X12 hown hK hP 0 rfl rfl 3 (by decide) (hts _ fl_X12_13) (fun _ h9 => h9) rfl dX12_findMeets_105 ?_
          refine lv_iload hx hb dX12_findMeets_108 (lv_at hl 1 rfl) ?_
          refine va_iald hx hb hK hP 1 0 rfl rfl (i := (230 + (4 * k53_6))) (vp_in_iff.mpr ⟨by omega, by omega⟩) dX12_findMeets_110 ?_
          have hv_59 : 0 ≤ (v_ro (230 + (4 * k53_6)).toNatClampNeg).toInt ∧ (v_ro (230 + (4 * k53_6)).toNatClampNeg).toInt ≤ 63 := mi_230_0 r_ro (by have zz := g5_clamp (230 + (4 * k53_6)); omega) (by have zz := g5_clamp (230 + (4 * k53_6)); omega) (by have zz := g5_clamp (230 + (4 * k53_6)); omega)
          refine lv_aload_n hx hb dX12_findMeets_111 rfl (lv_at hl 4 rfl) ?_
          refine va_get (D := G.1) (ci := 12) (v := .ref b_ro) (C := RX12) (T := TX12) (N := 52) hx hb hts inG_X12 hown hK hP 0 rfl rfl 3 (by decide) (hts _ fl_X12_13) (fun _ h9 => h9) rfl dX12_findMeets_112 ?_
          refine lv_iload hx hb dX12_findMeets_115 (lv_at hl 1 rfl) ?_
          refine lv_iconst (v := 1) hx hb dX12_findMeets_117 (by decide) ?_
          refine lv_iadd hx hb dX12_findMeets_118 ?_
          have t_60 : ((230 + (4 * k53_6)) + 1).toInt = (230 + (4 * k53_6)).toInt + 1 := g5_iadd (a := (230 + (4 * k53_6)).toInt) (b := 1) (by rfl) (by decide) (by omega) (by omega)
          refine va_iald hx hb hK hP 1 0 rfl rfl (i := ((230 + (4 * k53_6)) + 1)) (vp_in_iff.mpr ⟨by omega, by omega⟩) dX12_findMeets_119 ?_
          have hv_61 : 0 ≤ (v_ro ((230 + (4 * k53_6)) + 1).toNatClampNeg).toInt ∧ (v_ro ((230 + (4 * k53_6)) + 1).toNatClampNeg).toInt ≤ 3 := mi_230_1 r_ro (by have zz := g5_clamp ((230 + (4 * k53_6)) + 1); omega) (by have zz := g5_clamp ((230 + (4 * k53_6)) + 1); omega) (by have zz := g5_clamp ((230 + (4 * k53_6)) + 1); omega)
          refine lv_aload_n hx hb dX12_findMeets_120 rfl (lv_at hl 4 rfl) ?_
          refine va_get (D := G.1) (ci := 12) (v := .ref b_ro) (C := RX12) (T := TX12) (N := 52) hx hb hts inG_X12 hown hK hP 0 rfl rfl 3 (by decide) (hts _ fl_X12_13) (fun _ h9 => h9) rfl dX12_findMeets_121 ?_
          refine lv_iload hx hb dX12_findMeets_124 (lv_at hl 1 rfl) ?_
          refine lv_iconst (v := 2) hx hb dX12_findMeets_126 (by decide) ?_
          refine lv_iadd hx hb dX12_findMeets_127 ?_
          have t_62 : ((230 + (4 * k53_6)) + 2).toInt = (230 + (4 * k53_6)).toInt + 2 := g5_iadd (a := (230 + (4 * k53_6)).toInt) (b := 2) (by rfl) (by decide) (by omega) (by omega)
          refine va_iald hx hb hK hP 1 0 rfl rfl (i := ((230 + (4 * k53_6)) + 2)) (vp_in_iff.mpr ⟨by omega, by omega⟩) dX12_findMeets_128 ?_
          have hv_63 : 0 ≤ (v_ro ((230 + (4 * k53_6)) + 2).toNatClampNeg).toInt ∧ (v_ro ((230 + (4 * k53_6)) + 2).toNatClampNeg).toInt ≤ 23 := mi_230_2 r_ro (by have zz := g5_clamp ((230 + (4 * k53_6)) + 2); omega) (by have zz := g5_clamp ((230 + (4 * k53_6)) + 2); omega) (by have zz := g5_clamp ((230 + (4 * k53_6)) + 2); omega)
          refine lv_iconst (v := 0) hx hb dX12_findMeets_129 (by decide) ?_
          obtain ⟨hPc, hDc, hFc⟩ := g5_sub3 (wc := [(b_o, (oc12 u_th u_sa b_rf b_ro b_im b_ke u_fd b_tp u_td u_fr u_to u_so u_wo u_fa u_bd u_nc b_nl u_co b_op b_ar u_le b_pi b_pa u_pd u_od b_ws b_hw k53_la b_se b_re k53_bk k53_va k53_su k53_ce k53_ho k53_wy k53_bt k53_ps b_pt k53_tg k53_sn b_ip u_ic b_ah b_be b_me k53_wd b_tr b_ld u_st b_wn u_id)), (b_ro, (arI G 5740 v_ro)), (b_se, (arJ G 13 k53_se)), (b_re, (arJ G 400 k53_re)), (b_pt, (arI G 200 k53_pt))]) hP hD hS hA [0, 1, 2, 3, 4] (by decide) rfl
          refine va_callv (va_runV (As := [.int (v_ro (230 + (4 * k53_6)).toNatClampNeg), .int (v_ro ((230 + (4 * k53_6)) + 1).toNatClampNeg), .int (v_ro ((230 + (4 * k53_6)) + 2).toNatClampNeg), .int 0]) (rest := []) ⟨hx, hb, hml, hown, hts⟩ (n_go l G b_o b_ro b_se b_re b_pt b_rf b_im b_ke b_tp b_nl b_op b_ar b_pi b_pa b_ws b_hw b_ip b_ah b_be b_me b_tr b_ld b_wn H.size u_th u_sa u_fd u_td u_fr u_to u_so u_fa u_bd u_nc u_co u_le u_pd u_od k53_la k53_bk k53_ce k53_ho k53_wy k53_bt k53_ps k53_tg k53_sn u_ic k53_wd u_id (v_ro (230 + (4 * k53_6)).toNatClampNeg) (v_ro ((230 + (4 * k53_6)) + 1).toNatClampNeg) (v_ro ((230 + (4 * k53_6)) + 2).toNatClampNeg) 0 u_wo k53_va k53_su u_st v_ro k53_se k53_re k53_pt h_u_td h_u_fr h_u_to h_u_bd h_u_nc h_u_co h_u_pd i_7 i_8 i_9 i_10 i_11 i_12 i_13 h_u_ic h_u_id ⟨by omega, by omega⟩ ⟨by omega, by omega⟩ ⟨by omega, by omega⟩ (r_ro) (i_14)) (cwV 4 hts gV_X12_401 rfl rfl rfl hv_X12_go ⟨Nat.le_of_ble_eq_true rfl, Nat.le_of_ble_eq_true rfl⟩) (g5_preV hPc hK hDc hN hT hS hFc (ci := 12) (q0 := 0) rfl rfl) rfl rfl hl.1 rfl (lv_room (Nat.le_of_ble_eq_true rfl)) dX12_findMeets_130 ⟨Nat.le_of_ble_eq_true rfl, Nat.le_of_ble_eq_true rfl⟩) hS (fun q _ h => hFc q h) hFc (fun u t H1 locs ht hvm hw hB hz1 hk1 hS => ?_)
          obtain ⟨hP1, hD1⟩ := hB
          rw [ht] at hP1
          obtain ⟨z72, z73, z74, z75, z76, z77, z78, z79, z80, z81, z82, z83, z84, z85, i_64, i_65, i_66, i_67, i_68, i_69, i_70, i_71, rfl⟩ := hw
          have i_64 : 0 ≤ z72.toInt ∧ z72.toInt ≤ 4840 := i_64
          have i_65 : 0 ≤ z73.toInt ∧ z73.toInt ≤ 1 := i_65
          have i_66 : 0 ≤ z76.toInt ∧ z76.toInt ≤ 63 := i_66
          have i_67 : 0 ≤ z77.toInt ∧ z77.toInt ≤ 23 := i_67
          have i_68 : 0 ≤ z78.toInt ∧ z78.toInt ≤ 3 := i_68
          have i_69 : 0 ≤ z79.toInt ∧ z79.toInt ≤ 1000000 := i_69
          have i_70 : 0 ≤ z80.toInt ∧ z80.toInt ≤ 200 := i_70
          have i_71 : PTI z85 := i_71
          obtain ⟨hP, hD⟩ := va_join (wr := [(b_me, (arI G 1536 k53_me))]) hP hD [0, 1, 2, 3, 4] [5] rfl rfl (by decide) (by decide) hk1 hFc hP1 hD1
          generalize H1 = H at hP hS ⊢
          refine g5_rs [(b_me, (arI G 1536 k53_me)), (b_o, (oc12 u_th u_sa b_rf b_ro b_im b_ke u_fd b_tp u_td u_fr u_to u_so u_wo u_fa u_bd u_nc b_nl u_co b_op b_ar u_le b_pi b_pa u_pd u_od b_ws b_hw z72 b_se b_re z73 z74 z75 z76 z77 z78 z79 z80 b_pt z81 z82 b_ip u_ic b_ah b_be b_me k53_wd b_tr b_ld u_st b_wn u_id)), (b_ro, (arI G 5740 v_ro)), (b_se, (arJ G 13 z83)), (b_re, (arJ G 400 z84)), (b_pt, (arI G 200 z85))] hP hD (fun hP hD => ?_)
          refine lv_iconst (v := 0) hx hb dX12_findMeets_133 (by decide) ?_
          refine lv_istore (lv' := [(9, .int 0), (8, .int 0), (7, .int (230 + (4 * k53_6))), (5, .int k53_5), (6, .int k53_6), (0, .ref b_o), (1, .int p_1), (2, .int p_2), (3, .int p_3), (4, .int p_4)]) hx hb dX12_findMeets_134 hl (by decide) rfl (fun ls hl => ?_)
          refine g5_loop (α := (Int32) × (Nat → Int32)) (fun (q : (Int32) × (Nat → Int32)) (ls : Array Slot) (H : Heap) (locs : List Loc) => match q with | (k136_9, k136_me) => lv_has ls 10 [(9, .int k136_9), (8, .int 0), (7, .int (230 + (4 * k53_6))), (5, .int k53_5), (6, .int k53_6), (0, .ref b_o), (1, .int p_1), (2, .int p_2), (3, .int p_3), (4, .int p_4)] ∧ va_P G.1 vwCl [(b_me, (arI G 1536 k136_me)), (b_o, (oc12 u_th u_sa b_rf b_ro b_im b_ke u_fd b_tp u_td u_fr u_to u_so u_wo u_fa u_bd u_nc b_nl u_co b_op b_ar u_le b_pi b_pa u_pd u_od b_ws b_hw z72 b_se b_re z73 z74 z75 z76 z77 z78 z79 z80 b_pt z81 z82 b_ip u_ic b_ah b_be b_me k53_wd b_tr b_ld u_st b_wn u_id)), (b_ro, (arI G 5740 v_ro)), (b_se, (arJ G 13 z83)), (b_re, (arJ G 400 z84)), (b_pt, (arI G 200 z85))] H ∧ va_D A [(b_me, (arI G 1536 k136_me)), (b_o, (oc12 u_th u_sa b_rf b_ro b_im b_ke u_fd b_tp u_td u_fr u_to u_so u_wo u_fa u_bd u_nc b_nl u_co b_op b_ar u_le b_pi b_pa u_pd u_od b_ws b_hw z72 b_se b_re z73 z74 z75 z76 z77 z78 z79 z80 b_pt z81 z82 b_ip u_ic b_ah b_be b_me k53_wd b_tr b_ld u_st b_wn u_id)), (b_ro, (arI G 5740 v_ro)), (b_se, (arJ G 13 z83)), (b_re, (arJ G 400 z84)), (b_pt, (arI G 200 z85))] ∧ va_S A s.heap H locs ∧ (0 ≤ k136_9.toInt ∧ k136_9.toInt ≤ 200) ∧ (MEI k136_me)) (fun (q : (Int32) × (Nat → Int32)) => match q with | (k136_9, k136_me) => Int.toNat (200 - k136_9.toInt)) (0, k53_me) ⟨lv_sub hl [0, 1, 2, 3, 4, 5, 6, 7, 8, 9] rfl, hP, hD, hS, ⟨by decide, by decide⟩, i_15⟩ ?_
          rintro ⟨k136_9, k136_me⟩ ls H locs ⟨hl, hP, hD, hS, i_86, i_87⟩ ih_136_88
          have hl : lv_has ls 10 [(9, .int k136_9), (8, .int 0), (7, .int (230 + (4 * k53_6))), (5, .int k53_5), (6, .int k53_6), (0, .ref b_o), (1, .int p_1), (2, .int p_2), (3, .int p_3), (4, .int p_4)] := hl
          have i_86 : 0 ≤ k136_9.toInt ∧ k136_9.toInt ≤ 200 := i_86
          have i_87 : MEI k136_me := i_87
          refine g5_rs [(b_me, (arI G 1536 k136_me)), (b_o, (oc12 u_th u_sa b_rf b_ro b_im b_ke u_fd b_tp u_td u_fr u_to u_so u_wo u_fa u_bd u_nc b_nl u_co b_op b_ar u_le b_pi b_pa u_pd u_od b_ws b_hw z72 b_se b_re z73 z74 z75 z76 z77 z78 z79 z80 b_pt z81 z82 b_ip u_ic b_ah b_be b_me k53_wd b_tr b_ld u_st b_wn u_id)), (b_ro, (arI G 5740 v_ro)), (b_se, (arJ G 13 z83)), (b_re, (arJ G 400 z84)), (b_pt, (arI G 200 z85))] hP hD (fun hP hD => ?_)
          refine lv_iload hx hb dX12_findMeets_136 (lv_at hl 0 rfl) ?_
          refine lv_aload_n hx hb dX12_findMeets_138 rfl (lv_at hl 5 rfl) ?_
          refine va_get (D := G.1) (ci := 12) (v := .int z80) (C := RX12) (T := TX12) (N := 52) hx hb hts inG_X12 hown hK hP 1 rfl rfl 37 (by decide) (hts _ fl_X12_358) (fun _ h9 => h9) rfl dX12_findMeets_139 ?_
          refine lv_icmp_ge (tgt := 180) hx hb dX12_findMeets_142 (by decide) (fun c_89 => ?_) (fun c_89 => ?_)
          ·
            have i_89 : k136_9.toInt ≥ z80.toInt := by have z := g5_ge (a := k136_9.toInt) (b := z80.toInt) (by rfl) (by rfl) c_89; omega
            refine lv_aload_n hx hb dX12_findMeets_180 rfl (lv_at hl 5 rfl) ?_
            refine lv_dup hx hb dX12_findMeets_181 rfl ?_
            refine va_get (D := G.1) (ci := 12) (v := .int k53_wd) (C := RX12) (T := TX12) (N := 52) hx hb hts inG_X12 hown hK hP 1 rfl rfl 46 (by decide) (hts _ fl_X12_422) (fun _ h9 => h9) rfl dX12_findMeets_182 ?_
            refine lv_iload hx hb dX12_findMeets_185 (lv_at hl 1 rfl) ?_
            refine lv_if_eq (tgt := 197) hx hb dX12_findMeets_187 (by decide) (fun c_90 => ?_) (fun c_90 => ?_)
            ·
              refine lv_iconst (v := 0) hx hb dX12_findMeets_197 (by decide) ?_
              refine lv_ior hx hb dX12_findMeets_198 ?_
              refine g5_ti (v := k53_wd) (by simp) ?_
              refine va_put (D := G.1) (ci := 12) (v := .int k53_wd) (ty := .int) (C := RX12) (T := TX12) (N := 52) hx hb hts inG_X12 tyX12 tyX12_ok nmX12 hown hK hP hD hS 1 rfl rfl 46 (by decide) (hts _ fl_X12_422) (fun _ h9 => h9) rfl (by decide +kernel) rfl rfl (Nat.le_of_ble_eq_true rfl) dX12_findMeets_199 (fun H locs hP hD hS => ?_)
              refine g5_rs [(b_me, (arI G 1536 k136_me)), (b_o, (oc12 u_th u_sa b_rf b_ro b_im b_ke u_fd b_tp u_td u_fr u_to u_so u_wo u_fa u_bd u_nc b_nl u_co b_op b_ar u_le b_pi b_pa u_pd u_od b_ws b_hw z72 b_se b_re z73 z74 z75 z76 z77 z78 z79 z80 b_pt z81 z82 b_ip u_ic b_ah b_be b_me k53_wd b_tr b_ld u_st b_wn u_id)), (b_ro, (arI G 5740 v_ro)), (b_se, (arJ G 13 z83)), (b_re, (arJ G 400 z84)), (b_pt, (arI G 200 z85))] hP hD (fun hP hD => ?_)
              refine lv_iload hx hb dX12_findMeets_202 (lv_at hl 3 rfl) ?_
              refine lv_iload hx hb dX12_findMeets_204 (lv_at hl 1 rfl) ?_
              refine lv_if_eq (tgt := 213) hx hb dX12_findMeets_206 (by decide) (fun c_91 => ?_) (fun c_91 => ?_)
              ·
                refine lv_iconst (v := 0) hx hb dX12_findMeets_213 (by decide) ?_
                refine lv_iadd hx hb dX12_findMeets_214 ?_
                refine g5_ti (v := k53_5) (by simp) ?_
                refine lv_istore (lv' := [(5, .int k53_5), (9, .int k136_9), (8, .int 0), (7, .int (230 + (4 * k53_6))), (6, .int k53_6), (0, .ref b_o), (1, .int p_1), (2, .int p_2), (3, .int p_3), (4, .int p_4)]) hx hb dX12_findMeets_215 hl (by decide) rfl (fun ls hl => ?_)
                refine lv_iinc (v := (k53_6 + 1)) (lv' := [(6, .int (k53_6 + 1)), (5, .int k53_5), (9, .int k136_9), (8, .int 0), (7, .int (230 + (4 * k53_6))), (0, .ref b_o), (1, .int p_1), (2, .int p_2), (3, .int p_3), (4, .int p_4)]) hx hb dX12_findMeets_217 hl (k := 4) rfl rfl (by decide) rfl (fun ls hl => ?_)
                have t_92 : (k53_6 + 1).toInt = k53_6.toInt + 1 := g5_iadd (a := k53_6.toInt) (b := 1) rfl (by decide) (by omega) (by omega)
                refine lv_goto (tgt := 53) hx hb dX12_findMeets_220 (by decide) ?_
                exact ih_53_17 ((k53_6 + 1), k53_5, z72, z73, z74, z75, z76, z77, z78, z79, z80, z81, z82, k53_wd, z83, z84, z85, k136_me) ls H locs (show Int.toNat (10 - (k53_6 + 1).toInt) < Int.toNat (10 - k53_6.toInt) from g_up (show k53_6.toInt < (k53_6 + 1).toInt by omega) (show k53_6.toInt < 10 by omega)) ⟨lv_sub hl [1, 0, 5, 6, 7, 8, 9] rfl, hP.sub [1, 2, 3, 4, 5, 0] rfl, hD.sub [1, 2, 3, 4, 5, 0] (by decide) rfl, hS, ⟨by omega, by omega⟩, i_6, i_64, i_65, i_66, i_67, i_68, i_69, i_70, i_71, i_87, mn_stay r_ro i_16 (by omega) (by omega) (by omega)⟩
              ·
                exact absurd c_91 (by decide)
            ·
              exact absurd c_90 (by decide)
          ·
            have i_89 : k136_9.toInt < z80.toInt := by have z := g5_geN (a := k136_9.toInt) (b := z80.toInt) (by rfl) (by rfl) c_89; omega
            refine lv_aload_n hx hb dX12_findMeets_145 rfl (lv_at hl 5 rfl) ?_
            refine va_get (D := G.1) (ci := 12) (v := .ref b_me) (C := RX12) (T := TX12) (N := 52) hx hb hts inG_X12 hown hK hP 1 rfl rfl 45 (by decide) (hts _ fl_X12_95) (fun _ h9 => h9) rfl dX12_findMeets_146 ?_
            refine lv_aload_n hx hb dX12_findMeets_149 rfl (lv_at hl 5 rfl) ?_
            refine va_get (D := G.1) (ci := 12) (v := .ref b_pt) (C := RX12) (T := TX12) (N := 52) hx hb hts inG_X12 hown hK hP 1 rfl rfl 38 (by decide) (hts _ fl_X12_82) (fun _ h9 => h9) rfl dX12_findMeets_150 ?_
            refine lv_iload hx hb dX12_findMeets_153 (lv_at hl 0 rfl) ?_
            refine va_iald hx hb hK hP 5 0 rfl rfl (i := k136_9) (vp_in_iff.mpr ⟨by omega, by omega⟩) dX12_findMeets_155 ?_
            have hr_93 : 0 ≤ (z85 k136_9.toNatClampNeg).toInt ∧ (z85 k136_9.toNatClampNeg).toInt ≤ 1535 := i_71 (k136_9.toNatClampNeg)
            refine lv_dup2_11 hx hb dX12_findMeets_156 rfl rfl ?_
            refine va_iald hx hb hK hP 0 0 rfl rfl (i := (z85 k136_9.toNatClampNeg)) (vp_in_iff.mpr ⟨by omega, by omega⟩) dX12_findMeets_157 ?_
            have hr_94 : 0 ≤ (k136_me (z85 k136_9.toNatClampNeg).toNatClampNeg).toInt ∧ ((k136_me (z85 k136_9.toNatClampNeg).toNatClampNeg).toInt < 32 ∨ 64 ≤ (k136_me (z85 k136_9.toNatClampNeg).toNatClampNeg).toInt) ∧ (k136_me (z85 k136_9.toNatClampNeg).toNatClampNeg).toInt ≤ 127 := i_87 ((z85 k136_9.toNatClampNeg).toNatClampNeg)
            refine lv_iload hx hb dX12_findMeets_158 (lv_at hl 1 rfl) ?_
            refine lv_if_eq (tgt := 170) hx hb dX12_findMeets_160 (by decide) (fun c_95 => ?_) (fun c_95 => ?_)
            ·
              refine lv_bipush (v := 64) hx hb dX12_findMeets_170 (by decide) ?_
              refine lv_ior hx hb dX12_findMeets_172 ?_
              refine va_iast hx hb hK hP hD hS 0 0 rfl rfl (i := (z85 k136_9.toNatClampNeg)) (x := ((k136_me (z85 k136_9.toNatClampNeg).toNatClampNeg) ||| 64)) (vp_in_iff.mpr ⟨by omega, by omega⟩) dX12_findMeets_173 (fun H locs hP hD hS => ?_)
              refine g5_rs [(b_me, (arI G 1536 (upd k136_me (z85 k136_9.toNatClampNeg).toNatClampNeg ((k136_me (z85 k136_9.toNatClampNeg).toNatClampNeg) ||| 64)))), (b_o, (oc12 u_th u_sa b_rf b_ro b_im b_ke u_fd b_tp u_td u_fr u_to u_so u_wo u_fa u_bd u_nc b_nl u_co b_op b_ar u_le b_pi b_pa u_pd u_od b_ws b_hw z72 b_se b_re z73 z74 z75 z76 z77 z78 z79 z80 b_pt z81 z82 b_ip u_ic b_ah b_be b_me k53_wd b_tr b_ld u_st b_wn u_id)), (b_ro, (arI G 5740 v_ro)), (b_se, (arJ G 13 z83)), (b_re, (arJ G 400 z84)), (b_pt, (arI G 200 z85))] hP hD (fun hP hD => ?_)
              refine lv_iinc (v := (k136_9 + 1)) (lv' := [(9, .int (k136_9 + 1)), (8, .int 0), (7, .int (230 + (4 * k53_6))), (5, .int k53_5), (6, .int k53_6), (0, .ref b_o), (1, .int p_1), (2, .int p_2), (3, .int p_3), (4, .int p_4)]) hx hb dX12_findMeets_174 hl (k := 0) rfl rfl (by decide) rfl (fun ls hl => ?_)
              have t_96 : (k136_9 + 1).toInt = k136_9.toInt + 1 := g5_iadd (a := k136_9.toInt) (b := 1) rfl (by decide) (by omega) (by omega)
              refine lv_goto (tgt := 136) hx hb dX12_findMeets_177 (by decide) ?_
              exact ih_136_88 ((k136_9 + 1), (upd k136_me (z85 k136_9.toNatClampNeg).toNatClampNeg ((k136_me (z85 k136_9.toNatClampNeg).toNatClampNeg) ||| 64))) ls H locs (show Int.toNat (200 - (k136_9 + 1).toInt) < Int.toNat (200 - k136_9.toInt) from g_up (show k136_9.toInt < (k136_9 + 1).toInt by omega) (show k136_9.toInt < 200 by omega)) ⟨lv_sub hl [0, 1, 2, 3, 4, 5, 6, 7, 8, 9] rfl, hP, hD, hS, ⟨by omega, by omega⟩, me_upd i_87 (me_or64 (i_87 _))⟩
            ·
              exact absurd c_95 (by decide)
        ·
          have i_58 : (v_ro ((230 + (4 * k53_6)) + 3).toNatClampNeg).toInt = 1 := by have z := g5_neN (a := (v_ro ((230 + (4 * k53_6)) + 3).toNatClampNeg).toInt) (b := 1) (by rfl) (by decide) c_58; omega
          refine lv_iconst (v := 1) hx hb dX12_findMeets_96 (by decide) ?_
          refine lv_goto (tgt := 101) hx hb dX12_findMeets_97 (by decide) ?_
          refine lv_istore (lv' := [(8, .int 1), (7, .int (230 + (4 * k53_6))), (5, .int k53_5), (6, .int k53_6), (0, .ref b_o), (1, .int p_1), (2, .int p_2), (3, .int p_3), (4, .int p_4)]) hx hb dX12_findMeets_101 hl (by decide) rfl (fun ls hl => ?_)
          refine lv_aload_n hx hb dX12_findMeets_103 rfl (lv_at hl 4 rfl) ?_
          refine lv_aload_n hx hb dX12_findMeets_104 rfl (lv_at hl 4 rfl) ?_
          refine va_get (D := G.1) (ci := 12) (v := .ref b_ro) (C := RX12) (T := TX12) (N := 52) hx hb hts inG_X12 hown hK hP 0 rfl rfl 3 (by decide) (hts _ fl_X12_13) (fun _ h9 => h9) rfl dX12_findMeets_105 ?_
          refine lv_iload hx hb dX12_findMeets_108 (lv_at hl 1 rfl) ?_
          refine va_iald hx hb hK hP 1 0 rfl rfl (i := (230 + (4 * k53_6))) (vp_in_iff.mpr ⟨by omega, by omega⟩) dX12_findMeets_110 ?_
          have hv_97 : 0 ≤ (v_ro (230 + (4 * k53_6)).toNatClampNeg).toInt ∧ (v_ro (230 + (4 * k53_6)).toNatClampNeg).toInt ≤ 63 := mi_230_0 r_ro (by have zz := g5_clamp (230 + (4 * k53_6)); omega) (by have zz := g5_clamp (230 + (4 * k53_6)); omega) (by have zz := g5_clamp (230 + (4 * k53_6)); omega)
          refine lv_aload_n hx hb dX12_findMeets_111 rfl (lv_at hl 4 rfl) ?_
          refine va_get (D := G.1) (ci := 12) (v := .ref b_ro) (C := RX12) (T := TX12) (N := 52) hx hb hts inG_X12 hown hK hP 0 rfl rfl 3 (by decide) (hts _ fl_X12_13) (fun _ h9 => h9) rfl dX12_findMeets_112 ?_
          refine lv_iload hx hb dX12_findMeets_115 (lv_at hl 1 rfl) ?_
          refine lv_iconst (v := 1) hx hb dX12_findMeets_117 (by decide) ?_
          refine lv_iadd hx hb dX12_findMeets_118 ?_
          have t_98 : ((230 + (4 * k53_6)) + 1).toInt = (230 + (4 * k53_6)).toInt + 1 := g5_iadd (a := (230 + (4 * k53_6)).toInt) (b := 1) (by rfl) (by decide) (by omega) (by omega)
          refine va_iald hx hb hK hP 1 0 rfl rfl (i := ((230 + (4 * k53_6)) + 1)) (vp_in_iff.mpr ⟨by omega, by omega⟩) dX12_findMeets_119 ?_
          have hv_99 : 0 ≤ (v_ro ((230 + (4 * k53_6)) + 1).toNatClampNeg).toInt ∧ (v_ro ((230 + (4 * k53_6)) + 1).toNatClampNeg).toInt ≤ 3 := mi_230_1 r_ro (by have zz := g5_clamp ((230 + (4 * k53_6)) + 1); omega) (by have zz := g5_clamp ((230 + (4 * k53_6)) + 1); omega) (by have zz := g5_clamp ((230 + (4 * k53_6)) + 1); omega)
          refine lv_aload_n hx hb dX12_findMeets_120 rfl (lv_at hl 4 rfl) ?_
          refine va_get (D := G.1) (ci := 12) (v := .ref b_ro) (C := RX12) (T := TX12) (N := 52) hx hb hts inG_X12 hown hK hP 0 rfl rfl 3 (by decide) (hts _ fl_X12_13) (fun _ h9 => h9) rfl dX12_findMeets_121 ?_
          refine lv_iload hx hb dX12_findMeets_124 (lv_at hl 1 rfl) ?_
          refine lv_iconst (v := 2) hx hb dX12_findMeets_126 (by decide) ?_
          refine lv_iadd hx hb dX12_findMeets_127 ?_
          have t_100 : ((230 + (4 * k53_6)) + 2).toInt = (230 + (4 * k53_6)).toInt + 2 := g5_iadd (a := (230 + (4 * k53_6)).toInt) (b := 2) (by rfl) (by decide) (by omega) (by omega)
          refine va_iald hx hb hK hP 1 0 rfl rfl (i := ((230 + (4 * k53_6)) + 2)) (vp_in_iff.mpr ⟨by omega, by omega⟩) dX12_findMeets_128 ?_
          have hv_101 : 0 ≤ (v_ro ((230 + (4 * k53_6)) + 2).toNatClampNeg).toInt ∧ (v_ro ((230 + (4 * k53_6)) + 2).toNatClampNeg).toInt ≤ 23 := mi_230_2 r_ro (by have zz := g5_clamp ((230 + (4 * k53_6)) + 2); omega) (by have zz := g5_clamp ((230 + (4 * k53_6)) + 2); omega) (by have zz := g5_clamp ((230 + (4 * k53_6)) + 2); omega)
          refine lv_iconst (v := 0) hx hb dX12_findMeets_129 (by decide) ?_
          obtain ⟨hPc, hDc, hFc⟩ := g5_sub3 (wc := [(b_o, (oc12 u_th u_sa b_rf b_ro b_im b_ke u_fd b_tp u_td u_fr u_to u_so u_wo u_fa u_bd u_nc b_nl u_co b_op b_ar u_le b_pi b_pa u_pd u_od b_ws b_hw k53_la b_se b_re k53_bk k53_va k53_su k53_ce k53_ho k53_wy k53_bt k53_ps b_pt k53_tg k53_sn b_ip u_ic b_ah b_be b_me k53_wd b_tr b_ld u_st b_wn u_id)), (b_ro, (arI G 5740 v_ro)), (b_se, (arJ G 13 k53_se)), (b_re, (arJ G 400 k53_re)), (b_pt, (arI G 200 k53_pt))]) hP hD hS hA [0, 1, 2, 3, 4] (by decide) rfl
          refine va_callv (va_runV (As := [.int (v_ro (230 + (4 * k53_6)).toNatClampNeg), .int (v_ro ((230 + (4 * k53_6)) + 1).toNatClampNeg), .int (v_ro ((230 + (4 * k53_6)) + 2).toNatClampNeg), .int 0]) (rest := []) ⟨hx, hb, hml, hown, hts⟩ (n_go l G b_o b_ro b_se b_re b_pt b_rf b_im b_ke b_tp b_nl b_op b_ar b_pi b_pa b_ws b_hw b_ip b_ah b_be b_me b_tr b_ld b_wn H.size u_th u_sa u_fd u_td u_fr u_to u_so u_fa u_bd u_nc u_co u_le u_pd u_od k53_la k53_bk k53_ce k53_ho k53_wy k53_bt k53_ps k53_tg k53_sn u_ic k53_wd u_id (v_ro (230 + (4 * k53_6)).toNatClampNeg) (v_ro ((230 + (4 * k53_6)) + 1).toNatClampNeg) (v_ro ((230 + (4 * k53_6)) + 2).toNatClampNeg) 0 u_wo k53_va k53_su u_st v_ro k53_se k53_re k53_pt h_u_td h_u_fr h_u_to h_u_bd h_u_nc h_u_co h_u_pd i_7 i_8 i_9 i_10 i_11 i_12 i_13 h_u_ic h_u_id ⟨by omega, by omega⟩ ⟨by omega, by omega⟩ ⟨by omega, by omega⟩ (r_ro) (i_14)) (cwV 4 hts gV_X12_401 rfl rfl rfl hv_X12_go ⟨Nat.le_of_ble_eq_true rfl, Nat.le_of_ble_eq_true rfl⟩) (g5_preV hPc hK hDc hN hT hS hFc (ci := 12) (q0 := 0) rfl rfl) rfl rfl hl.1 rfl (lv_room (Nat.le_of_ble_eq_true rfl)) dX12_findMeets_130 ⟨Nat.le_of_ble_eq_true rfl, Nat.le_of_ble_eq_true rfl⟩) hS (fun q _ h => hFc q h) hFc (fun u t H1 locs ht hvm hw hB hz1 hk1 hS => ?_)
          obtain ⟨hP1, hD1⟩ := hB
          rw [ht] at hP1
          obtain ⟨z110, z111, z112, z113, z114, z115, z116, z117, z118, z119, z120, z121, z122, z123, i_102, i_103, i_104, i_105, i_106, i_107, i_108, i_109, rfl⟩ := hw
          have i_102 : 0 ≤ z110.toInt ∧ z110.toInt ≤ 4840 := i_102
          have i_103 : 0 ≤ z111.toInt ∧ z111.toInt ≤ 1 := i_103
          have i_104 : 0 ≤ z114.toInt ∧ z114.toInt ≤ 63 := i_104
          have i_105 : 0 ≤ z115.toInt ∧ z115.toInt ≤ 23 := i_105
          have i_106 : 0 ≤ z116.toInt ∧ z116.toInt ≤ 3 := i_106
          have i_107 : 0 ≤ z117.toInt ∧ z117.toInt ≤ 1000000 := i_107
          have i_108 : 0 ≤ z118.toInt ∧ z118.toInt ≤ 200 := i_108
          have i_109 : PTI z123 := i_109
          obtain ⟨hP, hD⟩ := va_join (wr := [(b_me, (arI G 1536 k53_me))]) hP hD [0, 1, 2, 3, 4] [5] rfl rfl (by decide) (by decide) hk1 hFc hP1 hD1
          generalize H1 = H at hP hS ⊢
          refine g5_rs [(b_me, (arI G 1536 k53_me)), (b_o, (oc12 u_th u_sa b_rf b_ro b_im b_ke u_fd b_tp u_td u_fr u_to u_so u_wo u_fa u_bd u_nc b_nl u_co b_op b_ar u_le b_pi b_pa u_pd u_od b_ws b_hw z110 b_se b_re z111 z112 z113 z114 z115 z116 z117 z118 b_pt z119 z120 b_ip u_ic b_ah b_be b_me k53_wd b_tr b_ld u_st b_wn u_id)), (b_ro, (arI G 5740 v_ro)), (b_se, (arJ G 13 z121)), (b_re, (arJ G 400 z122)), (b_pt, (arI G 200 z123))] hP hD (fun hP hD => ?_)
          have hlt9 : k53_5.toInt < 5 := mn_lt (x := ((230 + (4 * k53_6)) + 3)) r_ro i_16 (by omega) (by omega) (by omega) (by omega)
          refine lv_iconst (v := 0) hx hb dX12_findMeets_133 (by decide) ?_
          refine lv_istore (lv' := [(9, .int 0), (8, .int 1), (7, .int (230 + (4 * k53_6))), (5, .int k53_5), (6, .int k53_6), (0, .ref b_o), (1, .int p_1), (2, .int p_2), (3, .int p_3), (4, .int p_4)]) hx hb dX12_findMeets_134 hl (by decide) rfl (fun ls hl => ?_)
          refine g5_loop (α := (Int32) × (Nat → Int32)) (fun (q : (Int32) × (Nat → Int32)) (ls : Array Slot) (H : Heap) (locs : List Loc) => match q with | (k136_9, k136_me) => lv_has ls 10 [(9, .int k136_9), (8, .int 1), (7, .int (230 + (4 * k53_6))), (5, .int k53_5), (6, .int k53_6), (0, .ref b_o), (1, .int p_1), (2, .int p_2), (3, .int p_3), (4, .int p_4)] ∧ va_P G.1 vwCl [(b_me, (arI G 1536 k136_me)), (b_o, (oc12 u_th u_sa b_rf b_ro b_im b_ke u_fd b_tp u_td u_fr u_to u_so u_wo u_fa u_bd u_nc b_nl u_co b_op b_ar u_le b_pi b_pa u_pd u_od b_ws b_hw z110 b_se b_re z111 z112 z113 z114 z115 z116 z117 z118 b_pt z119 z120 b_ip u_ic b_ah b_be b_me k53_wd b_tr b_ld u_st b_wn u_id)), (b_ro, (arI G 5740 v_ro)), (b_se, (arJ G 13 z121)), (b_re, (arJ G 400 z122)), (b_pt, (arI G 200 z123))] H ∧ va_D A [(b_me, (arI G 1536 k136_me)), (b_o, (oc12 u_th u_sa b_rf b_ro b_im b_ke u_fd b_tp u_td u_fr u_to u_so u_wo u_fa u_bd u_nc b_nl u_co b_op b_ar u_le b_pi b_pa u_pd u_od b_ws b_hw z110 b_se b_re z111 z112 z113 z114 z115 z116 z117 z118 b_pt z119 z120 b_ip u_ic b_ah b_be b_me k53_wd b_tr b_ld u_st b_wn u_id)), (b_ro, (arI G 5740 v_ro)), (b_se, (arJ G 13 z121)), (b_re, (arJ G 400 z122)), (b_pt, (arI G 200 z123))] ∧ va_S A s.heap H locs ∧ (0 ≤ k136_9.toInt ∧ k136_9.toInt ≤ 200) ∧ (MEI k136_me)) (fun (q : (Int32) × (Nat → Int32)) => match q with | (k136_9, k136_me) => Int.toNat (200 - k136_9.toInt)) (0, k53_me) ⟨lv_sub hl [0, 1, 2, 3, 4, 5, 6, 7, 8, 9] rfl, hP, hD, hS, ⟨by decide, by decide⟩, i_15⟩ ?_
          rintro ⟨k136_9, k136_me⟩ ls H locs ⟨hl, hP, hD, hS, i_124, i_125⟩ ih_136_126
          have hl : lv_has ls 10 [(9, .int k136_9), (8, .int 1), (7, .int (230 + (4 * k53_6))), (5, .int k53_5), (6, .int k53_6), (0, .ref b_o), (1, .int p_1), (2, .int p_2), (3, .int p_3), (4, .int p_4)] := hl
          have i_124 : 0 ≤ k136_9.toInt ∧ k136_9.toInt ≤ 200 := i_124
          have i_125 : MEI k136_me := i_125
          refine g5_rs [(b_me, (arI G 1536 k136_me)), (b_o, (oc12 u_th u_sa b_rf b_ro b_im b_ke u_fd b_tp u_td u_fr u_to u_so u_wo u_fa u_bd u_nc b_nl u_co b_op b_ar u_le b_pi b_pa u_pd u_od b_ws b_hw z110 b_se b_re z111 z112 z113 z114 z115 z116 z117 z118 b_pt z119 z120 b_ip u_ic b_ah b_be b_me k53_wd b_tr b_ld u_st b_wn u_id)), (b_ro, (arI G 5740 v_ro)), (b_se, (arJ G 13 z121)), (b_re, (arJ G 400 z122)), (b_pt, (arI G 200 z123))] hP hD (fun hP hD => ?_)
          refine lv_iload hx hb dX12_findMeets_136 (lv_at hl 0 rfl) ?_
          refine lv_aload_n hx hb dX12_findMeets_138 rfl (lv_at hl 5 rfl) ?_
          refine va_get (D := G.1) (ci := 12) (v := .int z118) (C := RX12) (T := TX12) (N := 52) hx hb hts inG_X12 hown hK hP 1 rfl rfl 37 (by decide) (hts _ fl_X12_358) (fun _ h9 => h9) rfl dX12_findMeets_139 ?_
          refine lv_icmp_ge (tgt := 180) hx hb dX12_findMeets_142 (by decide) (fun c_127 => ?_) (fun c_127 => ?_)
          ·
            have i_127 : k136_9.toInt ≥ z118.toInt := by have z := g5_ge (a := k136_9.toInt) (b := z118.toInt) (by rfl) (by rfl) c_127; omega
            refine lv_aload_n hx hb dX12_findMeets_180 rfl (lv_at hl 5 rfl) ?_
            refine lv_dup hx hb dX12_findMeets_181 rfl ?_
            refine va_get (D := G.1) (ci := 12) (v := .int k53_wd) (C := RX12) (T := TX12) (N := 52) hx hb hts inG_X12 hown hK hP 1 rfl rfl 46 (by decide) (hts _ fl_X12_422) (fun _ h9 => h9) rfl dX12_findMeets_182 ?_
            refine lv_iload hx hb dX12_findMeets_185 (lv_at hl 1 rfl) ?_
            refine lv_if_eq (tgt := 197) hx hb dX12_findMeets_187 (by decide) (fun c_128 => ?_) (fun c_128 => ?_)
            ·
              exact absurd c_128 (by decide)
            ·
              refine lv_iconst (v := 1) hx hb dX12_findMeets_190 (by decide) ?_
              refine lv_iload hx hb dX12_findMeets_191 (lv_at hl 3 rfl) ?_
              refine lv_ishl hx hb dX12_findMeets_193 ?_
              refine lv_goto (tgt := 198) hx hb dX12_findMeets_194 (by decide) ?_
              refine lv_ior hx hb dX12_findMeets_198 ?_
              refine va_put (D := G.1) (ci := 12) (v := .int (k53_wd ||| (1 <<< (k53_5 &&& 31)))) (ty := .int) (C := RX12) (T := TX12) (N := 52) hx hb hts inG_X12 tyX12 tyX12_ok nmX12 hown hK hP hD hS 1 rfl rfl 46 (by decide) (hts _ fl_X12_422) (fun _ h9 => h9) rfl (by decide +kernel) rfl rfl (Nat.le_of_ble_eq_true rfl) dX12_findMeets_199 (fun H locs hP hD hS => ?_)
              refine g5_rs [(b_me, (arI G 1536 k136_me)), (b_o, (oc12 u_th u_sa b_rf b_ro b_im b_ke u_fd b_tp u_td u_fr u_to u_so u_wo u_fa u_bd u_nc b_nl u_co b_op b_ar u_le b_pi b_pa u_pd u_od b_ws b_hw z110 b_se b_re z111 z112 z113 z114 z115 z116 z117 z118 b_pt z119 z120 b_ip u_ic b_ah b_be b_me (k53_wd ||| (1 <<< (k53_5 &&& 31))) b_tr b_ld u_st b_wn u_id)), (b_ro, (arI G 5740 v_ro)), (b_se, (arJ G 13 z121)), (b_re, (arJ G 400 z122)), (b_pt, (arI G 200 z123))] hP hD (fun hP hD => ?_)
              refine lv_iload hx hb dX12_findMeets_202 (lv_at hl 3 rfl) ?_
              refine lv_iload hx hb dX12_findMeets_204 (lv_at hl 1 rfl) ?_
              refine lv_if_eq (tgt := 213) hx hb dX12_findMeets_206 (by decide) (fun c_129 => ?_) (fun c_129 => ?_)
              ·
                exact absurd c_129 (by decide)
              ·
                refine lv_iconst (v := 1) hx hb dX12_findMeets_209 (by decide) ?_
                refine lv_goto (tgt := 214) hx hb dX12_findMeets_210 (by decide) ?_
                refine lv_iadd hx hb dX12_findMeets_214 ?_
                have t_130 : (k53_5 + 1).toInt = k53_5.toInt + 1 := g5_iadd (a := k53_5.toInt) (b := 1) (by rfl) (by decide) (by omega) (by omega)
                refine lv_istore (lv' := [(5, .int (k53_5 + 1)), (9, .int k136_9), (8, .int 1), (7, .int (230 + (4 * k53_6))), (6, .int k53_6), (0, .ref b_o), (1, .int p_1), (2, .int p_2), (3, .int p_3), (4, .int p_4)]) hx hb dX12_findMeets_215 hl (by decide) rfl (fun ls hl => ?_)
                refine lv_iinc (v := (k53_6 + 1)) (lv' := [(6, .int (k53_6 + 1)), (5, .int (k53_5 + 1)), (9, .int k136_9), (8, .int 1), (7, .int (230 + (4 * k53_6))), (0, .ref b_o), (1, .int p_1), (2, .int p_2), (3, .int p_3), (4, .int p_4)]) hx hb dX12_findMeets_217 hl (k := 4) rfl rfl (by decide) rfl (fun ls hl => ?_)
                have t_131 : (k53_6 + 1).toInt = k53_6.toInt + 1 := g5_iadd (a := k53_6.toInt) (b := 1) rfl (by decide) (by omega) (by omega)
                refine lv_goto (tgt := 53) hx hb dX12_findMeets_220 (by decide) ?_
                exact ih_53_17 ((k53_6 + 1), (k53_5 + 1), z110, z111, z112, z113, z114, z115, z116, z117, z118, z119, z120, (k53_wd ||| (1 <<< (k53_5 &&& 31))), z121, z122, z123, k136_me) ls H locs (show Int.toNat (10 - (k53_6 + 1).toInt) < Int.toNat (10 - k53_6.toInt) from g_up (show k53_6.toInt < (k53_6 + 1).toInt by omega) (show k53_6.toInt < 10 by omega)) ⟨lv_sub hl [1, 0, 5, 6, 7, 8, 9] rfl, hP.sub [1, 2, 3, 4, 5, 0] rfl, hD.sub [1, 2, 3, 4, 5, 0] (by decide) rfl, hS, ⟨by omega, by omega⟩, ⟨by omega, by omega⟩, i_102, i_103, i_104, i_105, i_106, i_107, i_108, i_109, i_125, mn_go (x := ((230 + (4 * k53_6)) + 3)) i_16 (by omega) (by omega) (by omega) (by omega) (by omega) (by omega)⟩
          ·
            have i_127 : k136_9.toInt < z118.toInt := by have z := g5_geN (a := k136_9.toInt) (b := z118.toInt) (by rfl) (by rfl) c_127; omega
            refine lv_aload_n hx hb dX12_findMeets_145 rfl (lv_at hl 5 rfl) ?_
            refine va_get (D := G.1) (ci := 12) (v := .ref b_me) (C := RX12) (T := TX12) (N := 52) hx hb hts inG_X12 hown hK hP 1 rfl rfl 45 (by decide) (hts _ fl_X12_95) (fun _ h9 => h9) rfl dX12_findMeets_146 ?_
            refine lv_aload_n hx hb dX12_findMeets_149 rfl (lv_at hl 5 rfl) ?_
            refine va_get (D := G.1) (ci := 12) (v := .ref b_pt) (C := RX12) (T := TX12) (N := 52) hx hb hts inG_X12 hown hK hP 1 rfl rfl 38 (by decide) (hts _ fl_X12_82) (fun _ h9 => h9) rfl dX12_findMeets_150 ?_
            refine lv_iload hx hb dX12_findMeets_153 (lv_at hl 0 rfl) ?_
            refine va_iald hx hb hK hP 5 0 rfl rfl (i := k136_9) (vp_in_iff.mpr ⟨by omega, by omega⟩) dX12_findMeets_155 ?_
            have hr_132 : 0 ≤ (z123 k136_9.toNatClampNeg).toInt ∧ (z123 k136_9.toNatClampNeg).toInt ≤ 1535 := i_109 (k136_9.toNatClampNeg)
            refine lv_dup2_11 hx hb dX12_findMeets_156 rfl rfl ?_
            refine va_iald hx hb hK hP 0 0 rfl rfl (i := (z123 k136_9.toNatClampNeg)) (vp_in_iff.mpr ⟨by omega, by omega⟩) dX12_findMeets_157 ?_
            have hr_133 : 0 ≤ (k136_me (z123 k136_9.toNatClampNeg).toNatClampNeg).toInt ∧ ((k136_me (z123 k136_9.toNatClampNeg).toNatClampNeg).toInt < 32 ∨ 64 ≤ (k136_me (z123 k136_9.toNatClampNeg).toNatClampNeg).toInt) ∧ (k136_me (z123 k136_9.toNatClampNeg).toNatClampNeg).toInt ≤ 127 := i_125 ((z123 k136_9.toNatClampNeg).toNatClampNeg)
            refine lv_iload hx hb dX12_findMeets_158 (lv_at hl 1 rfl) ?_
            refine lv_if_eq (tgt := 170) hx hb dX12_findMeets_160 (by decide) (fun c_134 => ?_) (fun c_134 => ?_)
            ·
              exact absurd c_134 (by decide)
            ·
              refine lv_iconst (v := 1) hx hb dX12_findMeets_163 (by decide) ?_
              refine lv_iload hx hb dX12_findMeets_164 (lv_at hl 3 rfl) ?_
              refine lv_ishl hx hb dX12_findMeets_166 ?_
              refine lv_goto (tgt := 172) hx hb dX12_findMeets_167 (by decide) ?_
              refine lv_ior hx hb dX12_findMeets_172 ?_
              refine va_iast hx hb hK hP hD hS 0 0 rfl rfl (i := (z123 k136_9.toNatClampNeg)) (x := ((k136_me (z123 k136_9.toNatClampNeg).toNatClampNeg) ||| (1 <<< (k53_5 &&& 31)))) (vp_in_iff.mpr ⟨by omega, by omega⟩) dX12_findMeets_173 (fun H locs hP hD hS => ?_)
              refine g5_rs [(b_me, (arI G 1536 (upd k136_me (z123 k136_9.toNatClampNeg).toNatClampNeg ((k136_me (z123 k136_9.toNatClampNeg).toNatClampNeg) ||| (1 <<< (k53_5 &&& 31)))))), (b_o, (oc12 u_th u_sa b_rf b_ro b_im b_ke u_fd b_tp u_td u_fr u_to u_so u_wo u_fa u_bd u_nc b_nl u_co b_op b_ar u_le b_pi b_pa u_pd u_od b_ws b_hw z110 b_se b_re z111 z112 z113 z114 z115 z116 z117 z118 b_pt z119 z120 b_ip u_ic b_ah b_be b_me k53_wd b_tr b_ld u_st b_wn u_id)), (b_ro, (arI G 5740 v_ro)), (b_se, (arJ G 13 z121)), (b_re, (arJ G 400 z122)), (b_pt, (arI G 200 z123))] hP hD (fun hP hD => ?_)
              refine lv_iinc (v := (k136_9 + 1)) (lv' := [(9, .int (k136_9 + 1)), (8, .int 1), (7, .int (230 + (4 * k53_6))), (5, .int k53_5), (6, .int k53_6), (0, .ref b_o), (1, .int p_1), (2, .int p_2), (3, .int p_3), (4, .int p_4)]) hx hb dX12_findMeets_174 hl (k := 0) rfl rfl (by decide) rfl (fun ls hl => ?_)
              have t_135 : (k136_9 + 1).toInt = k136_9.toInt + 1 := g5_iadd (a := k136_9.toInt) (b := 1) rfl (by decide) (by omega) (by omega)
              refine lv_goto (tgt := 136) hx hb dX12_findMeets_177 (by decide) ?_
              exact ih_136_126 ((k136_9 + 1), (upd k136_me (z123 k136_9.toNatClampNeg).toNatClampNeg ((k136_me (z123 k136_9.toNatClampNeg).toNatClampNeg) ||| (1 <<< (k53_5 &&& 31))))) ls H locs (show Int.toNat (200 - (k136_9 + 1).toInt) < Int.toNat (200 - k136_9.toInt) from g_up (show k136_9.toInt < (k136_9 + 1).toInt by omega) (show k136_9.toInt < 200 by omega)) ⟨lv_sub hl [0, 1, 2, 3, 4, 5, 6, 7, 8, 9] rfl, hP, hD, hS, ⟨by omega, by omega⟩, me_upd i_125 (me_or1 (i_125 _) (by omega))⟩
  ·
    have i_4 : k11_6.toInt < 1536 := by have z := g5_geN (a := k11_6.toInt) (b := 1536) (by rfl) (by decide) c_4; omega
    refine lv_aload_n hx hb dX12_findMeets_19 rfl (lv_at hl 2 rfl) ?_
    refine va_get (D := G.1) (ci := 12) (v := .ref b_me) (C := RX12) (T := TX12) (N := 52) hx hb hts inG_X12 hown hK hP 0 rfl rfl 45 (by decide) (hts _ fl_X12_95) (fun _ h9 => h9) rfl dX12_findMeets_20 ?_
    refine lv_iload hx hb dX12_findMeets_23 (lv_at hl 0 rfl) ?_
    refine lv_aload_n hx hb dX12_findMeets_25 rfl (lv_at hl 2 rfl) ?_
    refine lv_iload hx hb dX12_findMeets_26 (lv_at hl 0 rfl) ?_
    refine lv_bipush (v := 64) hx hb dX12_findMeets_28 (by decide) ?_
    refine lv_irem hx hb dX12_findMeets_30 (by decide) ?_
    have t_136 : (k11_6 - k11_6 / 64 * 64).toInt = k11_6.toInt % 64 := g5_irem (a := k11_6.toInt) (b := 64) rfl (by decide) (by omega) (by decide)
    obtain ⟨hPc, hDc, hFc⟩ := g5_sub3 (wc := [(b_o, (oc12 u_th u_sa b_rf b_ro b_im b_ke u_fd b_tp u_td u_fr u_to u_so u_wo u_fa u_bd u_nc b_nl u_co b_op b_ar u_le b_pi b_pa u_pd u_od b_ws b_hw u_la b_se b_re u_bk u_va u_su u_ce u_ho u_wy u_bt u_ps b_pt u_tg u_sn b_ip u_ic b_ah b_be b_me 0 b_tr b_ld u_st b_wn u_id)), (b_ro, (arI G 5740 v_ro))]) hP hD hS hA [0, 1] (by decide) rfl
    refine va_calli (va_runV (As := [.int (k11_6 - k11_6 / 64 * 64)]) (rest := [.int k11_6, .ref b_me]) ⟨hx, hb, hml, hown, hts⟩ (n_isWall l G b_o b_ro b_rf b_im b_ke b_tp b_nl b_op b_ar b_pi b_pa b_ws b_hw b_se b_re b_pt b_ip b_ah b_be b_me b_tr b_ld b_wn H.size u_th u_sa u_fd u_td u_fr u_to u_so u_fa u_bd u_nc u_co u_le u_pd u_od u_la u_bk u_ce u_ho u_wy u_bt u_ps u_tg u_sn u_ic 0 u_id (k11_6 - k11_6 / 64 * 64) u_wo u_va u_su u_st v_ro h_u_td h_u_fr h_u_to h_u_bd h_u_nc h_u_co h_u_pd h_u_la h_u_bk h_u_ce h_u_ho h_u_wy h_u_bt h_u_ps h_u_ic h_u_id ⟨by omega, by omega⟩ (r_ro)) (cwV 1 hts gV_X12_160 rfl rfl rfl hv_X12_isWall ⟨Nat.le_of_ble_eq_true rfl, Nat.le_of_ble_eq_true rfl⟩) (g5_preV hPc hK hDc hN hT hS hFc (ci := 12) (q0 := 0) rfl rfl) rfl rfl hl.1 rfl (lv_room (Nat.le_of_ble_eq_true rfl)) dX12_findMeets_31 ⟨Nat.le_of_ble_eq_true rfl, Nat.le_of_ble_eq_true rfl⟩) hS (fun q _ h => hFc q h) hFc (fun r u t H1 locs ht hvm hw hB hz1 hk1 hS => ?_)
    obtain ⟨hP1, hD1⟩ := hB
    rw [ht] at hP1
    obtain ⟨z138, i_137, y139, rfl⟩ := hw
    have i_137 : 0 ≤ z138.toInt ∧ z138.toInt ≤ 1 := i_137
    obtain ⟨hP, hD⟩ := va_join (wr := [(b_se, (arJ G 13 v_se)), (b_re, (arJ G 400 v_re)), (b_pt, (arI G 200 v_pt)), (b_me, (arI G 1536 k11_me))]) hP hD [0, 1] [2, 3, 4, 5] rfl rfl (by decide) (by decide) hk1 hFc hP1 hD1
    generalize H1 = H at hP hS ⊢
    refine g5_rs [(b_se, (arJ G 13 v_se)), (b_re, (arJ G 400 v_re)), (b_pt, (arI G 200 v_pt)), (b_me, (arI G 1536 k11_me)), (b_o, (oc12 u_th u_sa b_rf b_ro b_im b_ke u_fd b_tp u_td u_fr u_to u_so u_wo u_fa u_bd u_nc b_nl u_co b_op b_ar u_le b_pi b_pa u_pd u_od b_ws b_hw u_la b_se b_re u_bk u_va u_su u_ce u_ho u_wy u_bt u_ps b_pt u_tg u_sn b_ip u_ic b_ah b_be b_me 0 b_tr b_ld u_st b_wn u_id)), (b_ro, (arI G 5740 v_ro))] hP hD (fun hP hD => ?_)
    refine g5_ti (v := z138) y139 ?_
    refine lv_if_eq (tgt := 42) hx hb dX12_findMeets_34 (by decide) (fun c_140 => ?_) (fun c_140 => ?_)
    ·
      have i_140 : z138.toInt = 0 := by have z := g5_eq (a := z138.toInt) (b := 0) (by rfl) (by decide) c_140; omega
      refine lv_iconst (v := 0) hx hb dX12_findMeets_42 (by decide) ?_
      refine va_iast hx hb hK hP hD hS 3 0 rfl rfl (i := k11_6) (x := 0) (vp_in_iff.mpr ⟨by omega, by omega⟩) dX12_findMeets_43 (fun H locs hP hD hS => ?_)
      refine g5_rs [(b_se, (arJ G 13 v_se)), (b_re, (arJ G 400 v_re)), (b_pt, (arI G 200 v_pt)), (b_me, (arI G 1536 (upd k11_me k11_6.toNatClampNeg 0))), (b_o, (oc12 u_th u_sa b_rf b_ro b_im b_ke u_fd b_tp u_td u_fr u_to u_so u_wo u_fa u_bd u_nc b_nl u_co b_op b_ar u_le b_pi b_pa u_pd u_od b_ws b_hw u_la b_se b_re u_bk u_va u_su u_ce u_ho u_wy u_bt u_ps b_pt u_tg u_sn b_ip u_ic b_ah b_be b_me 0 b_tr b_ld u_st b_wn u_id)), (b_ro, (arI G 5740 v_ro))] hP hD (fun hP hD => ?_)
      refine lv_iinc (v := (k11_6 + 1)) (lv' := [(6, .int (k11_6 + 1)), (5, .int 0), (0, .ref b_o), (1, .int p_1), (2, .int p_2), (3, .int p_3), (4, .int p_4)]) hx hb dX12_findMeets_44 hl (k := 0) rfl rfl (by decide) rfl (fun ls hl => ?_)
      have t_141 : (k11_6 + 1).toInt = k11_6.toInt + 1 := g5_iadd (a := k11_6.toInt) (b := 1) rfl (by decide) (by omega) (by omega)
      refine lv_goto (tgt := 11) hx hb dX12_findMeets_47 (by decide) ?_
      exact ih_11_3 ((k11_6 + 1), (upd k11_me k11_6.toNatClampNeg 0)) ls H locs (show Int.toNat (1536 - (k11_6 + 1).toInt) < Int.toNat (1536 - k11_6.toInt) from g_up (show k11_6.toInt < (k11_6 + 1).toInt by omega) (show k11_6.toInt < 1536 by omega)) ⟨lv_sub hl [0, 1, 2, 3, 4, 5, 6] rfl, hP.sub [4, 5, 0, 1, 2, 3] rfl, hD.sub [4, 5, 0, 1, 2, 3] (by decide) rfl, hS, ⟨by omega, by omega⟩, me_upd i_2 (by decide)⟩
    ·
      have n_140 : gNe (z138.toInt) (0) := by have z := g5_eqN (a := z138.toInt) (b := 0) (by rfl) (by decide) c_140; unfold gNe; omega
      have i_140 : z138.toInt ≥ 1 := by have z := g5_eqN (a := z138.toInt) (b := 0) (by rfl) (by decide) c_140; omega
      refine lv_bipush (v := 64) hx hb dX12_findMeets_37 (by decide) ?_
      refine lv_goto (tgt := 43) hx hb dX12_findMeets_39 (by decide) ?_
      refine va_iast hx hb hK hP hD hS 3 0 rfl rfl (i := k11_6) (x := 64) (vp_in_iff.mpr ⟨by omega, by omega⟩) dX12_findMeets_43 (fun H locs hP hD hS => ?_)
      refine g5_rs [(b_se, (arJ G 13 v_se)), (b_re, (arJ G 400 v_re)), (b_pt, (arI G 200 v_pt)), (b_me, (arI G 1536 (upd k11_me k11_6.toNatClampNeg 64))), (b_o, (oc12 u_th u_sa b_rf b_ro b_im b_ke u_fd b_tp u_td u_fr u_to u_so u_wo u_fa u_bd u_nc b_nl u_co b_op b_ar u_le b_pi b_pa u_pd u_od b_ws b_hw u_la b_se b_re u_bk u_va u_su u_ce u_ho u_wy u_bt u_ps b_pt u_tg u_sn b_ip u_ic b_ah b_be b_me 0 b_tr b_ld u_st b_wn u_id)), (b_ro, (arI G 5740 v_ro))] hP hD (fun hP hD => ?_)
      refine lv_iinc (v := (k11_6 + 1)) (lv' := [(6, .int (k11_6 + 1)), (5, .int 0), (0, .ref b_o), (1, .int p_1), (2, .int p_2), (3, .int p_3), (4, .int p_4)]) hx hb dX12_findMeets_44 hl (k := 0) rfl rfl (by decide) rfl (fun ls hl => ?_)
      have t_142 : (k11_6 + 1).toInt = k11_6.toInt + 1 := g5_iadd (a := k11_6.toInt) (b := 1) rfl (by decide) (by omega) (by omega)
      refine lv_goto (tgt := 11) hx hb dX12_findMeets_47 (by decide) ?_
      exact ih_11_3 ((k11_6 + 1), (upd k11_me k11_6.toNatClampNeg 64)) ls H locs (show Int.toNat (1536 - (k11_6 + 1).toInt) < Int.toNat (1536 - k11_6.toInt) from g_up (show k11_6.toInt < (k11_6 + 1).toInt by omega) (show k11_6.toInt < 1536 by omega)) ⟨lv_sub hl [0, 1, 2, 3, 4, 5, 6] rfl, hP.sub [4, 5, 0, 1, 2, 3] rfl, hD.sub [4, 5, 0, 1, 2, 3] (by decide) rfl, hS, ⟨by omega, by omega⟩, me_upd i_2 (by decide)⟩
theorem dgX12_countFor_0 : ∀ r ∈ ([(0, (.aload_n 0, 1)), (1, (.iconst 0, 1)), (2, (.putfield 113, 3)), (5, (.aload_n 0, 1)), (6, (.iload_n 1, 1)), (7, (.iload_n 2, 1)), (8, (.iload_n 3, 1)), (9, (.iload 4, 2)), (11, (.invokevirtual 428, 3)), (14, (.iconst 0, 1)), (15, (.istore 5, 2)), (17, (.iload 5, 2)), (19, (.ldc 88, 2)), (21, (.if_icmp .ge 25, 3)), (24, (.aload_n 0, 1)), (25, (.getfield 89, 3)), (28, (.iload 5, 2)), (30, (.lconst 0, 1)), (31, (.lastore, 1)), (32, (.aload_n 0, 1)), (33, (.getfield 92, 3)), (36, (.iload 5, 2)), (38, (.lconst 0, 1)), (39, (.lastore, 1)), (40, (.iinc 5 1, 3)), (43, (.goto (-26), 3)), (46, (.iconst 0, 1)), (47, (.istore 5, 2)), (49, (.iload 5, 2)), (51, (.bipush 64, 2)), (53, (.if_icmp .ge 110, 3)), (56, (.aload_n 0, 1)), (57, (.getfield 95, 3)), (60, (.iload 5, 2)), (62, (.iaload, 1)), (63, (.bipush 64, 2)), (65, (.if_icmp .ge 45, 3)), (68, (.aload_n 0, 1)), (69, (.getfield 13, 3)), (72, (.bipush 6, 2))] : List (Nat × (Instr × Nat))), decode cX12_countFor r.1 = .ok r.2 := by decide +kernel
theorem dX12_countFor_0 : decode cX12_countFor 0 = .ok (.aload_n 0, 1) := dgX12_countFor_0 (0, (.aload_n 0, 1)) (List.mem_of_getElem? (i := 0) rfl)
theorem dX12_countFor_1 : decode cX12_countFor 1 = .ok (.iconst 0, 1) := dgX12_countFor_0 (1, (.iconst 0, 1)) (List.mem_of_getElem? (i := 1) rfl)
theorem dX12_countFor_2 : decode cX12_countFor 2 = .ok (.putfield 113, 3) := dgX12_countFor_0 (2, (.putfield 113, 3)) (List.mem_of_getElem? (i := 2) rfl)
theorem dX12_countFor_5 : decode cX12_countFor 5 = .ok (.aload_n 0, 1) := dgX12_countFor_0 (5, (.aload_n 0, 1)) (List.mem_of_getElem? (i := 3) rfl)
theorem dX12_countFor_6 : decode cX12_countFor 6 = .ok (.iload_n 1, 1) := dgX12_countFor_0 (6, (.iload_n 1, 1)) (List.mem_of_getElem? (i := 4) rfl)
theorem dX12_countFor_7 : decode cX12_countFor 7 = .ok (.iload_n 2, 1) := dgX12_countFor_0 (7, (.iload_n 2, 1)) (List.mem_of_getElem? (i := 5) rfl)
theorem dX12_countFor_8 : decode cX12_countFor 8 = .ok (.iload_n 3, 1) := dgX12_countFor_0 (8, (.iload_n 3, 1)) (List.mem_of_getElem? (i := 6) rfl)
theorem dX12_countFor_9 : decode cX12_countFor 9 = .ok (.iload 4, 2) := dgX12_countFor_0 (9, (.iload 4, 2)) (List.mem_of_getElem? (i := 7) rfl)
theorem dX12_countFor_11 : decode cX12_countFor 11 = .ok (.invokevirtual 428, 3) := dgX12_countFor_0 (11, (.invokevirtual 428, 3)) (List.mem_of_getElem? (i := 8) rfl)
theorem dX12_countFor_14 : decode cX12_countFor 14 = .ok (.iconst 0, 1) := dgX12_countFor_0 (14, (.iconst 0, 1)) (List.mem_of_getElem? (i := 9) rfl)
theorem dX12_countFor_15 : decode cX12_countFor 15 = .ok (.istore 5, 2) := dgX12_countFor_0 (15, (.istore 5, 2)) (List.mem_of_getElem? (i := 10) rfl)
theorem dX12_countFor_17 : decode cX12_countFor 17 = .ok (.iload 5, 2) := dgX12_countFor_0 (17, (.iload 5, 2)) (List.mem_of_getElem? (i := 11) rfl)
theorem dX12_countFor_19 : decode cX12_countFor 19 = .ok (.ldc 88, 2) := dgX12_countFor_0 (19, (.ldc 88, 2)) (List.mem_of_getElem? (i := 12) rfl)
theorem dX12_countFor_21 : decode cX12_countFor 21 = .ok (.if_icmp .ge 25, 3) := dgX12_countFor_0 (21, (.if_icmp .ge 25, 3)) (List.mem_of_getElem? (i := 13) rfl)
theorem dX12_countFor_24 : decode cX12_countFor 24 = .ok (.aload_n 0, 1) := dgX12_countFor_0 (24, (.aload_n 0, 1)) (List.mem_of_getElem? (i := 14) rfl)
theorem dX12_countFor_25 : decode cX12_countFor 25 = .ok (.getfield 89, 3) := dgX12_countFor_0 (25, (.getfield 89, 3)) (List.mem_of_getElem? (i := 15) rfl)
theorem dX12_countFor_28 : decode cX12_countFor 28 = .ok (.iload 5, 2) := dgX12_countFor_0 (28, (.iload 5, 2)) (List.mem_of_getElem? (i := 16) rfl)
theorem dX12_countFor_30 : decode cX12_countFor 30 = .ok (.lconst 0, 1) := dgX12_countFor_0 (30, (.lconst 0, 1)) (List.mem_of_getElem? (i := 17) rfl)
theorem dX12_countFor_31 : decode cX12_countFor 31 = .ok (.lastore, 1) := dgX12_countFor_0 (31, (.lastore, 1)) (List.mem_of_getElem? (i := 18) rfl)
theorem dX12_countFor_32 : decode cX12_countFor 32 = .ok (.aload_n 0, 1) := dgX12_countFor_0 (32, (.aload_n 0, 1)) (List.mem_of_getElem? (i := 19) rfl)
theorem dX12_countFor_33 : decode cX12_countFor 33 = .ok (.getfield 92, 3) := dgX12_countFor_0 (33, (.getfield 92, 3)) (List.mem_of_getElem? (i := 20) rfl)
theorem dX12_countFor_36 : decode cX12_countFor 36 = .ok (.iload 5, 2) := dgX12_countFor_0 (36, (.iload 5, 2)) (List.mem_of_getElem? (i := 21) rfl)
theorem dX12_countFor_38 : decode cX12_countFor 38 = .ok (.lconst 0, 1) := dgX12_countFor_0 (38, (.lconst 0, 1)) (List.mem_of_getElem? (i := 22) rfl)
theorem dX12_countFor_39 : decode cX12_countFor 39 = .ok (.lastore, 1) := dgX12_countFor_0 (39, (.lastore, 1)) (List.mem_of_getElem? (i := 23) rfl)
theorem dX12_countFor_40 : decode cX12_countFor 40 = .ok (.iinc 5 1, 3) := dgX12_countFor_0 (40, (.iinc 5 1, 3)) (List.mem_of_getElem? (i := 24) rfl)
theorem dX12_countFor_43 : decode cX12_countFor 43 = .ok (.goto (-26), 3) := dgX12_countFor_0 (43, (.goto (-26), 3)) (List.mem_of_getElem? (i := 25) rfl)
theorem dX12_countFor_46 : decode cX12_countFor 46 = .ok (.iconst 0, 1) := dgX12_countFor_0 (46, (.iconst 0, 1)) (List.mem_of_getElem? (i := 26) rfl)
theorem dX12_countFor_47 : decode cX12_countFor 47 = .ok (.istore 5, 2) := dgX12_countFor_0 (47, (.istore 5, 2)) (List.mem_of_getElem? (i := 27) rfl)
theorem dX12_countFor_49 : decode cX12_countFor 49 = .ok (.iload 5, 2) := dgX12_countFor_0 (49, (.iload 5, 2)) (List.mem_of_getElem? (i := 28) rfl)
theorem dX12_countFor_51 : decode cX12_countFor 51 = .ok (.bipush 64, 2) := dgX12_countFor_0 (51, (.bipush 64, 2)) (List.mem_of_getElem? (i := 29) rfl)
theorem dX12_countFor_53 : decode cX12_countFor 53 = .ok (.if_icmp .ge 110, 3) := dgX12_countFor_0 (53, (.if_icmp .ge 110, 3)) (List.mem_of_getElem? (i := 30) rfl)
theorem dX12_countFor_56 : decode cX12_countFor 56 = .ok (.aload_n 0, 1) := dgX12_countFor_0 (56, (.aload_n 0, 1)) (List.mem_of_getElem? (i := 31) rfl)
theorem dX12_countFor_57 : decode cX12_countFor 57 = .ok (.getfield 95, 3) := dgX12_countFor_0 (57, (.getfield 95, 3)) (List.mem_of_getElem? (i := 32) rfl)
theorem dX12_countFor_60 : decode cX12_countFor 60 = .ok (.iload 5, 2) := dgX12_countFor_0 (60, (.iload 5, 2)) (List.mem_of_getElem? (i := 33) rfl)
theorem dX12_countFor_62 : decode cX12_countFor 62 = .ok (.iaload, 1) := dgX12_countFor_0 (62, (.iaload, 1)) (List.mem_of_getElem? (i := 34) rfl)
theorem dX12_countFor_63 : decode cX12_countFor 63 = .ok (.bipush 64, 2) := dgX12_countFor_0 (63, (.bipush 64, 2)) (List.mem_of_getElem? (i := 35) rfl)
theorem dX12_countFor_65 : decode cX12_countFor 65 = .ok (.if_icmp .ge 45, 3) := dgX12_countFor_0 (65, (.if_icmp .ge 45, 3)) (List.mem_of_getElem? (i := 36) rfl)
theorem dX12_countFor_68 : decode cX12_countFor 68 = .ok (.aload_n 0, 1) := dgX12_countFor_0 (68, (.aload_n 0, 1)) (List.mem_of_getElem? (i := 37) rfl)
theorem dX12_countFor_69 : decode cX12_countFor 69 = .ok (.getfield 13, 3) := dgX12_countFor_0 (69, (.getfield 13, 3)) (List.mem_of_getElem? (i := 38) rfl)
theorem dX12_countFor_72 : decode cX12_countFor 72 = .ok (.bipush 6, 2) := dgX12_countFor_0 (72, (.bipush 6, 2)) (List.mem_of_getElem? (i := 39) rfl)
theorem dgX12_countFor_1 : ∀ r ∈ ([(74, (.iaload, 1)), (75, (.iconst (-1), 1)), (76, (.if_icmp .eq 15, 3)), (79, (.aload_n 0, 1)), (80, (.getfield 13, 3)), (83, (.bipush 6, 2)), (85, (.iaload, 1)), (86, (.iload 5, 2)), (88, (.if_icmp .ne 22, 3)), (91, (.aload_n 0, 1)), (92, (.getfield 89, 3)), (95, (.bipush 32, 2)), (97, (.iload 5, 2)), (99, (.imul, 1)), (100, (.aload_n 0, 1)), (101, (.getfield 95, 3)), (104, (.iload 5, 2)), (106, (.iaload, 1)), (107, (.iadd, 1)), (108, (.lconst 1, 1)), (109, (.lastore, 1)), (110, (.iconst 0, 1)), (111, (.istore 6, 2)), (113, (.iload 6, 2)), (115, (.bipush 32, 2)), (117, (.if_icmp .ge 40, 3)), (120, (.aload_n 0, 1)), (121, (.getfield 92, 3)), (124, (.bipush 32, 2)), (126, (.sipush 1472, 3)), (129, (.iload 5, 2)), (131, (.iadd, 1)), (132, (.imul, 1)), (133, (.iload 6, 2)), (135, (.iadd, 1)), (136, (.iload 6, 2)), (138, (.aload_n 0, 1)), (139, (.getfield 422, 3)), (142, (.if_icmp .ne 7, 3)), (145, (.lconst 1, 1))] : List (Nat × (Instr × Nat))), decode cX12_countFor r.1 = .ok r.2 := by decide +kernel
theorem dX12_countFor_74 : decode cX12_countFor 74 = .ok (.iaload, 1) := dgX12_countFor_1 (74, (.iaload, 1)) (List.mem_of_getElem? (i := 0) rfl)
theorem dX12_countFor_75 : decode cX12_countFor 75 = .ok (.iconst (-1), 1) := dgX12_countFor_1 (75, (.iconst (-1), 1)) (List.mem_of_getElem? (i := 1) rfl)
theorem dX12_countFor_76 : decode cX12_countFor 76 = .ok (.if_icmp .eq 15, 3) := dgX12_countFor_1 (76, (.if_icmp .eq 15, 3)) (List.mem_of_getElem? (i := 2) rfl)
theorem dX12_countFor_79 : decode cX12_countFor 79 = .ok (.aload_n 0, 1) := dgX12_countFor_1 (79, (.aload_n 0, 1)) (List.mem_of_getElem? (i := 3) rfl)
theorem dX12_countFor_80 : decode cX12_countFor 80 = .ok (.getfield 13, 3) := dgX12_countFor_1 (80, (.getfield 13, 3)) (List.mem_of_getElem? (i := 4) rfl)
theorem dX12_countFor_83 : decode cX12_countFor 83 = .ok (.bipush 6, 2) := dgX12_countFor_1 (83, (.bipush 6, 2)) (List.mem_of_getElem? (i := 5) rfl)
theorem dX12_countFor_85 : decode cX12_countFor 85 = .ok (.iaload, 1) := dgX12_countFor_1 (85, (.iaload, 1)) (List.mem_of_getElem? (i := 6) rfl)
theorem dX12_countFor_86 : decode cX12_countFor 86 = .ok (.iload 5, 2) := dgX12_countFor_1 (86, (.iload 5, 2)) (List.mem_of_getElem? (i := 7) rfl)
theorem dX12_countFor_88 : decode cX12_countFor 88 = .ok (.if_icmp .ne 22, 3) := dgX12_countFor_1 (88, (.if_icmp .ne 22, 3)) (List.mem_of_getElem? (i := 8) rfl)
theorem dX12_countFor_91 : decode cX12_countFor 91 = .ok (.aload_n 0, 1) := dgX12_countFor_1 (91, (.aload_n 0, 1)) (List.mem_of_getElem? (i := 9) rfl)
theorem dX12_countFor_92 : decode cX12_countFor 92 = .ok (.getfield 89, 3) := dgX12_countFor_1 (92, (.getfield 89, 3)) (List.mem_of_getElem? (i := 10) rfl)
theorem dX12_countFor_95 : decode cX12_countFor 95 = .ok (.bipush 32, 2) := dgX12_countFor_1 (95, (.bipush 32, 2)) (List.mem_of_getElem? (i := 11) rfl)
theorem dX12_countFor_97 : decode cX12_countFor 97 = .ok (.iload 5, 2) := dgX12_countFor_1 (97, (.iload 5, 2)) (List.mem_of_getElem? (i := 12) rfl)
theorem dX12_countFor_99 : decode cX12_countFor 99 = .ok (.imul, 1) := dgX12_countFor_1 (99, (.imul, 1)) (List.mem_of_getElem? (i := 13) rfl)
theorem dX12_countFor_100 : decode cX12_countFor 100 = .ok (.aload_n 0, 1) := dgX12_countFor_1 (100, (.aload_n 0, 1)) (List.mem_of_getElem? (i := 14) rfl)
theorem dX12_countFor_101 : decode cX12_countFor 101 = .ok (.getfield 95, 3) := dgX12_countFor_1 (101, (.getfield 95, 3)) (List.mem_of_getElem? (i := 15) rfl)
theorem dX12_countFor_104 : decode cX12_countFor 104 = .ok (.iload 5, 2) := dgX12_countFor_1 (104, (.iload 5, 2)) (List.mem_of_getElem? (i := 16) rfl)
theorem dX12_countFor_106 : decode cX12_countFor 106 = .ok (.iaload, 1) := dgX12_countFor_1 (106, (.iaload, 1)) (List.mem_of_getElem? (i := 17) rfl)
theorem dX12_countFor_107 : decode cX12_countFor 107 = .ok (.iadd, 1) := dgX12_countFor_1 (107, (.iadd, 1)) (List.mem_of_getElem? (i := 18) rfl)
theorem dX12_countFor_108 : decode cX12_countFor 108 = .ok (.lconst 1, 1) := dgX12_countFor_1 (108, (.lconst 1, 1)) (List.mem_of_getElem? (i := 19) rfl)
theorem dX12_countFor_109 : decode cX12_countFor 109 = .ok (.lastore, 1) := dgX12_countFor_1 (109, (.lastore, 1)) (List.mem_of_getElem? (i := 20) rfl)
theorem dX12_countFor_110 : decode cX12_countFor 110 = .ok (.iconst 0, 1) := dgX12_countFor_1 (110, (.iconst 0, 1)) (List.mem_of_getElem? (i := 21) rfl)
theorem dX12_countFor_111 : decode cX12_countFor 111 = .ok (.istore 6, 2) := dgX12_countFor_1 (111, (.istore 6, 2)) (List.mem_of_getElem? (i := 22) rfl)
theorem dX12_countFor_113 : decode cX12_countFor 113 = .ok (.iload 6, 2) := dgX12_countFor_1 (113, (.iload 6, 2)) (List.mem_of_getElem? (i := 23) rfl)
theorem dX12_countFor_115 : decode cX12_countFor 115 = .ok (.bipush 32, 2) := dgX12_countFor_1 (115, (.bipush 32, 2)) (List.mem_of_getElem? (i := 24) rfl)
theorem dX12_countFor_117 : decode cX12_countFor 117 = .ok (.if_icmp .ge 40, 3) := dgX12_countFor_1 (117, (.if_icmp .ge 40, 3)) (List.mem_of_getElem? (i := 25) rfl)
theorem dX12_countFor_120 : decode cX12_countFor 120 = .ok (.aload_n 0, 1) := dgX12_countFor_1 (120, (.aload_n 0, 1)) (List.mem_of_getElem? (i := 26) rfl)
theorem dX12_countFor_121 : decode cX12_countFor 121 = .ok (.getfield 92, 3) := dgX12_countFor_1 (121, (.getfield 92, 3)) (List.mem_of_getElem? (i := 27) rfl)
theorem dX12_countFor_124 : decode cX12_countFor 124 = .ok (.bipush 32, 2) := dgX12_countFor_1 (124, (.bipush 32, 2)) (List.mem_of_getElem? (i := 28) rfl)
theorem dX12_countFor_126 : decode cX12_countFor 126 = .ok (.sipush 1472, 3) := dgX12_countFor_1 (126, (.sipush 1472, 3)) (List.mem_of_getElem? (i := 29) rfl)
theorem dX12_countFor_129 : decode cX12_countFor 129 = .ok (.iload 5, 2) := dgX12_countFor_1 (129, (.iload 5, 2)) (List.mem_of_getElem? (i := 30) rfl)
theorem dX12_countFor_131 : decode cX12_countFor 131 = .ok (.iadd, 1) := dgX12_countFor_1 (131, (.iadd, 1)) (List.mem_of_getElem? (i := 31) rfl)
theorem dX12_countFor_132 : decode cX12_countFor 132 = .ok (.imul, 1) := dgX12_countFor_1 (132, (.imul, 1)) (List.mem_of_getElem? (i := 32) rfl)
theorem dX12_countFor_133 : decode cX12_countFor 133 = .ok (.iload 6, 2) := dgX12_countFor_1 (133, (.iload 6, 2)) (List.mem_of_getElem? (i := 33) rfl)
theorem dX12_countFor_135 : decode cX12_countFor 135 = .ok (.iadd, 1) := dgX12_countFor_1 (135, (.iadd, 1)) (List.mem_of_getElem? (i := 34) rfl)
theorem dX12_countFor_136 : decode cX12_countFor 136 = .ok (.iload 6, 2) := dgX12_countFor_1 (136, (.iload 6, 2)) (List.mem_of_getElem? (i := 35) rfl)
theorem dX12_countFor_138 : decode cX12_countFor 138 = .ok (.aload_n 0, 1) := dgX12_countFor_1 (138, (.aload_n 0, 1)) (List.mem_of_getElem? (i := 36) rfl)
theorem dX12_countFor_139 : decode cX12_countFor 139 = .ok (.getfield 422, 3) := dgX12_countFor_1 (139, (.getfield 422, 3)) (List.mem_of_getElem? (i := 37) rfl)
theorem dX12_countFor_142 : decode cX12_countFor 142 = .ok (.if_icmp .ne 7, 3) := dgX12_countFor_1 (142, (.if_icmp .ne 7, 3)) (List.mem_of_getElem? (i := 38) rfl)
theorem dX12_countFor_145 : decode cX12_countFor 145 = .ok (.lconst 1, 1) := dgX12_countFor_1 (145, (.lconst 1, 1)) (List.mem_of_getElem? (i := 39) rfl)
theorem dgX12_countFor_2 : ∀ r ∈ ([(146, (.goto 4, 3)), (149, (.lconst 0, 1)), (150, (.lastore, 1)), (151, (.iinc 6 1, 3)), (154, (.goto (-41), 3)), (157, (.iinc 5 1, 3)), (160, (.goto (-111), 3)), (163, (.iconst 0, 1)), (164, (.istore 5, 2)), (166, (.iload 5, 2)), (168, (.bipush 23, 2)), (170, (.if_icmp .ge 33, 3)), (173, (.iconst 0, 1)), (174, (.istore 6, 2)), (176, (.iload 6, 2)), (178, (.bipush 64, 2)), (180, (.if_icmp .ge 17, 3)), (183, (.aload_n 0, 1)), (184, (.iload 5, 2)), (186, (.iload 6, 2)), (188, (.invokevirtual 431, 3)), (191, (.iinc 6 1, 3)), (194, (.goto (-18), 3)), (197, (.iinc 5 1, 3)), (200, (.goto (-34), 3)), (203, (.bipush 22, 2)), (205, (.istore 5, 2)), (207, (.iload 5, 2)), (209, (.ifCond .lt 33, 3)), (212, (.iconst 0, 1)), (213, (.istore 6, 2)), (215, (.iload 6, 2)), (217, (.bipush 64, 2)), (219, (.if_icmp .ge 17, 3)), (222, (.aload_n 0, 1)), (223, (.iload 5, 2)), (225, (.iload 6, 2)), (227, (.invokevirtual 434, 3)), (230, (.iinc 6 1, 3)), (233, (.goto (-18), 3))] : List (Nat × (Instr × Nat))), decode cX12_countFor r.1 = .ok r.2 := by decide +kernel
theorem dX12_countFor_146 : decode cX12_countFor 146 = .ok (.goto 4, 3) := dgX12_countFor_2 (146, (.goto 4, 3)) (List.mem_of_getElem? (i := 0) rfl)
theorem dX12_countFor_149 : decode cX12_countFor 149 = .ok (.lconst 0, 1) := dgX12_countFor_2 (149, (.lconst 0, 1)) (List.mem_of_getElem? (i := 1) rfl)
theorem dX12_countFor_150 : decode cX12_countFor 150 = .ok (.lastore, 1) := dgX12_countFor_2 (150, (.lastore, 1)) (List.mem_of_getElem? (i := 2) rfl)
theorem dX12_countFor_151 : decode cX12_countFor 151 = .ok (.iinc 6 1, 3) := dgX12_countFor_2 (151, (.iinc 6 1, 3)) (List.mem_of_getElem? (i := 3) rfl)
theorem dX12_countFor_154 : decode cX12_countFor 154 = .ok (.goto (-41), 3) := dgX12_countFor_2 (154, (.goto (-41), 3)) (List.mem_of_getElem? (i := 4) rfl)
theorem dX12_countFor_157 : decode cX12_countFor 157 = .ok (.iinc 5 1, 3) := dgX12_countFor_2 (157, (.iinc 5 1, 3)) (List.mem_of_getElem? (i := 5) rfl)
theorem dX12_countFor_160 : decode cX12_countFor 160 = .ok (.goto (-111), 3) := dgX12_countFor_2 (160, (.goto (-111), 3)) (List.mem_of_getElem? (i := 6) rfl)
theorem dX12_countFor_163 : decode cX12_countFor 163 = .ok (.iconst 0, 1) := dgX12_countFor_2 (163, (.iconst 0, 1)) (List.mem_of_getElem? (i := 7) rfl)
theorem dX12_countFor_164 : decode cX12_countFor 164 = .ok (.istore 5, 2) := dgX12_countFor_2 (164, (.istore 5, 2)) (List.mem_of_getElem? (i := 8) rfl)
theorem dX12_countFor_166 : decode cX12_countFor 166 = .ok (.iload 5, 2) := dgX12_countFor_2 (166, (.iload 5, 2)) (List.mem_of_getElem? (i := 9) rfl)
theorem dX12_countFor_168 : decode cX12_countFor 168 = .ok (.bipush 23, 2) := dgX12_countFor_2 (168, (.bipush 23, 2)) (List.mem_of_getElem? (i := 10) rfl)
theorem dX12_countFor_170 : decode cX12_countFor 170 = .ok (.if_icmp .ge 33, 3) := dgX12_countFor_2 (170, (.if_icmp .ge 33, 3)) (List.mem_of_getElem? (i := 11) rfl)
theorem dX12_countFor_173 : decode cX12_countFor 173 = .ok (.iconst 0, 1) := dgX12_countFor_2 (173, (.iconst 0, 1)) (List.mem_of_getElem? (i := 12) rfl)
theorem dX12_countFor_174 : decode cX12_countFor 174 = .ok (.istore 6, 2) := dgX12_countFor_2 (174, (.istore 6, 2)) (List.mem_of_getElem? (i := 13) rfl)
theorem dX12_countFor_176 : decode cX12_countFor 176 = .ok (.iload 6, 2) := dgX12_countFor_2 (176, (.iload 6, 2)) (List.mem_of_getElem? (i := 14) rfl)
theorem dX12_countFor_178 : decode cX12_countFor 178 = .ok (.bipush 64, 2) := dgX12_countFor_2 (178, (.bipush 64, 2)) (List.mem_of_getElem? (i := 15) rfl)
theorem dX12_countFor_180 : decode cX12_countFor 180 = .ok (.if_icmp .ge 17, 3) := dgX12_countFor_2 (180, (.if_icmp .ge 17, 3)) (List.mem_of_getElem? (i := 16) rfl)
theorem dX12_countFor_183 : decode cX12_countFor 183 = .ok (.aload_n 0, 1) := dgX12_countFor_2 (183, (.aload_n 0, 1)) (List.mem_of_getElem? (i := 17) rfl)
theorem dX12_countFor_184 : decode cX12_countFor 184 = .ok (.iload 5, 2) := dgX12_countFor_2 (184, (.iload 5, 2)) (List.mem_of_getElem? (i := 18) rfl)
theorem dX12_countFor_186 : decode cX12_countFor 186 = .ok (.iload 6, 2) := dgX12_countFor_2 (186, (.iload 6, 2)) (List.mem_of_getElem? (i := 19) rfl)
theorem dX12_countFor_188 : decode cX12_countFor 188 = .ok (.invokevirtual 431, 3) := dgX12_countFor_2 (188, (.invokevirtual 431, 3)) (List.mem_of_getElem? (i := 20) rfl)
theorem dX12_countFor_191 : decode cX12_countFor 191 = .ok (.iinc 6 1, 3) := dgX12_countFor_2 (191, (.iinc 6 1, 3)) (List.mem_of_getElem? (i := 21) rfl)
theorem dX12_countFor_194 : decode cX12_countFor 194 = .ok (.goto (-18), 3) := dgX12_countFor_2 (194, (.goto (-18), 3)) (List.mem_of_getElem? (i := 22) rfl)
theorem dX12_countFor_197 : decode cX12_countFor 197 = .ok (.iinc 5 1, 3) := dgX12_countFor_2 (197, (.iinc 5 1, 3)) (List.mem_of_getElem? (i := 23) rfl)
theorem dX12_countFor_200 : decode cX12_countFor 200 = .ok (.goto (-34), 3) := dgX12_countFor_2 (200, (.goto (-34), 3)) (List.mem_of_getElem? (i := 24) rfl)
theorem dX12_countFor_203 : decode cX12_countFor 203 = .ok (.bipush 22, 2) := dgX12_countFor_2 (203, (.bipush 22, 2)) (List.mem_of_getElem? (i := 25) rfl)
theorem dX12_countFor_205 : decode cX12_countFor 205 = .ok (.istore 5, 2) := dgX12_countFor_2 (205, (.istore 5, 2)) (List.mem_of_getElem? (i := 26) rfl)
theorem dX12_countFor_207 : decode cX12_countFor 207 = .ok (.iload 5, 2) := dgX12_countFor_2 (207, (.iload 5, 2)) (List.mem_of_getElem? (i := 27) rfl)
theorem dX12_countFor_209 : decode cX12_countFor 209 = .ok (.ifCond .lt 33, 3) := dgX12_countFor_2 (209, (.ifCond .lt 33, 3)) (List.mem_of_getElem? (i := 28) rfl)
theorem dX12_countFor_212 : decode cX12_countFor 212 = .ok (.iconst 0, 1) := dgX12_countFor_2 (212, (.iconst 0, 1)) (List.mem_of_getElem? (i := 29) rfl)
theorem dX12_countFor_213 : decode cX12_countFor 213 = .ok (.istore 6, 2) := dgX12_countFor_2 (213, (.istore 6, 2)) (List.mem_of_getElem? (i := 30) rfl)
theorem dX12_countFor_215 : decode cX12_countFor 215 = .ok (.iload 6, 2) := dgX12_countFor_2 (215, (.iload 6, 2)) (List.mem_of_getElem? (i := 31) rfl)
theorem dX12_countFor_217 : decode cX12_countFor 217 = .ok (.bipush 64, 2) := dgX12_countFor_2 (217, (.bipush 64, 2)) (List.mem_of_getElem? (i := 32) rfl)
theorem dX12_countFor_219 : decode cX12_countFor 219 = .ok (.if_icmp .ge 17, 3) := dgX12_countFor_2 (219, (.if_icmp .ge 17, 3)) (List.mem_of_getElem? (i := 33) rfl)
theorem dX12_countFor_222 : decode cX12_countFor 222 = .ok (.aload_n 0, 1) := dgX12_countFor_2 (222, (.aload_n 0, 1)) (List.mem_of_getElem? (i := 34) rfl)
theorem dX12_countFor_223 : decode cX12_countFor 223 = .ok (.iload 5, 2) := dgX12_countFor_2 (223, (.iload 5, 2)) (List.mem_of_getElem? (i := 35) rfl)
theorem dX12_countFor_225 : decode cX12_countFor 225 = .ok (.iload 6, 2) := dgX12_countFor_2 (225, (.iload 6, 2)) (List.mem_of_getElem? (i := 36) rfl)
theorem dX12_countFor_227 : decode cX12_countFor 227 = .ok (.invokevirtual 434, 3) := dgX12_countFor_2 (227, (.invokevirtual 434, 3)) (List.mem_of_getElem? (i := 37) rfl)
theorem dX12_countFor_230 : decode cX12_countFor 230 = .ok (.iinc 6 1, 3) := dgX12_countFor_2 (230, (.iinc 6 1, 3)) (List.mem_of_getElem? (i := 38) rfl)
theorem dX12_countFor_233 : decode cX12_countFor 233 = .ok (.goto (-18), 3) := dgX12_countFor_2 (233, (.goto (-18), 3)) (List.mem_of_getElem? (i := 39) rfl)
theorem dgX12_countFor_3 : ∀ r ∈ ([(236, (.iinc 5 (-1), 3)), (239, (.goto (-32), 3)), (242, (.return_, 1))] : List (Nat × (Instr × Nat))), decode cX12_countFor r.1 = .ok r.2 := by decide +kernel
theorem dX12_countFor_236 : decode cX12_countFor 236 = .ok (.iinc 5 (-1), 3) := dgX12_countFor_3 (236, (.iinc 5 (-1), 3)) (List.mem_of_getElem? (i := 0) rfl)
theorem dX12_countFor_239 : decode cX12_countFor 239 = .ok (.goto (-32), 3) := dgX12_countFor_3 (239, (.goto (-32), 3)) (List.mem_of_getElem? (i := 1) rfl)
theorem dX12_countFor_242 : decode cX12_countFor 242 = .ok (.return_, 1) := dgX12_countFor_3 (242, (.return_, 1)) (List.mem_of_getElem? (i := 2) rfl)
theorem ml_X12_428 : Cond.methodLink RX12 428 yX12_findMeets ∈ tblG := tg 1720 (by decide +kernel) (by decide +kernel)
theorem im_X12_findMeets : Cond.instanceMethod yX12_findMeets ∈ tblG := tg 1722 (by decide +kernel) (by decide +kernel)
theorem se_X12_findMeets : Cond.selects RX12 yX12_findMeets yX12_findMeets ∈ tblG := tg 77 (by decide +kernel) (by decide +kernel)
theorem cd_X12_findMeets : Cond.code yX12_findMeets cX12_findMeets 10 none ∈ tblG := tg 1723 (by decide +kernel) (by decide +kernel)
theorem gW_X12_findMeets : GoodIn tblG (wsG yX12_findMeets cX12_findMeets 10 none) := tgi cd_X12_findMeets
theorem gV_X12_428 : GoodIn tblG (wsV RX12 428 RX12 yX12_findMeets (wsG yX12_findMeets cX12_findMeets 10 none)) := tgV ml_X12_428 im_X12_findMeets se_X12_findMeets ini_X12 gW_X12_findMeets
theorem hv_X12_findMeets : yX12_findMeets.cls = RX12 ∧ yX12_findMeets.cls ≠ "java/lang/invoke/MethodHandle" ∧ yX12_findMeets.cls ≠ "java/lang/invoke/VarHandle" ∧ (parseMethodDescriptor yX12_findMeets.desc).map (fun d => d.parameters.length) = some 4 := by decide +kernel
theorem ki_X12_88 : Cond.constant RX12 88 49152 ∈ tblG := tg 1202 (by decide +kernel) (by decide +kernel)
theorem ml_X12_434 : Cond.methodLink RX12 434 yX12_comesFrom ∈ tblG := tg 1732 (by decide +kernel) (by decide +kernel)
theorem im_X12_comesFrom : Cond.instanceMethod yX12_comesFrom ∈ tblG := tg 1734 (by decide +kernel) (by decide +kernel)
theorem se_X12_comesFrom : Cond.selects RX12 yX12_comesFrom yX12_comesFrom ∈ tblG := tg 80 (by decide +kernel) (by decide +kernel)
theorem cd_X12_comesFrom : Cond.code yX12_comesFrom cX12_comesFrom 6 none ∈ tblG := tg 1735 (by decide +kernel) (by decide +kernel)
theorem gW_X12_comesFrom : GoodIn tblG (wsG yX12_comesFrom cX12_comesFrom 6 none) := tgi cd_X12_comesFrom
theorem gV_X12_434 : GoodIn tblG (wsV RX12 434 RX12 yX12_comesFrom (wsG yX12_comesFrom cX12_comesFrom 6 none)) := tgV ml_X12_434 im_X12_comesFrom se_X12_comesFrom ini_X12 gW_X12_comesFrom
theorem hv_X12_comesFrom : yX12_comesFrom.cls = RX12 ∧ yX12_comesFrom.cls ≠ "java/lang/invoke/MethodHandle" ∧ yX12_comesFrom.cls ≠ "java/lang/invoke/VarHandle" ∧ (parseMethodDescriptor yX12_comesFrom.desc).map (fun d => d.parameters.length) = some 2 := by decide +kernel
theorem ml_X12_431 : Cond.methodLink RX12 431 yX12_goesOn ∈ tblG := tg 1724 (by decide +kernel) (by decide +kernel)
theorem im_X12_goesOn : Cond.instanceMethod yX12_goesOn ∈ tblG := tg 1726 (by decide +kernel) (by decide +kernel)
theorem se_X12_goesOn : Cond.selects RX12 yX12_goesOn yX12_goesOn ∈ tblG := tg 78 (by decide +kernel) (by decide +kernel)
theorem cd_X12_goesOn : Cond.code yX12_goesOn cX12_goesOn 6 none ∈ tblG := tg 1727 (by decide +kernel) (by decide +kernel)
theorem gW_X12_goesOn : GoodIn tblG (wsG yX12_goesOn cX12_goesOn 6 none) := tgi cd_X12_goesOn
theorem gV_X12_431 : GoodIn tblG (wsV RX12 431 RX12 yX12_goesOn (wsG yX12_goesOn cX12_goesOn 6 none)) := tgV ml_X12_431 im_X12_goesOn se_X12_goesOn ini_X12 gW_X12_goesOn
theorem hv_X12_goesOn : yX12_goesOn.cls = RX12 ∧ yX12_goesOn.cls ≠ "java/lang/invoke/MethodHandle" ∧ yX12_goesOn.cls ≠ "java/lang/invoke/VarHandle" ∧ (parseMethodDescriptor yX12_goesOn.desc).map (fun d => d.parameters.length) = some 2 := by decide +kernel
