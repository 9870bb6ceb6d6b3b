set_option maxHeartbeats 4000000 in
set_option maxRecDepth 100000 in
theorem n_isWordX498 (l : Launch) (G : g5_G) (b_o b_rf b_ro b_im b_ke b_tp b_nl b_op b_ar b_pi b_pa b_ws b_hw b_se b_re b_pt b_ip b_ah b_be b_me b_tr b_ld b_wn : Nat) (sz : Nat) (u_th : Int32) (u_sa : Int32) (u_fd : Int32) (u_td : Int32) (u_fr : Int32) (u_to : Int32) (u_so : Int32) (u_fa : Int32) (u_bd : Int32) (u_nc : Int32) (u_co : Int32) (u_le : Int32) (u_pd : Int32) (u_od : Int32) (u_la : Int32) (u_bk : Int32) (u_ce : Int32) (u_ho : Int32) (u_wy : Int32) (u_bt : Int32) (u_ps : Int32) (u_tg : Int32) (u_sn : Int32) (u_ic : Int32) (u_wd : Int32) (u_id : Int32) (u_wo : Int64) (u_va : Int64) (u_su : Int64) (u_st : Int64) (h_u_td : 0 ≤ u_td.toInt ∧ u_td.toInt ≤ 400) (h_u_fr : 0 ≤ u_fr.toInt ∧ u_fr.toInt ≤ 400) (h_u_to : 0 ≤ u_to.toInt ∧ u_to.toInt ≤ 400) (h_u_bd : 0 ≤ u_bd.toInt ∧ u_bd.toInt ≤ 1) (h_u_nc : 0 ≤ u_nc.toInt ∧ u_nc.toInt ≤ 12) (h_u_co : 0 ≤ u_co.toInt ∧ u_co.toInt ≤ 400) (h_u_pd : 0 ≤ u_pd.toInt ∧ u_pd.toInt ≤ 400) (h_u_la : 0 ≤ u_la.toInt ∧ u_la.toInt ≤ 4840) (h_u_bk : 0 ≤ u_bk.toInt ∧ u_bk.toInt ≤ 1) (h_u_ce : 0 ≤ u_ce.toInt ∧ u_ce.toInt ≤ 63) (h_u_ho : 0 ≤ u_ho.toInt ∧ u_ho.toInt ≤ 23) (h_u_wy : 0 ≤ u_wy.toInt ∧ u_wy.toInt ≤ 3) (h_u_bt : 0 ≤ u_bt.toInt ∧ u_bt.toInt ≤ 1000000) (h_u_ps : 0 ≤ u_ps.toInt ∧ u_ps.toInt ≤ 200) (h_u_ic : 0 ≤ u_ic.toInt ∧ u_ic.toInt ≤ 1) (h_u_id : 0 ≤ u_id.toInt ∧ u_id.toInt ≤ 1) : Met l yX12_isWord (wsG yX12_isWord cX12_isWord 3 (some .boolean)) ({ frames := 0, cells := 0, slots := 0, locals := 0 }) (va_Pc [.ref b_o, .long 498] (g5_P G [(b_o, (oc12 u_th u_sa b_rf b_ro b_im b_ke u_fd b_tp u_td u_fr u_to u_so u_wo u_fa u_bd u_nc b_nl u_co b_op b_ar u_le b_pi b_pa u_pd u_od b_ws b_hw u_la b_se b_re u_bk u_va u_su u_ce u_ho u_wy u_bt u_ps b_pt u_tg u_sn b_ip u_ic b_ah b_be b_me u_wd b_tr b_ld u_st b_wn u_id))] sz)) (va_Qi (fun (r : Int32) (u : va_W) => ((u_so.toInt = 1 ∧ u_wo.toInt = 498) ∧ (r = 1) ∧ (u = [(b_o, (oc12 u_th u_sa b_rf b_ro b_im b_ke u_fd b_tp u_td u_fr u_to u_so u_wo u_fa u_bd u_nc b_nl u_co b_op b_ar u_le b_pi b_pa u_pd u_od b_ws b_hw u_la b_se b_re u_bk u_va u_su u_ce u_ho u_wy u_bt u_ps b_pt u_tg u_sn b_ip u_ic b_ah b_be b_me u_wd b_tr b_ld u_st b_wn u_id))])) ∨ ((¬ (u_so.toInt = 1 ∧ u_wo.toInt = 498)) ∧ (r = 0) ∧ (u = [(b_o, (oc12 u_th u_sa b_rf b_ro b_im b_ke u_fd b_tp u_td u_fr u_to u_so u_wo u_fa u_bd u_nc b_nl u_co b_op b_ar u_le b_pi b_pa u_pd u_od b_ws b_hw u_la b_se b_re u_bk u_va u_su u_ce u_ho u_wy u_bt u_ps b_pt u_tg u_sn b_ip u_ic b_ah b_be b_me u_wd b_tr b_ld u_st b_wn u_id))]))) (g5_B G (va_A [(b_o, (oc12 u_th u_sa b_rf b_ro b_im b_ke u_fd b_tp u_td u_fr u_to u_so u_wo u_fa u_bd u_nc b_nl u_co b_op b_ar u_le b_pi b_pa u_pd u_od b_ws b_hw u_la b_se b_re u_bk u_va u_su u_ce u_ho u_wy u_bt u_ps b_pt u_tg u_sn b_ip u_ic b_ah b_be b_me u_wd b_tr b_ld u_st b_wn u_id))] sz)) (va_A [(b_o, (oc12 u_th u_sa b_rf b_ro b_im b_ke u_fd b_tp u_td u_fr u_to u_so u_wo u_fa u_bd u_nc b_nl u_co b_op b_ar u_le b_pi b_pa u_pd u_od b_ws b_hw u_la b_se b_re u_bk u_va u_su u_ce u_ho u_wy u_bt u_ps b_pt u_tg u_sn b_ip u_ic b_ah b_be b_me u_wd b_tr b_ld u_st b_wn u_id))] sz)) 0 0 (va_A [(b_o, (oc12 u_th u_sa b_rf b_ro b_im b_ke u_fd b_tp u_td u_fr u_to u_so u_wo u_fa u_bd u_nc b_nl u_co b_op b_ar u_le b_pi b_pa u_pd u_od b_ws b_hw u_la b_se b_re u_bk u_va u_su u_ce u_ho u_wy u_bt u_ps b_pt u_tg u_sn b_ip u_ic b_ah b_be b_me u_wd b_tr b_ld u_st b_wn u_id))] sz) := by
  refine Met.ofW (cc := cX12_isWord) (maxL := 3) (ret := (some .boolean)) (by decide) rfl ?_
  intro p e s m args below meth c s₁ B hml hv
  obtain ⟨rfl, hsz, hP, hK, hD0, hN, hT⟩ := hv
  have hx := B.exec
  have hb := B.bytes
  have hr := B.returns
  have hts : ∀ w ∈ tblG, w.before _ s = true := fun w h => atoms_spec (ws := (wsG yX12_isWord cX12_isWord 3 (some .boolean))) B.pre w (List.mem_cons_of_mem _ h)
  have hown : s.vm.findClass RX12 = some m.cls := findClass_of_methodNamed B.named
  have hlocks := B.notSynchronized
  subst hsz
  have hD := hD0.self (sz := s.heap.size)
  generalize hAe : va_A [(b_o, (oc12 u_th u_sa b_rf b_ro b_im b_ke u_fd b_tp u_td u_fr u_to u_so u_wo u_fa u_bd u_nc b_nl u_co b_op b_ar u_le b_pi b_pa u_pd u_od b_ws b_hw u_la b_se b_re u_bk u_va u_su u_ce u_ho u_wy u_bt u_ps b_pt u_tg u_sn b_ip u_ic b_ah b_be b_me u_wd b_tr b_ld u_st b_wn u_id))] s.heap.size = A at hD hT ⊢
  have hA : ∀ q : Nat, s.heap.size ≤ q → A q := fun q h => by rw [← hAe]; exact Or.inr h
  have hS : va_S A s.heap s.heap [] := va_S.rf
  have hP : va_P G.1 vwCl [(b_o, (oc12 u_th u_sa b_rf b_ro b_im b_ke u_fd b_tp u_td u_fr u_to u_so u_wo u_fa u_bd u_nc b_nl u_co b_op b_ar u_le b_pi b_pa u_pd u_od b_ws b_hw u_la b_se b_re u_bk u_va u_su u_ce u_ho u_wy u_bt u_ps b_pt u_tg u_sn b_ip u_ic b_ah b_be b_me u_wd b_tr b_ld u_st b_wn u_id))] s.heap := hP
  have hl := lv_entry ([.ref b_o, .long 498]) (n := 3) (Nat.le_of_ble_eq_true rfl)
  rw [lg_entry_eq]
  generalize (lg_sl ([.ref b_o, .long 498]) ++ List.replicate (3 - (lg_sl ([.ref b_o, .long 498])).length) Slot.unset).toArray = ls at hl ⊢
  have hl : lv_has ls 3 [(0, .ref b_o), (1, .long 498)] := hl
  refine lv_aload_n hx hb dX12_isWord_0 rfl (lv_at hl 0 rfl) ?_
  refine va_get (D := G.1) (ci := 12) (v := .int u_so) (C := RX12) (T := TX12) (N := 52) hx hb hts inG_X12 hown hK hP 0 rfl rfl 11 (by decide) (hts _ fl_X12_224) (fun _ h9 => h9) rfl dX12_isWord_1 ?_
  refine lv_iconst (v := 1) hx hb dX12_isWord_4 (by decide) ?_
  refine lv_icmp_ne (tgt := 21) hx hb dX12_isWord_5 (by decide) (fun c_1 => ?_) (fun c_1 => ?_)
  ·
    have n_1 : gNe (u_so.toInt) (1) := by have z := g5_ne (a := u_so.toInt) (b := 1) (by rfl) (by decide) c_1; unfold gNe; omega
    refine lv_iconst (v := 0) hx hb dX12_isWord_21 (by decide) ?_
    exact W.zret (v := 0) hx hb hr rfl (fun t ht hW => ⟨⟨0, [(b_o, (oc12 u_th u_sa b_rf b_ro b_im b_ke u_fd b_tp u_td u_fr u_to u_so u_wo u_fa u_bd u_nc b_nl u_co b_op b_ar u_le b_pi b_pa u_pd u_od b_ws b_hw u_la b_se b_re u_bk u_va u_su u_ce u_ho u_wy u_bt u_ps b_pt u_tg u_sn b_ip u_ic b_ah b_be b_me u_wd b_tr b_ld u_st b_wn u_id))], rfl, Or.inr (⟨fun q9 => by first | omega | (unfold gNe at *; omega), rfl, rfl⟩), by rw [ht]; exact hP.sub [0] rfl, hD.sub [0] (by decide) rfl⟩, hS.F ht⟩) hS.2.2 dX12_isWord_22
  ·
    have i_1 : u_so.toInt = 1 := by have z := g5_neN (a := u_so.toInt) (b := 1) (by rfl) (by decide) c_1; omega
    refine lv_aload_n hx hb dX12_isWord_8 rfl (lv_at hl 0 rfl) ?_
    refine va_get (D := G.1) (ci := 12) (v := .long u_wo) (C := RX12) (T := TX12) (N := 52) hx hb hts inG_X12 hown hK hP 0 rfl rfl 12 (by decide) (hts _ fl_X12_214) (fun _ h9 => h9) rfl dX12_isWord_9 ?_
    refine lv_lload_n hx hb dX12_isWord_12 rfl (lv_at hl 1 rfl) ?_
    have tl_2 : (498 : Int64).toInt = 498 := (by decide)
    have tc_3 := g5_cmpI u_wo (498 : Int64)
    refine W.lcmp hx hb dX12_isWord_13 ?_
    refine W.eq (g2 := F0 m 14 ls [.int (lg_cmp u_wo 498)]) rfl ?_
    refine lv_if_ne (tgt := 21) hx hb dX12_isWord_14 (by decide) (fun c_4 => ?_) (fun c_4 => ?_)
    ·
      have n_4 : gNe ((lg_cmp u_wo 498).toInt) (0) := by have z := g5_ne (a := (lg_cmp u_wo 498).toInt) (b := 0) (by rfl) (by decide) c_4; unfold gNe; omega
      refine lv_iconst (v := 0) hx hb dX12_isWord_21 (by decide) ?_
      exact W.zret (v := 0) hx hb hr rfl (fun t ht hW => ⟨⟨0, [(b_o, (oc12 u_th u_sa b_rf b_ro b_im b_ke u_fd b_tp u_td u_fr u_to u_so u_wo u_fa u_bd u_nc b_nl u_co b_op b_ar u_le b_pi b_pa u_pd u_od b_ws b_hw u_la b_se b_re u_bk u_va u_su u_ce u_ho u_wy u_bt u_ps b_pt u_tg u_sn b_ip u_ic b_ah b_be b_me u_wd b_tr b_ld u_st b_wn u_id))], rfl, Or.inr (⟨fun q9 => by first | omega | (unfold gNe at *; omega), rfl, rfl⟩), by rw [ht]; exact hP.sub [0] rfl, hD.sub [0] (by decide) rfl⟩, hS.F ht⟩) hS.2.2 dX12_isWord_22
    ·
      have i_4 : (lg_cmp u_wo 498).toInt = 0 := by have z := g5_neN (a := (lg_cmp u_wo 498).toInt) (b := 0) (by rfl) (by decide) c_4; omega
      refine lv_iconst (v := 1) hx hb dX12_isWord_17 (by decide) ?_
      refine lv_goto (tgt := 22) hx hb dX12_isWord_18 (by decide) ?_
      exact W.zret (v := 1) hx hb hr rfl (fun t ht hW => ⟨⟨1, [(b_o, (oc12 u_th u_sa b_rf b_ro b_im b_ke u_fd b_tp u_td u_fr u_to u_so u_wo u_fa u_bd u_nc b_nl u_co b_op b_ar u_le b_pi b_pa u_pd u_od b_ws b_hw u_la b_se b_re u_bk u_va u_su u_ce u_ho u_wy u_bt u_ps b_pt u_tg u_sn b_ip u_ic b_ah b_be b_me u_wd b_tr b_ld u_st b_wn u_id))], rfl, Or.inl (⟨⟨by omega, by omega⟩, rfl, rfl⟩), by rw [ht]; exact hP.sub [0] rfl, hD.sub [0] (by decide) rfl⟩, hS.F ht⟩) hS.2.2 dX12_isWord_22
set_option maxHeartbeats 4000000 in
set_option maxRecDepth 100000 in
theorem n_isWordX1476 (l : Launch) (G : g5_G) (b_o b_rf b_ro b_im b_ke b_tp b_nl b_op b_ar b_pi b_pa b_ws b_hw b_se b_re b_pt b_ip b_ah b_be b_me b_tr b_ld b_wn : Nat) (sz : Nat) (u_th : Int32) (u_sa : Int32) (u_fd : Int32) (u_td : Int32) (u_fr : Int32) (u_to : Int32) (u_so : Int32) (u_fa : Int32) (u_bd : Int32) (u_nc : Int32) (u_co : Int32) (u_le : Int32) (u_pd : Int32) (u_od : Int32) (u_la : Int32) (u_bk : Int32) (u_ce : Int32) (u_ho : Int32) (u_wy : Int32) (u_bt : Int32) (u_ps : Int32) (u_tg : Int32) (u_sn : Int32) (u_ic : Int32) (u_wd : Int32) (u_id : Int32) (u_wo : Int64) (u_va : Int64) (u_su : Int64) (u_st : Int64) (h_u_td : 0 ≤ u_td.toInt ∧ u_td.toInt ≤ 400) (h_u_fr : 0 ≤ u_fr.toInt ∧ u_fr.toInt ≤ 400) (h_u_to : 0 ≤ u_to.toInt ∧ u_to.toInt ≤ 400) (h_u_bd : 0 ≤ u_bd.toInt ∧ u_bd.toInt ≤ 1) (h_u_nc : 0 ≤ u_nc.toInt ∧ u_nc.toInt ≤ 12) (h_u_co : 0 ≤ u_co.toInt ∧ u_co.toInt ≤ 400) (h_u_pd : 0 ≤ u_pd.toInt ∧ u_pd.toInt ≤ 400) (h_u_la : 0 ≤ u_la.toInt ∧ u_la.toInt ≤ 4840) (h_u_bk : 0 ≤ u_bk.toInt ∧ u_bk.toInt ≤ 1) (h_u_ce : 0 ≤ u_ce.toInt ∧ u_ce.toInt ≤ 63) (h_u_ho : 0 ≤ u_ho.toInt ∧ u_ho.toInt ≤ 23) (h_u_wy : 0 ≤ u_wy.toInt ∧ u_wy.toInt ≤ 3) (h_u_bt : 0 ≤ u_bt.toInt ∧ u_bt.toInt ≤ 1000000) (h_u_ps : 0 ≤ u_ps.toInt ∧ u_ps.toInt ≤ 200) (h_u_ic : 0 ≤ u_ic.toInt ∧ u_ic.toInt ≤ 1) (h_u_id : 0 ≤ u_id.toInt ∧ u_id.toInt ≤ 1) : Met l yX12_isWord (wsG yX12_isWord cX12_isWord 3 (some .boolean)) ({ frames := 0, cells := 0, slots := 0, locals := 0 }) (va_Pc [.ref b_o, .long 1476] (g5_P G [(b_o, (oc12 u_th u_sa b_rf b_ro b_im b_ke u_fd b_tp u_td u_fr u_to u_so u_wo u_fa u_bd u_nc b_nl u_co b_op b_ar u_le b_pi b_pa u_pd u_od b_ws b_hw u_la b_se b_re u_bk u_va u_su u_ce u_ho u_wy u_bt u_ps b_pt u_tg u_sn b_ip u_ic b_ah b_be b_me u_wd b_tr b_ld u_st b_wn u_id))] sz)) (va_Qi (fun (r : Int32) (u : va_W) => ((u_so.toInt = 1 ∧ u_wo.toInt = 1476) ∧ (r = 1) ∧ (u = [(b_o, (oc12 u_th u_sa b_rf b_ro b_im b_ke u_fd b_tp u_td u_fr u_to u_so u_wo u_fa u_bd u_nc b_nl u_co b_op b_ar u_le b_pi b_pa u_pd u_od b_ws b_hw u_la b_se b_re u_bk u_va u_su u_ce u_ho u_wy u_bt u_ps b_pt u_tg u_sn b_ip u_ic b_ah b_be b_me u_wd b_tr b_ld u_st b_wn u_id))])) ∨ ((¬ (u_so.toInt = 1 ∧ u_wo.toInt = 1476)) ∧ (r = 0) ∧ (u = [(b_o, (oc12 u_th u_sa b_rf b_ro b_im b_ke u_fd b_tp u_td u_fr u_to u_so u_wo u_fa u_bd u_nc b_nl u_co b_op b_ar u_le b_pi b_pa u_pd u_od b_ws b_hw u_la b_se b_re u_bk u_va u_su u_ce u_ho u_wy u_bt u_ps b_pt u_tg u_sn b_ip u_ic b_ah b_be b_me u_wd b_tr b_ld u_st b_wn u_id))]))) (g5_B G (va_A [(b_o, (oc12 u_th u_sa b_rf b_ro b_im b_ke u_fd b_tp u_td u_fr u_to u_so u_wo u_fa u_bd u_nc b_nl u_co b_op b_ar u_le b_pi b_pa u_pd u_od b_ws b_hw u_la b_se b_re u_bk u_va u_su u_ce u_ho u_wy u_bt u_ps b_pt u_tg u_sn b_ip u_ic b_ah b_be b_me u_wd b_tr b_ld u_st b_wn u_id))] sz)) (va_A [(b_o, (oc12 u_th u_sa b_rf b_ro b_im b_ke u_fd b_tp u_td u_fr u_to u_so u_wo u_fa u_bd u_nc b_nl u_co b_op b_ar u_le b_pi b_pa u_pd u_od b_ws b_hw u_la b_se b_re u_bk u_va u_su u_ce u_ho u_wy u_bt u_ps b_pt u_tg u_sn b_ip u_ic b_ah b_be b_me u_wd b_tr b_ld u_st b_wn u_id))] sz)) 0 0 (va_A [(b_o, (oc12 u_th u_sa b_rf b_ro b_im b_ke u_fd b_tp u_td u_fr u_to u_so u_wo u_fa u_bd u_nc b_nl u_co b_op b_ar u_le b_pi b_pa u_pd u_od b_ws b_hw u_la b_se b_re u_bk u_va u_su u_ce u_ho u_wy u_bt u_ps b_pt u_tg u_sn b_ip u_ic b_ah b_be b_me u_wd b_tr b_ld u_st b_wn u_id))] sz) := by
  refine Met.ofW (cc := cX12_isWord) (maxL := 3) (ret := (some .boolean)) (by decide) rfl ?_
  intro p e s m args below meth c s₁ B hml hv
  obtain ⟨rfl, hsz, hP, hK, hD0, hN, hT⟩ := hv
  have hx := B.exec
  have hb := B.bytes
  have hr := B.returns
  have hts : ∀ w ∈ tblG, w.before _ s = true := fun w h => atoms_spec (ws := (wsG yX12_isWord cX12_isWord 3 (some .boolean))) B.pre w (List.mem_cons_of_mem _ h)
  have hown : s.vm.findClass RX12 = some m.cls := findClass_of_methodNamed B.named
  have hlocks := B.notSynchronized
  subst hsz
  have hD := hD0.self (sz := s.heap.size)
  generalize hAe : va_A [(b_o, (oc12 u_th u_sa b_rf b_ro b_im b_ke u_fd b_tp u_td u_fr u_to u_so u_wo u_fa u_bd u_nc b_nl u_co b_op b_ar u_le b_pi b_pa u_pd u_od b_ws b_hw u_la b_se b_re u_bk u_va u_su u_ce u_ho u_wy u_bt u_ps b_pt u_tg u_sn b_ip u_ic b_ah b_be b_me u_wd b_tr b_ld u_st b_wn u_id))] s.heap.size = A at hD hT ⊢
  have hA : ∀ q : Nat, s.heap.size ≤ q → A q := fun q h => by rw [← hAe]; exact Or.inr h
  have hS : va_S A s.heap s.heap [] := va_S.rf
  have hP : va_P G.1 vwCl [(b_o, (oc12 u_th u_sa b_rf b_ro b_im b_ke u_fd b_tp u_td u_fr u_to u_so u_wo u_fa u_bd u_nc b_nl u_co b_op b_ar u_le b_pi b_pa u_pd u_od b_ws b_hw u_la b_se b_re u_bk u_va u_su u_ce u_ho u_wy u_bt u_ps b_pt u_tg u_sn b_ip u_ic b_ah b_be b_me u_wd b_tr b_ld u_st b_wn u_id))] s.heap := hP
  have hl := lv_entry ([.ref b_o, .long 1476]) (n := 3) (Nat.le_of_ble_eq_true rfl)
  rw [lg_entry_eq]
  generalize (lg_sl ([.ref b_o, .long 1476]) ++ List.replicate (3 - (lg_sl ([.ref b_o, .long 1476])).length) Slot.unset).toArray = ls at hl ⊢
  have hl : lv_has ls 3 [(0, .ref b_o), (1, .long 1476)] := hl
  refine lv_aload_n hx hb dX12_isWord_0 rfl (lv_at hl 0 rfl) ?_
  refine va_get (D := G.1) (ci := 12) (v := .int u_so) (C := RX12) (T := TX12) (N := 52) hx hb hts inG_X12 hown hK hP 0 rfl rfl 11 (by decide) (hts _ fl_X12_224) (fun _ h9 => h9) rfl dX12_isWord_1 ?_
  refine lv_iconst (v := 1) hx hb dX12_isWord_4 (by decide) ?_
  refine lv_icmp_ne (tgt := 21) hx hb dX12_isWord_5 (by decide) (fun c_1 => ?_) (fun c_1 => ?_)
  ·
    have n_1 : gNe (u_so.toInt) (1) := by have z := g5_ne (a := u_so.toInt) (b := 1) (by rfl) (by decide) c_1; unfold gNe; omega
    refine lv_iconst (v := 0) hx hb dX12_isWord_21 (by decide) ?_
    exact W.zret (v := 0) hx hb hr rfl (fun t ht hW => ⟨⟨0, [(b_o, (oc12 u_th u_sa b_rf b_ro b_im b_ke u_fd b_tp u_td u_fr u_to u_so u_wo u_fa u_bd u_nc b_nl u_co b_op b_ar u_le b_pi b_pa u_pd u_od b_ws b_hw u_la b_se b_re u_bk u_va u_su u_ce u_ho u_wy u_bt u_ps b_pt u_tg u_sn b_ip u_ic b_ah b_be b_me u_wd b_tr b_ld u_st b_wn u_id))], rfl, Or.inr (⟨fun q9 => by first | omega | (unfold gNe at *; omega), rfl, rfl⟩), by rw [ht]; exact hP.sub [0] rfl, hD.sub [0] (by decide) rfl⟩, hS.F ht⟩) hS.2.2 dX12_isWord_22
  ·
    have i_1 : u_so.toInt = 1 := by have z := g5_neN (a := u_so.toInt) (b := 1) (by rfl) (by decide) c_1; omega
    refine lv_aload_n hx hb dX12_isWord_8 rfl (lv_at hl 0 rfl) ?_
    refine va_get (D := G.1) (ci := 12) (v := .long u_wo) (C := RX12) (T := TX12) (N := 52) hx hb hts inG_X12 hown hK hP 0 rfl rfl 12 (by decide) (hts _ fl_X12_214) (fun _ h9 => h9) rfl dX12_isWord_9 ?_
    refine lv_lload_n hx hb dX12_isWord_12 rfl (lv_at hl 1 rfl) ?_
    have tl_2 : (1476 : Int64).toInt = 1476 := (by decide)
    have tc_3 := g5_cmpI u_wo (1476 : Int64)
    refine W.lcmp hx hb dX12_isWord_13 ?_
    refine W.eq (g2 := F0 m 14 ls [.int (lg_cmp u_wo 1476)]) rfl ?_
    refine lv_if_ne (tgt := 21) hx hb dX12_isWord_14 (by decide) (fun c_4 => ?_) (fun c_4 => ?_)
    ·
      have n_4 : gNe ((lg_cmp u_wo 1476).toInt) (0) := by have z := g5_ne (a := (lg_cmp u_wo 1476).toInt) (b := 0) (by rfl) (by decide) c_4; unfold gNe; omega
      refine lv_iconst (v := 0) hx hb dX12_isWord_21 (by decide) ?_
      exact W.zret (v := 0) hx hb hr rfl (fun t ht hW => ⟨⟨0, [(b_o, (oc12 u_th u_sa b_rf b_ro b_im b_ke u_fd b_tp u_td u_fr u_to u_so u_wo u_fa u_bd u_nc b_nl u_co b_op b_ar u_le b_pi b_pa u_pd u_od b_ws b_hw u_la b_se b_re u_bk u_va u_su u_ce u_ho u_wy u_bt u_ps b_pt u_tg u_sn b_ip u_ic b_ah b_be b_me u_wd b_tr b_ld u_st b_wn u_id))], rfl, Or.inr (⟨fun q9 => by first | omega | (unfold gNe at *; omega), rfl, rfl⟩), by rw [ht]; exact hP.sub [0] rfl, hD.sub [0] (by decide) rfl⟩, hS.F ht⟩) hS.2.2 dX12_isWord_22
    ·
      have i_4 : (lg_cmp u_wo 1476).toInt = 0 := by have z := g5_neN (a := (lg_cmp u_wo 1476).toInt) (b := 0) (by rfl) (by decide) c_4; omega
      refine lv_iconst (v := 1) hx hb dX12_isWord_17 (by decide) ?_
      refine lv_goto (tgt := 22) hx hb dX12_isWord_18 (by decide) ?_
      exact W.zret (v := 1) hx hb hr rfl (fun t ht hW => ⟨⟨1, [(b_o, (oc12 u_th u_sa b_rf b_ro b_im b_ke u_fd b_tp u_td u_fr u_to u_so u_wo u_fa u_bd u_nc b_nl u_co b_op b_ar u_le b_pi b_pa u_pd u_od b_ws b_hw u_la b_se b_re u_bk u_va u_su u_ce u_ho u_wy u_bt u_ps b_pt u_tg u_sn b_ip u_ic b_ah b_be b_me u_wd b_tr b_ld u_st b_wn u_id))], rfl, Or.inl (⟨⟨by omega, by omega⟩, rfl, rfl⟩), by rw [ht]; exact hP.sub [0] rfl, hD.sub [0] (by decide) rfl⟩, hS.F ht⟩) hS.2.2 dX12_isWord_22
set_option maxHeartbeats 4000000 in
set_option maxRecDepth 100000 in
theorem n_isWordX14836 (l : Launch) (G : g5_G) (b_o b_rf b_ro b_im b_ke b_tp b_nl b_op b_ar b_pi b_pa b_ws b_hw b_se b_re b_pt b_ip b_ah b_be b_me b_tr b_ld b_wn : Nat) (sz : Nat) (u_th : Int32) (u_sa : Int32) (u_fd : Int32) (u_td : Int32) (u_fr : Int32) (u_to : Int32) (u_so : Int32) (u_fa : Int32) (u_bd : Int32) (u_nc : Int32) (u_co : Int32) (u_le : Int32) (u_pd : Int32) (u_od : Int32) (u_la : Int32) (u_bk : Int32) (u_ce : Int32) (u_ho : Int32) (u_wy : Int32) (u_bt : Int32) (u_ps : Int32) (u_tg : Int32) (u_sn : Int32) (u_ic : Int32) (u_wd : Int32) (u_id : Int32) (u_wo : Int64) (u_va : Int64) (u_su : Int64) (u_st : Int64) (h_u_td : 0 ≤ u_td.toInt ∧ u_td.toInt ≤ 400) (h_u_fr : 0 ≤ u_fr.toInt ∧ u_fr.toInt ≤ 400) (h_u_to : 0 ≤ u_to.toInt ∧ u_to.toInt ≤ 400) (h_u_bd : 0 ≤ u_bd.toInt ∧ u_bd.toInt ≤ 1) (h_u_nc : 0 ≤ u_nc.toInt ∧ u_nc.toInt ≤ 12) (h_u_co : 0 ≤ u_co.toInt ∧ u_co.toInt ≤ 400) (h_u_pd : 0 ≤ u_pd.toInt ∧ u_pd.toInt ≤ 400) (h_u_la : 0 ≤ u_la.toInt ∧ u_la.toInt ≤ 4840) (h_u_bk : 0 ≤ u_bk.toInt ∧ u_bk.toInt ≤ 1) (h_u_ce : 0 ≤ u_ce.toInt ∧ u_ce.toInt ≤ 63) (h_u_ho : 0 ≤ u_ho.toInt ∧ u_ho.toInt ≤ 23) (h_u_wy : 0 ≤ u_wy.toInt ∧ u_wy.toInt ≤ 3) (h_u_bt : 0 ≤ u_bt.toInt ∧ u_bt.toInt ≤ 1000000) (h_u_ps : 0 ≤ u_ps.toInt ∧ u_ps.toInt ≤ 200) (h_u_ic : 0 ≤ u_ic.toInt ∧ u_ic.toInt ≤ 1) (h_u_id : 0 ≤ u_id.toInt ∧ u_id.toInt ≤ 1) : Met l yX12_isWord (wsG yX12_isWord cX12_isWord 3 (some .boolean)) ({ frames := 0, cells := 0, slots := 0, locals := 0 }) (va_Pc [.ref b_o, .long 14836] (g5_P G [(b_o, (oc12 u_th u_sa b_rf b_ro b_im b_ke u_fd b_tp u_td u_fr u_to u_so u_wo u_fa u_bd u_nc b_nl u_co b_op b_ar u_le b_pi b_pa u_pd u_od b_ws b_hw u_la b_se b_re u_bk u_va u_su u_ce u_ho u_wy u_bt u_ps b_pt u_tg u_sn b_ip u_ic b_ah b_be b_me u_wd b_tr b_ld u_st b_wn u_id))] sz)) (va_Qi (fun (r : Int32) (u : va_W) => ((u_so.toInt = 1 ∧ u_wo.toInt = 14836) ∧ (r = 1) ∧ (u = [(b_o, (oc12 u_th u_sa b_rf b_ro b_im b_ke u_fd b_tp u_td u_fr u_to u_so u_wo u_fa u_bd u_nc b_nl u_co b_op b_ar u_le b_pi b_pa u_pd u_od b_ws b_hw u_la b_se b_re u_bk u_va u_su u_ce u_ho u_wy u_bt u_ps b_pt u_tg u_sn b_ip u_ic b_ah b_be b_me u_wd b_tr b_ld u_st b_wn u_id))])) ∨ ((¬ (u_so.toInt = 1 ∧ u_wo.toInt = 14836)) ∧ (r = 0) ∧ (u = [(b_o, (oc12 u_th u_sa b_rf b_ro b_im b_ke u_fd b_tp u_td u_fr u_to u_so u_wo u_fa u_bd u_nc b_nl u_co b_op b_ar u_le b_pi b_pa u_pd u_od b_ws b_hw u_la b_se b_re u_bk u_va u_su u_ce u_ho u_wy u_bt u_ps b_pt u_tg u_sn b_ip u_ic b_ah b_be b_me u_wd b_tr b_ld u_st b_wn u_id))]))) (g5_B G (va_A [(b_o, (oc12 u_th u_sa b_rf b_ro b_im b_ke u_fd b_tp u_td u_fr u_to u_so u_wo u_fa u_bd u_nc b_nl u_co b_op b_ar u_le b_pi b_pa u_pd u_od b_ws b_hw u_la b_se b_re u_bk u_va u_su u_ce u_ho u_wy u_bt u_ps b_pt u_tg u_sn b_ip u_ic b_ah b_be b_me u_wd b_tr b_ld u_st b_wn u_id))] sz)) (va_A [(b_o, (oc12 u_th u_sa b_rf b_ro b_im b_ke u_fd b_tp u_td u_fr u_to u_so u_wo u_fa u_bd u_nc b_nl u_co b_op b_ar u_le b_pi b_pa u_pd u_od b_ws b_hw u_la b_se b_re u_bk u_va u_su u_ce u_ho u_wy u_bt u_ps b_pt u_tg u_sn b_ip u_ic b_ah b_be b_me u_wd b_tr b_ld u_st b_wn u_id))] sz)) 0 0 (va_A [(b_o, (oc12 u_th u_sa b_rf b_ro b_im b_ke u_fd b_tp u_td u_fr u_to u_so u_wo u_fa u_bd u_nc b_nl u_co b_op b_ar u_le b_pi b_pa u_pd u_od b_ws b_hw u_la b_se b_re u_bk u_va u_su u_ce u_ho u_wy u_bt u_ps b_pt u_tg u_sn b_ip u_ic b_ah b_be b_me u_wd b_tr b_ld u_st b_wn u_id))] sz) := by
  refine Met.ofW (cc := cX12_isWord) (maxL := 3) (ret := (some .boolean)) (by decide) rfl ?_
  intro p e s m args below meth c s₁ B hml hv
  obtain ⟨rfl, hsz, hP, hK, hD0, hN, hT⟩ := hv
  have hx := B.exec
  have hb := B.bytes
  have hr := B.returns
  have hts : ∀ w ∈ tblG, w.before _ s = true := fun w h => atoms_spec (ws := (wsG yX12_isWord cX12_isWord 3 (some .boolean))) B.pre w (List.mem_cons_of_mem _ h)
  have hown : s.vm.findClass RX12 = some m.cls := findClass_of_methodNamed B.named
  have hlocks := B.notSynchronized
  subst hsz
  have hD := hD0.self (sz := s.heap.size)
  generalize hAe : va_A [(b_o, (oc12 u_th u_sa b_rf b_ro b_im b_ke u_fd b_tp u_td u_fr u_to u_so u_wo u_fa u_bd u_nc b_nl u_co b_op b_ar u_le b_pi b_pa u_pd u_od b_ws b_hw u_la b_se b_re u_bk u_va u_su u_ce u_ho u_wy u_bt u_ps b_pt u_tg u_sn b_ip u_ic b_ah b_be b_me u_wd b_tr b_ld u_st b_wn u_id))] s.heap.size = A at hD hT ⊢
  have hA : ∀ q : Nat, s.heap.size ≤ q → A q := fun q h => by rw [← hAe]; exact Or.inr h
  have hS : va_S A s.heap s.heap [] := va_S.rf
  have hP : va_P G.1 vwCl [(b_o, (oc12 u_th u_sa b_rf b_ro b_im b_ke u_fd b_tp u_td u_fr u_to u_so u_wo u_fa u_bd u_nc b_nl u_co b_op b_ar u_le b_pi b_pa u_pd u_od b_ws b_hw u_la b_se b_re u_bk u_va u_su u_ce u_ho u_wy u_bt u_ps b_pt u_tg u_sn b_ip u_ic b_ah b_be b_me u_wd b_tr b_ld u_st b_wn u_id))] s.heap := hP
  have hl := lv_entry ([.ref b_o, .long 14836]) (n := 3) (Nat.le_of_ble_eq_true rfl)
  rw [lg_entry_eq]
  generalize (lg_sl ([.ref b_o, .long 14836]) ++ List.replicate (3 - (lg_sl ([.ref b_o, .long 14836])).length) Slot.unset).toArray = ls at hl ⊢
  have hl : lv_has ls 3 [(0, .ref b_o), (1, .long 14836)] := hl
  refine lv_aload_n hx hb dX12_isWord_0 rfl (lv_at hl 0 rfl) ?_
  refine va_get (D := G.1) (ci := 12) (v := .int u_so) (C := RX12) (T := TX12) (N := 52) hx hb hts inG_X12 hown hK hP 0 rfl rfl 11 (by decide) (hts _ fl_X12_224) (fun _ h9 => h9) rfl dX12_isWord_1 ?_
  refine lv_iconst (v := 1) hx hb dX12_isWord_4 (by decide) ?_
  refine lv_icmp_ne (tgt := 21) hx hb dX12_isWord_5 (by decide) (fun c_1 => ?_) (fun c_1 => ?_)
  ·
    have n_1 : gNe (u_so.toInt) (1) := by have z := g5_ne (a := u_so.toInt) (b := 1) (by rfl) (by decide) c_1; unfold gNe; omega
    refine lv_iconst (v := 0) hx hb dX12_isWord_21 (by decide) ?_
    exact W.zret (v := 0) hx hb hr rfl (fun t ht hW => ⟨⟨0, [(b_o, (oc12 u_th u_sa b_rf b_ro b_im b_ke u_fd b_tp u_td u_fr u_to u_so u_wo u_fa u_bd u_nc b_nl u_co b_op b_ar u_le b_pi b_pa u_pd u_od b_ws b_hw u_la b_se b_re u_bk u_va u_su u_ce u_ho u_wy u_bt u_ps b_pt u_tg u_sn b_ip u_ic b_ah b_be b_me u_wd b_tr b_ld u_st b_wn u_id))], rfl, Or.inr (⟨fun q9 => by first | omega | (unfold gNe at *; omega), rfl, rfl⟩), by rw [ht]; exact hP.sub [0] rfl, hD.sub [0] (by decide) rfl⟩, hS.F ht⟩) hS.2.2 dX12_isWord_22
  ·
    have i_1 : u_so.toInt = 1 := by have z := g5_neN (a := u_so.toInt) (b := 1) (by rfl) (by decide) c_1; omega
    refine lv_aload_n hx hb dX12_isWord_8 rfl (lv_at hl 0 rfl) ?_
    refine va_get (D := G.1) (ci := 12) (v := .long u_wo) (C := RX12) (T := TX12) (N := 52) hx hb hts inG_X12 hown hK hP 0 rfl rfl 12 (by decide) (hts _ fl_X12_214) (fun _ h9 => h9) rfl dX12_isWord_9 ?_
    refine lv_lload_n hx hb dX12_isWord_12 rfl (lv_at hl 1 rfl) ?_
    have tl_2 : (14836 : Int64).toInt = 14836 := (by decide)
    have tc_3 := g5_cmpI u_wo (14836 : Int64)
    refine W.lcmp hx hb dX12_isWord_13 ?_
    refine W.eq (g2 := F0 m 14 ls [.int (lg_cmp u_wo 14836)]) rfl ?_
    refine lv_if_ne (tgt := 21) hx hb dX12_isWord_14 (by decide) (fun c_4 => ?_) (fun c_4 => ?_)
    ·
      have n_4 : gNe ((lg_cmp u_wo 14836).toInt) (0) := by have z := g5_ne (a := (lg_cmp u_wo 14836).toInt) (b := 0) (by rfl) (by decide) c_4; unfold gNe; omega
      refine lv_iconst (v := 0) hx hb dX12_isWord_21 (by decide) ?_
      exact W.zret (v := 0) hx hb hr rfl (fun t ht hW => ⟨⟨0, [(b_o, (oc12 u_th u_sa b_rf b_ro b_im b_ke u_fd b_tp u_td u_fr u_to u_so u_wo u_fa u_bd u_nc b_nl u_co b_op b_ar u_le b_pi b_pa u_pd u_od b_ws b_hw u_la b_se b_re u_bk u_va u_su u_ce u_ho u_wy u_bt u_ps b_pt u_tg u_sn b_ip u_ic b_ah b_be b_me u_wd b_tr b_ld u_st b_wn u_id))], rfl, Or.inr (⟨fun q9 => by first | omega | (unfold gNe at *; omega), rfl, rfl⟩), by rw [ht]; exact hP.sub [0] rfl, hD.sub [0] (by decide) rfl⟩, hS.F ht⟩) hS.2.2 dX12_isWord_22
    ·
      have i_4 : (lg_cmp u_wo 14836).toInt = 0 := by have z := g5_neN (a := (lg_cmp u_wo 14836).toInt) (b := 0) (by rfl) (by decide) c_4; omega
      refine lv_iconst (v := 1) hx hb dX12_isWord_17 (by decide) ?_
      refine lv_goto (tgt := 22) hx hb dX12_isWord_18 (by decide) ?_
      exact W.zret (v := 1) hx hb hr rfl (fun t ht hW => ⟨⟨1, [(b_o, (oc12 u_th u_sa b_rf b_ro b_im b_ke u_fd b_tp u_td u_fr u_to u_so u_wo u_fa u_bd u_nc b_nl u_co b_op b_ar u_le b_pi b_pa u_pd u_od b_ws b_hw u_la b_se b_re u_bk u_va u_su u_ce u_ho u_wy u_bt u_ps b_pt u_tg u_sn b_ip u_ic b_ah b_be b_me u_wd b_tr b_ld u_st b_wn u_id))], rfl, Or.inl (⟨⟨by omega, by omega⟩, rfl, rfl⟩), by rw [ht]; exact hP.sub [0] rfl, hD.sub [0] (by decide) rfl⟩, hS.F ht⟩) hS.2.2 dX12_isWord_22
set_option maxHeartbeats 4000000 in
set_option maxRecDepth 100000 in
theorem n_isSignX91 (l : Launch) (G : g5_G) (b_o b_rf b_ro b_im b_ke b_tp b_nl b_op b_ar b_pi b_pa b_ws b_hw b_se b_re b_pt b_ip b_ah b_be b_me b_tr b_ld b_wn : Nat) (sz : Nat) (u_th : Int32) (u_sa : Int32) (u_fd : Int32) (u_td : Int32) (u_fr : Int32) (u_to : Int32) (u_so : Int32) (u_fa : Int32) (u_bd : Int32) (u_nc : Int32) (u_co : Int32) (u_le : Int32) (u_pd : Int32) (u_od : Int32) (u_la : Int32) (u_bk : Int32) (u_ce : Int32) (u_ho : Int32) (u_wy : Int32) (u_bt : Int32) (u_ps : Int32) (u_tg : Int32) (u_sn : Int32) (u_ic : Int32) (u_wd : Int32) (u_id : Int32) (u_wo : Int64) (u_va : Int64) (u_su : Int64) (u_st : Int64) (h_u_td : 0 ≤ u_td.toInt ∧ u_td.toInt ≤ 400) (h_u_fr : 0 ≤ u_fr.toInt ∧ u_fr.toInt ≤ 400) (h_u_to : 0 ≤ u_to.toInt ∧ u_to.toInt ≤ 400) (h_u_bd : 0 ≤ u_bd.toInt ∧ u_bd.toInt ≤ 1) (h_u_nc : 0 ≤ u_nc.toInt ∧ u_nc.toInt ≤ 12) (h_u_co : 0 ≤ u_co.toInt ∧ u_co.toInt ≤ 400) (h_u_pd : 0 ≤ u_pd.toInt ∧ u_pd.toInt ≤ 400) (h_u_la : 0 ≤ u_la.toInt ∧ u_la.toInt ≤ 4840) (h_u_bk : 0 ≤ u_bk.toInt ∧ u_bk.toInt ≤ 1) (h_u_ce : 0 ≤ u_ce.toInt ∧ u_ce.toInt ≤ 63) (h_u_ho : 0 ≤ u_ho.toInt ∧ u_ho.toInt ≤ 23) (h_u_wy : 0 ≤ u_wy.toInt ∧ u_wy.toInt ≤ 3) (h_u_bt : 0 ≤ u_bt.toInt ∧ u_bt.toInt ≤ 1000000) (h_u_ps : 0 ≤ u_ps.toInt ∧ u_ps.toInt ≤ 200) (h_u_ic : 0 ≤ u_ic.toInt ∧ u_ic.toInt ≤ 1) (h_u_id : 0 ≤ u_id.toInt ∧ u_id.toInt ≤ 1) : Met l yX12_isSign (wsG yX12_isSign cX12_isSign 2 (some .boolean)) ({ frames := 0, cells := 0, slots := 0, locals := 0 }) (va_Pc [.ref b_o, .int 91] (g5_P G [(b_o, (oc12 u_th u_sa b_rf b_ro b_im b_ke u_fd b_tp u_td u_fr u_to u_so u_wo u_fa u_bd u_nc b_nl u_co b_op b_ar u_le b_pi b_pa u_pd u_od b_ws b_hw u_la b_se b_re u_bk u_va u_su u_ce u_ho u_wy u_bt u_ps b_pt u_tg u_sn b_ip u_ic b_ah b_be b_me u_wd b_tr b_ld u_st b_wn u_id))] sz)) (va_Qi (fun (r : Int32) (u : va_W) => ((u_so.toInt = 3 ∧ u_wo.toInt = 91) ∧ (r = 1) ∧ (u = [(b_o, (oc12 u_th u_sa b_rf b_ro b_im b_ke u_fd b_tp u_td u_fr u_to u_so u_wo u_fa u_bd u_nc b_nl u_co b_op b_ar u_le b_pi b_pa u_pd u_od b_ws b_hw u_la b_se b_re u_bk u_va u_su u_ce u_ho u_wy u_bt u_ps b_pt u_tg u_sn b_ip u_ic b_ah b_be b_me u_wd b_tr b_ld u_st b_wn u_id))])) ∨ ((¬ (u_so.toInt = 3 ∧ u_wo.toInt = 91)) ∧ (r = 0) ∧ (u = [(b_o, (oc12 u_th u_sa b_rf b_ro b_im b_ke u_fd b_tp u_td u_fr u_to u_so u_wo u_fa u_bd u_nc b_nl u_co b_op b_ar u_le b_pi b_pa u_pd u_od b_ws b_hw u_la b_se b_re u_bk u_va u_su u_ce u_ho u_wy u_bt u_ps b_pt u_tg u_sn b_ip u_ic b_ah b_be b_me u_wd b_tr b_ld u_st b_wn u_id))]))) (g5_B G (va_A [(b_o, (oc12 u_th u_sa b_rf b_ro b_im b_ke u_fd b_tp u_td u_fr u_to u_so u_wo u_fa u_bd u_nc b_nl u_co b_op b_ar u_le b_pi b_pa u_pd u_od b_ws b_hw u_la b_se b_re u_bk u_va u_su u_ce u_ho u_wy u_bt u_ps b_pt u_tg u_sn b_ip u_ic b_ah b_be b_me u_wd b_tr b_ld u_st b_wn u_id))] sz)) (va_A [(b_o, (oc12 u_th u_sa b_rf b_ro b_im b_ke u_fd b_tp u_td u_fr u_to u_so u_wo u_fa u_bd u_nc b_nl u_co b_op b_ar u_le b_pi b_pa u_pd u_od b_ws b_hw u_la b_se b_re u_bk u_va u_su u_ce u_ho u_wy u_bt u_ps b_pt u_tg u_sn b_ip u_ic b_ah b_be b_me u_wd b_tr b_ld u_st b_wn u_id))] sz)) 0 0 (va_A [(b_o, (oc12 u_th u_sa b_rf b_ro b_im b_ke u_fd b_tp u_td u_fr u_to u_so u_wo u_fa u_bd u_nc b_nl u_co b_op b_ar u_le b_pi b_pa u_pd u_od b_ws b_hw u_la b_se b_re u_bk u_va u_su u_ce u_ho u_wy u_bt u_ps b_pt u_tg u_sn b_ip u_ic b_ah b_be b_me u_wd b_tr b_ld u_st b_wn u_id))] sz) := by
  refine Met.ofW (cc := cX12_isSign) (maxL := 2) (ret := (some .boolean)) (by decide) rfl ?_
  intro p e s m args below meth c s₁ B hml hv
  obtain ⟨rfl, hsz, hP, hK, hD0, hN, hT⟩ := hv
  have hx := B.exec
  have hb := B.bytes
  have hr := B.returns
  have hts : ∀ w ∈ tblG, w.before _ s = true := fun w h => atoms_spec (ws := (wsG yX12_isSign cX12_isSign 2 (some .boolean))) B.pre w (List.mem_cons_of_mem _ h)
  have hown : s.vm.findClass RX12 = some m.cls := findClass_of_methodNamed B.named
  have hlocks := B.notSynchronized
  subst hsz
  have hD := hD0.self (sz := s.heap.size)
  generalize hAe : va_A [(b_o, (oc12 u_th u_sa b_rf b_ro b_im b_ke u_fd b_tp u_td u_fr u_to u_so u_wo u_fa u_bd u_nc b_nl u_co b_op b_ar u_le b_pi b_pa u_pd u_od b_ws b_hw u_la b_se b_re u_bk u_va u_su u_ce u_ho u_wy u_bt u_ps b_pt u_tg u_sn b_ip u_ic b_ah b_be b_me u_wd b_tr b_ld u_st b_wn u_id))] s.heap.size = A at hD hT ⊢
  have hA : ∀ q : Nat, s.heap.size ≤ q → A q := fun q h => by rw [← hAe]; exact Or.inr h
  have hS : va_S A s.heap s.heap [] := va_S.rf
  have hP : va_P G.1 vwCl [(b_o, (oc12 u_th u_sa b_rf b_ro b_im b_ke u_fd b_tp u_td u_fr u_to u_so u_wo u_fa u_bd u_nc b_nl u_co b_op b_ar u_le b_pi b_pa u_pd u_od b_ws b_hw u_la b_se b_re u_bk u_va u_su u_ce u_ho u_wy u_bt u_ps b_pt u_tg u_sn b_ip u_ic b_ah b_be b_me u_wd b_tr b_ld u_st b_wn u_id))] s.heap := hP
  have hl := lv_entry ([.ref b_o, .int 91]) (n := 2) (Nat.le_of_ble_eq_true rfl)
  rw [lg_entry_eq]
  generalize (lg_sl ([.ref b_o, .int 91]) ++ List.replicate (2 - (lg_sl ([.ref b_o, .int 91])).length) Slot.unset).toArray = ls at hl ⊢
  have hl : lv_has ls 2 [(0, .ref b_o), (1, .int 91)] := hl
  refine lv_aload_n hx hb dX12_isSign_0 rfl (lv_at hl 0 rfl) ?_
  refine va_get (D := G.1) (ci := 12) (v := .int u_so) (C := RX12) (T := TX12) (N := 52) hx hb hts inG_X12 hown hK hP 0 rfl rfl 11 (by decide) (hts _ fl_X12_224) (fun _ h9 => h9) rfl dX12_isSign_1 ?_
  refine lv_iconst (v := 3) hx hb dX12_isSign_4 (by decide) ?_
  refine lv_icmp_ne (tgt := 22) hx hb dX12_isSign_5 (by decide) (fun c_1 => ?_) (fun c_1 => ?_)
  ·
    have n_1 : gNe (u_so.toInt) (3) := by have z := g5_ne (a := u_so.toInt) (b := 3) (by rfl) (by decide) c_1; unfold gNe; omega
    refine lv_iconst (v := 0) hx hb dX12_isSign_22 (by decide) ?_
    exact W.zret (v := 0) hx hb hr rfl (fun t ht hW => ⟨⟨0, [(b_o, (oc12 u_th u_sa b_rf b_ro b_im b_ke u_fd b_tp u_td u_fr u_to u_so u_wo u_fa u_bd u_nc b_nl u_co b_op b_ar u_le b_pi b_pa u_pd u_od b_ws b_hw u_la b_se b_re u_bk u_va u_su u_ce u_ho u_wy u_bt u_ps b_pt u_tg u_sn b_ip u_ic b_ah b_be b_me u_wd b_tr b_ld u_st b_wn u_id))], rfl, Or.inr (⟨fun q9 => by first | omega | (unfold gNe at *; omega), rfl, rfl⟩), by rw [ht]; exact hP.sub [0] rfl, hD.sub [0] (by decide) rfl⟩, hS.F ht⟩) hS.2.2 dX12_isSign_23
  ·
    have i_1 : u_so.toInt = 3 := by have z := g5_neN (a := u_so.toInt) (b := 3) (by rfl) (by decide) c_1; omega
    refine lv_aload_n hx hb dX12_isSign_8 rfl (lv_at hl 0 rfl) ?_
    refine va_get (D := G.1) (ci := 12) (v := .long u_wo) (C := RX12) (T := TX12) (N := 52) hx hb hts inG_X12 hown hK hP 0 rfl rfl 12 (by decide) (hts _ fl_X12_214) (fun _ h9 => h9) rfl dX12_isSign_9 ?_
    refine lv_iload_n hx hb dX12_isSign_12 rfl (lv_at hl 1 rfl) ?_
    refine lv_i2l (v := 91) hx hb dX12_isSign_13 (by decide) ?_
    refine W.eq (g2 := F0 m 14 ls [.long 91, .long u_wo]) rfl ?_
    have tl_2 : (91 : Int64).toInt = 91 := (by decide)
    have tc_3 := g5_cmpI u_wo (91 : Int64)
    refine W.lcmp hx hb dX12_isSign_14 ?_
    refine lv_if_ne (tgt := 22) hx hb dX12_isSign_15 (by decide) (fun c_4 => ?_) (fun c_4 => ?_)
    ·
      have n_4 : gNe ((lg_cmp u_wo 91).toInt) (0) := by have z := g5_ne (a := (lg_cmp u_wo 91).toInt) (b := 0) (by rfl) (by decide) c_4; unfold gNe; omega
      refine lv_iconst (v := 0) hx hb dX12_isSign_22 (by decide) ?_
      exact W.zret (v := 0) hx hb hr rfl (fun t ht hW => ⟨⟨0, [(b_o, (oc12 u_th u_sa b_rf b_ro b_im b_ke u_fd b_tp u_td u_fr u_to u_so u_wo u_fa u_bd u_nc b_nl u_co b_op b_ar u_le b_pi b_pa u_pd u_od b_ws b_hw u_la b_se b_re u_bk u_va u_su u_ce u_ho u_wy u_bt u_ps b_pt u_tg u_sn b_ip u_ic b_ah b_be b_me u_wd b_tr b_ld u_st b_wn u_id))], rfl, Or.inr (⟨fun q9 => by first | omega | (unfold gNe at *; omega), rfl, rfl⟩), by rw [ht]; exact hP.sub [0] rfl, hD.sub [0] (by decide) rfl⟩, hS.F ht⟩) hS.2.2 dX12_isSign_23
    ·
      have i_4 : (lg_cmp u_wo 91).toInt = 0 := by have z := g5_neN (a := (lg_cmp u_wo 91).toInt) (b := 0) (by rfl) (by decide) c_4; omega
      refine lv_iconst (v := 1) hx hb dX12_isSign_18 (by decide) ?_
      refine lv_goto (tgt := 23) hx hb dX12_isSign_19 (by decide) ?_
      exact W.zret (v := 1) hx hb hr rfl (fun t ht hW => ⟨⟨1, [(b_o, (oc12 u_th u_sa b_rf b_ro b_im b_ke u_fd b_tp u_td u_fr u_to u_so u_wo u_fa u_bd u_nc b_nl u_co b_op b_ar u_le b_pi b_pa u_pd u_od b_ws b_hw u_la b_se b_re u_bk u_va u_su u_ce u_ho u_wy u_bt u_ps b_pt u_tg u_sn b_ip u_ic b_ah b_be b_me u_wd b_tr b_ld u_st b_wn u_id))], rfl, Or.inl (⟨⟨by omega, by omega⟩, rfl, rfl⟩), by rw [ht]; exact hP.sub [0] rfl, hD.sub [0] (by decide) rfl⟩, hS.F ht⟩) hS.2.2 dX12_isSign_23
set_option maxHeartbeats 4000000 in
set_option maxRecDepth 100000 in
theorem n_isSignX93 (l : Launch) (G : g5_G) (b_o b_rf b_ro b_im b_ke b_tp b_nl b_op b_ar b_pi b_pa b_ws b_hw b_se b_re b_pt b_ip b_ah b_be b_me b_tr b_ld b_wn : Nat) (sz : Nat) (u_th : Int32) (u_sa : Int32) (u_fd : Int32) (u_td : Int32) (u_fr : Int32) (u_to : Int32) (u_so : Int32) (u_fa : Int32) (u_bd : Int32) (u_nc : Int32) (u_co : Int32) (u_le : Int32) (u_pd : Int32) (u_od : Int32) (u_la : Int32) (u_bk : Int32) (u_ce : Int32) (u_ho : Int32) (u_wy : Int32) (u_bt : Int32) (u_ps : Int32) (u_tg : Int32) (u_sn : Int32) (u_ic : Int32) (u_wd : Int32) (u_id : Int32) (u_wo : Int64) (u_va : Int64) (u_su : Int64) (u_st : Int64) (h_u_td : 0 ≤ u_td.toInt ∧ u_td.toInt ≤ 400) (h_u_fr : 0 ≤ u_fr.toInt ∧ u_fr.toInt ≤ 400) (h_u_to : 0 ≤ u_to.toInt ∧ u_to.toInt ≤ 400) (h_u_bd : 0 ≤ u_bd.toInt ∧ u_bd.toInt ≤ 1) (h_u_nc : 0 ≤ u_nc.toInt ∧ u_nc.toInt ≤ 12) (h_u_co : 0 ≤ u_co.toInt ∧ u_co.toInt ≤ 400) (h_u_pd : 0 ≤ u_pd.toInt ∧ u_pd.toInt ≤ 400) (h_u_la : 0 ≤ u_la.toInt ∧ u_la.toInt ≤ 4840) (h_u_bk : 0 ≤ u_bk.toInt ∧ u_bk.toInt ≤ 1) (h_u_ce : 0 ≤ u_ce.toInt ∧ u_ce.toInt ≤ 63) (h_u_ho : 0 ≤ u_ho.toInt ∧ u_ho.toInt ≤ 23) (h_u_wy : 0 ≤ u_wy.toInt ∧ u_wy.toInt ≤ 3) (h_u_bt : 0 ≤ u_bt.toInt ∧ u_bt.toInt ≤ 1000000) (h_u_ps : 0 ≤ u_ps.toInt ∧ u_ps.toInt ≤ 200) (h_u_ic : 0 ≤ u_ic.toInt ∧ u_ic.toInt ≤ 1) (h_u_id : 0 ≤ u_id.toInt ∧ u_id.toInt ≤ 1) : Met l yX12_isSign (wsG yX12_isSign cX12_isSign 2 (some .boolean)) ({ frames := 0, cells := 0, slots := 0, locals := 0 }) (va_Pc [.ref b_o, .int 93] (g5_P G [(b_o, (oc12 u_th u_sa b_rf b_ro b_im b_ke u_fd b_tp u_td u_fr u_to u_so u_wo u_fa u_bd u_nc b_nl u_co b_op b_ar u_le b_pi b_pa u_pd u_od b_ws b_hw u_la b_se b_re u_bk u_va u_su u_ce u_ho u_wy u_bt u_ps b_pt u_tg u_sn b_ip u_ic b_ah b_be b_me u_wd b_tr b_ld u_st b_wn u_id))] sz)) (va_Qi (fun (r : Int32) (u : va_W) => ((u_so.toInt = 3 ∧ u_wo.toInt = 93) ∧ (r = 1) ∧ (u = [(b_o, (oc12 u_th u_sa b_rf b_ro b_im b_ke u_fd b_tp u_td u_fr u_to u_so u_wo u_fa u_bd u_nc b_nl u_co b_op b_ar u_le b_pi b_pa u_pd u_od b_ws b_hw u_la b_se b_re u_bk u_va u_su u_ce u_ho u_wy u_bt u_ps b_pt u_tg u_sn b_ip u_ic b_ah b_be b_me u_wd b_tr b_ld u_st b_wn u_id))])) ∨ ((¬ (u_so.toInt = 3 ∧ u_wo.toInt = 93)) ∧ (r = 0) ∧ (u = [(b_o, (oc12 u_th u_sa b_rf b_ro b_im b_ke u_fd b_tp u_td u_fr u_to u_so u_wo u_fa u_bd u_nc b_nl u_co b_op b_ar u_le b_pi b_pa u_pd u_od b_ws b_hw u_la b_se b_re u_bk u_va u_su u_ce u_ho u_wy u_bt u_ps b_pt u_tg u_sn b_ip u_ic b_ah b_be b_me u_wd b_tr b_ld u_st b_wn u_id))]))) (g5_B G (va_A [(b_o, (oc12 u_th u_sa b_rf b_ro b_im b_ke u_fd b_tp u_td u_fr u_to u_so u_wo u_fa u_bd u_nc b_nl u_co b_op b_ar u_le b_pi b_pa u_pd u_od b_ws b_hw u_la b_se b_re u_bk u_va u_su u_ce u_ho u_wy u_bt u_ps b_pt u_tg u_sn b_ip u_ic b_ah b_be b_me u_wd b_tr b_ld u_st b_wn u_id))] sz)) (va_A [(b_o, (oc12 u_th u_sa b_rf b_ro b_im b_ke u_fd b_tp u_td u_fr u_to u_so u_wo u_fa u_bd u_nc b_nl u_co b_op b_ar u_le b_pi b_pa u_pd u_od b_ws b_hw u_la b_se b_re u_bk u_va u_su u_ce u_ho u_wy u_bt u_ps b_pt u_tg u_sn b_ip u_ic b_ah b_be b_me u_wd b_tr b_ld u_st b_wn u_id))] sz)) 0 0 (va_A [(b_o, (oc12 u_th u_sa b_rf b_ro b_im b_ke u_fd b_tp u_td u_fr u_to u_so u_wo u_fa u_bd u_nc b_nl u_co b_op b_ar u_le b_pi b_pa u_pd u_od b_ws b_hw u_la b_se b_re u_bk u_va u_su u_ce u_ho u_wy u_bt u_ps b_pt u_tg u_sn b_ip u_ic b_ah b_be b_me u_wd b_tr b_ld u_st b_wn u_id))] sz) := by
  refine Met.ofW (cc := cX12_isSign) (maxL := 2) (ret := (some .boolean)) (by decide) rfl ?_
  intro p e s m args below meth c s₁ B hml hv
  obtain ⟨rfl, hsz, hP, hK, hD0, hN, hT⟩ := hv
  have hx := B.exec
  have hb := B.bytes
  have hr := B.returns
  have hts : ∀ w ∈ tblG, w.before _ s = true := fun w h => atoms_spec (ws := (wsG yX12_isSign cX12_isSign 2 (some .boolean))) B.pre w (List.mem_cons_of_mem _ h)
  have hown : s.vm.findClass RX12 = some m.cls := findClass_of_methodNamed B.named
  have hlocks := B.notSynchronized
  subst hsz
  have hD := hD0.self (sz := s.heap.size)
  generalize hAe : va_A [(b_o, (oc12 u_th u_sa b_rf b_ro b_im b_ke u_fd b_tp u_td u_fr u_to u_so u_wo u_fa u_bd u_nc b_nl u_co b_op b_ar u_le b_pi b_pa u_pd u_od b_ws b_hw u_la b_se b_re u_bk u_va u_su u_ce u_ho u_wy u_bt u_ps b_pt u_tg u_sn b_ip u_ic b_ah b_be b_me u_wd b_tr b_ld u_st b_wn u_id))] s.heap.size = A at hD hT ⊢
  have hA : ∀ q : Nat, s.heap.size ≤ q → A q := fun q h => by rw [← hAe]; exact Or.inr h
  have hS : va_S A s.heap s.heap [] := va_S.rf
  have hP : va_P G.1 vwCl [(b_o, (oc12 u_th u_sa b_rf b_ro b_im b_ke u_fd b_tp u_td u_fr u_to u_so u_wo u_fa u_bd u_nc b_nl u_co b_op b_ar u_le b_pi b_pa u_pd u_od b_ws b_hw u_la b_se b_re u_bk u_va u_su u_ce u_ho u_wy u_bt u_ps b_pt u_tg u_sn b_ip u_ic b_ah b_be b_me u_wd b_tr b_ld u_st b_wn u_id))] s.heap := hP
  have hl := lv_entry ([.ref b_o, .int 93]) (n := 2) (Nat.le_of_ble_eq_true rfl)
  rw [lg_entry_eq]
  generalize (lg_sl ([.ref b_o, .int 93]) ++ List.replicate (2 - (lg_sl ([.ref b_o, .int 93])).length) Slot.unset).toArray = ls at hl ⊢
  have hl : lv_has ls 2 [(0, .ref b_o), (1, .int 93)] := hl
  refine lv_aload_n hx hb dX12_isSign_0 rfl (lv_at hl 0 rfl) ?_
  refine va_get (D := G.1) (ci := 12) (v := .int u_so) (C := RX12) (T := TX12) (N := 52) hx hb hts inG_X12 hown hK hP 0 rfl rfl 11 (by decide) (hts _ fl_X12_224) (fun _ h9 => h9) rfl dX12_isSign_1 ?_
  refine lv_iconst (v := 3) hx hb dX12_isSign_4 (by decide) ?_
  refine lv_icmp_ne (tgt := 22) hx hb dX12_isSign_5 (by decide) (fun c_1 => ?_) (fun c_1 => ?_)
  ·
    have n_1 : gNe (u_so.toInt) (3) := by have z := g5_ne (a := u_so.toInt) (b := 3) (by rfl) (by decide) c_1; unfold gNe; omega
    refine lv_iconst (v := 0) hx hb dX12_isSign_22 (by decide) ?_
    exact W.zret (v := 0) hx hb hr rfl (fun t ht hW => ⟨⟨0, [(b_o, (oc12 u_th u_sa b_rf b_ro b_im b_ke u_fd b_tp u_td u_fr u_to u_so u_wo u_fa u_bd u_nc b_nl u_co b_op b_ar u_le b_pi b_pa u_pd u_od b_ws b_hw u_la b_se b_re u_bk u_va u_su u_ce u_ho u_wy u_bt u_ps b_pt u_tg u_sn b_ip u_ic b_ah b_be b_me u_wd b_tr b_ld u_st b_wn u_id))], rfl, Or.inr (⟨fun q9 => by first | omega | (unfold gNe at *; omega), rfl, rfl⟩), by rw [ht]; exact hP.sub [0] rfl, hD.sub [0] (by decide) rfl⟩, hS.F ht⟩) hS.2.2 dX12_isSign_23
  ·
    have i_1 : u_so.toInt = 3 := by have z := g5_neN (a := u_so.toInt) (b := 3) (by rfl) (by decide) c_1; omega
    refine lv_aload_n hx hb dX12_isSign_8 rfl (lv_at hl 0 rfl) ?_
    refine va_get (D := G.1) (ci := 12) (v := .long u_wo) (C := RX12) (T := TX12) (N := 52) hx hb hts inG_X12 hown hK hP 0 rfl rfl 12 (by decide) (hts _ fl_X12_214) (fun _ h9 => h9) rfl dX12_isSign_9 ?_
    refine lv_iload_n hx hb dX12_isSign_12 rfl (lv_at hl 1 rfl) ?_
    refine lv_i2l (v := 93) hx hb dX12_isSign_13 (by decide) ?_
    refine W.eq (g2 := F0 m 14 ls [.long 93, .long u_wo]) rfl ?_
    have tl_2 : (93 : Int64).toInt = 93 := (by decide)
    have tc_3 := g5_cmpI u_wo (93 : Int64)
    refine W.lcmp hx hb dX12_isSign_14 ?_
    refine lv_if_ne (tgt := 22) hx hb dX12_isSign_15 (by decide) (fun c_4 => ?_) (fun c_4 => ?_)
    ·
      have n_4 : gNe ((lg_cmp u_wo 93).toInt) (0) := by have z := g5_ne (a := (lg_cmp u_wo 93).toInt) (b := 0) (by rfl) (by decide) c_4; unfold gNe; omega
      refine lv_iconst (v := 0) hx hb dX12_isSign_22 (by decide) ?_
      exact W.zret (v := 0) hx hb hr rfl (fun t ht hW => ⟨⟨0, [(b_o, (oc12 u_th u_sa b_rf b_ro b_im b_ke u_fd b_tp u_td u_fr u_to u_so u_wo u_fa u_bd u_nc b_nl u_co b_op b_ar u_le b_pi b_pa u_pd u_od b_ws b_hw u_la b_se b_re u_bk u_va u_su u_ce u_ho u_wy u_bt u_ps b_pt u_tg u_sn b_ip u_ic b_ah b_be b_me u_wd b_tr b_ld u_st b_wn u_id))], rfl, Or.inr (⟨fun q9 => by first | omega | (unfold gNe at *; omega), rfl, rfl⟩), by rw [ht]; exact hP.sub [0] rfl, hD.sub [0] (by decide) rfl⟩, hS.F ht⟩) hS.2.2 dX12_isSign_23
    ·
      have i_4 : (lg_cmp u_wo 93).toInt = 0 := by have z := g5_neN (a := (lg_cmp u_wo 93).toInt) (b := 0) (by rfl) (by decide) c_4; omega
      refine lv_iconst (v := 1) hx hb dX12_isSign_18 (by decide) ?_
      refine lv_goto (tgt := 23) hx hb dX12_isSign_19 (by decide) ?_
      exact W.zret (v := 1) hx hb hr rfl (fun t ht hW => ⟨⟨1, [(b_o, (oc12 u_th u_sa b_rf b_ro b_im b_ke u_fd b_tp u_td u_fr u_to u_so u_wo u_fa u_bd u_nc b_nl u_co b_op b_ar u_le b_pi b_pa u_pd u_od b_ws b_hw u_la b_se b_re u_bk u_va u_su u_ce u_ho u_wy u_bt u_ps b_pt u_tg u_sn b_ip u_ic b_ah b_be b_me u_wd b_tr b_ld u_st b_wn u_id))], rfl, Or.inl (⟨⟨by omega, by omega⟩, rfl, rfl⟩), by rw [ht]; exact hP.sub [0] rfl, hD.sub [0] (by decide) rfl⟩, hS.F ht⟩) hS.2.2 dX12_isSign_23
set_option maxHeartbeats 4000000 in
set_option maxRecDepth 100000 in
theorem n_isSignX40 (l : Launch) (G : g5_G) (b_o b_rf b_ro b_im b_ke b_tp b_nl b_op b_ar b_pi b_pa b_ws b_hw b_se b_re b_pt b_ip b_ah b_be b_me b_tr b_ld b_wn : Nat) (sz : Nat) (u_th : Int32) (u_sa : Int32) (u_fd : Int32) (u_td : Int32) (u_fr : Int32) (u_to : Int32) (u_so : Int32) (u_fa : Int32) (u_bd : Int32) (u_nc : Int32) (u_co : Int32) (u_le : Int32) (u_pd : Int32) (u_od : Int32) (u_la : Int32) (u_bk : Int32) (u_ce : Int32) (u_ho : Int32) (u_wy : Int32) (u_bt : Int32) (u_ps : Int32) (u_tg : Int32) (u_sn : Int32) (u_ic : Int32) (u_wd : Int32) (u_id : Int32) (u_wo : Int64) (u_va : Int64) (u_su : Int64) (u_st : Int64) (h_u_td : 0 ≤ u_td.toInt ∧ u_td.toInt ≤ 400) (h_u_fr : 0 ≤ u_fr.toInt ∧ u_fr.toInt ≤ 400) (h_u_to : 0 ≤ u_to.toInt ∧ u_to.toInt ≤ 400) (h_u_bd : 0 ≤ u_bd.toInt ∧ u_bd.toInt ≤ 1) (h_u_nc : 0 ≤ u_nc.toInt ∧ u_nc.toInt ≤ 12) (h_u_co : 0 ≤ u_co.toInt ∧ u_co.toInt ≤ 400) (h_u_pd : 0 ≤ u_pd.toInt ∧ u_pd.toInt ≤ 400) (h_u_la : 0 ≤ u_la.toInt ∧ u_la.toInt ≤ 4840) (h_u_bk : 0 ≤ u_bk.toInt ∧ u_bk.toInt ≤ 1) (h_u_ce : 0 ≤ u_ce.toInt ∧ u_ce.toInt ≤ 63) (h_u_ho : 0 ≤ u_ho.toInt ∧ u_ho.toInt ≤ 23) (h_u_wy : 0 ≤ u_wy.toInt ∧ u_wy.toInt ≤ 3) (h_u_bt : 0 ≤ u_bt.toInt ∧ u_bt.toInt ≤ 1000000) (h_u_ps : 0 ≤ u_ps.toInt ∧ u_ps.toInt ≤ 200) (h_u_ic : 0 ≤ u_ic.toInt ∧ u_ic.toInt ≤ 1) (h_u_id : 0 ≤ u_id.toInt ∧ u_id.toInt ≤ 1) : Met l yX12_isSign (wsG yX12_isSign cX12_isSign 2 (some .boolean)) ({ frames := 0, cells := 0, slots := 0, locals := 0 }) (va_Pc [.ref b_o, .int 40] (g5_P G [(b_o, (oc12 u_th u_sa b_rf b_ro b_im b_ke u_fd b_tp u_td u_fr u_to u_so u_wo u_fa u_bd u_nc b_nl u_co b_op b_ar u_le b_pi b_pa u_pd u_od b_ws b_hw u_la b_se b_re u_bk u_va u_su u_ce u_ho u_wy u_bt u_ps b_pt u_tg u_sn b_ip u_ic b_ah b_be b_me u_wd b_tr b_ld u_st b_wn u_id))] sz)) (va_Qi (fun (r : Int32) (u : va_W) => ((u_so.toInt = 3 ∧ u_wo.toInt = 40) ∧ (r = 1) ∧ (u = [(b_o, (oc12 u_th u_sa b_rf b_ro b_im b_ke u_fd b_tp u_td u_fr u_to u_so u_wo u_fa u_bd u_nc b_nl u_co b_op b_ar u_le b_pi b_pa u_pd u_od b_ws b_hw u_la b_se b_re u_bk u_va u_su u_ce u_ho u_wy u_bt u_ps b_pt u_tg u_sn b_ip u_ic b_ah b_be b_me u_wd b_tr b_ld u_st b_wn u_id))])) ∨ ((¬ (u_so.toInt = 3 ∧ u_wo.toInt = 40)) ∧ (r = 0) ∧ (u = [(b_o, (oc12 u_th u_sa b_rf b_ro b_im b_ke u_fd b_tp u_td u_fr u_to u_so u_wo u_fa u_bd u_nc b_nl u_co b_op b_ar u_le b_pi b_pa u_pd u_od b_ws b_hw u_la b_se b_re u_bk u_va u_su u_ce u_ho u_wy u_bt u_ps b_pt u_tg u_sn b_ip u_ic b_ah b_be b_me u_wd b_tr b_ld u_st b_wn u_id))]))) (g5_B G (va_A [(b_o, (oc12 u_th u_sa b_rf b_ro b_im b_ke u_fd b_tp u_td u_fr u_to u_so u_wo u_fa u_bd u_nc b_nl u_co b_op b_ar u_le b_pi b_pa u_pd u_od b_ws b_hw u_la b_se b_re u_bk u_va u_su u_ce u_ho u_wy u_bt u_ps b_pt u_tg u_sn b_ip u_ic b_ah b_be b_me u_wd b_tr b_ld u_st b_wn u_id))] sz)) (va_A [(b_o, (oc12 u_th u_sa b_rf b_ro b_im b_ke u_fd b_tp u_td u_fr u_to u_so u_wo u_fa u_bd u_nc b_nl u_co b_op b_ar u_le b_pi b_pa u_pd u_od b_ws b_hw u_la b_se b_re u_bk u_va u_su u_ce u_ho u_wy u_bt u_ps b_pt u_tg u_sn b_ip u_ic b_ah b_be b_me u_wd b_tr b_ld u_st b_wn u_id))] sz)) 0 0 (va_A [(b_o, (oc12 u_th u_sa b_rf b_ro b_im b_ke u_fd b_tp u_td u_fr u_to u_so u_wo u_fa u_bd u_nc b_nl u_co b_op b_ar u_le b_pi b_pa u_pd u_od b_ws b_hw u_la b_se b_re u_bk u_va u_su u_ce u_ho u_wy u_bt u_ps b_pt u_tg u_sn b_ip u_ic b_ah b_be b_me u_wd b_tr b_ld u_st b_wn u_id))] sz) := by
  refine Met.ofW (cc := cX12_isSign) (maxL := 2) (ret := (some .boolean)) (by decide) rfl ?_
  intro p e s m args below meth c s₁ B hml hv
  obtain ⟨rfl, hsz, hP, hK, hD0, hN, hT⟩ := hv
  have hx := B.exec
  have hb := B.bytes
  have hr := B.returns
  have hts : ∀ w ∈ tblG, w.before _ s = true := fun w h => atoms_spec (ws := (wsG yX12_isSign cX12_isSign 2 (some .boolean))) B.pre w (List.mem_cons_of_mem _ h)
  have hown : s.vm.findClass RX12 = some m.cls := findClass_of_methodNamed B.named
  have hlocks := B.notSynchronized
  subst hsz
  have hD := hD0.self (sz := s.heap.size)
  generalize hAe : va_A [(b_o, (oc12 u_th u_sa b_rf b_ro b_im b_ke u_fd b_tp u_td u_fr u_to u_so u_wo u_fa u_bd u_nc b_nl u_co b_op b_ar u_le b_pi b_pa u_pd u_od b_ws b_hw u_la b_se b_re u_bk u_va u_su u_ce u_ho u_wy u_bt u_ps b_pt u_tg u_sn b_ip u_ic b_ah b_be b_me u_wd b_tr b_ld u_st b_wn u_id))] s.heap.size = A at hD hT ⊢
  have hA : ∀ q : Nat, s.heap.size ≤ q → A q := fun q h => by rw [← hAe]; exact Or.inr h
  have hS : va_S A s.heap s.heap [] := va_S.rf
  have hP : va_P G.1 vwCl [(b_o, (oc12 u_th u_sa b_rf b_ro b_im b_ke u_fd b_tp u_td u_fr u_to u_so u_wo u_fa u_bd u_nc b_nl u_co b_op b_ar u_le b_pi b_pa u_pd u_od b_ws b_hw u_la b_se b_re u_bk u_va u_su u_ce u_ho u_wy u_bt u_ps b_pt u_tg u_sn b_ip u_ic b_ah b_be b_me u_wd b_tr b_ld u_st b_wn u_id))] s.heap := hP
  have hl := lv_entry ([.ref b_o, .int 40]) (n := 2) (Nat.le_of_ble_eq_true rfl)
  rw [lg_entry_eq]
  generalize (lg_sl ([.ref b_o, .int 40]) ++ List.replicate (2 - (lg_sl ([.ref b_o, .int 40])).length) Slot.unset).toArray = ls at hl ⊢
  have hl : lv_has ls 2 [(0, .ref b_o), (1, .int 40)] := hl
  refine lv_aload_n hx hb dX12_isSign_0 rfl (lv_at hl 0 rfl) ?_
  refine va_get (D := G.1) (ci := 12) (v := .int u_so) (C := RX12) (T := TX12) (N := 52) hx hb hts inG_X12 hown hK hP 0 rfl rfl 11 (by decide) (hts _ fl_X12_224) (fun _ h9 => h9) rfl dX12_isSign_1 ?_
  refine lv_iconst (v := 3) hx hb dX12_isSign_4 (by decide) ?_
  refine lv_icmp_ne (tgt := 22) hx hb dX12_isSign_5 (by decide) (fun c_1 => ?_) (fun c_1 => ?_)
  ·
    have n_1 : gNe (u_so.toInt) (3) := by have z := g5_ne (a := u_so.toInt) (b := 3) (by rfl) (by decide) c_1; unfold gNe; omega
    refine lv_iconst (v := 0) hx hb dX12_isSign_22 (by decide) ?_
    exact W.zret (v := 0) hx hb hr rfl (fun t ht hW => ⟨⟨0, [(b_o, (oc12 u_th u_sa b_rf b_ro b_im b_ke u_fd b_tp u_td u_fr u_to u_so u_wo u_fa u_bd u_nc b_nl u_co b_op b_ar u_le b_pi b_pa u_pd u_od b_ws b_hw u_la b_se b_re u_bk u_va u_su u_ce u_ho u_wy u_bt u_ps b_pt u_tg u_sn b_ip u_ic b_ah b_be b_me u_wd b_tr b_ld u_st b_wn u_id))], rfl, Or.inr (⟨fun q9 => by first | omega | (unfold gNe at *; omega), rfl, rfl⟩), by rw [ht]; exact hP.sub [0] rfl, hD.sub [0] (by decide) rfl⟩, hS.F ht⟩) hS.2.2 dX12_isSign_23
  ·
    have i_1 : u_so.toInt = 3 := by have z := g5_neN (a := u_so.toInt) (b := 3) (by rfl) (by decide) c_1; omega
    refine lv_aload_n hx hb dX12_isSign_8 rfl (lv_at hl 0 rfl) ?_
    refine va_get (D := G.1) (ci := 12) (v := .long u_wo) (C := RX12) (T := TX12) (N := 52) hx hb hts inG_X12 hown hK hP 0 rfl rfl 12 (by decide) (hts _ fl_X12_214) (fun _ h9 => h9) rfl dX12_isSign_9 ?_
    refine lv_iload_n hx hb dX12_isSign_12 rfl (lv_at hl 1 rfl) ?_
    refine lv_i2l (v := 40) hx hb dX12_isSign_13 (by decide) ?_
    refine W.eq (g2 := F0 m 14 ls [.long 40, .long u_wo]) rfl ?_
    have tl_2 : (40 : Int64).toInt = 40 := (by decide)
    have tc_3 := g5_cmpI u_wo (40 : Int64)
    refine W.lcmp hx hb dX12_isSign_14 ?_
    refine lv_if_ne (tgt := 22) hx hb dX12_isSign_15 (by decide) (fun c_4 => ?_) (fun c_4 => ?_)
    ·
      have n_4 : gNe ((lg_cmp u_wo 40).toInt) (0) := by have z := g5_ne (a := (lg_cmp u_wo 40).toInt) (b := 0) (by rfl) (by decide) c_4; unfold gNe; omega
      refine lv_iconst (v := 0) hx hb dX12_isSign_22 (by decide) ?_
      exact W.zret (v := 0) hx hb hr rfl (fun t ht hW => ⟨⟨0, [(b_o, (oc12 u_th u_sa b_rf b_ro b_im b_ke u_fd b_tp u_td u_fr u_to u_so u_wo u_fa u_bd u_nc b_nl u_co b_op b_ar u_le b_pi b_pa u_pd u_od b_ws b_hw u_la b_se b_re u_bk u_va u_su u_ce u_ho u_wy u_bt u_ps b_pt u_tg u_sn b_ip u_ic b_ah b_be b_me u_wd b_tr b_ld u_st b_wn u_id))], rfl, Or.inr (⟨fun q9 => by first | omega | (unfold gNe at *; omega), rfl, rfl⟩), by rw [ht]; exact hP.sub [0] rfl, hD.sub [0] (by decide) rfl⟩, hS.F ht⟩) hS.2.2 dX12_isSign_23
    ·
      have i_4 : (lg_cmp u_wo 40).toInt = 0 := by have z := g5_neN (a := (lg_cmp u_wo 40).toInt) (b := 0) (by rfl) (by decide) c_4; omega
      refine lv_iconst (v := 1) hx hb dX12_isSign_18 (by decide) ?_
      refine lv_goto (tgt := 23) hx hb dX12_isSign_19 (by decide) ?_
      exact W.zret (v := 1) hx hb hr rfl (fun t ht hW => ⟨⟨1, [(b_o, (oc12 u_th u_sa b_rf b_ro b_im b_ke u_fd b_tp u_td u_fr u_to u_so u_wo u_fa u_bd u_nc b_nl u_co b_op b_ar u_le b_pi b_pa u_pd u_od b_ws b_hw u_la b_se b_re u_bk u_va u_su u_ce u_ho u_wy u_bt u_ps b_pt u_tg u_sn b_ip u_ic b_ah b_be b_me u_wd b_tr b_ld u_st b_wn u_id))], rfl, Or.inl (⟨⟨by omega, by omega⟩, rfl, rfl⟩), by rw [ht]; exact hP.sub [0] rfl, hD.sub [0] (by decide) rfl⟩, hS.F ht⟩) hS.2.2 dX12_isSign_23
set_option maxHeartbeats 4000000 in
set_option maxRecDepth 100000 in
theorem n_isSignX41 (l : Launch) (G : g5_G) (b_o b_rf b_ro b_im b_ke b_tp b_nl b_op b_ar b_pi b_pa b_ws b_hw b_se b_re b_pt b_ip b_ah b_be b_me b_tr b_ld b_wn : Nat) (sz : Nat) (u_th : Int32) (u_sa : Int32) (u_fd : Int32) (u_td : Int32) (u_fr : Int32) (u_to : Int32) (u_so : Int32) (u_fa : Int32) (u_bd : Int32) (u_nc : Int32) (u_co : Int32) (u_le : Int32) (u_pd : Int32) (u_od : Int32) (u_la : Int32) (u_bk : Int32) (u_ce : Int32) (u_ho : Int32) (u_wy : Int32) (u_bt : Int32) (u_ps : Int32) (u_tg : Int32) (u_sn : Int32) (u_ic : Int32) (u_wd : Int32) (u_id : Int32) (u_wo : Int64) (u_va : Int64) (u_su : Int64) (u_st : Int64) (h_u_td : 0 ≤ u_td.toInt ∧ u_td.toInt ≤ 400) (h_u_fr : 0 ≤ u_fr.toInt ∧ u_fr.toInt ≤ 400) (h_u_to : 0 ≤ u_to.toInt ∧ u_to.toInt ≤ 400) (h_u_bd : 0 ≤ u_bd.toInt ∧ u_bd.toInt ≤ 1) (h_u_nc : 0 ≤ u_nc.toInt ∧ u_nc.toInt ≤ 12) (h_u_co : 0 ≤ u_co.toInt ∧ u_co.toInt ≤ 400) (h_u_pd : 0 ≤ u_pd.toInt ∧ u_pd.toInt ≤ 400) (h_u_la : 0 ≤ u_la.toInt ∧ u_la.toInt ≤ 4840) (h_u_bk : 0 ≤ u_bk.toInt ∧ u_bk.toInt ≤ 1) (h_u_ce : 0 ≤ u_ce.toInt ∧ u_ce.toInt ≤ 63) (h_u_ho : 0 ≤ u_ho.toInt ∧ u_ho.toInt ≤ 23) (h_u_wy : 0 ≤ u_wy.toInt ∧ u_wy.toInt ≤ 3) (h_u_bt : 0 ≤ u_bt.toInt ∧ u_bt.toInt ≤ 1000000) (h_u_ps : 0 ≤ u_ps.toInt ∧ u_ps.toInt ≤ 200) (h_u_ic : 0 ≤ u_ic.toInt ∧ u_ic.toInt ≤ 1) (h_u_id : 0 ≤ u_id.toInt ∧ u_id.toInt ≤ 1) : Met l yX12_isSign (wsG yX12_isSign cX12_isSign 2 (some .boolean)) ({ frames := 0, cells := 0, slots := 0, locals := 0 }) (va_Pc [.ref b_o, .int 41] (g5_P G [(b_o, (oc12 u_th u_sa b_rf b_ro b_im b_ke u_fd b_tp u_td u_fr u_to u_so u_wo u_fa u_bd u_nc b_nl u_co b_op b_ar u_le b_pi b_pa u_pd u_od b_ws b_hw u_la b_se b_re u_bk u_va u_su u_ce u_ho u_wy u_bt u_ps b_pt u_tg u_sn b_ip u_ic b_ah b_be b_me u_wd b_tr b_ld u_st b_wn u_id))] sz)) (va_Qi (fun (r : Int32) (u : va_W) => ((u_so.toInt = 3 ∧ u_wo.toInt = 41) ∧ (r = 1) ∧ (u = [(b_o, (oc12 u_th u_sa b_rf b_ro b_im b_ke u_fd b_tp u_td u_fr u_to u_so u_wo u_fa u_bd u_nc b_nl u_co b_op b_ar u_le b_pi b_pa u_pd u_od b_ws b_hw u_la b_se b_re u_bk u_va u_su u_ce u_ho u_wy u_bt u_ps b_pt u_tg u_sn b_ip u_ic b_ah b_be b_me u_wd b_tr b_ld u_st b_wn u_id))])) ∨ ((¬ (u_so.toInt = 3 ∧ u_wo.toInt = 41)) ∧ (r = 0) ∧ (u = [(b_o, (oc12 u_th u_sa b_rf b_ro b_im b_ke u_fd b_tp u_td u_fr u_to u_so u_wo u_fa u_bd u_nc b_nl u_co b_op b_ar u_le b_pi b_pa u_pd u_od b_ws b_hw u_la b_se b_re u_bk u_va u_su u_ce u_ho u_wy u_bt u_ps b_pt u_tg u_sn b_ip u_ic b_ah b_be b_me u_wd b_tr b_ld u_st b_wn u_id))]))) (g5_B G (va_A [(b_o, (oc12 u_th u_sa b_rf b_ro b_im b_ke u_fd b_tp u_td u_fr u_to u_so u_wo u_fa u_bd u_nc b_nl u_co b_op b_ar u_le b_pi b_pa u_pd u_od b_ws b_hw u_la b_se b_re u_bk u_va u_su u_ce u_ho u_wy u_bt u_ps b_pt u_tg u_sn b_ip u_ic b_ah b_be b_me u_wd b_tr b_ld u_st b_wn u_id))] sz)) (va_A [(b_o, (oc12 u_th u_sa b_rf b_ro b_im b_ke u_fd b_tp u_td u_fr u_to u_so u_wo u_fa u_bd u_nc b_nl u_co b_op b_ar u_le b_pi b_pa u_pd u_od b_ws b_hw u_la b_se b_re u_bk u_va u_su u_ce u_ho u_wy u_bt u_ps b_pt u_tg u_sn b_ip u_ic b_ah b_be b_me u_wd b_tr b_ld u_st b_wn u_id))] sz)) 0 0 (va_A [(b_o, (oc12 u_th u_sa b_rf b_ro b_im b_ke u_fd b_tp u_td u_fr u_to u_so u_wo u_fa u_bd u_nc b_nl u_co b_op b_ar u_le b_pi b_pa u_pd u_od b_ws b_hw u_la b_se b_re u_bk u_va u_su u_ce u_ho u_wy u_bt u_ps b_pt u_tg u_sn b_ip u_ic b_ah b_be b_me u_wd b_tr b_ld u_st b_wn u_id))] sz) := by
  refine Met.ofW (cc := cX12_isSign) (maxL := 2) (ret := (some .boolean)) (by decide) rfl ?_
  intro p e s m args below meth c s₁ B hml hv
  obtain ⟨rfl, hsz, hP, hK, hD0, hN, hT⟩ := hv
  have hx := B.exec
  have hb := B.bytes
  have hr := B.returns
  have hts : ∀ w ∈ tblG, w.before _ s = true := fun w h => atoms_spec (ws := (wsG yX12_isSign cX12_isSign 2 (some .boolean))) B.pre w (List.mem_cons_of_mem _ h)
  have hown : s.vm.findClass RX12 = some m.cls := findClass_of_methodNamed B.named
  have hlocks := B.notSynchronized
  subst hsz
  have hD := hD0.self (sz := s.heap.size)
  generalize hAe : va_A [(b_o, (oc12 u_th u_sa b_rf b_ro b_im b_ke u_fd b_tp u_td u_fr u_to u_so u_wo u_fa u_bd u_nc b_nl u_co b_op b_ar u_le b_pi b_pa u_pd u_od b_ws b_hw u_la b_se b_re u_bk u_va u_su u_ce u_ho u_wy u_bt u_ps b_pt u_tg u_sn b_ip u_ic b_ah b_be b_me u_wd b_tr b_ld u_st b_wn u_id))] s.heap.size = A at hD hT ⊢
  have hA : ∀ q : Nat, s.heap.size ≤ q → A q := fun q h => by rw [← hAe]; exact Or.inr h
  have hS : va_S A s.heap s.heap [] := va_S.rf
  have hP : va_P G.1 vwCl [(b_o, (oc12 u_th u_sa b_rf b_ro b_im b_ke u_fd b_tp u_td u_fr u_to u_so u_wo u_fa u_bd u_nc b_nl u_co b_op b_ar u_le b_pi b_pa u_pd u_od b_ws b_hw u_la b_se b_re u_bk u_va u_su u_ce u_ho u_wy u_bt u_ps b_pt u_tg u_sn b_ip u_ic b_ah b_be b_me u_wd b_tr b_ld u_st b_wn u_id))] s.heap := hP
  have hl := lv_entry ([.ref b_o, .int 41]) (n := 2) (Nat.le_of_ble_eq_true rfl)
  rw [lg_entry_eq]
  generalize (lg_sl ([.ref b_o, .int 41]) ++ List.replicate (2 - (lg_sl ([.ref b_o, .int 41])).length) Slot.unset).toArray = ls at hl ⊢
  have hl : lv_has ls 2 [(0, .ref b_o), (1, .int 41)] := hl
  refine lv_aload_n hx hb dX12_isSign_0 rfl (lv_at hl 0 rfl) ?_
  refine va_get (D := G.1) (ci := 12) (v := .int u_so) (C := RX12) (T := TX12) (N := 52) hx hb hts inG_X12 hown hK hP 0 rfl rfl 11 (by decide) (hts _ fl_X12_224) (fun _ h9 => h9) rfl dX12_isSign_1 ?_
  refine lv_iconst (v := 3) hx hb dX12_isSign_4 (by decide) ?_
  refine lv_icmp_ne (tgt := 22) hx hb dX12_isSign_5 (by decide) (fun c_1 => ?_) (fun c_1 => ?_)
  ·
    have n_1 : gNe (u_so.toInt) (3) := by have z := g5_ne (a := u_so.toInt) (b := 3) (by rfl) (by decide) c_1; unfold gNe; omega
    refine lv_iconst (v := 0) hx hb dX12_isSign_22 (by decide) ?_
    exact W.zret (v := 0) hx hb hr rfl (fun t ht hW => ⟨⟨0, [(b_o, (oc12 u_th u_sa b_rf b_ro b_im b_ke u_fd b_tp u_td u_fr u_to u_so u_wo u_fa u_bd u_nc b_nl u_co b_op b_ar u_le b_pi b_pa u_pd u_od b_ws b_hw u_la b_se b_re u_bk u_va u_su u_ce u_ho u_wy u_bt u_ps b_pt u_tg u_sn b_ip u_ic b_ah b_be b_me u_wd b_tr b_ld u_st b_wn u_id))], rfl, Or.inr (⟨fun q9 => by first | omega | (unfold gNe at *; omega), rfl, rfl⟩), by rw [ht]; exact hP.sub [0] rfl, hD.sub [0] (by decide) rfl⟩, hS.F ht⟩) hS.2.2 dX12_isSign_23
  ·
    have i_1 : u_so.toInt = 3 := by have z := g5_neN (a := u_so.toInt) (b := 3) (by rfl) (by decide) c_1; omega
    refine lv_aload_n hx hb dX12_isSign_8 rfl (lv_at hl 0 rfl) ?_
    refine va_get (D := G.1) (ci := 12) (v := .long u_wo) (C := RX12) (T := TX12) (N := 52) hx hb hts inG_X12 hown hK hP 0 rfl rfl 12 (by decide) (hts _ fl_X12_214) (fun _ h9 => h9) rfl dX12_isSign_9 ?_
    refine lv_iload_n hx hb dX12_isSign_12 rfl (lv_at hl 1 rfl) ?_
    refine lv_i2l (v := 41) hx hb dX12_isSign_13 (by decide) ?_
    refine W.eq (g2 := F0 m 14 ls [.long 41, .long u_wo]) rfl ?_
    have tl_2 : (41 : Int64).toInt = 41 := (by decide)
    have tc_3 := g5_cmpI u_wo (41 : Int64)
    refine W.lcmp hx hb dX12_isSign_14 ?_
    refine lv_if_ne (tgt := 22) hx hb dX12_isSign_15 (by decide) (fun c_4 => ?_) (fun c_4 => ?_)
    ·
      have n_4 : gNe ((lg_cmp u_wo 41).toInt) (0) := by have z := g5_ne (a := (lg_cmp u_wo 41).toInt) (b := 0) (by rfl) (by decide) c_4; unfold gNe; omega
      refine lv_iconst (v := 0) hx hb dX12_isSign_22 (by decide) ?_
      exact W.zret (v := 0) hx hb hr rfl (fun t ht hW => ⟨⟨0, [(b_o, (oc12 u_th u_sa b_rf b_ro b_im b_ke u_fd b_tp u_td u_fr u_to u_so u_wo u_fa u_bd u_nc b_nl u_co b_op b_ar u_le b_pi b_pa u_pd u_od b_ws b_hw u_la b_se b_re u_bk u_va u_su u_ce u_ho u_wy u_bt u_ps b_pt u_tg u_sn b_ip u_ic b_ah b_be b_me u_wd b_tr b_ld u_st b_wn u_id))], rfl, Or.inr (⟨fun q9 => by first | omega | (unfold gNe at *; omega), rfl, rfl⟩), by rw [ht]; exact hP.sub [0] rfl, hD.sub [0] (by decide) rfl⟩, hS.F ht⟩) hS.2.2 dX12_isSign_23
    ·
      have i_4 : (lg_cmp u_wo 41).toInt = 0 := by have z := g5_neN (a := (lg_cmp u_wo 41).toInt) (b := 0) (by rfl) (by decide) c_4; omega
      refine lv_iconst (v := 1) hx hb dX12_isSign_18 (by decide) ?_
      refine lv_goto (tgt := 23) hx hb dX12_isSign_19 (by decide) ?_
      exact W.zret (v := 1) hx hb hr rfl (fun t ht hW => ⟨⟨1, [(b_o, (oc12 u_th u_sa b_rf b_ro b_im b_ke u_fd b_tp u_td u_fr u_to u_so u_wo u_fa u_bd u_nc b_nl u_co b_op b_ar u_le b_pi b_pa u_pd u_od b_ws b_hw u_la b_se b_re u_bk u_va u_su u_ce u_ho u_wy u_bt u_ps b_pt u_tg u_sn b_ip u_ic b_ah b_be b_me u_wd b_tr b_ld u_st b_wn u_id))], rfl, Or.inl (⟨⟨by omega, by omega⟩, rfl, rfl⟩), by rw [ht]; exact hP.sub [0] rfl, hD.sub [0] (by decide) rfl⟩, hS.F ht⟩) hS.2.2 dX12_isSign_23
set_option maxHeartbeats 4000000 in
set_option maxRecDepth 100000 in
theorem n_isSignX43 (l : Launch) (G : g5_G) (b_o b_rf b_ro b_im b_ke b_tp b_nl b_op b_ar b_pi b_pa b_ws b_hw b_se b_re b_pt b_ip b_ah b_be b_me b_tr b_ld b_wn : Nat) (sz : Nat) (u_th : Int32) (u_sa : Int32) (u_fd : Int32) (u_td : Int32) (u_fr : Int32) (u_to : Int32) (u_so : Int32) (u_fa : Int32) (u_bd : Int32) (u_nc : Int32) (u_co : Int32) (u_le : Int32) (u_pd : Int32) (u_od : Int32) (u_la : Int32) (u_bk : Int32) (u_ce : Int32) (u_ho : Int32) (u_wy : Int32) (u_bt : Int32) (u_ps : Int32) (u_tg : Int32) (u_sn : Int32) (u_ic : Int32) (u_wd : Int32) (u_id : Int32) (u_wo : Int64) (u_va : Int64) (u_su : Int64) (u_st : Int64) (h_u_td : 0 ≤ u_td.toInt ∧ u_td.toInt ≤ 400) (h_u_fr : 0 ≤ u_fr.toInt ∧ u_fr.toInt ≤ 400) (h_u_to : 0 ≤ u_to.toInt ∧ u_to.toInt ≤ 400) (h_u_bd : 0 ≤ u_bd.toInt ∧ u_bd.toInt ≤ 1) (h_u_nc : 0 ≤ u_nc.toInt ∧ u_nc.toInt ≤ 12) (h_u_co : 0 ≤ u_co.toInt ∧ u_co.toInt ≤ 400) (h_u_pd : 0 ≤ u_pd.toInt ∧ u_pd.toInt ≤ 400) (h_u_la : 0 ≤ u_la.toInt ∧ u_la.toInt ≤ 4840) (h_u_bk : 0 ≤ u_bk.toInt ∧ u_bk.toInt ≤ 1) (h_u_ce : 0 ≤ u_ce.toInt ∧ u_ce.toInt ≤ 63) (h_u_ho : 0 ≤ u_ho.toInt ∧ u_ho.toInt ≤ 23) (h_u_wy : 0 ≤ u_wy.toInt ∧ u_wy.toInt ≤ 3) (h_u_bt : 0 ≤ u_bt.toInt ∧ u_bt.toInt ≤ 1000000) (h_u_ps : 0 ≤ u_ps.toInt ∧ u_ps.toInt ≤ 200) (h_u_ic : 0 ≤ u_ic.toInt ∧ u_ic.toInt ≤ 1) (h_u_id : 0 ≤ u_id.toInt ∧ u_id.toInt ≤ 1) : Met l yX12_isSign (wsG yX12_isSign cX12_isSign 2 (some .boolean)) ({ frames := 0, cells := 0, slots := 0, locals := 0 }) (va_Pc [.ref b_o, .int 43] (g5_P G [(b_o, (oc12 u_th u_sa b_rf b_ro b_im b_ke u_fd b_tp u_td u_fr u_to u_so u_wo u_fa u_bd u_nc b_nl u_co b_op b_ar u_le b_pi b_pa u_pd u_od b_ws b_hw u_la b_se b_re u_bk u_va u_su u_ce u_ho u_wy u_bt u_ps b_pt u_tg u_sn b_ip u_ic b_ah b_be b_me u_wd b_tr b_ld u_st b_wn u_id))] sz)) (va_Qi (fun (r : Int32) (u : va_W) => ((u_so.toInt = 3 ∧ u_wo.toInt = 43) ∧ (r = 1) ∧ (u = [(b_o, (oc12 u_th u_sa b_rf b_ro b_im b_ke u_fd b_tp u_td u_fr u_to u_so u_wo u_fa u_bd u_nc b_nl u_co b_op b_ar u_le b_pi b_pa u_pd u_od b_ws b_hw u_la b_se b_re u_bk u_va u_su u_ce u_ho u_wy u_bt u_ps b_pt u_tg u_sn b_ip u_ic b_ah b_be b_me u_wd b_tr b_ld u_st b_wn u_id))])) ∨ ((¬ (u_so.toInt = 3 ∧ u_wo.toInt = 43)) ∧ (r = 0) ∧ (u = [(b_o, (oc12 u_th u_sa b_rf b_ro b_im b_ke u_fd b_tp u_td u_fr u_to u_so u_wo u_fa u_bd u_nc b_nl u_co b_op b_ar u_le b_pi b_pa u_pd u_od b_ws b_hw u_la b_se b_re u_bk u_va u_su u_ce u_ho u_wy u_bt u_ps b_pt u_tg u_sn b_ip u_ic b_ah b_be b_me u_wd b_tr b_ld u_st b_wn u_id))]))) (g5_B G (va_A [(b_o, (oc12 u_th u_sa b_rf b_ro b_im b_ke u_fd b_tp u_td u_fr u_to u_so u_wo u_fa u_bd u_nc b_nl u_co b_op b_ar u_le b_pi b_pa u_pd u_od b_ws b_hw u_la b_se b_re u_bk u_va u_su u_ce u_ho u_wy u_bt u_ps b_pt u_tg u_sn b_ip u_ic b_ah b_be b_me u_wd b_tr b_ld u_st b_wn u_id))] sz)) (va_A [(b_o, (oc12 u_th u_sa b_rf b_ro b_im b_ke u_fd b_tp u_td u_fr u_to u_so u_wo u_fa u_bd u_nc b_nl u_co b_op b_ar u_le b_pi b_pa u_pd u_od b_ws b_hw u_la b_se b_re u_bk u_va u_su u_ce u_ho u_wy u_bt u_ps b_pt u_tg u_sn b_ip u_ic b_ah b_be b_me u_wd b_tr b_ld u_st b_wn u_id))] sz)) 0 0 (va_A [(b_o, (oc12 u_th u_sa b_rf b_ro b_im b_ke u_fd b_tp u_td u_fr u_to u_so u_wo u_fa u_bd u_nc b_nl u_co b_op b_ar u_le b_pi b_pa u_pd u_od b_ws b_hw u_la b_se b_re u_bk u_va u_su u_ce u_ho u_wy u_bt u_ps b_pt u_tg u_sn b_ip u_ic b_ah b_be b_me u_wd b_tr b_ld u_st b_wn u_id))] sz) := by
  refine Met.ofW (cc := cX12_isSign) (maxL := 2) (ret := (some .boolean)) (by decide) rfl ?_
  intro p e s m args below meth c s₁ B hml hv
  obtain ⟨rfl, hsz, hP, hK, hD0, hN, hT⟩ := hv
  have hx := B.exec
  have hb := B.bytes
  have hr := B.returns
  have hts : ∀ w ∈ tblG, w.before _ s = true := fun w h => atoms_spec (ws := (wsG yX12_isSign cX12_isSign 2 (some .boolean))) B.pre w (List.mem_cons_of_mem _ h)
  have hown : s.vm.findClass RX12 = some m.cls := findClass_of_methodNamed B.named
  have hlocks := B.notSynchronized
  subst hsz
  have hD := hD0.self (sz := s.heap.size)
  generalize hAe : va_A [(b_o, (oc12 u_th u_sa b_rf b_ro b_im b_ke u_fd b_tp u_td u_fr u_to u_so u_wo u_fa u_bd u_nc b_nl u_co b_op b_ar u_le b_pi b_pa u_pd u_od b_ws b_hw u_la b_se b_re u_bk u_va u_su u_ce u_ho u_wy u_bt u_ps b_pt u_tg u_sn b_ip u_ic b_ah b_be b_me u_wd b_tr b_ld u_st b_wn u_id))] s.heap.size = A at hD hT ⊢
  have hA : ∀ q : Nat, s.heap.size ≤ q → A q := fun q h => by rw [← hAe]; exact Or.inr h
  have hS : va_S A s.heap s.heap [] := va_S.rf
  have hP : va_P G.1 vwCl [(b_o, (oc12 u_th u_sa b_rf b_ro b_im b_ke u_fd b_tp u_td u_fr u_to u_so u_wo u_fa u_bd u_nc b_nl u_co b_op b_ar u_le b_pi b_pa u_pd u_od b_ws b_hw u_la b_se b_re u_bk u_va u_su u_ce u_ho u_wy u_bt u_ps b_pt u_tg u_sn b_ip u_ic b_ah b_be b_me u_wd b_tr b_ld u_st b_wn u_id))] s.heap := hP
  have hl := lv_entry ([.ref b_o, .int 43]) (n := 2) (Nat.le_of_ble_eq_true rfl)
  rw [lg_entry_eq]
  generalize (lg_sl ([.ref b_o, .int 43]) ++ List.replicate (2 - (lg_sl ([.ref b_o, .int 43])).length) Slot.unset).toArray = ls at hl ⊢
  have hl : lv_has ls 2 [(0, .ref b_o), (1, .int 43)] := hl
  refine lv_aload_n hx hb dX12_isSign_0 rfl (lv_at hl 0 rfl) ?_
  refine va_get (D := G.1) (ci := 12) (v := .int u_so) (C := RX12) (T := TX12) (N := 52) hx hb hts inG_X12 hown hK hP 0 rfl rfl 11 (by decide) (hts _ fl_X12_224) (fun _ h9 => h9) rfl dX12_isSign_1 ?_
  refine lv_iconst (v := 3) hx hb dX12_isSign_4 (by decide) ?_
  refine lv_icmp_ne (tgt := 22) hx hb dX12_isSign_5 (by decide) (fun c_1 => ?_) (fun c_1 => ?_)
  ·
    have n_1 : gNe (u_so.toInt) (3) := by have z := g5_ne (a := u_so.toInt) (b := 3) (by rfl) (by decide) c_1; unfold gNe; omega
    refine lv_iconst (v := 0) hx hb dX12_isSign_22 (by decide) ?_
    exact W.zret (v := 0) hx hb hr rfl (fun t ht hW => ⟨⟨0, [(b_o, (oc12 u_th u_sa b_rf b_ro b_im b_ke u_fd b_tp u_td u_fr u_to u_so u_wo u_fa u_bd u_nc b_nl u_co b_op b_ar u_le b_pi b_pa u_pd u_od b_ws b_hw u_la b_se b_re u_bk u_va u_su u_ce u_ho u_wy u_bt u_ps b_pt u_tg u_sn b_ip u_ic b_ah b_be b_me u_wd b_tr b_ld u_st b_wn u_id))], rfl, Or.inr (⟨fun q9 => by first | omega | (unfold gNe at *; omega), rfl, rfl⟩), by rw [ht]; exact hP.sub [0] rfl, hD.sub [0] (by decide) rfl⟩, hS.F ht⟩) hS.2.2 dX12_isSign_23
  ·
    have i_1 : u_so.toInt = 3 := by have z := g5_neN (a := u_so.toInt) (b := 3) (by rfl) (by decide) c_1; omega
    refine lv_aload_n hx hb dX12_isSign_8 rfl (lv_at hl 0 rfl) ?_
    refine va_get (D := G.1) (ci := 12) (v := .long u_wo) (C := RX12) (T := TX12) (N := 52) hx hb hts inG_X12 hown hK hP 0 rfl rfl 12 (by decide) (hts _ fl_X12_214) (fun _ h9 => h9) rfl dX12_isSign_9 ?_
    refine lv_iload_n hx hb dX12_isSign_12 rfl (lv_at hl 1 rfl) ?_
    refine lv_i2l (v := 43) hx hb dX12_isSign_13 (by decide) ?_
    refine W.eq (g2 := F0 m 14 ls [.long 43, .long u_wo]) rfl ?_
    have tl_2 : (43 : Int64).toInt = 43 := (by decide)
    have tc_3 := g5_cmpI u_wo (43 : Int64)
    refine W.lcmp hx hb dX12_isSign_14 ?_
    refine lv_if_ne (tgt := 22) hx hb dX12_isSign_15 (by decide) (fun c_4 => ?_) (fun c_4 => ?_)
    ·
      have n_4 : gNe ((lg_cmp u_wo 43).toInt) (0) := by have z := g5_ne (a := (lg_cmp u_wo 43).toInt) (b := 0) (by rfl) (by decide) c_4; unfold gNe; omega
      refine lv_iconst (v := 0) hx hb dX12_isSign_22 (by decide) ?_
      exact W.zret (v := 0) hx hb hr rfl (fun t ht hW => ⟨⟨0, [(b_o, (oc12 u_th u_sa b_rf b_ro b_im b_ke u_fd b_tp u_td u_fr u_to u_so u_wo u_fa u_bd u_nc b_nl u_co b_op b_ar u_le b_pi b_pa u_pd u_od b_ws b_hw u_la b_se b_re u_bk u_va u_su u_ce u_ho u_wy u_bt u_ps b_pt u_tg u_sn b_ip u_ic b_ah b_be b_me u_wd b_tr b_ld u_st b_wn u_id))], rfl, Or.inr (⟨fun q9 => by first | omega | (unfold gNe at *; omega), rfl, rfl⟩), by rw [ht]; exact hP.sub [0] rfl, hD.sub [0] (by decide) rfl⟩, hS.F ht⟩) hS.2.2 dX12_isSign_23
    ·
      have i_4 : (lg_cmp u_wo 43).toInt = 0 := by have z := g5_neN (a := (lg_cmp u_wo 43).toInt) (b := 0) (by rfl) (by decide) c_4; omega
      refine lv_iconst (v := 1) hx hb dX12_isSign_18 (by decide) ?_
      refine lv_goto (tgt := 23) hx hb dX12_isSign_19 (by decide) ?_
      exact W.zret (v := 1) hx hb hr rfl (fun t ht hW => ⟨⟨1, [(b_o, (oc12 u_th u_sa b_rf b_ro b_im b_ke u_fd b_tp u_td u_fr u_to u_so u_wo u_fa u_bd u_nc b_nl u_co b_op b_ar u_le b_pi b_pa u_pd u_od b_ws b_hw u_la b_se b_re u_bk u_va u_su u_ce u_ho u_wy u_bt u_ps b_pt u_tg u_sn b_ip u_ic b_ah b_be b_me u_wd b_tr b_ld u_st b_wn u_id))], rfl, Or.inl (⟨⟨by omega, by omega⟩, rfl, rfl⟩), by rw [ht]; exact hP.sub [0] rfl, hD.sub [0] (by decide) rfl⟩, hS.F ht⟩) hS.2.2 dX12_isSign_23
set_option maxHeartbeats 4000000 in
set_option maxRecDepth 100000 in
theorem n_isSignX45 (l : Launch) (G : g5_G) (b_o b_rf b_ro b_im b_ke b_tp b_nl b_op b_ar b_pi b_pa b_ws b_hw b_se b_re b_pt b_ip b_ah b_be b_me b_tr b_ld b_wn : Nat) (sz : Nat) (u_th : Int32) (u_sa : Int32) (u_fd : Int32) (u_td : Int32) (u_fr : Int32) (u_to : Int32) (u_so : Int32) (u_fa : Int32) (u_bd : Int32) (u_nc : Int32) (u_co : Int32) (u_le : Int32) (u_pd : Int32) (u_od : Int32) (u_la : Int32) (u_bk : Int32) (u_ce : Int32) (u_ho : Int32) (u_wy : Int32) (u_bt : Int32) (u_ps : Int32) (u_tg : Int32) (u_sn : Int32) (u_ic : Int32) (u_wd : Int32) (u_id : Int32) (u_wo : Int64) (u_va : Int64) (u_su : Int64) (u_st : Int64) (h_u_td : 0 ≤ u_td.toInt ∧ u_td.toInt ≤ 400) (h_u_fr : 0 ≤ u_fr.toInt ∧ u_fr.toInt ≤ 400) (h_u_to : 0 ≤ u_to.toInt ∧ u_to.toInt ≤ 400) (h_u_bd : 0 ≤ u_bd.toInt ∧ u_bd.toInt ≤ 1) (h_u_nc : 0 ≤ u_nc.toInt ∧ u_nc.toInt ≤ 12) (h_u_co : 0 ≤ u_co.toInt ∧ u_co.toInt ≤ 400) (h_u_pd : 0 ≤ u_pd.toInt ∧ u_pd.toInt ≤ 400) (h_u_la : 0 ≤ u_la.toInt ∧ u_la.toInt ≤ 4840) (h_u_bk : 0 ≤ u_bk.toInt ∧ u_bk.toInt ≤ 1) (h_u_ce : 0 ≤ u_ce.toInt ∧ u_ce.toInt ≤ 63) (h_u_ho : 0 ≤ u_ho.toInt ∧ u_ho.toInt ≤ 23) (h_u_wy : 0 ≤ u_wy.toInt ∧ u_wy.toInt ≤ 3) (h_u_bt : 0 ≤ u_bt.toInt ∧ u_bt.toInt ≤ 1000000) (h_u_ps : 0 ≤ u_ps.toInt ∧ u_ps.toInt ≤ 200) (h_u_ic : 0 ≤ u_ic.toInt ∧ u_ic.toInt ≤ 1) (h_u_id : 0 ≤ u_id.toInt ∧ u_id.toInt ≤ 1) : Met l yX12_isSign (wsG yX12_isSign cX12_isSign 2 (some .boolean)) ({ frames := 0, cells := 0, slots := 0, locals := 0 }) (va_Pc [.ref b_o, .int 45] (g5_P G [(b_o, (oc12 u_th u_sa b_rf b_ro b_im b_ke u_fd b_tp u_td u_fr u_to u_so u_wo u_fa u_bd u_nc b_nl u_co b_op b_ar u_le b_pi b_pa u_pd u_od b_ws b_hw u_la b_se b_re u_bk u_va u_su u_ce u_ho u_wy u_bt u_ps b_pt u_tg u_sn b_ip u_ic b_ah b_be b_me u_wd b_tr b_ld u_st b_wn u_id))] sz)) (va_Qi (fun (r : Int32) (u : va_W) => ((u_so.toInt = 3 ∧ u_wo.toInt = 45) ∧ (r = 1) ∧ (u = [(b_o, (oc12 u_th u_sa b_rf b_ro b_im b_ke u_fd b_tp u_td u_fr u_to u_so u_wo u_fa u_bd u_nc b_nl u_co b_op b_ar u_le b_pi b_pa u_pd u_od b_ws b_hw u_la b_se b_re u_bk u_va u_su u_ce u_ho u_wy u_bt u_ps b_pt u_tg u_sn b_ip u_ic b_ah b_be b_me u_wd b_tr b_ld u_st b_wn u_id))])) ∨ ((¬ (u_so.toInt = 3 ∧ u_wo.toInt = 45)) ∧ (r = 0) ∧ (u = [(b_o, (oc12 u_th u_sa b_rf b_ro b_im b_ke u_fd b_tp u_td u_fr u_to u_so u_wo u_fa u_bd u_nc b_nl u_co b_op b_ar u_le b_pi b_pa u_pd u_od b_ws b_hw u_la b_se b_re u_bk u_va u_su u_ce u_ho u_wy u_bt u_ps b_pt u_tg u_sn b_ip u_ic b_ah b_be b_me u_wd b_tr b_ld u_st b_wn u_id))]))) (g5_B G (va_A [(b_o, (oc12 u_th u_sa b_rf b_ro b_im b_ke u_fd b_tp u_td u_fr u_to u_so u_wo u_fa u_bd u_nc b_nl u_co b_op b_ar u_le b_pi b_pa u_pd u_od b_ws b_hw u_la b_se b_re u_bk u_va u_su u_ce u_ho u_wy u_bt u_ps b_pt u_tg u_sn b_ip u_ic b_ah b_be b_me u_wd b_tr b_ld u_st b_wn u_id))] sz)) (va_A [(b_o, (oc12 u_th u_sa b_rf b_ro b_im b_ke u_fd b_tp u_td u_fr u_to u_so u_wo u_fa u_bd u_nc b_nl u_co b_op b_ar u_le b_pi b_pa u_pd u_od b_ws b_hw u_la b_se b_re u_bk u_va u_su u_ce u_ho u_wy u_bt u_ps b_pt u_tg u_sn b_ip u_ic b_ah b_be b_me u_wd b_tr b_ld u_st b_wn u_id))] sz)) 0 0 (va_A [(b_o, (oc12 u_th u_sa b_rf b_ro b_im b_ke u_fd b_tp u_td u_fr u_to u_so u_wo u_fa u_bd u_nc b_nl u_co b_op b_ar u_le b_pi b_pa u_pd u_od b_ws b_hw u_la b_se b_re u_bk u_va u_su u_ce u_ho u_wy u_bt u_ps b_pt u_tg u_sn b_ip u_ic b_ah b_be b_me u_wd b_tr b_ld u_st b_wn u_id))] sz) := by
  refine Met.ofW (cc := cX12_isSign) (maxL := 2) (ret := (some .boolean)) (by decide) rfl ?_
  intro p e s m args below meth c s₁ B hml hv
  obtain ⟨rfl, hsz, hP, hK, hD0, hN, hT⟩ := hv
  have hx := B.exec
  have hb := B.bytes
  have hr := B.returns
  have hts : ∀ w ∈ tblG, w.before _ s = true := fun w h => atoms_spec (ws := (wsG yX12_isSign cX12_isSign 2 (some .boolean))) B.pre w (List.mem_cons_of_mem _ h)
  have hown : s.vm.findClass RX12 = some m.cls := findClass_of_methodNamed B.named
  have hlocks := B.notSynchronized
  subst hsz
  have hD := hD0.self (sz := s.heap.size)
  generalize hAe : va_A [(b_o, (oc12 u_th u_sa b_rf b_ro b_im b_ke u_fd b_tp u_td u_fr u_to u_so u_wo u_fa u_bd u_nc b_nl u_co b_op b_ar u_le b_pi b_pa u_pd u_od b_ws b_hw u_la b_se b_re u_bk u_va u_su u_ce u_ho u_wy u_bt u_ps b_pt u_tg u_sn b_ip u_ic b_ah b_be b_me u_wd b_tr b_ld u_st b_wn u_id))] s.heap.size = A at hD hT ⊢
  have hA : ∀ q : Nat, s.heap.size ≤ q → A q := fun q h => by rw [← hAe]; exact Or.inr h
  have hS : va_S A s.heap s.heap [] := va_S.rf
  have hP : va_P G.1 vwCl [(b_o, (oc12 u_th u_sa b_rf b_ro b_im b_ke u_fd b_tp u_td u_fr u_to u_so u_wo u_fa u_bd u_nc b_nl u_co b_op b_ar u_le b_pi b_pa u_pd u_od b_ws b_hw u_la b_se b_re u_bk u_va u_su u_ce u_ho u_wy u_bt u_ps b_pt u_tg u_sn b_ip u_ic b_ah b_be b_me u_wd b_tr b_ld u_st b_wn u_id))] s.heap := hP
  have hl := lv_entry ([.ref b_o, .int 45]) (n := 2) (Nat.le_of_ble_eq_true rfl)
  rw [lg_entry_eq]
  generalize (lg_sl ([.ref b_o, .int 45]) ++ List.replicate (2 - (lg_sl ([.ref b_o, .int 45])).length) Slot.unset).toArray = ls at hl ⊢
  have hl : lv_has ls 2 [(0, .ref b_o), (1, .int 45)] := hl
  refine lv_aload_n hx hb dX12_isSign_0 rfl (lv_at hl 0 rfl) ?_
  refine va_get (D := G.1) (ci := 12) (v := .int u_so) (C := RX12) (T := TX12) (N := 52) hx hb hts inG_X12 hown hK hP 0 rfl rfl 11 (by decide) (hts _ fl_X12_224) (fun _ h9 => h9) rfl dX12_isSign_1 ?_
  refine lv_iconst (v := 3) hx hb dX12_isSign_4 (by decide) ?_
  refine lv_icmp_ne (tgt := 22) hx hb dX12_isSign_5 (by decide) (fun c_1 => ?_) (fun c_1 => ?_)
  ·
    have n_1 : gNe (u_so.toInt) (3) := by have z := g5_ne (a := u_so.toInt) (b := 3) (by rfl) (by decide) c_1; unfold gNe; omega
    refine lv_iconst (v := 0) hx hb dX12_isSign_22 (by decide) ?_
    exact W.zret (v := 0) hx hb hr rfl (fun t ht hW => ⟨⟨0, [(b_o, (oc12 u_th u_sa b_rf b_ro b_im b_ke u_fd b_tp u_td u_fr u_to u_so u_wo u_fa u_bd u_nc b_nl u_co b_op b_ar u_le b_pi b_pa u_pd u_od b_ws b_hw u_la b_se b_re u_bk u_va u_su u_ce u_ho u_wy u_bt u_ps b_pt u_tg u_sn b_ip u_ic b_ah b_be b_me u_wd b_tr b_ld u_st b_wn u_id))], rfl, Or.inr (⟨fun q9 => by first | omega | (unfold gNe at *; omega), rfl, rfl⟩), by rw [ht]; exact hP.sub [0] rfl, hD.sub [0] (by decide) rfl⟩, hS.F ht⟩) hS.2.2 dX12_isSign_23
  ·
    have i_1 : u_so.toInt = 3 := by have z := g5_neN (a := u_so.toInt) (b := 3) (by rfl) (by decide) c_1; omega
    refine lv_aload_n hx hb dX12_isSign_8 rfl (lv_at hl 0 rfl) ?_
    refine va_get (D := G.1) (ci := 12) (v := .long u_wo) (C := RX12) (T := TX12) (N := 52) hx hb hts inG_X12 hown hK hP 0 rfl rfl 12 (by decide) (hts _ fl_X12_214) (fun _ h9 => h9) rfl dX12_isSign_9 ?_
    refine lv_iload_n hx hb dX12_isSign_12 rfl (lv_at hl 1 rfl) ?_
    refine lv_i2l (v := 45) hx hb dX12_isSign_13 (by decide) ?_
    refine W.eq (g2 := F0 m 14 ls [.long 45, .long u_wo]) rfl ?_
    have tl_2 : (45 : Int64).toInt = 45 := (by decide)
    have tc_3 := g5_cmpI u_wo (45 : Int64)
    refine W.lcmp hx hb dX12_isSign_14 ?_
    refine lv_if_ne (tgt := 22) hx hb dX12_isSign_15 (by decide) (fun c_4 => ?_) (fun c_4 => ?_)
    ·
      have n_4 : gNe ((lg_cmp u_wo 45).toInt) (0) := by have z := g5_ne (a := (lg_cmp u_wo 45).toInt) (b := 0) (by rfl) (by decide) c_4; unfold gNe; omega
      refine lv_iconst (v := 0) hx hb dX12_isSign_22 (by decide) ?_
      exact W.zret (v := 0) hx hb hr rfl (fun t ht hW => ⟨⟨0, [(b_o, (oc12 u_th u_sa b_rf b_ro b_im b_ke u_fd b_tp u_td u_fr u_to u_so u_wo u_fa u_bd u_nc b_nl u_co b_op b_ar u_le b_pi b_pa u_pd u_od b_ws b_hw u_la b_se b_re u_bk u_va u_su u_ce u_ho u_wy u_bt u_ps b_pt u_tg u_sn b_ip u_ic b_ah b_be b_me u_wd b_tr b_ld u_st b_wn u_id))], rfl, Or.inr (⟨fun q9 => by first | omega | (unfold gNe at *; omega), rfl, rfl⟩), by rw [ht]; exact hP.sub [0] rfl, hD.sub [0] (by decide) rfl⟩, hS.F ht⟩) hS.2.2 dX12_isSign_23
    ·
      have i_4 : (lg_cmp u_wo 45).toInt = 0 := by have z := g5_neN (a := (lg_cmp u_wo 45).toInt) (b := 0) (by rfl) (by decide) c_4; omega
      refine lv_iconst (v := 1) hx hb dX12_isSign_18 (by decide) ?_
      refine lv_goto (tgt := 23) hx hb dX12_isSign_19 (by decide) ?_
      exact W.zret (v := 1) hx hb hr rfl (fun t ht hW => ⟨⟨1, [(b_o, (oc12 u_th u_sa b_rf b_ro b_im b_ke u_fd b_tp u_td u_fr u_to u_so u_wo u_fa u_bd u_nc b_nl u_co b_op b_ar u_le b_pi b_pa u_pd u_od b_ws b_hw u_la b_se b_re u_bk u_va u_su u_ce u_ho u_wy u_bt u_ps b_pt u_tg u_sn b_ip u_ic b_ah b_be b_me u_wd b_tr b_ld u_st b_wn u_id))], rfl, Or.inl (⟨⟨by omega, by omega⟩, rfl, rfl⟩), by rw [ht]; exact hP.sub [0] rfl, hD.sub [0] (by decide) rfl⟩, hS.F ht⟩) hS.2.2 dX12_isSign_23
set_option maxHeartbeats 4000000 in
set_option maxRecDepth 100000 in
theorem n_isSignX42 (l : Launch) (G : g5_G) (b_o b_rf b_ro b_im b_ke b_tp b_nl b_op b_ar b_pi b_pa b_ws b_hw b_se b_re b_pt b_ip b_ah b_be b_me b_tr b_ld b_wn : Nat) (sz : Nat) (u_th : Int32) (u_sa : Int32) (u_fd : Int32) (u_td : Int32) (u_fr : Int32) (u_to : Int32) (u_so : Int32) (u_fa : Int32) (u_bd : Int32) (u_nc : Int32) (u_co : Int32) (u_le : Int32) (u_pd : Int32) (u_od : Int32) (u_la : Int32) (u_bk : Int32) (u_ce : Int32) (u_ho : Int32) (u_wy : Int32) (u_bt : Int32) (u_ps : Int32) (u_tg : Int32) (u_sn : Int32) (u_ic : Int32) (u_wd : Int32) (u_id : Int32) (u_wo : Int64) (u_va : Int64) (u_su : Int64) (u_st : Int64) (h_u_td : 0 ≤ u_td.toInt ∧ u_td.toInt ≤ 400) (h_u_fr : 0 ≤ u_fr.toInt ∧ u_fr.toInt ≤ 400) (h_u_to : 0 ≤ u_to.toInt ∧ u_to.toInt ≤ 400) (h_u_bd : 0 ≤ u_bd.toInt ∧ u_bd.toInt ≤ 1) (h_u_nc : 0 ≤ u_nc.toInt ∧ u_nc.toInt ≤ 12) (h_u_co : 0 ≤ u_co.toInt ∧ u_co.toInt ≤ 400) (h_u_pd : 0 ≤ u_pd.toInt ∧ u_pd.toInt ≤ 400) (h_u_la : 0 ≤ u_la.toInt ∧ u_la.toInt ≤ 4840) (h_u_bk : 0 ≤ u_bk.toInt ∧ u_bk.toInt ≤ 1) (h_u_ce : 0 ≤ u_ce.toInt ∧ u_ce.toInt ≤ 63) (h_u_ho : 0 ≤ u_ho.toInt ∧ u_ho.toInt ≤ 23) (h_u_wy : 0 ≤ u_wy.toInt ∧ u_wy.toInt ≤ 3) (h_u_bt : 0 ≤ u_bt.toInt ∧ u_bt.toInt ≤ 1000000) (h_u_ps : 0 ≤ u_ps.toInt ∧ u_ps.toInt ≤ 200) (h_u_ic : 0 ≤ u_ic.toInt ∧ u_ic.toInt ≤ 1) (h_u_id : 0 ≤ u_id.toInt ∧ u_id.toInt ≤ 1) : Met l yX12_isSign (wsG yX12_isSign cX12_isSign 2 (some .boolean)) ({ frames := 0, cells := 0, slots := 0, locals := 0 }) (va_Pc [.ref b_o, .int 42] (g5_P G [(b_o, (oc12 u_th u_sa b_rf b_ro b_im b_ke u_fd b_tp u_td u_fr u_to u_so u_wo u_fa u_bd u_nc b_nl u_co b_op b_ar u_le b_pi b_pa u_pd u_od b_ws b_hw u_la b_se b_re u_bk u_va u_su u_ce u_ho u_wy u_bt u_ps b_pt u_tg u_sn b_ip u_ic b_ah b_be b_me u_wd b_tr b_ld u_st b_wn u_id))] sz)) (va_Qi (fun (r : Int32) (u : va_W) => ((u_so.toInt = 3 ∧ u_wo.toInt = 42) ∧ (r = 1) ∧ (u = [(b_o, (oc12 u_th u_sa b_rf b_ro b_im b_ke u_fd b_tp u_td u_fr u_to u_so u_wo u_fa u_bd u_nc b_nl u_co b_op b_ar u_le b_pi b_pa u_pd u_od b_ws b_hw u_la b_se b_re u_bk u_va u_su u_ce u_ho u_wy u_bt u_ps b_pt u_tg u_sn b_ip u_ic b_ah b_be b_me u_wd b_tr b_ld u_st b_wn u_id))])) ∨ ((¬ (u_so.toInt = 3 ∧ u_wo.toInt = 42)) ∧ (r = 0) ∧ (u = [(b_o, (oc12 u_th u_sa b_rf b_ro b_im b_ke u_fd b_tp u_td u_fr u_to u_so u_wo u_fa u_bd u_nc b_nl u_co b_op b_ar u_le b_pi b_pa u_pd u_od b_ws b_hw u_la b_se b_re u_bk u_va u_su u_ce u_ho u_wy u_bt u_ps b_pt u_tg u_sn b_ip u_ic b_ah b_be b_me u_wd b_tr b_ld u_st b_wn u_id))]))) (g5_B G (va_A [(b_o, (oc12 u_th u_sa b_rf b_ro b_im b_ke u_fd b_tp u_td u_fr u_to u_so u_wo u_fa u_bd u_nc b_nl u_co b_op b_ar u_le b_pi b_pa u_pd u_od b_ws b_hw u_la b_se b_re u_bk u_va u_su u_ce u_ho u_wy u_bt u_ps b_pt u_tg u_sn b_ip u_ic b_ah b_be b_me u_wd b_tr b_ld u_st b_wn u_id))] sz)) (va_A [(b_o, (oc12 u_th u_sa b_rf b_ro b_im b_ke u_fd b_tp u_td u_fr u_to u_so u_wo u_fa u_bd u_nc b_nl u_co b_op b_ar u_le b_pi b_pa u_pd u_od b_ws b_hw u_la b_se b_re u_bk u_va u_su u_ce u_ho u_wy u_bt u_ps b_pt u_tg u_sn b_ip u_ic b_ah b_be b_me u_wd b_tr b_ld u_st b_wn u_id))] sz)) 0 0 (va_A [(b_o, (oc12 u_th u_sa b_rf b_ro b_im b_ke u_fd b_tp u_td u_fr u_to u_so u_wo u_fa u_bd u_nc b_nl u_co b_op b_ar u_le b_pi b_pa u_pd u_od b_ws b_hw u_la b_se b_re u_bk u_va u_su u_ce u_ho u_wy u_bt u_ps b_pt u_tg u_sn b_ip u_ic b_ah b_be b_me u_wd b_tr b_ld u_st b_wn u_id))] sz) := by
  refine Met.ofW (cc := cX12_isSign) (maxL := 2) (ret := (some .boolean)) (by decide) rfl ?_
  intro p e s m args below meth c s₁ B hml hv
  obtain ⟨rfl, hsz, hP, hK, hD0, hN, hT⟩ := hv
  have hx := B.exec
  have hb := B.bytes
  have hr := B.returns
  have hts : ∀ w ∈ tblG, w.before _ s = true := fun w h => atoms_spec (ws := (wsG yX12_isSign cX12_isSign 2 (some .boolean))) B.pre w (List.mem_cons_of_mem _ h)
  have hown : s.vm.findClass RX12 = some m.cls := findClass_of_methodNamed B.named
  have hlocks := B.notSynchronized
  subst hsz
  have hD := hD0.self (sz := s.heap.size)
  generalize hAe : va_A [(b_o, (oc12 u_th u_sa b_rf b_ro b_im b_ke u_fd b_tp u_td u_fr u_to u_so u_wo u_fa u_bd u_nc b_nl u_co b_op b_ar u_le b_pi b_pa u_pd u_od b_ws b_hw u_la b_se b_re u_bk u_va u_su u_ce u_ho u_wy u_bt u_ps b_pt u_tg u_sn b_ip u_ic b_ah b_be b_me u_wd b_tr b_ld u_st b_wn u_id))] s.heap.size = A at hD hT ⊢
  have hA : ∀ q : Nat, s.heap.size ≤ q → A q := fun q h => by rw [← hAe]; exact Or.inr h
  have hS : va_S A s.heap s.heap [] := va_S.rf
  have hP : va_P G.1 vwCl [(b_o, (oc12 u_th u_sa b_rf b_ro b_im b_ke u_fd b_tp u_td u_fr u_to u_so u_wo u_fa u_bd u_nc b_nl u_co b_op b_ar u_le b_pi b_pa u_pd u_od b_ws b_hw u_la b_se b_re u_bk u_va u_su u_ce u_ho u_wy u_bt u_ps b_pt u_tg u_sn b_ip u_ic b_ah b_be b_me u_wd b_tr b_ld u_st b_wn u_id))] s.heap := hP
  have hl := lv_entry ([.ref b_o, .int 42]) (n := 2) (Nat.le_of_ble_eq_true rfl)
  rw [lg_entry_eq]
  generalize (lg_sl ([.ref b_o, .int 42]) ++ List.replicate (2 - (lg_sl ([.ref b_o, .int 42])).length) Slot.unset).toArray = ls at hl ⊢
  have hl : lv_has ls 2 [(0, .ref b_o), (1, .int 42)] := hl
  refine lv_aload_n hx hb dX12_isSign_0 rfl (lv_at hl 0 rfl) ?_
  refine va_get (D := G.1) (ci := 12) (v := .int u_so) (C := RX12) (T := TX12) (N := 52) hx hb hts inG_X12 hown hK hP 0 rfl rfl 11 (by decide) (hts _ fl_X12_224) (fun _ h9 => h9) rfl dX12_isSign_1 ?_
  refine lv_iconst (v := 3) hx hb dX12_isSign_4 (by decide) ?_
  refine lv_icmp_ne (tgt := 22) hx hb dX12_isSign_5 (by decide) (fun c_1 => ?_) (fun c_1 => ?_)
  ·
    have n_1 : gNe (u_so.toInt) (3) := by have z := g5_ne (a := u_so.toInt) (b := 3) (by rfl) (by decide) c_1; unfold gNe; omega
    refine lv_iconst (v := 0) hx hb dX12_isSign_22 (by decide) ?_
    exact W.zret (v := 0) hx hb hr rfl (fun t ht hW => ⟨⟨0, [(b_o, (oc12 u_th u_sa b_rf b_ro b_im b_ke u_fd b_tp u_td u_fr u_to u_so u_wo u_fa u_bd u_nc b_nl u_co b_op b_ar u_le b_pi b_pa u_pd u_od b_ws b_hw u_la b_se b_re u_bk u_va u_su u_ce u_ho u_wy u_bt u_ps b_pt u_tg u_sn b_ip u_ic b_ah b_be b_me u_wd b_tr b_ld u_st b_wn u_id))], rfl, Or.inr (⟨fun q9 => by first | omega | (unfold gNe at *; omega), rfl, rfl⟩), by rw [ht]; exact hP.sub [0] rfl, hD.sub [0] (by decide) rfl⟩, hS.F ht⟩) hS.2.2 dX12_isSign_23
  ·
    have i_1 : u_so.toInt = 3 := by have z := g5_neN (a := u_so.toInt) (b := 3) (by rfl) (by decide) c_1; omega
    refine lv_aload_n hx hb dX12_isSign_8 rfl (lv_at hl 0 rfl) ?_
    refine va_get (D := G.1) (ci := 12) (v := .long u_wo) (C := RX12) (T := TX12) (N := 52) hx hb hts inG_X12 hown hK hP 0 rfl rfl 12 (by decide) (hts _ fl_X12_214) (fun _ h9 => h9) rfl dX12_isSign_9 ?_
    refine lv_iload_n hx hb dX12_isSign_12 rfl (lv_at hl 1 rfl) ?_
    refine lv_i2l (v := 42) hx hb dX12_isSign_13 (by decide) ?_
    refine W.eq (g2 := F0 m 14 ls [.long 42, .long u_wo]) rfl ?_
    have tl_2 : (42 : Int64).toInt = 42 := (by decide)
    have tc_3 := g5_cmpI u_wo (42 : Int64)
    refine W.lcmp hx hb dX12_isSign_14 ?_
    refine lv_if_ne (tgt := 22) hx hb dX12_isSign_15 (by decide) (fun c_4 => ?_) (fun c_4 => ?_)
    ·
      have n_4 : gNe ((lg_cmp u_wo 42).toInt) (0) := by have z := g5_ne (a := (lg_cmp u_wo 42).toInt) (b := 0) (by rfl) (by decide) c_4; unfold gNe; omega
      refine lv_iconst (v := 0) hx hb dX12_isSign_22 (by decide) ?_
      exact W.zret (v := 0) hx hb hr rfl (fun t ht hW => ⟨⟨0, [(b_o, (oc12 u_th u_sa b_rf b_ro b_im b_ke u_fd b_tp u_td u_fr u_to u_so u_wo u_fa u_bd u_nc b_nl u_co b_op b_ar u_le b_pi b_pa u_pd u_od b_ws b_hw u_la b_se b_re u_bk u_va u_su u_ce u_ho u_wy u_bt u_ps b_pt u_tg u_sn b_ip u_ic b_ah b_be b_me u_wd b_tr b_ld u_st b_wn u_id))], rfl, Or.inr (⟨fun q9 => by first | omega | (unfold gNe at *; omega), rfl, rfl⟩), by rw [ht]; exact hP.sub [0] rfl, hD.sub [0] (by decide) rfl⟩, hS.F ht⟩) hS.2.2 dX12_isSign_23
    ·
      have i_4 : (lg_cmp u_wo 42).toInt = 0 := by have z := g5_neN (a := (lg_cmp u_wo 42).toInt) (b := 0) (by rfl) (by decide) c_4; omega
      refine lv_iconst (v := 1) hx hb dX12_isSign_18 (by decide) ?_
      refine lv_goto (tgt := 23) hx hb dX12_isSign_19 (by decide) ?_
      exact W.zret (v := 1) hx hb hr rfl (fun t ht hW => ⟨⟨1, [(b_o, (oc12 u_th u_sa b_rf b_ro b_im b_ke u_fd b_tp u_td u_fr u_to u_so u_wo u_fa u_bd u_nc b_nl u_co b_op b_ar u_le b_pi b_pa u_pd u_od b_ws b_hw u_la b_se b_re u_bk u_va u_su u_ce u_ho u_wy u_bt u_ps b_pt u_tg u_sn b_ip u_ic b_ah b_be b_me u_wd b_tr b_ld u_st b_wn u_id))], rfl, Or.inl (⟨⟨by omega, by omega⟩, rfl, rfl⟩), by rw [ht]; exact hP.sub [0] rfl, hD.sub [0] (by decide) rfl⟩, hS.F ht⟩) hS.2.2 dX12_isSign_23
set_option maxHeartbeats 4000000 in
set_option maxRecDepth 100000 in
theorem n_isSignX47 (l : Launch) (G : g5_G) (b_o b_rf b_ro b_im b_ke b_tp b_nl b_op b_ar b_pi b_pa b_ws b_hw b_se b_re b_pt b_ip b_ah b_be b_me b_tr b_ld b_wn : Nat) (sz : Nat) (u_th : Int32) (u_sa : Int32) (u_fd : Int32) (u_td : Int32) (u_fr : Int32) (u_to : Int32) (u_so : Int32) (u_fa : Int32) (u_bd : Int32) (u_nc : Int32) (u_co : Int32) (u_le : Int32) (u_pd : Int32) (u_od : Int32) (u_la : Int32) (u_bk : Int32) (u_ce : Int32) (u_ho : Int32) (u_wy : Int32) (u_bt : Int32) (u_ps : Int32) (u_tg : Int32) (u_sn : Int32) (u_ic : Int32) (u_wd : Int32) (u_id : Int32) (u_wo : Int64) (u_va : Int64) (u_su : Int64) (u_st : Int64) (h_u_td : 0 ≤ u_td.toInt ∧ u_td.toInt ≤ 400) (h_u_fr : 0 ≤ u_fr.toInt ∧ u_fr.toInt ≤ 400) (h_u_to : 0 ≤ u_to.toInt ∧ u_to.toInt ≤ 400) (h_u_bd : 0 ≤ u_bd.toInt ∧ u_bd.toInt ≤ 1) (h_u_nc : 0 ≤ u_nc.toInt ∧ u_nc.toInt ≤ 12) (h_u_co : 0 ≤ u_co.toInt ∧ u_co.toInt ≤ 400) (h_u_pd : 0 ≤ u_pd.toInt ∧ u_pd.toInt ≤ 400) (h_u_la : 0 ≤ u_la.toInt ∧ u_la.toInt ≤ 4840) (h_u_bk : 0 ≤ u_bk.toInt ∧ u_bk.toInt ≤ 1) (h_u_ce : 0 ≤ u_ce.toInt ∧ u_ce.toInt ≤ 63) (h_u_ho : 0 ≤ u_ho.toInt ∧ u_ho.toInt ≤ 23) (h_u_wy : 0 ≤ u_wy.toInt ∧ u_wy.toInt ≤ 3) (h_u_bt : 0 ≤ u_bt.toInt ∧ u_bt.toInt ≤ 1000000) (h_u_ps : 0 ≤ u_ps.toInt ∧ u_ps.toInt ≤ 200) (h_u_ic : 0 ≤ u_ic.toInt ∧ u_ic.toInt ≤ 1) (h_u_id : 0 ≤ u_id.toInt ∧ u_id.toInt ≤ 1) : Met l yX12_isSign (wsG yX12_isSign cX12_isSign 2 (some .boolean)) ({ frames := 0, cells := 0, slots := 0, locals := 0 }) (va_Pc [.ref b_o, .int 47] (g5_P G [(b_o, (oc12 u_th u_sa b_rf b_ro b_im b_ke u_fd b_tp u_td u_fr u_to u_so u_wo u_fa u_bd u_nc b_nl u_co b_op b_ar u_le b_pi b_pa u_pd u_od b_ws b_hw u_la b_se b_re u_bk u_va u_su u_ce u_ho u_wy u_bt u_ps b_pt u_tg u_sn b_ip u_ic b_ah b_be b_me u_wd b_tr b_ld u_st b_wn u_id))] sz)) (va_Qi (fun (r : Int32) (u : va_W) => ((u_so.toInt = 3 ∧ u_wo.toInt = 47) ∧ (r = 1) ∧ (u = [(b_o, (oc12 u_th u_sa b_rf b_ro b_im b_ke u_fd b_tp u_td u_fr u_to u_so u_wo u_fa u_bd u_nc b_nl u_co b_op b_ar u_le b_pi b_pa u_pd u_od b_ws b_hw u_la b_se b_re u_bk u_va u_su u_ce u_ho u_wy u_bt u_ps b_pt u_tg u_sn b_ip u_ic b_ah b_be b_me u_wd b_tr b_ld u_st b_wn u_id))])) ∨ ((¬ (u_so.toInt = 3 ∧ u_wo.toInt = 47)) ∧ (r = 0) ∧ (u = [(b_o, (oc12 u_th u_sa b_rf b_ro b_im b_ke u_fd b_tp u_td u_fr u_to u_so u_wo u_fa u_bd u_nc b_nl u_co b_op b_ar u_le b_pi b_pa u_pd u_od b_ws b_hw u_la b_se b_re u_bk u_va u_su u_ce u_ho u_wy u_bt u_ps b_pt u_tg u_sn b_ip u_ic b_ah b_be b_me u_wd b_tr b_ld u_st b_wn u_id))]))) (g5_B G (va_A [(b_o, (oc12 u_th u_sa b_rf b_ro b_im b_ke u_fd b_tp u_td u_fr u_to u_so u_wo u_fa u_bd u_nc b_nl u_co b_op b_ar u_le b_pi b_pa u_pd u_od b_ws b_hw u_la b_se b_re u_bk u_va u_su u_ce u_ho u_wy u_bt u_ps b_pt u_tg u_sn b_ip u_ic b_ah b_be b_me u_wd b_tr b_ld u_st b_wn u_id))] sz)) (va_A [(b_o, (oc12 u_th u_sa b_rf b_ro b_im b_ke u_fd b_tp u_td u_fr u_to u_so u_wo u_fa u_bd u_nc b_nl u_co b_op b_ar u_le b_pi b_pa u_pd u_od b_ws b_hw u_la b_se b_re u_bk u_va u_su u_ce u_ho u_wy u_bt u_ps b_pt u_tg u_sn b_ip u_ic b_ah b_be b_me u_wd b_tr b_ld u_st b_wn u_id))] sz)) 0 0 (va_A [(b_o, (oc12 u_th u_sa b_rf b_ro b_im b_ke u_fd b_tp u_td u_fr u_to u_so u_wo u_fa u_bd u_nc b_nl u_co b_op b_ar u_le b_pi b_pa u_pd u_od b_ws b_hw u_la b_se b_re u_bk u_va u_su u_ce u_ho u_wy u_bt u_ps b_pt u_tg u_sn b_ip u_ic b_ah b_be b_me u_wd b_tr b_ld u_st b_wn u_id))] sz) := by
  refine Met.ofW (cc := cX12_isSign) (maxL := 2) (ret := (some .boolean)) (by decide) rfl ?_
  intro p e s m args below meth c s₁ B hml hv
  obtain ⟨rfl, hsz, hP, hK, hD0, hN, hT⟩ := hv
  have hx := B.exec
  have hb := B.bytes
  have hr := B.returns
  have hts : ∀ w ∈ tblG, w.before _ s = true := fun w h => atoms_spec (ws := (wsG yX12_isSign cX12_isSign 2 (some .boolean))) B.pre w (List.mem_cons_of_mem _ h)
  have hown : s.vm.findClass RX12 = some m.cls := findClass_of_methodNamed B.named
  have hlocks := B.notSynchronized
  subst hsz
  have hD := hD0.self (sz := s.heap.size)
  generalize hAe : va_A [(b_o, (oc12 u_th u_sa b_rf b_ro b_im b_ke u_fd b_tp u_td u_fr u_to u_so u_wo u_fa u_bd u_nc b_nl u_co b_op b_ar u_le b_pi b_pa u_pd u_od b_ws b_hw u_la b_se b_re u_bk u_va u_su u_ce u_ho u_wy u_bt u_ps b_pt u_tg u_sn b_ip u_ic b_ah b_be b_me u_wd b_tr b_ld u_st b_wn u_id))] s.heap.size = A at hD hT ⊢
  have hA : ∀ q : Nat, s.heap.size ≤ q → A q := fun q h => by rw [← hAe]; exact Or.inr h
  have hS : va_S A s.heap s.heap [] := va_S.rf
  have hP : va_P G.1 vwCl [(b_o, (oc12 u_th u_sa b_rf b_ro b_im b_ke u_fd b_tp u_td u_fr u_to u_so u_wo u_fa u_bd u_nc b_nl u_co b_op b_ar u_le b_pi b_pa u_pd u_od b_ws b_hw u_la b_se b_re u_bk u_va u_su u_ce u_ho u_wy u_bt u_ps b_pt u_tg u_sn b_ip u_ic b_ah b_be b_me u_wd b_tr b_ld u_st b_wn u_id))] s.heap := hP
  have hl := lv_entry ([.ref b_o, .int 47]) (n := 2) (Nat.le_of_ble_eq_true rfl)
  rw [lg_entry_eq]
  generalize (lg_sl ([.ref b_o, .int 47]) ++ List.replicate (2 - (lg_sl ([.ref b_o, .int 47])).length) Slot.unset).toArray = ls at hl ⊢
  have hl : lv_has ls 2 [(0, .ref b_o), (1, .int 47)] := hl
  refine lv_aload_n hx hb dX12_isSign_0 rfl (lv_at hl 0 rfl) ?_
  refine va_get (D := G.1) (ci := 12) (v := .int u_so) (C := RX12) (T := TX12) (N := 52) hx hb hts inG_X12 hown hK hP 0 rfl rfl 11 (by decide) (hts _ fl_X12_224) (fun _ h9 => h9) rfl dX12_isSign_1 ?_
  refine lv_iconst (v := 3) hx hb dX12_isSign_4 (by decide) ?_
  refine lv_icmp_ne (tgt := 22) hx hb dX12_isSign_5 (by decide) (fun c_1 => ?_) (fun c_1 => ?_)
  ·
    have n_1 : gNe (u_so.toInt) (3) := by have z := g5_ne (a := u_so.toInt) (b := 3) (by rfl) (by decide) c_1; unfold gNe; omega
    refine lv_iconst (v := 0) hx hb dX12_isSign_22 (by decide) ?_
    exact W.zret (v := 0) hx hb hr rfl (fun t ht hW => ⟨⟨0, [(b_o, (oc12 u_th u_sa b_rf b_ro b_im b_ke u_fd b_tp u_td u_fr u_to u_so u_wo u_fa u_bd u_nc b_nl u_co b_op b_ar u_le b_pi b_pa u_pd u_od b_ws b_hw u_la b_se b_re u_bk u_va u_su u_ce u_ho u_wy u_bt u_ps b_pt u_tg u_sn b_ip u_ic b_ah b_be b_me u_wd b_tr b_ld u_st b_wn u_id))], rfl, Or.inr (⟨fun q9 => by first | omega | (unfold gNe at *; omega), rfl, rfl⟩), by rw [ht]; exact hP.sub [0] rfl, hD.sub [0] (by decide) rfl⟩, hS.F ht⟩) hS.2.2 dX12_isSign_23
  ·
    have i_1 : u_so.toInt = 3 := by have z := g5_neN (a := u_so.toInt) (b := 3) (by rfl) (by decide) c_1; omega
    refine lv_aload_n hx hb dX12_isSign_8 rfl (lv_at hl 0 rfl) ?_
    refine va_get (D := G.1) (ci := 12) (v := .long u_wo) (C := RX12) (T := TX12) (N := 52) hx hb hts inG_X12 hown hK hP 0 rfl rfl 12 (by decide) (hts _ fl_X12_214) (fun _ h9 => h9) rfl dX12_isSign_9 ?_
    refine lv_iload_n hx hb dX12_isSign_12 rfl (lv_at hl 1 rfl) ?_
    refine lv_i2l (v := 47) hx hb dX12_isSign_13 (by decide) ?_
    refine W.eq (g2 := F0 m 14 ls [.long 47, .long u_wo]) rfl ?_
    have tl_2 : (47 : Int64).toInt = 47 := (by decide)
    have tc_3 := g5_cmpI u_wo (47 : Int64)
    refine W.lcmp hx hb dX12_isSign_14 ?_
    refine lv_if_ne (tgt := 22) hx hb dX12_isSign_15 (by decide) (fun c_4 => ?_) (fun c_4 => ?_)
    ·
      have n_4 : gNe ((lg_cmp u_wo 47).toInt) (0) := by have z := g5_ne (a := (lg_cmp u_wo 47).toInt) (b := 0) (by rfl) (by decide) c_4; unfold gNe; omega
      refine lv_iconst (v := 0) hx hb dX12_isSign_22 (by decide) ?_
      exact W.zret (v := 0) hx hb hr rfl (fun t ht hW => ⟨⟨0, [(b_o, (oc12 u_th u_sa b_rf b_ro b_im b_ke u_fd b_tp u_td u_fr u_to u_so u_wo u_fa u_bd u_nc b_nl u_co b_op b_ar u_le b_pi b_pa u_pd u_od b_ws b_hw u_la b_se b_re u_bk u_va u_su u_ce u_ho u_wy u_bt u_ps b_pt u_tg u_sn b_ip u_ic b_ah b_be b_me u_wd b_tr b_ld u_st b_wn u_id))], rfl, Or.inr (⟨fun q9 => by first | omega | (unfold gNe at *; omega), rfl, rfl⟩), by rw [ht]; exact hP.sub [0] rfl, hD.sub [0] (by decide) rfl⟩, hS.F ht⟩) hS.2.2 dX12_isSign_23
    ·
      have i_4 : (lg_cmp u_wo 47).toInt = 0 := by have z := g5_neN (a := (lg_cmp u_wo 47).toInt) (b := 0) (by rfl) (by decide) c_4; omega
      refine lv_iconst (v := 1) hx hb dX12_isSign_18 (by decide) ?_
      refine lv_goto (tgt := 23) hx hb dX12_isSign_19 (by decide) ?_
      exact W.zret (v := 1) hx hb hr rfl (fun t ht hW => ⟨⟨1, [(b_o, (oc12 u_th u_sa b_rf b_ro b_im b_ke u_fd b_tp u_td u_fr u_to u_so u_wo u_fa u_bd u_nc b_nl u_co b_op b_ar u_le b_pi b_pa u_pd u_od b_ws b_hw u_la b_se b_re u_bk u_va u_su u_ce u_ho u_wy u_bt u_ps b_pt u_tg u_sn b_ip u_ic b_ah b_be b_me u_wd b_tr b_ld u_st b_wn u_id))], rfl, Or.inl (⟨⟨by omega, by omega⟩, rfl, rfl⟩), by rw [ht]; exact hP.sub [0] rfl, hD.sub [0] (by decide) rfl⟩, hS.F ht⟩) hS.2.2 dX12_isSign_23
set_option maxHeartbeats 4000000 in
set_option maxRecDepth 100000 in
theorem n_isSignX60 (l : Launch) (G : g5_G) (b_o b_rf b_ro b_im b_ke b_tp b_nl b_op b_ar b_pi b_pa b_ws b_hw b_se b_re b_pt b_ip b_ah b_be b_me b_tr b_ld b_wn : Nat) (sz : Nat) (u_th : Int32) (u_sa : Int32) (u_fd : Int32) (u_td : Int32) (u_fr : Int32) (u_to : Int32) (u_so : Int32) (u_fa : Int32) (u_bd : Int32) (u_nc : Int32) (u_co : Int32) (u_le : Int32) (u_pd : Int32) (u_od : Int32) (u_la : Int32) (u_bk : Int32) (u_ce : Int32) (u_ho : Int32) (u_wy : Int32) (u_bt : Int32) (u_ps : Int32) (u_tg : Int32) (u_sn : Int32) (u_ic : Int32) (u_wd : Int32) (u_id : Int32) (u_wo : Int64) (u_va : Int64) (u_su : Int64) (u_st : Int64) (h_u_td : 0 ≤ u_td.toInt ∧ u_td.toInt ≤ 400) (h_u_fr : 0 ≤ u_fr.toInt ∧ u_fr.toInt ≤ 400) (h_u_to : 0 ≤ u_to.toInt ∧ u_to.toInt ≤ 400) (h_u_bd : 0 ≤ u_bd.toInt ∧ u_bd.toInt ≤ 1) (h_u_nc : 0 ≤ u_nc.toInt ∧ u_nc.toInt ≤ 12) (h_u_co : 0 ≤ u_co.toInt ∧ u_co.toInt ≤ 400) (h_u_pd : 0 ≤ u_pd.toInt ∧ u_pd.toInt ≤ 400) (h_u_la : 0 ≤ u_la.toInt ∧ u_la.toInt ≤ 4840) (h_u_bk : 0 ≤ u_bk.toInt ∧ u_bk.toInt ≤ 1) (h_u_ce : 0 ≤ u_ce.toInt ∧ u_ce.toInt ≤ 63) (h_u_ho : 0 ≤ u_ho.toInt ∧ u_ho.toInt ≤ 23) (h_u_wy : 0 ≤ u_wy.toInt ∧ u_wy.toInt ≤ 3) (h_u_bt : 0 ≤ u_bt.toInt ∧ u_bt.toInt ≤ 1000000) (h_u_ps : 0 ≤ u_ps.toInt ∧ u_ps.toInt ≤ 200) (h_u_ic : 0 ≤ u_ic.toInt ∧ u_ic.toInt ≤ 1) (h_u_id : 0 ≤ u_id.toInt ∧ u_id.toInt ≤ 1) : Met l yX12_isSign (wsG yX12_isSign cX12_isSign 2 (some .boolean)) ({ frames := 0, cells := 0, slots := 0, locals := 0 }) (va_Pc [.ref b_o, .int 60] (g5_P G [(b_o, (oc12 u_th u_sa b_rf b_ro b_im b_ke u_fd b_tp u_td u_fr u_to u_so u_wo u_fa u_bd u_nc b_nl u_co b_op b_ar u_le b_pi b_pa u_pd u_od b_ws b_hw u_la b_se b_re u_bk u_va u_su u_ce u_ho u_wy u_bt u_ps b_pt u_tg u_sn b_ip u_ic b_ah b_be b_me u_wd b_tr b_ld u_st b_wn u_id))] sz)) (va_Qi (fun (r : Int32) (u : va_W) => ((u_so.toInt = 3 ∧ u_wo.toInt = 60) ∧ (r = 1) ∧ (u = [(b_o, (oc12 u_th u_sa b_rf b_ro b_im b_ke u_fd b_tp u_td u_fr u_to u_so u_wo u_fa u_bd u_nc b_nl u_co b_op b_ar u_le b_pi b_pa u_pd u_od b_ws b_hw u_la b_se b_re u_bk u_va u_su u_ce u_ho u_wy u_bt u_ps b_pt u_tg u_sn b_ip u_ic b_ah b_be b_me u_wd b_tr b_ld u_st b_wn u_id))])) ∨ ((¬ (u_so.toInt = 3 ∧ u_wo.toInt = 60)) ∧ (r = 0) ∧ (u = [(b_o, (oc12 u_th u_sa b_rf b_ro b_im b_ke u_fd b_tp u_td u_fr u_to u_so u_wo u_fa u_bd u_nc b_nl u_co b_op b_ar u_le b_pi b_pa u_pd u_od b_ws b_hw u_la b_se b_re u_bk u_va u_su u_ce u_ho u_wy u_bt u_ps b_pt u_tg u_sn b_ip u_ic b_ah b_be b_me u_wd b_tr b_ld u_st b_wn u_id))]))) (g5_B G (va_A [(b_o, (oc12 u_th u_sa b_rf b_ro b_im b_ke u_fd b_tp u_td u_fr u_to u_so u_wo u_fa u_bd u_nc b_nl u_co b_op b_ar u_le b_pi b_pa u_pd u_od b_ws b_hw u_la b_se b_re u_bk u_va u_su u_ce u_ho u_wy u_bt u_ps b_pt u_tg u_sn b_ip u_ic b_ah b_be b_me u_wd b_tr b_ld u_st b_wn u_id))] sz)) (va_A [(b_o, (oc12 u_th u_sa b_rf b_ro b_im b_ke u_fd b_tp u_td u_fr u_to u_so u_wo u_fa u_bd u_nc b_nl u_co b_op b_ar u_le b_pi b_pa u_pd u_od b_ws b_hw u_la b_se b_re u_bk u_va u_su u_ce u_ho u_wy u_bt u_ps b_pt u_tg u_sn b_ip u_ic b_ah b_be b_me u_wd b_tr b_ld u_st b_wn u_id))] sz)) 0 0 (va_A [(b_o, (oc12 u_th u_sa b_rf b_ro b_im b_ke u_fd b_tp u_td u_fr u_to u_so u_wo u_fa u_bd u_nc b_nl u_co b_op b_ar u_le b_pi b_pa u_pd u_od b_ws b_hw u_la b_se b_re u_bk u_va u_su u_ce u_ho u_wy u_bt u_ps b_pt u_tg u_sn b_ip u_ic b_ah b_be b_me u_wd b_tr b_ld u_st b_wn u_id))] sz) := by
  refine Met.ofW (cc := cX12_isSign) (maxL := 2) (ret := (some .boolean)) (by decide) rfl ?_
  intro p e s m args below meth c s₁ B hml hv
  obtain ⟨rfl, hsz, hP, hK, hD0, hN, hT⟩ := hv
  have hx := B.exec
  have hb := B.bytes
  have hr := B.returns
  have hts : ∀ w ∈ tblG, w.before _ s = true := fun w h => atoms_spec (ws := (wsG yX12_isSign cX12_isSign 2 (some .boolean))) B.pre w (List.mem_cons_of_mem _ h)
  have hown : s.vm.findClass RX12 = some m.cls := findClass_of_methodNamed B.named
  have hlocks := B.notSynchronized
  subst hsz
  have hD := hD0.self (sz := s.heap.size)
  generalize hAe : va_A [(b_o, (oc12 u_th u_sa b_rf b_ro b_im b_ke u_fd b_tp u_td u_fr u_to u_so u_wo u_fa u_bd u_nc b_nl u_co b_op b_ar u_le b_pi b_pa u_pd u_od b_ws b_hw u_la b_se b_re u_bk u_va u_su u_ce u_ho u_wy u_bt u_ps b_pt u_tg u_sn b_ip u_ic b_ah b_be b_me u_wd b_tr b_ld u_st b_wn u_id))] s.heap.size = A at hD hT ⊢
  have hA : ∀ q : Nat, s.heap.size ≤ q → A q := fun q h => by rw [← hAe]; exact Or.inr h
  have hS : va_S A s.heap s.heap [] := va_S.rf
  have hP : va_P G.1 vwCl [(b_o, (oc12 u_th u_sa b_rf b_ro b_im b_ke u_fd b_tp u_td u_fr u_to u_so u_wo u_fa u_bd u_nc b_nl u_co b_op b_ar u_le b_pi b_pa u_pd u_od b_ws b_hw u_la b_se b_re u_bk u_va u_su u_ce u_ho u_wy u_bt u_ps b_pt u_tg u_sn b_ip u_ic b_ah b_be b_me u_wd b_tr b_ld u_st b_wn u_id))] s.heap := hP
  have hl := lv_entry ([.ref b_o, .int 60]) (n := 2) (Nat.le_of_ble_eq_true rfl)
  rw [lg_entry_eq]
  generalize (lg_sl ([.ref b_o, .int 60]) ++ List.replicate (2 - (lg_sl ([.ref b_o, .int 60])).length) Slot.unset).toArray = ls at hl ⊢
  have hl : lv_has ls 2 [(0, .ref b_o), (1, .int 60)] := hl
  refine lv_aload_n hx hb dX12_isSign_0 rfl (lv_at hl 0 rfl) ?_
  refine va_get (D := G.1) (ci := 12) (v := .int u_so) (C := RX12) (T := TX12) (N := 52) hx hb hts inG_X12 hown hK hP 0 rfl rfl 11 (by decide) (hts _ fl_X12_224) (fun _ h9 => h9) rfl dX12_isSign_1 ?_
  refine lv_iconst (v := 3) hx hb dX12_isSign_4 (by decide) ?_
  refine lv_icmp_ne (tgt := 22) hx hb dX12_isSign_5 (by decide) (fun c_1 => ?_) (fun c_1 => ?_)
  ·
    have n_1 : gNe (u_so.toInt) (3) := by have z := g5_ne (a := u_so.toInt) (b := 3) (by rfl) (by decide) c_1; unfold gNe; omega
    refine lv_iconst (v := 0) hx hb dX12_isSign_22 (by decide) ?_
    exact W.zret (v := 0) hx hb hr rfl (fun t ht hW => ⟨⟨0, [(b_o, (oc12 u_th u_sa b_rf b_ro b_im b_ke u_fd b_tp u_td u_fr u_to u_so u_wo u_fa u_bd u_nc b_nl u_co b_op b_ar u_le b_pi b_pa u_pd u_od b_ws b_hw u_la b_se b_re u_bk u_va u_su u_ce u_ho u_wy u_bt u_ps b_pt u_tg u_sn b_ip u_ic b_ah b_be b_me u_wd b_tr b_ld u_st b_wn u_id))], rfl, Or.inr (⟨fun q9 => by first | omega | (unfold gNe at *; omega), rfl, rfl⟩), by rw [ht]; exact hP.sub [0] rfl, hD.sub [0] (by decide) rfl⟩, hS.F ht⟩) hS.2.2 dX12_isSign_23
  ·
    have i_1 : u_so.toInt = 3 := by have z := g5_neN (a := u_so.toInt) (b := 3) (by rfl) (by decide) c_1; omega
    refine lv_aload_n hx hb dX12_isSign_8 rfl (lv_at hl 0 rfl) ?_
    refine va_get (D := G.1) (ci := 12) (v := .long u_wo) (C := RX12) (T := TX12) (N := 52) hx hb hts inG_X12 hown hK hP 0 rfl rfl 12 (by decide) (hts _ fl_X12_214) (fun _ h9 => h9) rfl dX12_isSign_9 ?_
    refine lv_iload_n hx hb dX12_isSign_12 rfl (lv_at hl 1 rfl) ?_
    refine lv_i2l (v := 60) hx hb dX12_isSign_13 (by decide) ?_
    refine W.eq (g2 := F0 m 14 ls [.long 60, .long u_wo]) rfl ?_
    have tl_2 : (60 : Int64).toInt = 60 := (by decide)
    have tc_3 := g5_cmpI u_wo (60 : Int64)
    refine W.lcmp hx hb dX12_isSign_14 ?_
    refine lv_if_ne (tgt := 22) hx hb dX12_isSign_15 (by decide) (fun c_4 => ?_) (fun c_4 => ?_)
    ·
      have n_4 : gNe ((lg_cmp u_wo 60).toInt) (0) := by have z := g5_ne (a := (lg_cmp u_wo 60).toInt) (b := 0) (by rfl) (by decide) c_4; unfold gNe; omega
      refine lv_iconst (v := 0) hx hb dX12_isSign_22 (by decide) ?_
      exact W.zret (v := 0) hx hb hr rfl (fun t ht hW => ⟨⟨0, [(b_o, (oc12 u_th u_sa b_rf b_ro b_im b_ke u_fd b_tp u_td u_fr u_to u_so u_wo u_fa u_bd u_nc b_nl u_co b_op b_ar u_le b_pi b_pa u_pd u_od b_ws b_hw u_la b_se b_re u_bk u_va u_su u_ce u_ho u_wy u_bt u_ps b_pt u_tg u_sn b_ip u_ic b_ah b_be b_me u_wd b_tr b_ld u_st b_wn u_id))], rfl, Or.inr (⟨fun q9 => by first | omega | (unfold gNe at *; omega), rfl, rfl⟩), by rw [ht]; exact hP.sub [0] rfl, hD.sub [0] (by decide) rfl⟩, hS.F ht⟩) hS.2.2 dX12_isSign_23
    ·
      have i_4 : (lg_cmp u_wo 60).toInt = 0 := by have z := g5_neN (a := (lg_cmp u_wo 60).toInt) (b := 0) (by rfl) (by decide) c_4; omega
      refine lv_iconst (v := 1) hx hb dX12_isSign_18 (by decide) ?_
      refine lv_goto (tgt := 23) hx hb dX12_isSign_19 (by decide) ?_
      exact W.zret (v := 1) hx hb hr rfl (fun t ht hW => ⟨⟨1, [(b_o, (oc12 u_th u_sa b_rf b_ro b_im b_ke u_fd b_tp u_td u_fr u_to u_so u_wo u_fa u_bd u_nc b_nl u_co b_op b_ar u_le b_pi b_pa u_pd u_od b_ws b_hw u_la b_se b_re u_bk u_va u_su u_ce u_ho u_wy u_bt u_ps b_pt u_tg u_sn b_ip u_ic b_ah b_be b_me u_wd b_tr b_ld u_st b_wn u_id))], rfl, Or.inl (⟨⟨by omega, by omega⟩, rfl, rfl⟩), by rw [ht]; exact hP.sub [0] rfl, hD.sub [0] (by decide) rfl⟩, hS.F ht⟩) hS.2.2 dX12_isSign_23
set_option maxHeartbeats 4000000 in
set_option maxRecDepth 100000 in
theorem n_isSignX62 (l : Launch) (G : g5_G) (b_o b_rf b_ro b_im b_ke b_tp b_nl b_op b_ar b_pi b_pa b_ws b_hw b_se b_re b_pt b_ip b_ah b_be b_me b_tr b_ld b_wn : Nat) (sz : Nat) (u_th : Int32) (u_sa : Int32) (u_fd : Int32) (u_td : Int32) (u_fr : Int32) (u_to : Int32) (u_so : Int32) (u_fa : Int32) (u_bd : Int32) (u_nc : Int32) (u_co : Int32) (u_le : Int32) (u_pd : Int32) (u_od : Int32) (u_la : Int32) (u_bk : Int32) (u_ce : Int32) (u_ho : Int32) (u_wy : Int32) (u_bt : Int32) (u_ps : Int32) (u_tg : Int32) (u_sn : Int32) (u_ic : Int32) (u_wd : Int32) (u_id : Int32) (u_wo : Int64) (u_va : Int64) (u_su : Int64) (u_st : Int64) (h_u_td : 0 ≤ u_td.toInt ∧ u_td.toInt ≤ 400) (h_u_fr : 0 ≤ u_fr.toInt ∧ u_fr.toInt ≤ 400) (h_u_to : 0 ≤ u_to.toInt ∧ u_to.toInt ≤ 400) (h_u_bd : 0 ≤ u_bd.toInt ∧ u_bd.toInt ≤ 1) (h_u_nc : 0 ≤ u_nc.toInt ∧ u_nc.toInt ≤ 12) (h_u_co : 0 ≤ u_co.toInt ∧ u_co.toInt ≤ 400) (h_u_pd : 0 ≤ u_pd.toInt ∧ u_pd.toInt ≤ 400) (h_u_la : 0 ≤ u_la.toInt ∧ u_la.toInt ≤ 4840) (h_u_bk : 0 ≤ u_bk.toInt ∧ u_bk.toInt ≤ 1) (h_u_ce : 0 ≤ u_ce.toInt ∧ u_ce.toInt ≤ 63) (h_u_ho : 0 ≤ u_ho.toInt ∧ u_ho.toInt ≤ 23) (h_u_wy : 0 ≤ u_wy.toInt ∧ u_wy.toInt ≤ 3) (h_u_bt : 0 ≤ u_bt.toInt ∧ u_bt.toInt ≤ 1000000) (h_u_ps : 0 ≤ u_ps.toInt ∧ u_ps.toInt ≤ 200) (h_u_ic : 0 ≤ u_ic.toInt ∧ u_ic.toInt ≤ 1) (h_u_id : 0 ≤ u_id.toInt ∧ u_id.toInt ≤ 1) : Met l yX12_isSign (wsG yX12_isSign cX12_isSign 2 (some .boolean)) ({ frames := 0, cells := 0, slots := 0, locals := 0 }) (va_Pc [.ref b_o, .int 62] (g5_P G [(b_o, (oc12 u_th u_sa b_rf b_ro b_im b_ke u_fd b_tp u_td u_fr u_to u_so u_wo u_fa u_bd u_nc b_nl u_co b_op b_ar u_le b_pi b_pa u_pd u_od b_ws b_hw u_la b_se b_re u_bk u_va u_su u_ce u_ho u_wy u_bt u_ps b_pt u_tg u_sn b_ip u_ic b_ah b_be b_me u_wd b_tr b_ld u_st b_wn u_id))] sz)) (va_Qi (fun (r : Int32) (u : va_W) => ((u_so.toInt = 3 ∧ u_wo.toInt = 62) ∧ (r = 1) ∧ (u = [(b_o, (oc12 u_th u_sa b_rf b_ro b_im b_ke u_fd b_tp u_td u_fr u_to u_so u_wo u_fa u_bd u_nc b_nl u_co b_op b_ar u_le b_pi b_pa u_pd u_od b_ws b_hw u_la b_se b_re u_bk u_va u_su u_ce u_ho u_wy u_bt u_ps b_pt u_tg u_sn b_ip u_ic b_ah b_be b_me u_wd b_tr b_ld u_st b_wn u_id))])) ∨ ((¬ (u_so.toInt = 3 ∧ u_wo.toInt = 62)) ∧ (r = 0) ∧ (u = [(b_o, (oc12 u_th u_sa b_rf b_ro b_im b_ke u_fd b_tp u_td u_fr u_to u_so u_wo u_fa u_bd u_nc b_nl u_co b_op b_ar u_le b_pi b_pa u_pd u_od b_ws b_hw u_la b_se b_re u_bk u_va u_su u_ce u_ho u_wy u_bt u_ps b_pt u_tg u_sn b_ip u_ic b_ah b_be b_me u_wd b_tr b_ld u_st b_wn u_id))]))) (g5_B G (va_A [(b_o, (oc12 u_th u_sa b_rf b_ro b_im b_ke u_fd b_tp u_td u_fr u_to u_so u_wo u_fa u_bd u_nc b_nl u_co b_op b_ar u_le b_pi b_pa u_pd u_od b_ws b_hw u_la b_se b_re u_bk u_va u_su u_ce u_ho u_wy u_bt u_ps b_pt u_tg u_sn b_ip u_ic b_ah b_be b_me u_wd b_tr b_ld u_st b_wn u_id))] sz)) (va_A [(b_o, (oc12 u_th u_sa b_rf b_ro b_im b_ke u_fd b_tp u_td u_fr u_to u_so u_wo u_fa u_bd u_nc b_nl u_co b_op b_ar u_le b_pi b_pa u_pd u_od b_ws b_hw u_la b_se b_re u_bk u_va u_su u_ce u_ho u_wy u_bt u_ps b_pt u_tg u_sn b_ip u_ic b_ah b_be b_me u_wd b_tr b_ld u_st b_wn u_id))] sz)) 0 0 (va_A [(b_o, (oc12 u_th u_sa b_rf b_ro b_im b_ke u_fd b_tp u_td u_fr u_to u_so u_wo u_fa u_bd u_nc b_nl u_co b_op b_ar u_le b_pi b_pa u_pd u_od b_ws b_hw u_la b_se b_re u_bk u_va u_su u_ce u_ho u_wy u_bt u_ps b_pt u_tg u_sn b_ip u_ic b_ah b_be b_me u_wd b_tr b_ld u_st b_wn u_id))] sz) := by
  refine Met.ofW (cc := cX12_isSign) (maxL := 2) (ret := (some .boolean)) (by decide) rfl ?_
  intro p e s m args below meth c s₁ B hml hv
  obtain ⟨rfl, hsz, hP, hK, hD0, hN, hT⟩ := hv
  have hx := B.exec
  have hb := B.bytes
  have hr := B.returns
  have hts : ∀ w ∈ tblG, w.before _ s = true := fun w h => atoms_spec (ws := (wsG yX12_isSign cX12_isSign 2 (some .boolean))) B.pre w (List.mem_cons_of_mem _ h)
  have hown : s.vm.findClass RX12 = some m.cls := findClass_of_methodNamed B.named
  have hlocks := B.notSynchronized
  subst hsz
  have hD := hD0.self (sz := s.heap.size)
  generalize hAe : va_A [(b_o, (oc12 u_th u_sa b_rf b_ro b_im b_ke u_fd b_tp u_td u_fr u_to u_so u_wo u_fa u_bd u_nc b_nl u_co b_op b_ar u_le b_pi b_pa u_pd u_od b_ws b_hw u_la b_se b_re u_bk u_va u_su u_ce u_ho u_wy u_bt u_ps b_pt u_tg u_sn b_ip u_ic b_ah b_be b_me u_wd b_tr b_ld u_st b_wn u_id))] s.heap.size = A at hD hT ⊢
  have hA : ∀ q : Nat, s.heap.size ≤ q → A q := fun q h => by rw [← hAe]; exact Or.inr h
  have hS : va_S A s.heap s.heap [] := va_S.rf
  have hP : va_P G.1 vwCl [(b_o, (oc12 u_th u_sa b_rf b_ro b_im b_ke u_fd b_tp u_td u_fr u_to u_so u_wo u_fa u_bd u_nc b_nl u_co b_op b_ar u_le b_pi b_pa u_pd u_od b_ws b_hw u_la b_se b_re u_bk u_va u_su u_ce u_ho u_wy u_bt u_ps b_pt u_tg u_sn b_ip u_ic b_ah b_be b_me u_wd b_tr b_ld u_st b_wn u_id))] s.heap := hP
  have hl := lv_entry ([.ref b_o, .int 62]) (n := 2) (Nat.le_of_ble_eq_true rfl)
  rw [lg_entry_eq]
  generalize (lg_sl ([.ref b_o, .int 62]) ++ List.replicate (2 - (lg_sl ([.ref b_o, .int 62])).length) Slot.unset).toArray = ls at hl ⊢
  have hl : lv_has ls 2 [(0, .ref b_o), (1, .int 62)] := hl
  refine lv_aload_n hx hb dX12_isSign_0 rfl (lv_at hl 0 rfl) ?_
  refine va_get (D := G.1) (ci := 12) (v := .int u_so) (C := RX12) (T := TX12) (N := 52) hx hb hts inG_X12 hown hK hP 0 rfl rfl 11 (by decide) (hts _ fl_X12_224) (fun _ h9 => h9) rfl dX12_isSign_1 ?_
  refine lv_iconst (v := 3) hx hb dX12_isSign_4 (by decide) ?_
  refine lv_icmp_ne (tgt := 22) hx hb dX12_isSign_5 (by decide) (fun c_1 => ?_) (fun c_1 => ?_)
  ·
    have n_1 : gNe (u_so.toInt) (3) := by have z := g5_ne (a := u_so.toInt) (b := 3) (by rfl) (by decide) c_1; unfold gNe; omega
    refine lv_iconst (v := 0) hx hb dX12_isSign_22 (by decide) ?_
    exact W.zret (v := 0) hx hb hr rfl (fun t ht hW => ⟨⟨0, [(b_o, (oc12 u_th u_sa b_rf b_ro b_im b_ke u_fd b_tp u_td u_fr u_to u_so u_wo u_fa u_bd u_nc b_nl u_co b_op b_ar u_le b_pi b_pa u_pd u_od b_ws b_hw u_la b_se b_re u_bk u_va u_su u_ce u_ho u_wy u_bt u_ps b_pt u_tg u_sn b_ip u_ic b_ah b_be b_me u_wd b_tr b_ld u_st b_wn u_id))], rfl, Or.inr (⟨fun q9 => by first | omega | (unfold gNe at *; omega), rfl, rfl⟩), by rw [ht]; exact hP.sub [0] rfl, hD.sub [0] (by decide) rfl⟩, hS.F ht⟩) hS.2.2 dX12_isSign_23
  ·
    have i_1 : u_so.toInt = 3 := by have z := g5_neN (a := u_so.toInt) (b := 3) (by rfl) (by decide) c_1; omega
    refine lv_aload_n hx hb dX12_isSign_8 rfl (lv_at hl 0 rfl) ?_
    refine va_get (D := G.1) (ci := 12) (v := .long u_wo) (C := RX12) (T := TX12) (N := 52) hx hb hts inG_X12 hown hK hP 0 rfl rfl 12 (by decide) (hts _ fl_X12_214) (fun _ h9 => h9) rfl dX12_isSign_9 ?_
    refine lv_iload_n hx hb dX12_isSign_12 rfl (lv_at hl 1 rfl) ?_
    refine lv_i2l (v := 62) hx hb dX12_isSign_13 (by decide) ?_
    refine W.eq (g2 := F0 m 14 ls [.long 62, .long u_wo]) rfl ?_
    have tl_2 : (62 : Int64).toInt = 62 := (by decide)
    have tc_3 := g5_cmpI u_wo (62 : Int64)
    refine W.lcmp hx hb dX12_isSign_14 ?_
    refine lv_if_ne (tgt := 22) hx hb dX12_isSign_15 (by decide) (fun c_4 => ?_) (fun c_4 => ?_)
    ·
      have n_4 : gNe ((lg_cmp u_wo 62).toInt) (0) := by have z := g5_ne (a := (lg_cmp u_wo 62).toInt) (b := 0) (by rfl) (by decide) c_4; unfold gNe; omega
      refine lv_iconst (v := 0) hx hb dX12_isSign_22 (by decide) ?_
      exact W.zret (v := 0) hx hb hr rfl (fun t ht hW => ⟨⟨0, [(b_o, (oc12 u_th u_sa b_rf b_ro b_im b_ke u_fd b_tp u_td u_fr u_to u_so u_wo u_fa u_bd u_nc b_nl u_co b_op b_ar u_le b_pi b_pa u_pd u_od b_ws b_hw u_la b_se b_re u_bk u_va u_su u_ce u_ho u_wy u_bt u_ps b_pt u_tg u_sn b_ip u_ic b_ah b_be b_me u_wd b_tr b_ld u_st b_wn u_id))], rfl, Or.inr (⟨fun q9 => by first | omega | (unfold gNe at *; omega), rfl, rfl⟩), by rw [ht]; exact hP.sub [0] rfl, hD.sub [0] (by decide) rfl⟩, hS.F ht⟩) hS.2.2 dX12_isSign_23
    ·
      have i_4 : (lg_cmp u_wo 62).toInt = 0 := by have z := g5_neN (a := (lg_cmp u_wo 62).toInt) (b := 0) (by rfl) (by decide) c_4; omega
      refine lv_iconst (v := 1) hx hb dX12_isSign_18 (by decide) ?_
      refine lv_goto (tgt := 23) hx hb dX12_isSign_19 (by decide) ?_
      exact W.zret (v := 1) hx hb hr rfl (fun t ht hW => ⟨⟨1, [(b_o, (oc12 u_th u_sa b_rf b_ro b_im b_ke u_fd b_tp u_td u_fr u_to u_so u_wo u_fa u_bd u_nc b_nl u_co b_op b_ar u_le b_pi b_pa u_pd u_od b_ws b_hw u_la b_se b_re u_bk u_va u_su u_ce u_ho u_wy u_bt u_ps b_pt u_tg u_sn b_ip u_ic b_ah b_be b_me u_wd b_tr b_ld u_st b_wn u_id))], rfl, Or.inl (⟨⟨by omega, by omega⟩, rfl, rfl⟩), by rw [ht]; exact hP.sub [0] rfl, hD.sub [0] (by decide) rfl⟩, hS.F ht⟩) hS.2.2 dX12_isSign_23
set_option maxHeartbeats 4000000 in
set_option maxRecDepth 100000 in
theorem n_isSignX61 (l : Launch) (G : g5_G) (b_o b_rf b_ro b_im b_ke b_tp b_nl b_op b_ar b_pi b_pa b_ws b_hw b_se b_re b_pt b_ip b_ah b_be b_me b_tr b_ld b_wn : Nat) (sz : Nat) (u_th : Int32) (u_sa : Int32) (u_fd : Int32) (u_td : Int32) (u_fr : Int32) (u_to : Int32) (u_so : Int32) (u_fa : Int32) (u_bd : Int32) (u_nc : Int32) (u_co : Int32) (u_le : Int32) (u_pd : Int32) (u_od : Int32) (u_la : Int32) (u_bk : Int32) (u_ce : Int32) (u_ho : Int32) (u_wy : Int32) (u_bt : Int32) (u_ps : Int32) (u_tg : Int32) (u_sn : Int32) (u_ic : Int32) (u_wd : Int32) (u_id : Int32) (u_wo : Int64) (u_va : Int64) (u_su : Int64) (u_st : Int64) (h_u_td : 0 ≤ u_td.toInt ∧ u_td.toInt ≤ 400) (h_u_fr : 0 ≤ u_fr.toInt ∧ u_fr.toInt ≤ 400) (h_u_to : 0 ≤ u_to.toInt ∧ u_to.toInt ≤ 400) (h_u_bd : 0 ≤ u_bd.toInt ∧ u_bd.toInt ≤ 1) (h_u_nc : 0 ≤ u_nc.toInt ∧ u_nc.toInt ≤ 12) (h_u_co : 0 ≤ u_co.toInt ∧ u_co.toInt ≤ 400) (h_u_pd : 0 ≤ u_pd.toInt ∧ u_pd.toInt ≤ 400) (h_u_la : 0 ≤ u_la.toInt ∧ u_la.toInt ≤ 4840) (h_u_bk : 0 ≤ u_bk.toInt ∧ u_bk.toInt ≤ 1) (h_u_ce : 0 ≤ u_ce.toInt ∧ u_ce.toInt ≤ 63) (h_u_ho : 0 ≤ u_ho.toInt ∧ u_ho.toInt ≤ 23) (h_u_wy : 0 ≤ u_wy.toInt ∧ u_wy.toInt ≤ 3) (h_u_bt : 0 ≤ u_bt.toInt ∧ u_bt.toInt ≤ 1000000) (h_u_ps : 0 ≤ u_ps.toInt ∧ u_ps.toInt ≤ 200) (h_u_ic : 0 ≤ u_ic.toInt ∧ u_ic.toInt ≤ 1) (h_u_id : 0 ≤ u_id.toInt ∧ u_id.toInt ≤ 1) : Met l yX12_isSign (wsG yX12_isSign cX12_isSign 2 (some .boolean)) ({ frames := 0, cells := 0, slots := 0, locals := 0 }) (va_Pc [.ref b_o, .int 61] (g5_P G [(b_o, (oc12 u_th u_sa b_rf b_ro b_im b_ke u_fd b_tp u_td u_fr u_to u_so u_wo u_fa u_bd u_nc b_nl u_co b_op b_ar u_le b_pi b_pa u_pd u_od b_ws b_hw u_la b_se b_re u_bk u_va u_su u_ce u_ho u_wy u_bt u_ps b_pt u_tg u_sn b_ip u_ic b_ah b_be b_me u_wd b_tr b_ld u_st b_wn u_id))] sz)) (va_Qi (fun (r : Int32) (u : va_W) => ((u_so.toInt = 3 ∧ u_wo.toInt = 61) ∧ (r = 1) ∧ (u = [(b_o, (oc12 u_th u_sa b_rf b_ro b_im b_ke u_fd b_tp u_td u_fr u_to u_so u_wo u_fa u_bd u_nc b_nl u_co b_op b_ar u_le b_pi b_pa u_pd u_od b_ws b_hw u_la b_se b_re u_bk u_va u_su u_ce u_ho u_wy u_bt u_ps b_pt u_tg u_sn b_ip u_ic b_ah b_be b_me u_wd b_tr b_ld u_st b_wn u_id))])) ∨ ((¬ (u_so.toInt = 3 ∧ u_wo.toInt = 61)) ∧ (r = 0) ∧ (u = [(b_o, (oc12 u_th u_sa b_rf b_ro b_im b_ke u_fd b_tp u_td u_fr u_to u_so u_wo u_fa u_bd u_nc b_nl u_co b_op b_ar u_le b_pi b_pa u_pd u_od b_ws b_hw u_la b_se b_re u_bk u_va u_su u_ce u_ho u_wy u_bt u_ps b_pt u_tg u_sn b_ip u_ic b_ah b_be b_me u_wd b_tr b_ld u_st b_wn u_id))]))) (g5_B G (va_A [(b_o, (oc12 u_th u_sa b_rf b_ro b_im b_ke u_fd b_tp u_td u_fr u_to u_so u_wo u_fa u_bd u_nc b_nl u_co b_op b_ar u_le b_pi b_pa u_pd u_od b_ws b_hw u_la b_se b_re u_bk u_va u_su u_ce u_ho u_wy u_bt u_ps b_pt u_tg u_sn b_ip u_ic b_ah b_be b_me u_wd b_tr b_ld u_st b_wn u_id))] sz)) (va_A [(b_o, (oc12 u_th u_sa b_rf b_ro b_im b_ke u_fd b_tp u_td u_fr u_to u_so u_wo u_fa u_bd u_nc b_nl u_co b_op b_ar u_le b_pi b_pa u_pd u_od b_ws b_hw u_la b_se b_re u_bk u_va u_su u_ce u_ho u_wy u_bt u_ps b_pt u_tg u_sn b_ip u_ic b_ah b_be b_me u_wd b_tr b_ld u_st b_wn u_id))] sz)) 0 0 (va_A [(b_o, (oc12 u_th u_sa b_rf b_ro b_im b_ke u_fd b_tp u_td u_fr u_to u_so u_wo u_fa u_bd u_nc b_nl u_co b_op b_ar u_le b_pi b_pa u_pd u_od b_ws b_hw u_la b_se b_re u_bk u_va u_su u_ce u_ho u_wy u_bt u_ps b_pt u_tg u_sn b_ip u_ic b_ah b_be b_me u_wd b_tr b_ld u_st b_wn u_id))] sz) := by
  refine Met.ofW (cc := cX12_isSign) (maxL := 2) (ret := (some .boolean)) (by decide) rfl ?_
  intro p e s m args below meth c s₁ B hml hv
  obtain ⟨rfl, hsz, hP, hK, hD0, hN, hT⟩ := hv
  have hx := B.exec
  have hb := B.bytes
  have hr := B.returns
  have hts : ∀ w ∈ tblG, w.before _ s = true := fun w h => atoms_spec (ws := (wsG yX12_isSign cX12_isSign 2 (some .boolean))) B.pre w (List.mem_cons_of_mem _ h)
  have hown : s.vm.findClass RX12 = some m.cls := findClass_of_methodNamed B.named
  have hlocks := B.notSynchronized
  subst hsz
  have hD := hD0.self (sz := s.heap.size)
  generalize hAe : va_A [(b_o, (oc12 u_th u_sa b_rf b_ro b_im b_ke u_fd b_tp u_td u_fr u_to u_so u_wo u_fa u_bd u_nc b_nl u_co b_op b_ar u_le b_pi b_pa u_pd u_od b_ws b_hw u_la b_se b_re u_bk u_va u_su u_ce u_ho u_wy u_bt u_ps b_pt u_tg u_sn b_ip u_ic b_ah b_be b_me u_wd b_tr b_ld u_st b_wn u_id))] s.heap.size = A at hD hT ⊢
  have hA : ∀ q : Nat, s.heap.size ≤ q → A q := fun q h => by rw [← hAe]; exact Or.inr h
  have hS : va_S A s.heap s.heap [] := va_S.rf
  have hP : va_P G.1 vwCl [(b_o, (oc12 u_th u_sa b_rf b_ro b_im b_ke u_fd b_tp u_td u_fr u_to u_so u_wo u_fa u_bd u_nc b_nl u_co b_op b_ar u_le b_pi b_pa u_pd u_od b_ws b_hw u_la b_se b_re u_bk u_va u_su u_ce u_ho u_wy u_bt u_ps b_pt u_tg u_sn b_ip u_ic b_ah b_be b_me u_wd b_tr b_ld u_st b_wn u_id))] s.heap := hP
  have hl := lv_entry ([.ref b_o, .int 61]) (n := 2) (Nat.le_of_ble_eq_true rfl)
  rw [lg_entry_eq]
  generalize (lg_sl ([.ref b_o, .int 61]) ++ List.replicate (2 - (lg_sl ([.ref b_o, .int 61])).length) Slot.unset).toArray = ls at hl ⊢
  have hl : lv_has ls 2 [(0, .ref b_o), (1, .int 61)] := hl
  refine lv_aload_n hx hb dX12_isSign_0 rfl (lv_at hl 0 rfl) ?_
  refine va_get (D := G.1) (ci := 12) (v := .int u_so) (C := RX12) (T := TX12) (N := 52) hx hb hts inG_X12 hown hK hP 0 rfl rfl 11 (by decide) (hts _ fl_X12_224) (fun _ h9 => h9) rfl dX12_isSign_1 ?_
  refine lv_iconst (v := 3) hx hb dX12_isSign_4 (by decide) ?_
  refine lv_icmp_ne (tgt := 22) hx hb dX12_isSign_5 (by decide) (fun c_1 => ?_) (fun c_1 => ?_)
  ·
    have n_1 : gNe (u_so.toInt) (3) := by have z := g5_ne (a := u_so.toInt) (b := 3) (by rfl) (by decide) c_1; unfold gNe; omega
    refine lv_iconst (v := 0) hx hb dX12_isSign_22 (by decide) ?_
    exact W.zret (v := 0) hx hb hr rfl (fun t ht hW => ⟨⟨0, [(b_o, (oc12 u_th u_sa b_rf b_ro b_im b_ke u_fd b_tp u_td u_fr u_to u_so u_wo u_fa u_bd u_nc b_nl u_co b_op b_ar u_le b_pi b_pa u_pd u_od b_ws b_hw u_la b_se b_re u_bk u_va u_su u_ce u_ho u_wy u_bt u_ps b_pt u_tg u_sn b_ip u_ic b_ah b_be b_me u_wd b_tr b_ld u_st b_wn u_id))], rfl, Or.inr (⟨fun q9 => by first | omega | (unfold gNe at *; omega), rfl, rfl⟩), by rw [ht]; exact hP.sub [0] rfl, hD.sub [0] (by decide) rfl⟩, hS.F ht⟩) hS.2.2 dX12_isSign_23
  ·
    have i_1 : u_so.toInt = 3 := by have z := g5_neN (a := u_so.toInt) (b := 3) (by rfl) (by decide) c_1; omega
    refine lv_aload_n hx hb dX12_isSign_8 rfl (lv_at hl 0 rfl) ?_
    refine va_get (D := G.1) (ci := 12) (v := .long u_wo) (C := RX12) (T := TX12) (N := 52) hx hb hts inG_X12 hown hK hP 0 rfl rfl 12 (by decide) (hts _ fl_X12_214) (fun _ h9 => h9) rfl dX12_isSign_9 ?_
    refine lv_iload_n hx hb dX12_isSign_12 rfl (lv_at hl 1 rfl) ?_
    refine lv_i2l (v := 61) hx hb dX12_isSign_13 (by decide) ?_
    refine W.eq (g2 := F0 m 14 ls [.long 61, .long u_wo]) rfl ?_
    have tl_2 : (61 : Int64).toInt = 61 := (by decide)
    have tc_3 := g5_cmpI u_wo (61 : Int64)
    refine W.lcmp hx hb dX12_isSign_14 ?_
    refine lv_if_ne (tgt := 22) hx hb dX12_isSign_15 (by decide) (fun c_4 => ?_) (fun c_4 => ?_)
    ·
      have n_4 : gNe ((lg_cmp u_wo 61).toInt) (0) := by have z := g5_ne (a := (lg_cmp u_wo 61).toInt) (b := 0) (by rfl) (by decide) c_4; unfold gNe; omega
      refine lv_iconst (v := 0) hx hb dX12_isSign_22 (by decide) ?_
      exact W.zret (v := 0) hx hb hr rfl (fun t ht hW => ⟨⟨0, [(b_o, (oc12 u_th u_sa b_rf b_ro b_im b_ke u_fd b_tp u_td u_fr u_to u_so u_wo u_fa u_bd u_nc b_nl u_co b_op b_ar u_le b_pi b_pa u_pd u_od b_ws b_hw u_la b_se b_re u_bk u_va u_su u_ce u_ho u_wy u_bt u_ps b_pt u_tg u_sn b_ip u_ic b_ah b_be b_me u_wd b_tr b_ld u_st b_wn u_id))], rfl, Or.inr (⟨fun q9 => by first | omega | (unfold gNe at *; omega), rfl, rfl⟩), by rw [ht]; exact hP.sub [0] rfl, hD.sub [0] (by decide) rfl⟩, hS.F ht⟩) hS.2.2 dX12_isSign_23
    ·
      have i_4 : (lg_cmp u_wo 61).toInt = 0 := by have z := g5_neN (a := (lg_cmp u_wo 61).toInt) (b := 0) (by rfl) (by decide) c_4; omega
      refine lv_iconst (v := 1) hx hb dX12_isSign_18 (by decide) ?_
      refine lv_goto (tgt := 23) hx hb dX12_isSign_19 (by decide) ?_
      exact W.zret (v := 1) hx hb hr rfl (fun t ht hW => ⟨⟨1, [(b_o, (oc12 u_th u_sa b_rf b_ro b_im b_ke u_fd b_tp u_td u_fr u_to u_so u_wo u_fa u_bd u_nc b_nl u_co b_op b_ar u_le b_pi b_pa u_pd u_od b_ws b_hw u_la b_se b_re u_bk u_va u_su u_ce u_ho u_wy u_bt u_ps b_pt u_tg u_sn b_ip u_ic b_ah b_be b_me u_wd b_tr b_ld u_st b_wn u_id))], rfl, Or.inl (⟨⟨by omega, by omega⟩, rfl, rfl⟩), by rw [ht]; exact hP.sub [0] rfl, hD.sub [0] (by decide) rfl⟩, hS.F ht⟩) hS.2.2 dX12_isSign_23
set_option maxHeartbeats 4000000 in
set_option maxRecDepth 100000 in
theorem n_isSignX59 (l : Launch) (G : g5_G) (b_o b_rf b_ro b_im b_ke b_tp b_nl b_op b_ar b_pi b_pa b_ws b_hw b_se b_re b_pt b_ip b_ah b_be b_me b_tr b_ld b_wn : Nat) (sz : Nat) (u_th : Int32) (u_sa : Int32) (u_fd : Int32) (u_td : Int32) (u_fr : Int32) (u_to : Int32) (u_so : Int32) (u_fa : Int32) (u_bd : Int32) (u_nc : Int32) (u_co : Int32) (u_le : Int32) (u_pd : Int32) (u_od : Int32) (u_la : Int32) (u_bk : Int32) (u_ce : Int32) (u_ho : Int32) (u_wy : Int32) (u_bt : Int32) (u_ps : Int32) (u_tg : Int32) (u_sn : Int32) (u_ic : Int32) (u_wd : Int32) (u_id : Int32) (u_wo : Int64) (u_va : Int64) (u_su : Int64) (u_st : Int64) (h_u_td : 0 ≤ u_td.toInt ∧ u_td.toInt ≤ 400) (h_u_fr : 0 ≤ u_fr.toInt ∧ u_fr.toInt ≤ 400) (h_u_to : 0 ≤ u_to.toInt ∧ u_to.toInt ≤ 400) (h_u_bd : 0 ≤ u_bd.toInt ∧ u_bd.toInt ≤ 1) (h_u_nc : 0 ≤ u_nc.toInt ∧ u_nc.toInt ≤ 12) (h_u_co : 0 ≤ u_co.toInt ∧ u_co.toInt ≤ 400) (h_u_pd : 0 ≤ u_pd.toInt ∧ u_pd.toInt ≤ 400) (h_u_la : 0 ≤ u_la.toInt ∧ u_la.toInt ≤ 4840) (h_u_bk : 0 ≤ u_bk.toInt ∧ u_bk.toInt ≤ 1) (h_u_ce : 0 ≤ u_ce.toInt ∧ u_ce.toInt ≤ 63) (h_u_ho : 0 ≤ u_ho.toInt ∧ u_ho.toInt ≤ 23) (h_u_wy : 0 ≤ u_wy.toInt ∧ u_wy.toInt ≤ 3) (h_u_bt : 0 ≤ u_bt.toInt ∧ u_bt.toInt ≤ 1000000) (h_u_ps : 0 ≤ u_ps.toInt ∧ u_ps.toInt ≤ 200) (h_u_ic : 0 ≤ u_ic.toInt ∧ u_ic.toInt ≤ 1) (h_u_id : 0 ≤ u_id.toInt ∧ u_id.toInt ≤ 1) : Met l yX12_isSign (wsG yX12_isSign cX12_isSign 2 (some .boolean)) ({ frames := 0, cells := 0, slots := 0, locals := 0 }) (va_Pc [.ref b_o, .int 59] (g5_P G [(b_o, (oc12 u_th u_sa b_rf b_ro b_im b_ke u_fd b_tp u_td u_fr u_to u_so u_wo u_fa u_bd u_nc b_nl u_co b_op b_ar u_le b_pi b_pa u_pd u_od b_ws b_hw u_la b_se b_re u_bk u_va u_su u_ce u_ho u_wy u_bt u_ps b_pt u_tg u_sn b_ip u_ic b_ah b_be b_me u_wd b_tr b_ld u_st b_wn u_id))] sz)) (va_Qi (fun (r : Int32) (u : va_W) => ((u_so.toInt = 3 ∧ u_wo.toInt = 59) ∧ (r = 1) ∧ (u = [(b_o, (oc12 u_th u_sa b_rf b_ro b_im b_ke u_fd b_tp u_td u_fr u_to u_so u_wo u_fa u_bd u_nc b_nl u_co b_op b_ar u_le b_pi b_pa u_pd u_od b_ws b_hw u_la b_se b_re u_bk u_va u_su u_ce u_ho u_wy u_bt u_ps b_pt u_tg u_sn b_ip u_ic b_ah b_be b_me u_wd b_tr b_ld u_st b_wn u_id))])) ∨ ((¬ (u_so.toInt = 3 ∧ u_wo.toInt = 59)) ∧ (r = 0) ∧ (u = [(b_o, (oc12 u_th u_sa b_rf b_ro b_im b_ke u_fd b_tp u_td u_fr u_to u_so u_wo u_fa u_bd u_nc b_nl u_co b_op b_ar u_le b_pi b_pa u_pd u_od b_ws b_hw u_la b_se b_re u_bk u_va u_su u_ce u_ho u_wy u_bt u_ps b_pt u_tg u_sn b_ip u_ic b_ah b_be b_me u_wd b_tr b_ld u_st b_wn u_id))]))) (g5_B G (va_A [(b_o, (oc12 u_th u_sa b_rf b_ro b_im b_ke u_fd b_tp u_td u_fr u_to u_so u_wo u_fa u_bd u_nc b_nl u_co b_op b_ar u_le b_pi b_pa u_pd u_od b_ws b_hw u_la b_se b_re u_bk u_va u_su u_ce u_ho u_wy u_bt u_ps b_pt u_tg u_sn b_ip u_ic b_ah b_be b_me u_wd b_tr b_ld u_st b_wn u_id))] sz)) (va_A [(b_o, (oc12 u_th u_sa b_rf b_ro b_im b_ke u_fd b_tp u_td u_fr u_to u_so u_wo u_fa u_bd u_nc b_nl u_co b_op b_ar u_le b_pi b_pa u_pd u_od b_ws b_hw u_la b_se b_re u_bk u_va u_su u_ce u_ho u_wy u_bt u_ps b_pt u_tg u_sn b_ip u_ic b_ah b_be b_me u_wd b_tr b_ld u_st b_wn u_id))] sz)) 0 0 (va_A [(b_o, (oc12 u_th u_sa b_rf b_ro b_im b_ke u_fd b_tp u_td u_fr u_to u_so u_wo u_fa u_bd u_nc b_nl u_co b_op b_ar u_le b_pi b_pa u_pd u_od b_ws b_hw u_la b_se b_re u_bk u_va u_su u_ce u_ho u_wy u_bt u_ps b_pt u_tg u_sn b_ip u_ic b_ah b_be b_me u_wd b_tr b_ld u_st b_wn u_id))] sz) := by
  refine Met.ofW (cc := cX12_isSign) (maxL := 2) (ret := (some .boolean)) (by decide) rfl ?_
  intro p e s m args below meth c s₁ B hml hv
  obtain ⟨rfl, hsz, hP, hK, hD0, hN, hT⟩ := hv
  have hx := B.exec
  have hb := B.bytes
  have hr := B.returns
  have hts : ∀ w ∈ tblG, w.before _ s = true := fun w h => atoms_spec (ws := (wsG yX12_isSign cX12_isSign 2 (some .boolean))) B.pre w (List.mem_cons_of_mem _ h)
  have hown : s.vm.findClass RX12 = some m.cls := findClass_of_methodNamed B.named
  have hlocks := B.notSynchronized
  subst hsz
  have hD := hD0.self (sz := s.heap.size)
  generalize hAe : va_A [(b_o, (oc12 u_th u_sa b_rf b_ro b_im b_ke u_fd b_tp u_td u_fr u_to u_so u_wo u_fa u_bd u_nc b_nl u_co b_op b_ar u_le b_pi b_pa u_pd u_od b_ws b_hw u_la b_se b_re u_bk u_va u_su u_ce u_ho u_wy u_bt u_ps b_pt u_tg u_sn b_ip u_ic b_ah b_be b_me u_wd b_tr b_ld u_st b_wn u_id))] s.heap.size = A at hD hT ⊢
  have hA : ∀ q : Nat, s.heap.size ≤ q → A q := fun q h => by rw [← hAe]; exact Or.inr h
  have hS : va_S A s.heap s.heap [] := va_S.rf
  have hP : va_P G.1 vwCl [(b_o, (oc12 u_th u_sa b_rf b_ro b_im b_ke u_fd b_tp u_td u_fr u_to u_so u_wo u_fa u_bd u_nc b_nl u_co b_op b_ar u_le b_pi b_pa u_pd u_od b_ws b_hw u_la b_se b_re u_bk u_va u_su u_ce u_ho u_wy u_bt u_ps b_pt u_tg u_sn b_ip u_ic b_ah b_be b_me u_wd b_tr b_ld u_st b_wn u_id))] s.heap := hP
  have hl := lv_entry ([.ref b_o, .int 59]) (n := 2) (Nat.le_of_ble_eq_true rfl)
  rw [lg_entry_eq]
  generalize (lg_sl ([.ref b_o, .int 59]) ++ List.replicate (2 - (lg_sl ([.ref b_o, .int 59])).length) Slot.unset).toArray = ls at hl ⊢
  have hl : lv_has ls 2 [(0, .ref b_o), (1, .int 59)] := hl
  refine lv_aload_n hx hb dX12_isSign_0 rfl (lv_at hl 0 rfl) ?_
  refine va_get (D := G.1) (ci := 12) (v := .int u_so) (C := RX12) (T := TX12) (N := 52) hx hb hts inG_X12 hown hK hP 0 rfl rfl 11 (by decide) (hts _ fl_X12_224) (fun _ h9 => h9) rfl dX12_isSign_1 ?_
  refine lv_iconst (v := 3) hx hb dX12_isSign_4 (by decide) ?_
  refine lv_icmp_ne (tgt := 22) hx hb dX12_isSign_5 (by decide) (fun c_1 => ?_) (fun c_1 => ?_)
  ·
    have n_1 : gNe (u_so.toInt) (3) := by have z := g5_ne (a := u_so.toInt) (b := 3) (by rfl) (by decide) c_1; unfold gNe; omega
    refine lv_iconst (v := 0) hx hb dX12_isSign_22 (by decide) ?_
    exact W.zret (v := 0) hx hb hr rfl (fun t ht hW => ⟨⟨0, [(b_o, (oc12 u_th u_sa b_rf b_ro b_im b_ke u_fd b_tp u_td u_fr u_to u_so u_wo u_fa u_bd u_nc b_nl u_co b_op b_ar u_le b_pi b_pa u_pd u_od b_ws b_hw u_la b_se b_re u_bk u_va u_su u_ce u_ho u_wy u_bt u_ps b_pt u_tg u_sn b_ip u_ic b_ah b_be b_me u_wd b_tr b_ld u_st b_wn u_id))], rfl, Or.inr (⟨fun q9 => by first | omega | (unfold gNe at *; omega), rfl, rfl⟩), by rw [ht]; exact hP.sub [0] rfl, hD.sub [0] (by decide) rfl⟩, hS.F ht⟩) hS.2.2 dX12_isSign_23
  ·
    have i_1 : u_so.toInt = 3 := by have z := g5_neN (a := u_so.toInt) (b := 3) (by rfl) (by decide) c_1; omega
    refine lv_aload_n hx hb dX12_isSign_8 rfl (lv_at hl 0 rfl) ?_
    refine va_get (D := G.1) (ci := 12) (v := .long u_wo) (C := RX12) (T := TX12) (N := 52) hx hb hts inG_X12 hown hK hP 0 rfl rfl 12 (by decide) (hts _ fl_X12_214) (fun _ h9 => h9) rfl dX12_isSign_9 ?_
    refine lv_iload_n hx hb dX12_isSign_12 rfl (lv_at hl 1 rfl) ?_
    refine lv_i2l (v := 59) hx hb dX12_isSign_13 (by decide) ?_
    refine W.eq (g2 := F0 m 14 ls [.long 59, .long u_wo]) rfl ?_
    have tl_2 : (59 : Int64).toInt = 59 := (by decide)
    have tc_3 := g5_cmpI u_wo (59 : Int64)
    refine W.lcmp hx hb dX12_isSign_14 ?_
    refine lv_if_ne (tgt := 22) hx hb dX12_isSign_15 (by decide) (fun c_4 => ?_) (fun c_4 => ?_)
    ·
      have n_4 : gNe ((lg_cmp u_wo 59).toInt) (0) := by have z := g5_ne (a := (lg_cmp u_wo 59).toInt) (b := 0) (by rfl) (by decide) c_4; unfold gNe; omega
      refine lv_iconst (v := 0) hx hb dX12_isSign_22 (by decide) ?_
      exact W.zret (v := 0) hx hb hr rfl (fun t ht hW => ⟨⟨0, [(b_o, (oc12 u_th u_sa b_rf b_ro b_im b_ke u_fd b_tp u_td u_fr u_to u_so u_wo u_fa u_bd u_nc b_nl u_co b_op b_ar u_le b_pi b_pa u_pd u_od b_ws b_hw u_la b_se b_re u_bk u_va u_su u_ce u_ho u_wy u_bt u_ps b_pt u_tg u_sn b_ip u_ic b_ah b_be b_me u_wd b_tr b_ld u_st b_wn u_id))], rfl, Or.inr (⟨fun q9 => by first | omega | (unfold gNe at *; omega), rfl, rfl⟩), by rw [ht]; exact hP.sub [0] rfl, hD.sub [0] (by decide) rfl⟩, hS.F ht⟩) hS.2.2 dX12_isSign_23
    ·
      have i_4 : (lg_cmp u_wo 59).toInt = 0 := by have z := g5_neN (a := (lg_cmp u_wo 59).toInt) (b := 0) (by rfl) (by decide) c_4; omega
      refine lv_iconst (v := 1) hx hb dX12_isSign_18 (by decide) ?_
      refine lv_goto (tgt := 23) hx hb dX12_isSign_19 (by decide) ?_
      exact W.zret (v := 1) hx hb hr rfl (fun t ht hW => ⟨⟨1, [(b_o, (oc12 u_th u_sa b_rf b_ro b_im b_ke u_fd b_tp u_td u_fr u_to u_so u_wo u_fa u_bd u_nc b_nl u_co b_op b_ar u_le b_pi b_pa u_pd u_od b_ws b_hw u_la b_se b_re u_bk u_va u_su u_ce u_ho u_wy u_bt u_ps b_pt u_tg u_sn b_ip u_ic b_ah b_be b_me u_wd b_tr b_ld u_st b_wn u_id))], rfl, Or.inl (⟨⟨by omega, by omega⟩, rfl, rfl⟩), by rw [ht]; exact hP.sub [0] rfl, hD.sub [0] (by decide) rfl⟩, hS.F ht⟩) hS.2.2 dX12_isSign_23
set_option maxHeartbeats 4000000 in
set_option maxRecDepth 100000 in
theorem n_must1X (l : Launch) (G : g5_G) (b_o b_tp b_rf b_ro b_im b_ke b_nl b_op b_ar b_pi b_pa b_ws b_hw b_se b_re b_pt b_ip b_ah b_be b_me b_tr b_ld b_wn : Nat) (sz : Nat) (u_th : Int32) (u_sa : Int32) (u_fd : Int32) (u_td : Int32) (u_fr : Int32) (u_to : Int32) (u_so : Int32) (u_fa : Int32) (u_bd : Int32) (u_nc : Int32) (u_co : Int32) (u_le : Int32) (u_pd : Int32) (u_od : Int32) (u_la : Int32) (u_bk : Int32) (u_ce : Int32) (u_ho : Int32) (u_wy : Int32) (u_bt : Int32) (u_ps : Int32) (u_tg : Int32) (u_sn : Int32) (u_ic : Int32) (u_wd : Int32) (u_id : Int32) (u_wo : Int64) (u_va : Int64) (u_su : Int64) (u_st : Int64) (v_tp : Nat → Int32) (h_u_td : 0 ≤ u_td.toInt ∧ u_td.toInt ≤ 400) (h_u_fr : 0 ≤ u_fr.toInt ∧ u_fr.toInt ≤ 400) (h_u_to : 0 ≤ u_to.toInt ∧ u_to.toInt ≤ 400) (h_u_bd : 0 ≤ u_bd.toInt ∧ u_bd.toInt ≤ 0) (h_u_nc : 0 ≤ u_nc.toInt ∧ u_nc.toInt ≤ 12) (h_u_co : 0 ≤ u_co.toInt ∧ u_co.toInt ≤ 400) (h_u_pd : 0 ≤ u_pd.toInt ∧ u_pd.toInt ≤ 400) (h_u_la : 0 ≤ u_la.toInt ∧ u_la.toInt ≤ 4840) (h_u_bk : 0 ≤ u_bk.toInt ∧ u_bk.toInt ≤ 1) (h_u_ce : 0 ≤ u_ce.toInt ∧ u_ce.toInt ≤ 63) (h_u_ho : 0 ≤ u_ho.toInt ∧ u_ho.toInt ≤ 23) (h_u_wy : 0 ≤ u_wy.toInt ∧ u_wy.toInt ≤ 3) (h_u_bt : 0 ≤ u_bt.toInt ∧ u_bt.toInt ≤ 1000000) (h_u_ps : 0 ≤ u_ps.toInt ∧ u_ps.toInt ≤ 200) (h_u_ic : 0 ≤ u_ic.toInt ∧ u_ic.toInt ≤ 1) (h_u_id : 0 ≤ u_id.toInt ∧ u_id.toInt ≤ 1) (e_t : u_fr.toInt < u_to.toInt ∧ u_to.toInt ≤ u_td.toInt) : Met l yX12_must (wsG yX12_must cX12_must 2 none) ({ frames := 2, cells := 0, slots := 0, locals := 40 }) (va_Pc [.ref b_o, .int 1] (g5_P G [(b_o, (oc12 u_th u_sa b_rf b_ro b_im b_ke u_fd b_tp u_td u_fr u_to u_so u_wo u_fa u_bd u_nc b_nl u_co b_op b_ar u_le b_pi b_pa u_pd u_od b_ws b_hw u_la b_se b_re u_bk u_va u_su u_ce u_ho u_wy u_bt u_ps b_pt u_tg u_sn b_ip u_ic b_ah b_be b_me u_wd b_tr b_ld u_st b_wn u_id)), (b_tp, (arI G 400 v_tp))] sz)) (va_Qv (fun (u : va_W) => (∃ (o_fr : Int32) (o_to : Int32) (o_so : Int32) (o_wo : Int64), (0 ≤ o_fr.toInt ∧ o_fr.toInt ≤ 400) ∧ (0 ≤ o_to.toInt ∧ o_to.toInt ≤ 400) ∧ (u_to.toInt ≤ o_fr.toInt ∧ o_fr.toInt ≤ o_to.toInt ∧ o_to.toInt ≤ u_td.toInt) ∧ (TKs o_so.toInt o_fr.toInt o_to.toInt) ∧ (TOKA v_tp u_td.toInt.toNat (skT v_tp u_td.toInt.toNat u_to.toInt.toNat) o_fr o_to o_so o_wo) ∧ (u = [(b_o, (oc12 u_th u_sa b_rf b_ro b_im b_ke u_fd b_tp u_td o_fr o_to o_so o_wo u_fa u_bd u_nc b_nl u_co b_op b_ar u_le b_pi b_pa u_pd u_od b_ws b_hw u_la b_se b_re u_bk u_va u_su u_ce u_ho u_wy u_bt u_ps b_pt u_tg u_sn b_ip u_ic b_ah b_be b_me u_wd b_tr b_ld u_st b_wn u_id)), (b_tp, (arI G 400 v_tp))]))) (g5_B G (va_A [(b_o, (oc12 u_th u_sa b_rf b_ro b_im b_ke u_fd b_tp u_td u_fr u_to u_so u_wo u_fa u_bd u_nc b_nl u_co b_op b_ar u_le b_pi b_pa u_pd u_od b_ws b_hw u_la b_se b_re u_bk u_va u_su u_ce u_ho u_wy u_bt u_ps b_pt u_tg u_sn b_ip u_ic b_ah b_be b_me u_wd b_tr b_ld u_st b_wn u_id)), (b_tp, (arI G 400 v_tp))] sz)) (va_A [(b_o, (oc12 u_th u_sa b_rf b_ro b_im b_ke u_fd b_tp u_td u_fr u_to u_so u_wo u_fa u_bd u_nc b_nl u_co b_op b_ar u_le b_pi b_pa u_pd u_od b_ws b_hw u_la b_se b_re u_bk u_va u_su u_ce u_ho u_wy u_bt u_ps b_pt u_tg u_sn b_ip u_ic b_ah b_be b_me u_wd b_tr b_ld u_st b_wn u_id)), (b_tp, (arI G 400 v_tp))] sz)) 0 0 (va_A [(b_o, (oc12 u_th u_sa b_rf b_ro b_im b_ke u_fd b_tp u_td u_fr u_to u_so u_wo u_fa u_bd u_nc b_nl u_co b_op b_ar u_le b_pi b_pa u_pd u_od b_ws b_hw u_la b_se b_re u_bk u_va u_su u_ce u_ho u_wy u_bt u_ps b_pt u_tg u_sn b_ip u_ic b_ah b_be b_me u_wd b_tr b_ld u_st b_wn u_id)), (b_tp, (arI G 400 v_tp))] sz) := by
  refine Met.ofW (cc := cX12_must) (maxL := 2) (ret := none) (by decide +kernel) rfl ?_
  intro p e s m args below meth c s₁ B hml hv
  obtain ⟨rfl, hsz, hP, hK, hD0, hN, hT⟩ := hv
  have hx := B.exec
  have hb := B.bytes
  have hr := B.returns
  have hts : ∀ w ∈ tblG, w.before _ s = true := fun w h => atoms_spec (ws := (wsG yX12_must cX12_must 2 none)) B.pre w (List.mem_cons_of_mem _ h)
  have hown : s.vm.findClass RX12 = some m.cls := findClass_of_methodNamed B.named
  have hlocks := B.notSynchronized
  subst hsz
  have hD := hD0.self (sz := s.heap.size)
  generalize hAe : va_A [(b_o, (oc12 u_th u_sa b_rf b_ro b_im b_ke u_fd b_tp u_td u_fr u_to u_so u_wo u_fa u_bd u_nc b_nl u_co b_op b_ar u_le b_pi b_pa u_pd u_od b_ws b_hw u_la b_se b_re u_bk u_va u_su u_ce u_ho u_wy u_bt u_ps b_pt u_tg u_sn b_ip u_ic b_ah b_be b_me u_wd b_tr b_ld u_st b_wn u_id)), (b_tp, (arI G 400 v_tp))] s.heap.size = A at hD hT ⊢
  have hA : ∀ q : Nat, s.heap.size ≤ q → A q := fun q h => by rw [← hAe]; exact Or.inr h
  have hS : va_S A s.heap s.heap [] := va_S.rf
  replace hP : va_P G.1 vwCl [(b_o, (oc12 u_th u_sa b_rf b_ro b_im b_ke u_fd b_tp u_td u_fr u_to u_so u_wo u_fa u_bd u_nc b_nl u_co b_op b_ar u_le b_pi b_pa u_pd u_od b_ws b_hw u_la b_se b_re u_bk u_va u_su u_ce u_ho u_wy u_bt u_ps b_pt u_tg u_sn b_ip u_ic b_ah b_be b_me u_wd b_tr b_ld u_st b_wn u_id)), (b_tp, (arI G 400 v_tp))] s.heap := hP
  have hl := lv_entry ([.ref b_o, .int 1]) (n := 2) (Nat.le_of_ble_eq_true rfl)
  rw [lg_entry_eq]
  generalize (lg_sl ([.ref b_o, .int 1]) ++ List.replicate (2 - (lg_sl ([.ref b_o, .int 1])).length) Slot.unset).toArray = ls at hl ⊢
  replace hl : lv_has ls 2 [(0, .ref b_o), (1, .int 1)] := hl
  refine lv_aload_n hx hb dX12_must_0 rfl (lv_at hl 0 rfl) ?_
  refine va_get (D := G.1) (ci := 12) (v := .int u_bd) (C := RX12) (T := TX12) (N := 52) hx hb hts inG_X12 hown hK hP 0 rfl rfl 14 (by decide +kernel) (hts _ fl_X12_205) (fun _ h9 => h9) rfl dX12_must_1 ?_
  refine lv_if_ne (tgt := 24) hx hb dX12_must_4 (by decide +kernel) (fun c_1 => ?_) (fun c_1 => ?_)
  ·
    have i_1 : u_bd.toInt ≠ 0 := g5_ne (a := u_bd.toInt) (b := 0) rfl (by decide +kernel) c_1
    omega
  ·
    have i_1 : u_bd.toInt = 0 := g5_neN (a := u_bd.toInt) (b := 0) rfl (by decide +kernel) c_1
    refine lv_iload_n hx hb dX12_must_7 rfl (lv_at hl 1 rfl) ?_
    refine lv_if_ne (tgt := 24) hx hb dX12_must_8 (by decide +kernel) (fun c_2 => ?_) (fun c_2 => ?_)
    ·
      refine lv_aload_n hx hb dX12_must_24 rfl (lv_at hl 0 rfl) ?_
      refine va_get (D := G.1) (ci := 12) (v := .int u_bd) (C := RX12) (T := TX12) (N := 52) hx hb hts inG_X12 hown hK hP 0 rfl rfl 14 (by decide +kernel) (hts _ fl_X12_205) (fun _ h9 => h9) rfl dX12_must_25 ?_
      refine lv_if_ne (tgt := 35) hx hb dX12_must_28 (by decide +kernel) (fun c_3 => ?_) (fun c_3 => ?_)
      ·
        have i_3 : u_bd.toInt ≠ 0 := g5_ne (a := u_bd.toInt) (b := 0) rfl (by decide +kernel) c_3
        omega
      ·
        have i_3 : u_bd.toInt = 0 := g5_neN (a := u_bd.toInt) (b := 0) rfl (by decide +kernel) c_3
        refine lv_aload_n hx hb dX12_must_31 rfl (lv_at hl 0 rfl) ?_
        obtain ⟨hPc, hDc, hFc⟩ := g5_sub3 (wc := [(b_o, (oc12 u_th u_sa b_rf b_ro b_im b_ke u_fd b_tp u_td u_fr u_to u_so u_wo u_fa u_bd u_nc b_nl u_co b_op b_ar u_le b_pi b_pa u_pd u_od b_ws b_hw u_la b_se b_re u_bk u_va u_su u_ce u_ho u_wy u_bt u_ps b_pt u_tg u_sn b_ip u_ic b_ah b_be b_me u_wd b_tr b_ld u_st b_wn u_id)), (b_tp, (arI G 400 v_tp))]) hP hD hS hA [0, 1] (by decide +kernel) rfl
        refine va_callv (va_runV (As := []) (rest := []) ⟨hx, hb, hml, hown, hts⟩ (n_nextX l G b_o b_tp b_rf b_ro b_im b_ke b_nl b_op b_ar b_pi b_pa b_ws b_hw b_se b_re b_pt b_ip b_ah b_be b_me b_tr b_ld b_wn s.heap.size u_th u_sa u_fd u_td u_fr u_to u_so u_fa u_bd u_nc u_co u_le u_pd u_od u_la u_bk u_ce u_ho u_wy u_bt u_ps u_tg u_sn u_ic u_wd u_id u_wo u_va u_su u_st v_tp h_u_td h_u_fr h_u_to ⟨by omega, by omega⟩ h_u_nc h_u_co h_u_pd h_u_la h_u_bk h_u_ce h_u_ho h_u_wy h_u_bt h_u_ps h_u_ic h_u_id (by omega)) (cwV 0 hts gV_X12_208 rfl rfl rfl hv_X12_next ⟨Nat.le_of_ble_eq_true rfl, Nat.le_of_ble_eq_true rfl⟩) (g5_preV hPc hK hDc hN hT hS hFc (ci := 12) (q0 := 0) rfl rfl) rfl rfl hl.1 rfl (lv_room (Nat.le_of_ble_eq_true rfl)) dX12_must_32 ⟨Nat.le_of_ble_eq_true rfl, Nat.le_of_ble_eq_true rfl⟩) hS (fun q _ h => hFc q h) hFc (fun u t H locs ht hvm hw hB hz1 hk1 hS => ?_)
        obtain ⟨hP1, hD1⟩ := hB
        have hP1 := g5_ht ht hP1
        obtain ⟨z9, z10, z11, z12, (i_4 : 0 ≤ z9.toInt ∧ z9.toInt ≤ 400), (i_5 : 0 ≤ z10.toInt ∧ z10.toInt ≤ 400), (i_6 : u_to.toInt ≤ z9.toInt ∧ z9.toInt ≤ z10.toInt ∧ z10.toInt ≤ u_td.toInt), (i_7 : TKs z11.toInt z9.toInt z10.toInt), (i_8 : TOKA v_tp u_td.toInt.toNat (skT v_tp u_td.toInt.toNat u_to.toInt.toNat) z9 z10 z11 z12), rfl⟩ := hw
        have hJ9 := va_join (wr := []) hP hD [0, 1] [] rfl rfl (by decide +kernel) (by decide +kernel) hk1 hFc hP1 hD1
        clear hP hD hPc hDc hFc ht hvm hz1 hk1 hP1 hD1
        obtain ⟨hP, hD⟩ := hJ9
        refine g5_rs [(b_o, (oc12 u_th u_sa b_rf b_ro b_im b_ke u_fd b_tp u_td z9 z10 z11 z12 u_fa u_bd u_nc b_nl u_co b_op b_ar u_le b_pi b_pa u_pd u_od b_ws b_hw u_la b_se b_re u_bk u_va u_su u_ce u_ho u_wy u_bt u_ps b_pt u_tg u_sn b_ip u_ic b_ah b_be b_me u_wd b_tr b_ld u_st b_wn u_id)), (b_tp, (arI G 400 v_tp))] hP hD ?_
        clear hP hD
        intro hP hD
        exact W.vret hx hb hr (fun t ht hW => ⟨⟨[(b_o, (oc12 u_th u_sa b_rf b_ro b_im b_ke u_fd b_tp u_td z9 z10 z11 z12 u_fa u_bd u_nc b_nl u_co b_op b_ar u_le b_pi b_pa u_pd u_od b_ws b_hw u_la b_se b_re u_bk u_va u_su u_ce u_ho u_wy u_bt u_ps b_pt u_tg u_sn b_ip u_ic b_ah b_be b_me u_wd b_tr b_ld u_st b_wn u_id)), (b_tp, (arI G 400 v_tp))], rfl, ⟨z9, z10, z11, z12, i_4, i_5, by omega, i_7, i_8, rfl⟩, by rw [ht]; exact hP.sub [0, 1] rfl, hD.sub [0, 1] (by decide +kernel) rfl⟩, hS.F ht⟩) hS.2.2 dX12_must_35
    ·
      exact absurd c_2 (by decide +kernel)
set_option maxHeartbeats 4000000 in
set_option maxRecDepth 100000 in
theorem n_settleX (l : Launch) (G : g5_G) (b_o b_op b_ar b_pi b_pa b_rf b_ro b_im b_ke b_tp b_nl b_ws b_hw b_se b_re b_pt b_ip b_ah b_be b_me b_tr b_ld b_wn : Nat) (sz : Nat) (u_th : Int32) (u_sa : Int32) (u_fd : Int32) (u_td : Int32) (u_fr : Int32) (u_to : Int32) (u_so : Int32) (u_fa : Int32) (u_bd : Int32) (u_nc : Int32) (u_co : Int32) (u_le : Int32) (u_pd : Int32) (u_od : Int32) (u_la : Int32) (u_bk : Int32) (u_ce : Int32) (u_ho : Int32) (u_wy : Int32) (u_bt : Int32) (u_ps : Int32) (u_tg : Int32) (u_sn : Int32) (u_ic : Int32) (u_wd : Int32) (u_id : Int32) (p_1 : Int32) (g_a : Int32) (g_f : Int32) (u_wo : Int64) (u_va : Int64) (u_su : Int64) (u_st : Int64) (v_op : Nat → Int32) (v_ar : Nat → Int32) (v_pi : Nat → Int32) (v_pa : Nat → Int32) (g_op : Nat → Int32) (g_ar : Nat → Int32) (h_u_td : 0 ≤ u_td.toInt ∧ u_td.toInt ≤ 400) (h_u_fr : 0 ≤ u_fr.toInt ∧ u_fr.toInt ≤ 400) (h_u_to : 0 ≤ u_to.toInt ∧ u_to.toInt ≤ 400) (h_u_bd : 0 ≤ u_bd.toInt ∧ u_bd.toInt ≤ 1) (h_u_nc : 0 ≤ u_nc.toInt ∧ u_nc.toInt ≤ 12) (h_u_co : 0 ≤ u_co.toInt ∧ u_co.toInt ≤ 400) (h_u_pd : 0 ≤ u_pd.toInt ∧ u_pd.toInt ≤ 400) (h_u_la : 0 ≤ u_la.toInt ∧ u_la.toInt ≤ 4840) (h_u_bk : 0 ≤ u_bk.toInt ∧ u_bk.toInt ≤ 1) (h_u_ce : 0 ≤ u_ce.toInt ∧ u_ce.toInt ≤ 63) (h_u_ho : 0 ≤ u_ho.toInt ∧ u_ho.toInt ≤ 23) (h_u_wy : 0 ≤ u_wy.toInt ∧ u_wy.toInt ≤ 3) (h_u_bt : 0 ≤ u_bt.toInt ∧ u_bt.toInt ≤ 1000000) (h_u_ps : 0 ≤ u_ps.toInt ∧ u_ps.toInt ≤ 200) (h_u_ic : 0 ≤ u_ic.toInt ∧ u_ic.toInt ≤ 1) (h_u_id : 0 ≤ u_id.toInt ∧ u_id.toInt ≤ 1) (h_p_1 : 1 ≤ p_1.toInt ∧ p_1.toInt ≤ 6) (e_f : g_f.toInt ≤ 400) (e_x : XJ g_op g_ar v_op v_ar v_pi v_pa g_a.toInt u_co.toInt u_pd.toInt g_f.toInt) (e_h : HJ v_op v_ar v_pi v_pa g_a.toInt u_co.toInt u_pd.toInt 1) : Met l yX12_settle (wsG yX12_settle cX12_settle 2 none) ({ frames := 1, cells := 0, slots := 0, locals := 22 }) (va_Pc [.ref b_o, .int p_1] (g5_P G [(b_o, (oc12 u_th u_sa b_rf b_ro b_im b_ke u_fd b_tp u_td u_fr u_to u_so u_wo u_fa u_bd u_nc b_nl u_co b_op b_ar u_le b_pi b_pa u_pd u_od b_ws b_hw u_la b_se b_re u_bk u_va u_su u_ce u_ho u_wy u_bt u_ps b_pt u_tg u_sn b_ip u_ic b_ah b_be b_me u_wd b_tr b_ld u_st b_wn u_id)), (b_op, (arI G 400 v_op)), (b_ar, (arI G 400 v_ar)), (b_pi, (arI G 400 v_pi)), (b_pa, (arI G 400 v_pa))] sz)) (va_Qv (fun (u : va_W) => (∃ (o_co : Int32) (o_pd : Int32) (o_op : Nat → Int32) (o_ar : Nat → Int32), (0 ≤ o_co.toInt ∧ o_co.toInt ≤ 400) ∧ (0 ≤ o_pd.toInt ∧ o_pd.toInt ≤ 400) ∧ (XJ g_op g_ar o_op o_ar v_pi v_pa g_a.toInt o_co.toInt o_pd.toInt g_f.toInt) ∧ (HJ o_op o_ar v_pi v_pa g_a.toInt o_co.toInt o_pd.toInt 1) ∧ (stl p_1.toInt (plL v_pi v_pa u_pd.toInt.toNat) (v_op, v_ar, u_co.toInt.toNat) = (plL v_pi v_pa o_pd.toInt.toNat, (o_op, o_ar, o_co.toInt.toNat))) ∧ (S1 v_pi u_pd.toInt o_pd.toInt) ∧ (S2 v_pi o_pd.toInt p_1.toInt) ∧ (o_pd.toInt ≤ u_pd.toInt) ∧ (u = [(b_o, (oc12 u_th u_sa b_rf b_ro b_im b_ke u_fd b_tp u_td u_fr u_to u_so u_wo u_fa u_bd u_nc b_nl o_co b_op b_ar u_le b_pi b_pa o_pd u_od b_ws b_hw u_la b_se b_re u_bk u_va u_su u_ce u_ho u_wy u_bt u_ps b_pt u_tg u_sn b_ip u_ic b_ah b_be b_me u_wd b_tr b_ld u_st b_wn u_id)), (b_op, (arI G 400 o_op)), (b_ar, (arI G 400 o_ar)), (b_pi, (arI G 400 v_pi)), (b_pa, (arI G 400 v_pa))]))) (g5_B G (va_A [(b_o, (oc12 u_th u_sa b_rf b_ro b_im b_ke u_fd b_tp u_td u_fr u_to u_so u_wo u_fa u_bd u_nc b_nl u_co b_op b_ar u_le b_pi b_pa u_pd u_od b_ws b_hw u_la b_se b_re u_bk u_va u_su u_ce u_ho u_wy u_bt u_ps b_pt u_tg u_sn b_ip u_ic b_ah b_be b_me u_wd b_tr b_ld u_st b_wn u_id)), (b_op, (arI G 400 v_op)), (b_ar, (arI G 400 v_ar)), (b_pi, (arI G 400 v_pi)), (b_pa, (arI G 400 v_pa))] sz)) (va_A [(b_o, (oc12 u_th u_sa b_rf b_ro b_im b_ke u_fd b_tp u_td u_fr u_to u_so u_wo u_fa u_bd u_nc b_nl u_co b_op b_ar u_le b_pi b_pa u_pd u_od b_ws b_hw u_la b_se b_re u_bk u_va u_su u_ce u_ho u_wy u_bt u_ps b_pt u_tg u_sn b_ip u_ic b_ah b_be b_me u_wd b_tr b_ld u_st b_wn u_id)), (b_op, (arI G 400 v_op)), (b_ar, (arI G 400 v_ar)), (b_pi, (arI G 400 v_pi)), (b_pa, (arI G 400 v_pa))] sz)) 0 0 (va_A [(b_o, (oc12 u_th u_sa b_rf b_ro b_im b_ke u_fd b_tp u_td u_fr u_to u_so u_wo u_fa u_bd u_nc b_nl u_co b_op b_ar u_le b_pi b_pa u_pd u_od b_ws b_hw u_la b_se b_re u_bk u_va u_su u_ce u_ho u_wy u_bt u_ps b_pt u_tg u_sn b_ip u_ic b_ah b_be b_me u_wd b_tr b_ld u_st b_wn u_id)), (b_op, (arI G 400 v_op)), (b_ar, (arI G 400 v_ar)), (b_pi, (arI G 400 v_pi)), (b_pa, (arI G 400 v_pa))] sz) := by
  refine Met.ofW (cc := cX12_settle) (maxL := 2) (ret := none) (by decide +kernel) rfl ?_
  intro p e s m args below meth c s₁ B hml hv
  obtain ⟨rfl, hsz, hP, hK, hD0, hN, hT⟩ := hv
  have hx := B.exec
  have hb := B.bytes
  have hr := B.returns
  have hts : ∀ w ∈ tblG, w.before _ s = true := fun w h => atoms_spec (ws := (wsG yX12_settle cX12_settle 2 none)) B.pre w (List.mem_cons_of_mem _ h)
  have hown : s.vm.findClass RX12 = some m.cls := findClass_of_methodNamed B.named
  have hlocks := B.notSynchronized
  subst hsz
  have hD := hD0.self (sz := s.heap.size)
  generalize hAe : va_A [(b_o, (oc12 u_th u_sa b_rf b_ro b_im b_ke u_fd b_tp u_td u_fr u_to u_so u_wo u_fa u_bd u_nc b_nl u_co b_op b_ar u_le b_pi b_pa u_pd u_od b_ws b_hw u_la b_se b_re u_bk u_va u_su u_ce u_ho u_wy u_bt u_ps b_pt u_tg u_sn b_ip u_ic b_ah b_be b_me u_wd b_tr b_ld u_st b_wn u_id)), (b_op, (arI G 400 v_op)), (b_ar, (arI G 400 v_ar)), (b_pi, (arI G 400 v_pi)), (b_pa, (arI G 400 v_pa))] s.heap.size = A at hD hT ⊢
  have hA : ∀ q : Nat, s.heap.size ≤ q → A q := fun q h => by rw [← hAe]; exact Or.inr h
  have hS : va_S A s.heap s.heap [] := va_S.rf
  replace hP : va_P G.1 vwCl [(b_o, (oc12 u_th u_sa b_rf b_ro b_im b_ke u_fd b_tp u_td u_fr u_to u_so u_wo u_fa u_bd u_nc b_nl u_co b_op b_ar u_le b_pi b_pa u_pd u_od b_ws b_hw u_la b_se b_re u_bk u_va u_su u_ce u_ho u_wy u_bt u_ps b_pt u_tg u_sn b_ip u_ic b_ah b_be b_me u_wd b_tr b_ld u_st b_wn u_id)), (b_op, (arI G 400 v_op)), (b_ar, (arI G 400 v_ar)), (b_pi, (arI G 400 v_pi)), (b_pa, (arI G 400 v_pa))] s.heap := hP
  have hl := lv_entry ([.ref b_o, .int p_1]) (n := 2) (Nat.le_of_ble_eq_true rfl)
  rw [lg_entry_eq]
  generalize (lg_sl ([.ref b_o, .int p_1]) ++ List.replicate (2 - (lg_sl ([.ref b_o, .int p_1])).length) Slot.unset).toArray = ls at hl ⊢
  replace hl : lv_has ls 2 [(0, .ref b_o), (1, .int p_1)] := hl
  refine g5_loop (α := (Int32) × (Int32) × (Nat → Int32) × (Nat → Int32)) (fun (q : (Int32) × (Int32) × (Nat → Int32) × (Nat → Int32)) (ls : Array Slot) (H : Heap) (locs : List Loc) => match q with | (k0_co, k0_pd, k0_op, k0_ar) => lv_has ls 2 [(0, .ref b_o), (1, .int p_1)] ∧ va_P G.1 vwCl [(b_o, (oc12 u_th u_sa b_rf b_ro b_im b_ke u_fd b_tp u_td u_fr u_to u_so u_wo u_fa u_bd u_nc b_nl k0_co b_op b_ar u_le b_pi b_pa k0_pd u_od b_ws b_hw u_la b_se b_re u_bk u_va u_su u_ce u_ho u_wy u_bt u_ps b_pt u_tg u_sn b_ip u_ic b_ah b_be b_me u_wd b_tr b_ld u_st b_wn u_id)), (b_op, (arI G 400 k0_op)), (b_ar, (arI G 400 k0_ar)), (b_pi, (arI G 400 v_pi)), (b_pa, (arI G 400 v_pa))] H ∧ va_D A [(b_o, (oc12 u_th u_sa b_rf b_ro b_im b_ke u_fd b_tp u_td u_fr u_to u_so u_wo u_fa u_bd u_nc b_nl k0_co b_op b_ar u_le b_pi b_pa k0_pd u_od b_ws b_hw u_la b_se b_re u_bk u_va u_su u_ce u_ho u_wy u_bt u_ps b_pt u_tg u_sn b_ip u_ic b_ah b_be b_me u_wd b_tr b_ld u_st b_wn u_id)), (b_op, (arI G 400 k0_op)), (b_ar, (arI G 400 k0_ar)), (b_pi, (arI G 400 v_pi)), (b_pa, (arI G 400 v_pa))] ∧ va_S A s.heap H locs ∧ (0 ≤ k0_co.toInt ∧ k0_co.toInt ≤ 400) ∧ (0 ≤ k0_pd.toInt ∧ k0_pd.toInt ≤ 400) ∧ (XJ g_op g_ar k0_op k0_ar v_pi v_pa g_a.toInt k0_co.toInt k0_pd.toInt g_f.toInt) ∧ (HJ k0_op k0_ar v_pi v_pa g_a.toInt k0_co.toInt k0_pd.toInt 1) ∧ (STL p_1.toInt (plL v_pi v_pa u_pd.toInt.toNat) (v_op, v_ar, u_co.toInt.toNat) k0_op k0_ar v_pi v_pa k0_co k0_pd) ∧ (S1 v_pi u_pd.toInt k0_pd.toInt) ∧ (k0_pd.toInt ≤ u_pd.toInt)) (fun (q : (Int32) × (Int32) × (Nat → Int32) × (Nat → Int32)) => match q with | (k0_co, k0_pd, k0_op, k0_ar) => Int.toNat (k0_pd.toInt + 1)) (u_co, u_pd, v_op, v_ar) ⟨lv_sub hl [0, 1] rfl, hP, hD, hS, h_u_co, h_u_pd, e_x, e_h, stl_i0, s1_0, Int.le_refl _⟩ ?_
  rintro ⟨k0_co, k0_pd, k0_op, k0_ar⟩ ls H locs ⟨hl, hP, hD, hS, (i_1 : 0 ≤ k0_co.toInt ∧ k0_co.toInt ≤ 400), (i_2 : 0 ≤ k0_pd.toInt ∧ k0_pd.toInt ≤ 400), (i_3 : XJ g_op g_ar k0_op k0_ar v_pi v_pa g_a.toInt k0_co.toInt k0_pd.toInt g_f.toInt), (i_4 : HJ k0_op k0_ar v_pi v_pa g_a.toInt k0_co.toInt k0_pd.toInt 1), (i_5 : STL p_1.toInt (plL v_pi v_pa u_pd.toInt.toNat) (v_op, v_ar, u_co.toInt.toNat) k0_op k0_ar v_pi v_pa k0_co k0_pd), (i_6 : S1 v_pi u_pd.toInt k0_pd.toInt), (i_7 : k0_pd.toInt ≤ u_pd.toInt)⟩ ih_0_8
  replace hl : lv_has ls 2 [(0, .ref b_o), (1, .int p_1)] := hl
  refine g5_rs [(b_o, (oc12 u_th u_sa b_rf b_ro b_im b_ke u_fd b_tp u_td u_fr u_to u_so u_wo u_fa u_bd u_nc b_nl k0_co b_op b_ar u_le b_pi b_pa k0_pd u_od b_ws b_hw u_la b_se b_re u_bk u_va u_su u_ce u_ho u_wy u_bt u_ps b_pt u_tg u_sn b_ip u_ic b_ah b_be b_me u_wd b_tr b_ld u_st b_wn u_id)), (b_op, (arI G 400 k0_op)), (b_ar, (arI G 400 k0_ar)), (b_pi, (arI G 400 v_pi)), (b_pa, (arI G 400 v_pa))] hP hD ?_
  clear hP hD
  intro hP hD
  refine lv_aload_n hx hb dX12_settle_0 rfl (lv_at hl 0 rfl) ?_
  refine va_get (D := G.1) (ci := 12) (v := .int k0_pd) (C := RX12) (T := TX12) (N := 52) hx hb hts inG_X12 hown hK hP 0 rfl rfl 23 (by decide +kernel) (hts _ fl_X12_240) (fun _ h9 => h9) rfl dX12_settle_1 ?_
  refine lv_if_le (tgt := 101) hx hb dX12_settle_4 (by decide +kernel) (fun c_9 => ?_) (fun c_9 => ?_)
  ·
    have i_9 : k0_pd.toInt ≤ 0 := g5_le (a := k0_pd.toInt) (b := 0) rfl (by decide +kernel) c_9
    exact W.vret hx hb hr (fun t ht hW => ⟨⟨[(b_o, (oc12 u_th u_sa b_rf b_ro b_im b_ke u_fd b_tp u_td u_fr u_to u_so u_wo u_fa u_bd u_nc b_nl k0_co b_op b_ar u_le b_pi b_pa k0_pd u_od b_ws b_hw u_la b_se b_re u_bk u_va u_su u_ce u_ho u_wy u_bt u_ps b_pt u_tg u_sn b_ip u_ic b_ah b_be b_me u_wd b_tr b_ld u_st b_wn u_id)), (b_op, (arI G 400 k0_op)), (b_ar, (arI G 400 k0_ar)), (b_pi, (arI G 400 v_pi)), (b_pa, (arI G 400 v_pa))], rfl, ⟨k0_co, k0_pd, k0_op, k0_ar, i_1, i_2, i_3, i_4, stl_iX i_5 (by omega) (Or.inl (by omega)), i_6, Or.inl (by omega), by omega, rfl⟩, by rw [ht]; exact hP.sub [0, 1, 2, 3, 4] rfl, hD.sub [0, 1, 2, 3, 4] (by decide +kernel) rfl⟩, hS.F ht⟩) hS.2.2 dX12_settle_101
  ·
    have i_9 : k0_pd.toInt > 0 := g5_leN (a := k0_pd.toInt) (b := 0) rfl (by decide +kernel) c_9
    refine lv_aload_n hx hb dX12_settle_7 rfl (lv_at hl 0 rfl) ?_
    refine va_get (D := G.1) (ci := 12) (v := .ref b_pi) (C := RX12) (T := TX12) (N := 52) hx hb hts inG_X12 hown hK hP 0 rfl rfl 21 (by decide +kernel) (hts _ fl_X12_39) (fun _ h9 => h9) rfl dX12_settle_8 ?_
    refine lv_aload_n hx hb dX12_settle_11 rfl (lv_at hl 0 rfl) ?_
    refine va_get (D := G.1) (ci := 12) (v := .int k0_pd) (C := RX12) (T := TX12) (N := 52) hx hb hts inG_X12 hown hK hP 0 rfl rfl 23 (by decide +kernel) (hts _ fl_X12_240) (fun _ h9 => h9) rfl dX12_settle_12 ?_
    refine W.eq (g2 := F0 m 15 ls [.int k0_pd, .ref b_pi]) rfl ?_
    refine lv_iconst (v := 1) hx hb dX12_settle_15 (by decide +kernel) ?_
    refine lv_isub hx hb dX12_settle_16 ?_
    have t_10 : (k0_pd - 1).toInt = k0_pd.toInt - 1 := g5_isub (a := k0_pd.toInt) (b := 1) (by rfl) (by decide +kernel) (by omega) (by omega)
    refine va_iald hx hb hK hP 3 0 rfl rfl (i := (k0_pd - 1)) (vp_in_iff.mpr ⟨by omega, by omega⟩) dX12_settle_17 ?_
    have hv9 : 20 ≤ (v_pi (k0_pd - 1).toNatClampNeg).toInt ∧ (v_pi (k0_pd - 1).toNatClampNeg).toInt ≤ 31 := xj_at i_3 (by omega) (by omega)
    obtain ⟨hPc, hDc, hFc⟩ := g5_sub3 (wc := []) hP hD hS hA [] (by decide +kernel) rfl
    refine va_calli (va_runS (As := [.int (v_pi (k0_pd - 1).toNatClampNeg)]) (rest := []) ⟨hx, hb, hml, hown, hts⟩ (n_binds l G H.size (v_pi (k0_pd - 1).toNatClampNeg) ⟨by omega, by omega⟩) (va_cwS 1 hts gS_X12_243 rfl rfl rfl hs_X12_binds ⟨Nat.le_of_ble_eq_true rfl, Nat.le_of_ble_eq_true rfl⟩) (g5_preS hPc hK hDc hN hT hS hFc) rfl rfl hl.1 rfl (lv_room (Nat.le_of_ble_eq_true rfl)) dX12_settle_18 ⟨Nat.le_of_ble_eq_true rfl, Nat.le_of_ble_eq_true rfl⟩) hS (fun q _ h => hFc q h) hFc (fun r u t H locs ht hvm hw hB hz1 hk1 hS => ?_)
    obtain ⟨hP1, hD1⟩ := hB
    have hP1 := g5_ht ht hP1
    obtain ⟨z13, (i_11 : 0 ≤ z13.toInt ∧ z13.toInt ≤ 6), (i_12 : z13.toInt = bnd (v_pi (k0_pd - 1).toNatClampNeg).toInt), y14, rfl⟩ := hw
    have hJ9 := g5_same hP hk1
    clear hP hPc hDc hFc ht hvm hz1 hk1 hP1 hD1
    have hP := hJ9
    clear hJ9
    refine g5_ti (v := z13) y14 ?_
    refine lv_iload_n hx hb dX12_settle_21 rfl (lv_at hl 1 rfl) ?_
    refine W.eq (g2 := F0 m 22 ls [.int p_1, .int z13]) rfl ?_
    refine lv_icmp_lt (tgt := 101) hx hb dX12_settle_22 (by decide +kernel) (fun c_15 => ?_) (fun c_15 => ?_)
    ·
      have i_15 : z13.toInt < p_1.toInt := g5_lt (a := z13.toInt) (b := p_1.toInt) rfl rfl c_15
      exact W.vret hx hb hr (fun t ht hW => ⟨⟨[(b_o, (oc12 u_th u_sa b_rf b_ro b_im b_ke u_fd b_tp u_td u_fr u_to u_so u_wo u_fa u_bd u_nc b_nl k0_co b_op b_ar u_le b_pi b_pa k0_pd u_od b_ws b_hw u_la b_se b_re u_bk u_va u_su u_ce u_ho u_wy u_bt u_ps b_pt u_tg u_sn b_ip u_ic b_ah b_be b_me u_wd b_tr b_ld u_st b_wn u_id)), (b_op, (arI G 400 k0_op)), (b_ar, (arI G 400 k0_ar)), (b_pi, (arI G 400 v_pi)), (b_pa, (arI G 400 v_pa))], rfl, ⟨k0_co, k0_pd, k0_op, k0_ar, i_1, i_2, i_3, i_4, stl_iX i_5 (by omega) (s2_lt (p' := (k0_pd - 1)) (by omega) (by omega) (by omega)), i_6, s2_lt (p' := (k0_pd - 1)) (by omega) (by omega) (by omega), by omega, rfl⟩, by rw [ht]; exact hP.sub [0, 1, 2, 3, 4] rfl, hD.sub [0, 1, 2, 3, 4] (by decide +kernel) rfl⟩, hS.F ht⟩) hS.2.2 dX12_settle_101
    ·
      have i_15 : z13.toInt ≥ p_1.toInt := g5_ltN (a := z13.toInt) (b := p_1.toInt) rfl rfl c_15
      have hw9 : (v_pi (k0_pd - 1).toNatClampNeg).toInt < 30 := bnd_ge1 (by omega)
      have hm9 : p_1.toInt ≤ bnd (v_pi (k0_pd - 1).toNatClampNeg).toInt := by omega
      refine lv_aload_n hx hb dX12_settle_25 rfl (lv_at hl 0 rfl) ?_
      refine lv_dup hx hb dX12_settle_26 rfl ?_
      refine va_get (D := G.1) (ci := 12) (v := .int k0_pd) (C := RX12) (T := TX12) (N := 52) hx hb hts inG_X12 hown hK hP 0 rfl rfl 23 (by decide +kernel) (hts _ fl_X12_240) (fun _ h9 => h9) rfl dX12_settle_27 ?_
      refine lv_iconst (v := 1) hx hb dX12_settle_30 (by decide +kernel) ?_
      refine W.eq (g2 := F0 m 31 ls [.int 1, .int k0_pd, .ref b_o]) rfl ?_
      refine lv_isub hx hb dX12_settle_31 ?_
      have t_16 : (k0_pd - 1).toInt = k0_pd.toInt - 1 := g5_isub (a := k0_pd.toInt) (b := 1) (by rfl) (by decide +kernel) (by omega) (by omega)
      refine va_put (D := G.1) (ci := 12) (v := .int (k0_pd - 1)) (ty := .int) (C := RX12) (T := TX12) (N := 52) hx hb hts inG_X12 tyX12 tyX12_ok nmX12 hown hK hP hD hS 0 rfl rfl 23 (by decide +kernel) (hts _ fl_X12_240) (fun _ h9 => h9) rfl (by decide +kernel) rfl rfl (Nat.le_of_ble_eq_true rfl) dX12_settle_32 ?_
      clear hP hD hS
      intro H locs hP hD hS
      refine g5_rs [(b_o, (oc12 u_th u_sa b_rf b_ro b_im b_ke u_fd b_tp u_td u_fr u_to u_so u_wo u_fa u_bd u_nc b_nl k0_co b_op b_ar u_le b_pi b_pa (k0_pd - 1) u_od b_ws b_hw u_la b_se b_re u_bk u_va u_su u_ce u_ho u_wy u_bt u_ps b_pt u_tg u_sn b_ip u_ic b_ah b_be b_me u_wd b_tr b_ld u_st b_wn u_id)), (b_op, (arI G 400 k0_op)), (b_ar, (arI G 400 k0_ar)), (b_pi, (arI G 400 v_pi)), (b_pa, (arI G 400 v_pa))] hP hD ?_
      clear hP hD
      intro hP hD
      refine lv_aload_n hx hb dX12_settle_35 rfl (lv_at hl 0 rfl) ?_
      refine va_get (D := G.1) (ci := 12) (v := .ref b_pi) (C := RX12) (T := TX12) (N := 52) hx hb hts inG_X12 hown hK hP 0 rfl rfl 21 (by decide +kernel) (hts _ fl_X12_39) (fun _ h9 => h9) rfl dX12_settle_36 ?_
      refine lv_aload_n hx hb dX12_settle_39 rfl (lv_at hl 0 rfl) ?_
      refine W.eq (g2 := F0 m 40 ls [.ref b_o, .ref b_pi]) rfl ?_
      refine va_get (D := G.1) (ci := 12) (v := .int (k0_pd - 1)) (C := RX12) (T := TX12) (N := 52) hx hb hts inG_X12 hown hK hP 0 rfl rfl 23 (by decide +kernel) (hts _ fl_X12_240) (fun _ h9 => h9) rfl dX12_settle_40 ?_
      refine va_iald hx hb hK hP 3 0 rfl rfl (i := (k0_pd - 1)) (vp_in_iff.mpr ⟨by omega, by omega⟩) dX12_settle_43 ?_
      refine lv_bipush (v := 28) hx hb dX12_settle_44 (by decide +kernel) ?_
      refine lv_icmp_eq (tgt := 63) hx hb dX12_settle_46 (by decide +kernel) (fun c_17 => ?_) (fun c_17 => ?_)
      ·
        have i_17 : (v_pi (k0_pd - 1).toNatClampNeg).toInt = 28 := g5_eq (a := (v_pi (k0_pd - 1).toNatClampNeg).toInt) (b := 28) rfl (by decide +kernel) c_17
        have hj9 : isJ (v_pi (k0_pd - 1).toNatClampNeg) := by unfold isJ; omega
        refine lv_aload_n hx hb dX12_settle_63 rfl (lv_at hl 0 rfl) ?_
        refine va_get (D := G.1) (ci := 12) (v := .ref b_ar) (C := RX12) (T := TX12) (N := 52) hx hb hts inG_X12 hown hK hP 0 rfl rfl 19 (by decide +kernel) (hts _ fl_X12_36) (fun _ h9 => h9) rfl dX12_settle_64 ?_
        refine lv_aload_n hx hb dX12_settle_67 rfl (lv_at hl 0 rfl) ?_
        refine va_get (D := G.1) (ci := 12) (v := .ref b_pa) (C := RX12) (T := TX12) (N := 52) hx hb hts inG_X12 hown hK hP 0 rfl rfl 22 (by decide +kernel) (hts _ fl_X12_42) (fun _ h9 => h9) rfl dX12_settle_68 ?_
        refine W.eq (g2 := F0 m 71 ls [.ref b_pa, .ref b_ar]) rfl ?_
        refine lv_aload_n hx hb dX12_settle_71 rfl (lv_at hl 0 rfl) ?_
        refine va_get (D := G.1) (ci := 12) (v := .int (k0_pd - 1)) (C := RX12) (T := TX12) (N := 52) hx hb hts inG_X12 hown hK hP 0 rfl rfl 23 (by decide +kernel) (hts _ fl_X12_240) (fun _ h9 => h9) rfl dX12_settle_72 ?_
        refine va_iald hx hb hK hP 4 0 rfl rfl (i := (k0_pd - 1)) (vp_in_iff.mpr ⟨by omega, by omega⟩) dX12_settle_75 ?_
        have hq9 : 0 ≤ (v_pa (k0_pd - 1).toNatClampNeg).toInt ∧ (v_pa (k0_pd - 1).toNatClampNeg).toInt ≤ 399 := xj_pa i_3 (by omega) (by omega) (by omega) hj9
        refine lv_aload_n hx hb dX12_settle_76 rfl (lv_at hl 0 rfl) ?_
        refine va_get (D := G.1) (ci := 12) (v := .int k0_co) (C := RX12) (T := TX12) (N := 52) hx hb hts inG_X12 hown hK hP 0 rfl rfl 17 (by decide +kernel) (hts _ fl_X12_237) (fun _ h9 => h9) rfl dX12_settle_77 ?_
        refine W.eq (g2 := F0 m 80 ls [.int k0_co, .int (v_pa (k0_pd - 1).toNatClampNeg), .ref b_ar]) rfl ?_
        refine va_iast hx hb hK hP hD hS 2 0 rfl rfl (i := (v_pa (k0_pd - 1).toNatClampNeg)) (x := k0_co) (vp_in_iff.mpr ⟨by omega, by omega⟩) dX12_settle_80 ?_
        clear hP hD hS
        intro H locs hP hD hS
        refine g5_rs [(b_o, (oc12 u_th u_sa b_rf b_ro b_im b_ke u_fd b_tp u_td u_fr u_to u_so u_wo u_fa u_bd u_nc b_nl k0_co b_op b_ar u_le b_pi b_pa (k0_pd - 1) u_od b_ws b_hw u_la b_se b_re u_bk u_va u_su u_ce u_ho u_wy u_bt u_ps b_pt u_tg u_sn b_ip u_ic b_ah b_be b_me u_wd b_tr b_ld u_st b_wn u_id)), (b_op, (arI G 400 k0_op)), (b_ar, (arI G 400 (upd k0_ar (v_pa (k0_pd - 1).toNatClampNeg).toNatClampNeg k0_co))), (b_pi, (arI G 400 v_pi)), (b_pa, (arI G 400 v_pa))] hP hD ?_
        clear hP hD
        intro hP hD
        refine lv_goto (tgt := 0) hx hb dX12_settle_81 (by decide +kernel) ?_
        exact ih_0_8 (k0_co, (k0_pd - 1), k0_op, (upd k0_ar (v_pa (k0_pd - 1).toNatClampNeg).toNatClampNeg k0_co)) ls H locs (show Int.toNat ((k0_pd - 1).toInt + 1) < Int.toNat (k0_pd.toInt + 1) from g_dn (show (k0_pd - 1).toInt < k0_pd.toInt by omega) (show 0 ≤ k0_pd.toInt by omega)) ⟨lv_sub hl [0, 1] rfl, hP, hD, hS, i_1, ⟨by omega, by omega⟩, xj_popJ i_3 (by omega) (by omega) hj9, hj_popJ i_3 i_4 (by omega) (by omega) hj9, stl_iJ i_5 (by omega) (by omega) hm9 hj9 (by omega), s1_S i_6 (by omega) (by omega) (by omega), by omega⟩
      ·
        have n_17 : gNe ((v_pi (k0_pd - 1).toNatClampNeg).toInt) (28) := g5_eqN (a := (v_pi (k0_pd - 1).toNatClampNeg).toInt) (b := 28) rfl (by decide +kernel) c_17
        refine lv_aload_n hx hb dX12_settle_49 rfl (lv_at hl 0 rfl) ?_
        refine va_get (D := G.1) (ci := 12) (v := .ref b_pi) (C := RX12) (T := TX12) (N := 52) hx hb hts inG_X12 hown hK hP 0 rfl rfl 21 (by decide +kernel) (hts _ fl_X12_39) (fun _ h9 => h9) rfl dX12_settle_50 ?_
        refine lv_aload_n hx hb dX12_settle_53 rfl (lv_at hl 0 rfl) ?_
        refine va_get (D := G.1) (ci := 12) (v := .int (k0_pd - 1)) (C := RX12) (T := TX12) (N := 52) hx hb hts inG_X12 hown hK hP 0 rfl rfl 23 (by decide +kernel) (hts _ fl_X12_240) (fun _ h9 => h9) rfl dX12_settle_54 ?_
        refine W.eq (g2 := F0 m 57 ls [.int (k0_pd - 1), .ref b_pi]) rfl ?_
        refine va_iald hx hb hK hP 3 0 rfl rfl (i := (k0_pd - 1)) (vp_in_iff.mpr ⟨by omega, by omega⟩) dX12_settle_57 ?_
        refine lv_bipush (v := 29) hx hb dX12_settle_58 (by decide +kernel) ?_
        refine lv_icmp_ne (tgt := 84) hx hb dX12_settle_60 (by decide +kernel) (fun c_18 => ?_) (fun c_18 => ?_)
        ·
          have n_18 : gNe ((v_pi (k0_pd - 1).toNatClampNeg).toInt) (29) := g5_ne (a := (v_pi (k0_pd - 1).toNatClampNeg).toInt) (b := 29) rfl (by decide +kernel) c_18
          have i_18 : (v_pi (k0_pd - 1).toNatClampNeg).toInt ≤ 28 := by have z := g5_ne (a := (v_pi (k0_pd - 1).toNatClampNeg).toInt) (b := 29) (by rfl) (by decide +kernel) c_18; omega
          have hx28 : (v_pi (k0_pd - 1).toNatClampNeg).toInt < 28 := by have q9 : ¬ (v_pi (k0_pd - 1).toNatClampNeg).toInt = 28 := n_17; omega
          have hn9 : ¬ isJ (v_pi (k0_pd - 1).toNatClampNeg) := by unfold isJ; omega
          have hc9 : k0_co.toInt < 400 := xj_room i_3 (by omega) (by omega) (by omega) hx28
          refine lv_aload_n hx hb dX12_settle_84 rfl (lv_at hl 0 rfl) ?_
          refine lv_aload_n hx hb dX12_settle_85 rfl (lv_at hl 0 rfl) ?_
          refine va_get (D := G.1) (ci := 12) (v := .ref b_pi) (C := RX12) (T := TX12) (N := 52) hx hb hts inG_X12 hown hK hP 0 rfl rfl 21 (by decide +kernel) (hts _ fl_X12_39) (fun _ h9 => h9) rfl dX12_settle_86 ?_
          refine lv_aload_n hx hb dX12_settle_89 rfl (lv_at hl 0 rfl) ?_
          refine W.eq (g2 := F0 m 90 ls [.ref b_o, .ref b_pi, .ref b_o]) rfl ?_
          refine va_get (D := G.1) (ci := 12) (v := .int (k0_pd - 1)) (C := RX12) (T := TX12) (N := 52) hx hb hts inG_X12 hown hK hP 0 rfl rfl 23 (by decide +kernel) (hts _ fl_X12_240) (fun _ h9 => h9) rfl dX12_settle_90 ?_
          refine va_iald hx hb hK hP 3 0 rfl rfl (i := (k0_pd - 1)) (vp_in_iff.mpr ⟨by omega, by omega⟩) dX12_settle_93 ?_
          refine lv_iconst (v := 0) hx hb dX12_settle_94 (by decide +kernel) ?_
          obtain ⟨hPc, hDc, hFc⟩ := g5_sub3 (wc := [(b_o, (oc12 u_th u_sa b_rf b_ro b_im b_ke u_fd b_tp u_td u_fr u_to u_so u_wo u_fa u_bd u_nc b_nl k0_co b_op b_ar u_le b_pi b_pa (k0_pd - 1) u_od b_ws b_hw u_la b_se b_re u_bk u_va u_su u_ce u_ho u_wy u_bt u_ps b_pt u_tg u_sn b_ip u_ic b_ah b_be b_me u_wd b_tr b_ld u_st b_wn u_id)), (b_op, (arI G 400 k0_op)), (b_ar, (arI G 400 k0_ar))]) hP hD hS hA [0, 1, 2] (by decide +kernel) rfl
          refine va_callv (va_runV (As := [.int (v_pi (k0_pd - 1).toNatClampNeg), .int 0]) (rest := []) ⟨hx, hb, hml, hown, hts⟩ (n_emit l G b_o b_op b_ar b_rf b_ro b_im b_ke b_tp b_nl b_pi b_pa b_ws b_hw b_se b_re b_pt b_ip b_ah b_be b_me b_tr b_ld b_wn H.size u_th u_sa u_fd u_td u_fr u_to u_so u_fa u_bd u_nc k0_co u_le (k0_pd - 1) u_od u_la u_bk u_ce u_ho u_wy u_bt u_ps u_tg u_sn u_ic u_wd u_id (v_pi (k0_pd - 1).toNatClampNeg) 0 u_wo u_va u_su u_st k0_op k0_ar h_u_td h_u_fr h_u_to h_u_bd h_u_nc i_1 ⟨by omega, by omega⟩ h_u_la h_u_bk h_u_ce h_u_ho h_u_wy h_u_bt h_u_ps h_u_ic h_u_id (by omega)) (cwV 2 hts gV_X12_246 rfl rfl rfl hv_X12_emit ⟨Nat.le_of_ble_eq_true rfl, Nat.le_of_ble_eq_true rfl⟩) (g5_preV hPc hK hDc hN hT hS hFc (ci := 12) (q0 := 0) rfl rfl) rfl rfl hl.1 rfl (lv_room (Nat.le_of_ble_eq_true rfl)) dX12_settle_95 ⟨Nat.le_of_ble_eq_true rfl, Nat.le_of_ble_eq_true rfl⟩) hS (fun q _ h => hFc q h) hFc (fun u t H locs ht hvm hw hB hz1 hk1 hS => ?_)
          obtain ⟨hP1, hD1⟩ := hB
          have hP1 := g5_ht ht hP1
          obtain ⟨z21, (i_19 : 0 ≤ z21.toInt ∧ z21.toInt ≤ 400), (i_20 : z21.toInt = k0_co.toInt + 1), rfl⟩ := hw
          have hJ9 := va_join (wr := [(b_pi, (arI G 400 v_pi)), (b_pa, (arI G 400 v_pa))]) hP hD [0, 1, 2] [3, 4] rfl rfl (by decide +kernel) (by decide +kernel) hk1 hFc hP1 hD1
          clear hP hD hPc hDc hFc ht hvm hz1 hk1 hP1 hD1
          obtain ⟨hP, hD⟩ := hJ9
          refine g5_rs [(b_pi, (arI G 400 v_pi)), (b_pa, (arI G 400 v_pa)), (b_o, (oc12 u_th u_sa b_rf b_ro b_im b_ke u_fd b_tp u_td u_fr u_to u_so u_wo u_fa u_bd u_nc b_nl z21 b_op b_ar u_le b_pi b_pa (k0_pd - 1) u_od b_ws b_hw u_la b_se b_re u_bk u_va u_su u_ce u_ho u_wy u_bt u_ps b_pt u_tg u_sn b_ip u_ic b_ah b_be b_me u_wd b_tr b_ld u_st b_wn u_id)), (b_op, (arI G 400 (upd k0_op k0_co.toNatClampNeg (v_pi (k0_pd - 1).toNatClampNeg)))), (b_ar, (arI G 400 (upd k0_ar k0_co.toNatClampNeg 0)))] hP hD ?_
          clear hP hD
          intro hP hD
          refine lv_goto (tgt := 0) hx hb dX12_settle_98 (by decide +kernel) ?_
          exact ih_0_8 (z21, (k0_pd - 1), (upd k0_op k0_co.toNatClampNeg (v_pi (k0_pd - 1).toNatClampNeg)), (upd k0_ar k0_co.toNatClampNeg 0)) ls H locs (show Int.toNat ((k0_pd - 1).toInt + 1) < Int.toNat (k0_pd.toInt + 1) from g_dn (show (k0_pd - 1).toInt < k0_pd.toInt by omega) (show 0 ≤ k0_pd.toInt by omega)) ⟨lv_sub hl [0, 1] rfl, hP.sub [2, 3, 4, 0, 1] rfl, hD.sub [2, 3, 4, 0, 1] (by decide +kernel) rfl, hS, i_19, ⟨by omega, by omega⟩, xj_popE i_3 (by omega) (by omega) (by omega) hx28, hj_popE i_3 i_4 (by omega) (by omega) (by omega) hx28, stl_iE i_5 (by omega) (by omega) hm9 hn9 (by omega) (by omega), s1_S i_6 (by omega) (by omega) (by omega), by omega⟩
        ·
          have i_18 : (v_pi (k0_pd - 1).toNatClampNeg).toInt = 29 := g5_neN (a := (v_pi (k0_pd - 1).toNatClampNeg).toInt) (b := 29) rfl (by decide +kernel) c_18
          have hj9 : isJ (v_pi (k0_pd - 1).toNatClampNeg) := by unfold isJ; omega
          refine lv_aload_n hx hb dX12_settle_63 rfl (lv_at hl 0 rfl) ?_
          refine va_get (D := G.1) (ci := 12) (v := .ref b_ar) (C := RX12) (T := TX12) (N := 52) hx hb hts inG_X12 hown hK hP 0 rfl rfl 19 (by decide +kernel) (hts _ fl_X12_36) (fun _ h9 => h9) rfl dX12_settle_64 ?_
          refine lv_aload_n hx hb dX12_settle_67 rfl (lv_at hl 0 rfl) ?_
          refine va_get (D := G.1) (ci := 12) (v := .ref b_pa) (C := RX12) (T := TX12) (N := 52) hx hb hts inG_X12 hown hK hP 0 rfl rfl 22 (by decide +kernel) (hts _ fl_X12_42) (fun _ h9 => h9) rfl dX12_settle_68 ?_
          refine W.eq (g2 := F0 m 71 ls [.ref b_pa, .ref b_ar]) rfl ?_
          refine lv_aload_n hx hb dX12_settle_71 rfl (lv_at hl 0 rfl) ?_
          refine va_get (D := G.1) (ci := 12) (v := .int (k0_pd - 1)) (C := RX12) (T := TX12) (N := 52) hx hb hts inG_X12 hown hK hP 0 rfl rfl 23 (by decide +kernel) (hts _ fl_X12_240) (fun _ h9 => h9) rfl dX12_settle_72 ?_
          refine va_iald hx hb hK hP 4 0 rfl rfl (i := (k0_pd - 1)) (vp_in_iff.mpr ⟨by omega, by omega⟩) dX12_settle_75 ?_
          have hq9 : 0 ≤ (v_pa (k0_pd - 1).toNatClampNeg).toInt ∧ (v_pa (k0_pd - 1).toNatClampNeg).toInt ≤ 399 := xj_pa i_3 (by omega) (by omega) (by omega) hj9
          refine lv_aload_n hx hb dX12_settle_76 rfl (lv_at hl 0 rfl) ?_
          refine va_get (D := G.1) (ci := 12) (v := .int k0_co) (C := RX12) (T := TX12) (N := 52) hx hb hts inG_X12 hown hK hP 0 rfl rfl 17 (by decide +kernel) (hts _ fl_X12_237) (fun _ h9 => h9) rfl dX12_settle_77 ?_
          refine W.eq (g2 := F0 m 80 ls [.int k0_co, .int (v_pa (k0_pd - 1).toNatClampNeg), .ref b_ar]) rfl ?_
          refine va_iast hx hb hK hP hD hS 2 0 rfl rfl (i := (v_pa (k0_pd - 1).toNatClampNeg)) (x := k0_co) (vp_in_iff.mpr ⟨by omega, by omega⟩) dX12_settle_80 ?_
          clear hP hD hS
          intro H locs hP hD hS
          refine g5_rs [(b_o, (oc12 u_th u_sa b_rf b_ro b_im b_ke u_fd b_tp u_td u_fr u_to u_so u_wo u_fa u_bd u_nc b_nl k0_co b_op b_ar u_le b_pi b_pa (k0_pd - 1) u_od b_ws b_hw u_la b_se b_re u_bk u_va u_su u_ce u_ho u_wy u_bt u_ps b_pt u_tg u_sn b_ip u_ic b_ah b_be b_me u_wd b_tr b_ld u_st b_wn u_id)), (b_op, (arI G 400 k0_op)), (b_ar, (arI G 400 (upd k0_ar (v_pa (k0_pd - 1).toNatClampNeg).toNatClampNeg k0_co))), (b_pi, (arI G 400 v_pi)), (b_pa, (arI G 400 v_pa))] hP hD ?_
          clear hP hD
          intro hP hD
          refine lv_goto (tgt := 0) hx hb dX12_settle_81 (by decide +kernel) ?_
          exact ih_0_8 (k0_co, (k0_pd - 1), k0_op, (upd k0_ar (v_pa (k0_pd - 1).toNatClampNeg).toNatClampNeg k0_co)) ls H locs (show Int.toNat ((k0_pd - 1).toInt + 1) < Int.toNat (k0_pd.toInt + 1) from g_dn (show (k0_pd - 1).toInt < k0_pd.toInt by omega) (show 0 ≤ k0_pd.toInt by omega)) ⟨lv_sub hl [0, 1] rfl, hP, hD, hS, i_1, ⟨by omega, by omega⟩, xj_popJ i_3 (by omega) (by omega) hj9, hj_popJ i_3 i_4 (by omega) (by omega) hj9, stl_iJ i_5 (by omega) (by omega) hm9 hj9 (by omega), s1_S i_6 (by omega) (by omega) (by omega), by omega⟩
set_option maxHeartbeats 4000000 in
set_option maxRecDepth 100000 in
theorem n_innerX (l : Launch) (G : g5_G) (b_o b_pi b_pa b_rf b_ro b_im b_ke b_tp b_nl b_op b_ar b_ws b_hw b_se b_re b_pt b_ip b_ah b_be b_me b_tr b_ld b_wn : Nat) (sz : Nat) (u_th : Int32) (u_sa : Int32) (u_fd : Int32) (u_td : Int32) (u_fr : Int32) (u_to : Int32) (u_so : Int32) (u_fa : Int32) (u_bd : Int32) (u_nc : Int32) (u_co : Int32) (u_le : Int32) (u_pd : Int32) (u_od : Int32) (u_la : Int32) (u_bk : Int32) (u_ce : Int32) (u_ho : Int32) (u_wy : Int32) (u_bt : Int32) (u_ps : Int32) (u_tg : Int32) (u_sn : Int32) (u_ic : Int32) (u_wd : Int32) (u_id : Int32) (u_wo : Int64) (u_va : Int64) (u_su : Int64) (u_st : Int64) (v_pi : Nat → Int32) (v_pa : Nat → Int32) (h_u_td : 0 ≤ u_td.toInt ∧ u_td.toInt ≤ 400) (h_u_fr : 0 ≤ u_fr.toInt ∧ u_fr.toInt ≤ 400) (h_u_to : 0 ≤ u_to.toInt ∧ u_to.toInt ≤ 400) (h_u_bd : 0 ≤ u_bd.toInt ∧ u_bd.toInt ≤ 1) (h_u_nc : 0 ≤ u_nc.toInt ∧ u_nc.toInt ≤ 12) (h_u_co : 0 ≤ u_co.toInt ∧ u_co.toInt ≤ 400) (h_u_pd : 0 ≤ u_pd.toInt ∧ u_pd.toInt ≤ 400) (h_u_la : 0 ≤ u_la.toInt ∧ u_la.toInt ≤ 4840) (h_u_bk : 0 ≤ u_bk.toInt ∧ u_bk.toInt ≤ 1) (h_u_ce : 0 ≤ u_ce.toInt ∧ u_ce.toInt ≤ 63) (h_u_ho : 0 ≤ u_ho.toInt ∧ u_ho.toInt ≤ 23) (h_u_wy : 0 ≤ u_wy.toInt ∧ u_wy.toInt ≤ 3) (h_u_bt : 0 ≤ u_bt.toInt ∧ u_bt.toInt ≤ 1000000) (h_u_ps : 0 ≤ u_ps.toInt ∧ u_ps.toInt ≤ 200) (h_u_ic : 0 ≤ u_ic.toInt ∧ u_ic.toInt ≤ 1) (h_u_id : 0 ≤ u_id.toInt ∧ u_id.toInt ≤ 1) : Met l yX12_inner (wsG yX12_inner cX12_inner 3 (some .int)) ({ frames := 0, cells := 0, slots := 0, locals := 0 }) (va_Pc [.ref b_o] (g5_P G [(b_o, (oc12 u_th u_sa b_rf b_ro b_im b_ke u_fd b_tp u_td u_fr u_to u_so u_wo u_fa u_bd u_nc b_nl u_co b_op b_ar u_le b_pi b_pa u_pd u_od b_ws b_hw u_la b_se b_re u_bk u_va u_su u_ce u_ho u_wy u_bt u_ps b_pt u_tg u_sn b_ip u_ic b_ah b_be b_me u_wd b_tr b_ld u_st b_wn u_id)), (b_pi, (arI G 400 v_pi)), (b_pa, (arI G 400 v_pa))] sz)) (va_Qi (fun (r : Int32) (u : va_W) => (∃ (o_r : Int32), (innP v_pi u_pd.toInt o_r.toInt) ∧ (o_r.toInt = inr (plL v_pi v_pa u_pd.toInt.toNat)) ∧ (r = o_r) ∧ (u = [(b_o, (oc12 u_th u_sa b_rf b_ro b_im b_ke u_fd b_tp u_td u_fr u_to u_so u_wo u_fa u_bd u_nc b_nl u_co b_op b_ar u_le b_pi b_pa u_pd u_od b_ws b_hw u_la b_se b_re u_bk u_va u_su u_ce u_ho u_wy u_bt u_ps b_pt u_tg u_sn b_ip u_ic b_ah b_be b_me u_wd b_tr b_ld u_st b_wn u_id)), (b_pi, (arI G 400 v_pi)), (b_pa, (arI G 400 v_pa))]))) (g5_B G (va_A [(b_o, (oc12 u_th u_sa b_rf b_ro b_im b_ke u_fd b_tp u_td u_fr u_to u_so u_wo u_fa u_bd u_nc b_nl u_co b_op b_ar u_le b_pi b_pa u_pd u_od b_ws b_hw u_la b_se b_re u_bk u_va u_su u_ce u_ho u_wy u_bt u_ps b_pt u_tg u_sn b_ip u_ic b_ah b_be b_me u_wd b_tr b_ld u_st b_wn u_id)), (b_pi, (arI G 400 v_pi)), (b_pa, (arI G 400 v_pa))] sz)) (va_A [(b_o, (oc12 u_th u_sa b_rf b_ro b_im b_ke u_fd b_tp u_td u_fr u_to u_so u_wo u_fa u_bd u_nc b_nl u_co b_op b_ar u_le b_pi b_pa u_pd u_od b_ws b_hw u_la b_se b_re u_bk u_va u_su u_ce u_ho u_wy u_bt u_ps b_pt u_tg u_sn b_ip u_ic b_ah b_be b_me u_wd b_tr b_ld u_st b_wn u_id)), (b_pi, (arI G 400 v_pi)), (b_pa, (arI G 400 v_pa))] sz)) 0 0 (va_A [(b_o, (oc12 u_th u_sa b_rf b_ro b_im b_ke u_fd b_tp u_td u_fr u_to u_so u_wo u_fa u_bd u_nc b_nl u_co b_op b_ar u_le b_pi b_pa u_pd u_od b_ws b_hw u_la b_se b_re u_bk u_va u_su u_ce u_ho u_wy u_bt u_ps b_pt u_tg u_sn b_ip u_ic b_ah b_be b_me u_wd b_tr b_ld u_st b_wn u_id)), (b_pi, (arI G 400 v_pi)), (b_pa, (arI G 400 v_pa))] sz) := by
  refine Met.ofW (cc := cX12_inner) (maxL := 3) (ret := (some .int)) (by decide +kernel) rfl ?_
  intro p e s m args below meth c s₁ B hml hv
  obtain ⟨rfl, hsz, hP, hK, hD0, hN, hT⟩ := hv
  have hx := B.exec
  have hb := B.bytes
  have hr := B.returns
  have hts : ∀ w ∈ tblG, w.before _ s = true := fun w h => atoms_spec (ws := (wsG yX12_inner cX12_inner 3 (some .int))) B.pre w (List.mem_cons_of_mem _ h)
  have hown : s.vm.findClass RX12 = some m.cls := findClass_of_methodNamed B.named
  have hlocks := B.notSynchronized
  subst hsz
  have hD := hD0.self (sz := s.heap.size)
  generalize hAe : va_A [(b_o, (oc12 u_th u_sa b_rf b_ro b_im b_ke u_fd b_tp u_td u_fr u_to u_so u_wo u_fa u_bd u_nc b_nl u_co b_op b_ar u_le b_pi b_pa u_pd u_od b_ws b_hw u_la b_se b_re u_bk u_va u_su u_ce u_ho u_wy u_bt u_ps b_pt u_tg u_sn b_ip u_ic b_ah b_be b_me u_wd b_tr b_ld u_st b_wn u_id)), (b_pi, (arI G 400 v_pi)), (b_pa, (arI G 400 v_pa))] s.heap.size = A at hD hT ⊢
  have hA : ∀ q : Nat, s.heap.size ≤ q → A q := fun q h => by rw [← hAe]; exact Or.inr h
  have hS : va_S A s.heap s.heap [] := va_S.rf
  replace hP : va_P G.1 vwCl [(b_o, (oc12 u_th u_sa b_rf b_ro b_im b_ke u_fd b_tp u_td u_fr u_to u_so u_wo u_fa u_bd u_nc b_nl u_co b_op b_ar u_le b_pi b_pa u_pd u_od b_ws b_hw u_la b_se b_re u_bk u_va u_su u_ce u_ho u_wy u_bt u_ps b_pt u_tg u_sn b_ip u_ic b_ah b_be b_me u_wd b_tr b_ld u_st b_wn u_id)), (b_pi, (arI G 400 v_pi)), (b_pa, (arI G 400 v_pa))] s.heap := hP
  have hl := lv_entry ([.ref b_o]) (n := 3) (Nat.le_of_ble_eq_true rfl)
  rw [lg_entry_eq]
  generalize (lg_sl ([.ref b_o]) ++ List.replicate (3 - (lg_sl ([.ref b_o])).length) Slot.unset).toArray = ls at hl ⊢
  replace hl : lv_has ls 3 [(0, .ref b_o)] := hl
  refine lv_iconst (v := (-1)) hx hb dX12_inner_0 (by decide +kernel) ?_
  refine lv_istore_n (lv' := [(1, .int (-1)), (0, .ref b_o)]) hx hb dX12_inner_1 rfl hl (by decide +kernel) rfl ?_
  clear hl
  intro ls hl
  refine lv_iconst (v := 0) hx hb dX12_inner_2 (by decide +kernel) ?_
  refine lv_istore_n (lv' := [(2, .int 0), (1, .int (-1)), (0, .ref b_o)]) hx hb dX12_inner_3 rfl hl (by decide +kernel) rfl ?_
  clear hl
  intro ls hl
  refine g5_loop (α := (Int32) × (Int32)) (fun (q : (Int32) × (Int32)) (ls : Array Slot) (H : Heap) (locs : List Loc) => match q with | (k4_2, k4_1) => lv_has ls 3 [(1, .int k4_1), (2, .int k4_2), (0, .ref b_o)] ∧ va_P G.1 vwCl [(b_o, (oc12 u_th u_sa b_rf b_ro b_im b_ke u_fd b_tp u_td u_fr u_to u_so u_wo u_fa u_bd u_nc b_nl u_co b_op b_ar u_le b_pi b_pa u_pd u_od b_ws b_hw u_la b_se b_re u_bk u_va u_su u_ce u_ho u_wy u_bt u_ps b_pt u_tg u_sn b_ip u_ic b_ah b_be b_me u_wd b_tr b_ld u_st b_wn u_id)), (b_pi, (arI G 400 v_pi)), (b_pa, (arI G 400 v_pa))] H ∧ va_D A [(b_o, (oc12 u_th u_sa b_rf b_ro b_im b_ke u_fd b_tp u_td u_fr u_to u_so u_wo u_fa u_bd u_nc b_nl u_co b_op b_ar u_le b_pi b_pa u_pd u_od b_ws b_hw u_la b_se b_re u_bk u_va u_su u_ce u_ho u_wy u_bt u_ps b_pt u_tg u_sn b_ip u_ic b_ah b_be b_me u_wd b_tr b_ld u_st b_wn u_id)), (b_pi, (arI G 400 v_pi)), (b_pa, (arI G 400 v_pa))] ∧ va_S A s.heap H locs ∧ (0 ≤ k4_2.toInt ∧ k4_2.toInt ≤ 400) ∧ (innP v_pi k4_2.toInt k4_1.toInt) ∧ (k4_1.toInt = inr (plL v_pi v_pa k4_2.toInt.toNat)) ∧ (k4_2.toInt ≤ u_pd.toInt)) (fun (q : (Int32) × (Int32)) => match q with | (k4_2, k4_1) => Int.toNat (400 - k4_2.toInt)) (0, (-1)) ⟨lv_sub hl [1, 0, 2] rfl, hP, hD, hS, ⟨by decide, by decide⟩, inn_0 (by decide +kernel) (by decide +kernel), inr_i0 (by decide +kernel) (by decide +kernel), by have z0 : (0 : Int32).toInt = 0 := (by decide +kernel); omega⟩ ?_
  rintro ⟨k4_2, k4_1⟩ ls H locs ⟨hl, hP, hD, hS, (i_1 : 0 ≤ k4_2.toInt ∧ k4_2.toInt ≤ 400), (i_2 : innP v_pi k4_2.toInt k4_1.toInt), (i_3 : k4_1.toInt = inr (plL v_pi v_pa k4_2.toInt.toNat)), (i_4 : k4_2.toInt ≤ u_pd.toInt)⟩ ih_4_5
  replace hl : lv_has ls 3 [(1, .int k4_1), (2, .int k4_2), (0, .ref b_o)] := hl
  refine g5_rs [(b_o, (oc12 u_th u_sa b_rf b_ro b_im b_ke u_fd b_tp u_td u_fr u_to u_so u_wo u_fa u_bd u_nc b_nl u_co b_op b_ar u_le b_pi b_pa u_pd u_od b_ws b_hw u_la b_se b_re u_bk u_va u_su u_ce u_ho u_wy u_bt u_ps b_pt u_tg u_sn b_ip u_ic b_ah b_be b_me u_wd b_tr b_ld u_st b_wn u_id)), (b_pi, (arI G 400 v_pi)), (b_pa, (arI G 400 v_pa))] hP hD ?_
  clear hP hD
  intro hP hD
  refine lv_iload_n hx hb dX12_inner_4 rfl (lv_at hl 1 rfl) ?_
  refine lv_aload_n hx hb dX12_inner_5 rfl (lv_at hl 2 rfl) ?_
  refine va_get (D := G.1) (ci := 12) (v := .int u_pd) (C := RX12) (T := TX12) (N := 52) hx hb hts inG_X12 hown hK hP 0 rfl rfl 23 (by decide +kernel) (hts _ fl_X12_240) (fun _ h9 => h9) rfl dX12_inner_6 ?_
  refine lv_icmp_ge (tgt := 40) hx hb dX12_inner_9 (by decide +kernel) (fun c_6 => ?_) (fun c_6 => ?_)
  ·
    have i_6 : k4_2.toInt ≥ u_pd.toInt := g5_ge (a := k4_2.toInt) (b := u_pd.toInt) rfl rfl c_6
    refine lv_iload_n hx hb dX12_inner_40 rfl (lv_at hl 0 rfl) ?_
    exact W.iret (v := k4_1) hx hb hr (fun t ht hW => ⟨⟨k4_1, [(b_o, (oc12 u_th u_sa b_rf b_ro b_im b_ke u_fd b_tp u_td u_fr u_to u_so u_wo u_fa u_bd u_nc b_nl u_co b_op b_ar u_le b_pi b_pa u_pd u_od b_ws b_hw u_la b_se b_re u_bk u_va u_su u_ce u_ho u_wy u_bt u_ps b_pt u_tg u_sn b_ip u_ic b_ah b_be b_me u_wd b_tr b_ld u_st b_wn u_id)), (b_pi, (arI G 400 v_pi)), (b_pa, (arI G 400 v_pa))], rfl, ⟨k4_1, by have q9 : k4_2.toInt = u_pd.toInt := (by omega); rw [← q9]; exact i_2, by have q9 : k4_2.toInt = u_pd.toInt := (by omega); rw [← q9]; exact i_3, rfl, rfl⟩, by rw [ht]; exact hP.sub [0, 1, 2] rfl, hD.sub [0, 1, 2] (by decide +kernel) rfl⟩, hS.F ht⟩) hS.2.2 dX12_inner_41
  ·
    have i_6 : k4_2.toInt < u_pd.toInt := g5_geN (a := k4_2.toInt) (b := u_pd.toInt) rfl rfl c_6
    refine lv_aload_n hx hb dX12_inner_12 rfl (lv_at hl 2 rfl) ?_
    refine va_get (D := G.1) (ci := 12) (v := .ref b_pi) (C := RX12) (T := TX12) (N := 52) hx hb hts inG_X12 hown hK hP 0 rfl rfl 21 (by decide +kernel) (hts _ fl_X12_39) (fun _ h9 => h9) rfl dX12_inner_13 ?_
    refine lv_iload_n hx hb dX12_inner_16 rfl (lv_at hl 1 rfl) ?_
    refine va_iald hx hb hK hP 1 0 rfl rfl (i := k4_2) (vp_in_iff.mpr ⟨by omega, by omega⟩) dX12_inner_17 ?_
    refine W.eq (g2 := F0 m 18 ls [.int (v_pi k4_2.toNatClampNeg)]) rfl ?_
    refine lv_bipush (v := 30) hx hb dX12_inner_18 (by decide +kernel) ?_
    refine lv_icmp_lt (tgt := 32) hx hb dX12_inner_20 (by decide +kernel) (fun c_7 => ?_) (fun c_7 => ?_)
    ·
      have i_7 : (v_pi k4_2.toNatClampNeg).toInt < 30 := g5_lt (a := (v_pi k4_2.toNatClampNeg).toInt) (b := 30) rfl (by decide +kernel) c_7
      refine lv_iload_n hx hb dX12_inner_32 rfl (lv_at hl 0 rfl) ?_
      refine lv_istore_n (lv' := [(1, .int k4_1), (2, .int k4_2), (0, .ref b_o)]) hx hb dX12_inner_33 rfl hl (by decide +kernel) rfl ?_
      clear hl
      intro ls hl
      refine lv_iinc (v := (k4_2 + 1)) (lv' := [(2, .int (k4_2 + 1)), (1, .int k4_1), (0, .ref b_o)]) hx hb dX12_inner_34 hl (k := 1) rfl rfl (by decide +kernel) rfl ?_
      clear hl
      intro ls hl
      have t_8 : (k4_2 + 1).toInt = k4_2.toInt + 1 := g5_iadd (a := k4_2.toInt) (b := 1) rfl (by decide +kernel) (by omega) (by omega)
      refine lv_goto (tgt := 4) hx hb dX12_inner_37 (by decide +kernel) ?_
      exact ih_4_5 ((k4_2 + 1), k4_1) ls H locs (show Int.toNat (400 - (k4_2 + 1).toInt) < Int.toNat (400 - k4_2.toInt) from g_up (show k4_2.toInt < (k4_2 + 1).toInt by omega) (show k4_2.toInt < 400 by omega)) ⟨lv_sub hl [1, 0, 2] rfl, hP, hD, hS, ⟨by omega, by omega⟩, inn_no i_2 (by omega) (by omega) (by omega), inr_iN i_3 (by omega) (by omega) (by omega), by omega⟩
    ·
      have i_7 : (v_pi k4_2.toNatClampNeg).toInt ≥ 30 := g5_ltN (a := (v_pi k4_2.toNatClampNeg).toInt) (b := 30) rfl (by decide +kernel) c_7
      refine lv_aload_n hx hb dX12_inner_23 rfl (lv_at hl 2 rfl) ?_
      refine va_get (D := G.1) (ci := 12) (v := .ref b_pi) (C := RX12) (T := TX12) (N := 52) hx hb hts inG_X12 hown hK hP 0 rfl rfl 21 (by decide +kernel) (hts _ fl_X12_39) (fun _ h9 => h9) rfl dX12_inner_24 ?_
      refine lv_iload_n hx hb dX12_inner_27 rfl (lv_at hl 1 rfl) ?_
      refine va_iald hx hb hK hP 1 0 rfl rfl (i := k4_2) (vp_in_iff.mpr ⟨by omega, by omega⟩) dX12_inner_28 ?_
      refine W.eq (g2 := F0 m 29 ls [.int (v_pi k4_2.toNatClampNeg)]) rfl ?_
      refine lv_goto (tgt := 33) hx hb dX12_inner_29 (by decide +kernel) ?_
      refine lv_istore_n (lv' := [(1, .int (v_pi k4_2.toNatClampNeg)), (2, .int k4_2), (0, .ref b_o)]) hx hb dX12_inner_33 rfl hl (by decide +kernel) rfl ?_
      clear hl
      intro ls hl
      refine lv_iinc (v := (k4_2 + 1)) (lv' := [(2, .int (k4_2 + 1)), (1, .int (v_pi k4_2.toNatClampNeg)), (0, .ref b_o)]) hx hb dX12_inner_34 hl (k := 1) rfl rfl (by decide +kernel) rfl ?_
      clear hl
      intro ls hl
      have t_9 : (k4_2 + 1).toInt = k4_2.toInt + 1 := g5_iadd (a := k4_2.toInt) (b := 1) rfl (by decide +kernel) (by omega) (by omega)
      refine lv_goto (tgt := 4) hx hb dX12_inner_37 (by decide +kernel) ?_
      exact ih_4_5 ((k4_2 + 1), (v_pi k4_2.toNatClampNeg)) ls H locs (show Int.toNat (400 - (k4_2 + 1).toInt) < Int.toNat (400 - k4_2.toInt) from g_up (show k4_2.toInt < (k4_2 + 1).toInt by omega) (show k4_2.toInt < 400 by omega)) ⟨lv_sub hl [1, 0, 2] rfl, hP, hD, hS, ⟨by omega, by omega⟩, inn_yes (by omega) (by omega) (by omega), inr_iY (by omega) (by omega) (by omega), by omega⟩
set_option maxHeartbeats 4000000 in
set_option maxRecDepth 100000 in
theorem n_isComparedX (l : Launch) (G : g5_G) (b_o b_pi b_pa b_rf b_ro b_im b_ke b_tp b_nl b_op b_ar b_ws b_hw b_se b_re b_pt b_ip b_ah b_be b_me b_tr b_ld b_wn : Nat) (sz : Nat) (u_th : Int32) (u_sa : Int32) (u_fd : Int32) (u_td : Int32) (u_fr : Int32) (u_to : Int32) (u_so : Int32) (u_fa : Int32) (u_bd : Int32) (u_nc : Int32) (u_co : Int32) (u_le : Int32) (u_pd : Int32) (u_od : Int32) (u_la : Int32) (u_bk : Int32) (u_ce : Int32) (u_ho : Int32) (u_wy : Int32) (u_bt : Int32) (u_ps : Int32) (u_tg : Int32) (u_sn : Int32) (u_ic : Int32) (u_wd : Int32) (u_id : Int32) (u_wo : Int64) (u_va : Int64) (u_su : Int64) (u_st : Int64) (v_pi : Nat → Int32) (v_pa : Nat → Int32) (h_u_td : 0 ≤ u_td.toInt ∧ u_td.toInt ≤ 400) (h_u_fr : 0 ≤ u_fr.toInt ∧ u_fr.toInt ≤ 400) (h_u_to : 0 ≤ u_to.toInt ∧ u_to.toInt ≤ 400) (h_u_bd : 0 ≤ u_bd.toInt ∧ u_bd.toInt ≤ 1) (h_u_nc : 0 ≤ u_nc.toInt ∧ u_nc.toInt ≤ 12) (h_u_co : 0 ≤ u_co.toInt ∧ u_co.toInt ≤ 400) (h_u_pd : 0 ≤ u_pd.toInt ∧ u_pd.toInt ≤ 400) (h_u_la : 0 ≤ u_la.toInt ∧ u_la.toInt ≤ 4840) (h_u_bk : 0 ≤ u_bk.toInt ∧ u_bk.toInt ≤ 1) (h_u_ce : 0 ≤ u_ce.toInt ∧ u_ce.toInt ≤ 63) (h_u_ho : 0 ≤ u_ho.toInt ∧ u_ho.toInt ≤ 23) (h_u_wy : 0 ≤ u_wy.toInt ∧ u_wy.toInt ≤ 3) (h_u_bt : 0 ≤ u_bt.toInt ∧ u_bt.toInt ≤ 1000000) (h_u_ps : 0 ≤ u_ps.toInt ∧ u_ps.toInt ≤ 200) (h_u_ic : 0 ≤ u_ic.toInt ∧ u_ic.toInt ≤ 1) (h_u_id : 0 ≤ u_id.toInt ∧ u_id.toInt ≤ 1) : Met l yX12_isCompared (wsG yX12_isCompared cX12_isCompared 2 (some .boolean)) ({ frames := 1, cells := 0, slots := 0, locals := 25 }) (va_Pc [.ref b_o] (g5_P G [(b_o, (oc12 u_th u_sa b_rf b_ro b_im b_ke u_fd b_tp u_td u_fr u_to u_so u_wo u_fa u_bd u_nc b_nl u_co b_op b_ar u_le b_pi b_pa u_pd u_od b_ws b_hw u_la b_se b_re u_bk u_va u_su u_ce u_ho u_wy u_bt u_ps b_pt u_tg u_sn b_ip u_ic b_ah b_be b_me u_wd b_tr b_ld u_st b_wn u_id)), (b_pi, (arI G 400 v_pi)), (b_pa, (arI G 400 v_pa))] sz)) (va_Qi (fun (r : Int32) (u : va_W) => ((cmpd (plL v_pi v_pa u_pd.toInt.toNat) = true) ∧ (r = 1) ∧ (u = [(b_o, (oc12 u_th u_sa b_rf b_ro b_im b_ke u_fd b_tp u_td u_fr u_to u_so u_wo u_fa u_bd u_nc b_nl u_co b_op b_ar u_le b_pi b_pa u_pd u_od b_ws b_hw u_la b_se b_re u_bk u_va u_su u_ce u_ho u_wy u_bt u_ps b_pt u_tg u_sn b_ip u_ic b_ah b_be b_me u_wd b_tr b_ld u_st b_wn u_id)), (b_pi, (arI G 400 v_pi)), (b_pa, (arI G 400 v_pa))])) ∨ ((cmpd (plL v_pi v_pa u_pd.toInt.toNat) = false) ∧ (r = 0) ∧ (u = [(b_o, (oc12 u_th u_sa b_rf b_ro b_im b_ke u_fd b_tp u_td u_fr u_to u_so u_wo u_fa u_bd u_nc b_nl u_co b_op b_ar u_le b_pi b_pa u_pd u_od b_ws b_hw u_la b_se b_re u_bk u_va u_su u_ce u_ho u_wy u_bt u_ps b_pt u_tg u_sn b_ip u_ic b_ah b_be b_me u_wd b_tr b_ld u_st b_wn u_id)), (b_pi, (arI G 400 v_pi)), (b_pa, (arI G 400 v_pa))]))) (g5_B G (va_A [(b_o, (oc12 u_th u_sa b_rf b_ro b_im b_ke u_fd b_tp u_td u_fr u_to u_so u_wo u_fa u_bd u_nc b_nl u_co b_op b_ar u_le b_pi b_pa u_pd u_od b_ws b_hw u_la b_se b_re u_bk u_va u_su u_ce u_ho u_wy u_bt u_ps b_pt u_tg u_sn b_ip u_ic b_ah b_be b_me u_wd b_tr b_ld u_st b_wn u_id)), (b_pi, (arI G 400 v_pi)), (b_pa, (arI G 400 v_pa))] sz)) (va_A [(b_o, (oc12 u_th u_sa b_rf b_ro b_im b_ke u_fd b_tp u_td u_fr u_to u_so u_wo u_fa u_bd u_nc b_nl u_co b_op b_ar u_le b_pi b_pa u_pd u_od b_ws b_hw u_la b_se b_re u_bk u_va u_su u_ce u_ho u_wy u_bt u_ps b_pt u_tg u_sn b_ip u_ic b_ah b_be b_me u_wd b_tr b_ld u_st b_wn u_id)), (b_pi, (arI G 400 v_pi)), (b_pa, (arI G 400 v_pa))] sz)) 0 0 (va_A [(b_o, (oc12 u_th u_sa b_rf b_ro b_im b_ke u_fd b_tp u_td u_fr u_to u_so u_wo u_fa u_bd u_nc b_nl u_co b_op b_ar u_le b_pi b_pa u_pd u_od b_ws b_hw u_la b_se b_re u_bk u_va u_su u_ce u_ho u_wy u_bt u_ps b_pt u_tg u_sn b_ip u_ic b_ah b_be b_me u_wd b_tr b_ld u_st b_wn u_id)), (b_pi, (arI G 400 v_pi)), (b_pa, (arI G 400 v_pa))] sz) := by
  refine Met.ofW (cc := cX12_isCompared) (maxL := 2) (ret := (some .boolean)) (by decide +kernel) rfl ?_
  intro p e s m args below meth c s₁ B hml hv
  obtain ⟨rfl, hsz, hP, hK, hD0, hN, hT⟩ := hv
  have hx := B.exec
  have hb := B.bytes
  have hr := B.returns
  have hts : ∀ w ∈ tblG, w.before _ s = true := fun w h => atoms_spec (ws := (wsG yX12_isCompared cX12_isCompared 2 (some .boolean))) B.pre w (List.mem_cons_of_mem _ h)
  have hown : s.vm.findClass RX12 = some m.cls := findClass_of_methodNamed B.named
  have hlocks := B.notSynchronized
  subst hsz
  have hD := hD0.self (sz := s.heap.size)
  generalize hAe : va_A [(b_o, (oc12 u_th u_sa b_rf b_ro b_im b_ke u_fd b_tp u_td u_fr u_to u_so u_wo u_fa u_bd u_nc b_nl u_co b_op b_ar u_le b_pi b_pa u_pd u_od b_ws b_hw u_la b_se b_re u_bk u_va u_su u_ce u_ho u_wy u_bt u_ps b_pt u_tg u_sn b_ip u_ic b_ah b_be b_me u_wd b_tr b_ld u_st b_wn u_id)), (b_pi, (arI G 400 v_pi)), (b_pa, (arI G 400 v_pa))] s.heap.size = A at hD hT ⊢
  have hA : ∀ q : Nat, s.heap.size ≤ q → A q := fun q h => by rw [← hAe]; exact Or.inr h
  have hS : va_S A s.heap s.heap [] := va_S.rf
  replace hP : va_P G.1 vwCl [(b_o, (oc12 u_th u_sa b_rf b_ro b_im b_ke u_fd b_tp u_td u_fr u_to u_so u_wo u_fa u_bd u_nc b_nl u_co b_op b_ar u_le b_pi b_pa u_pd u_od b_ws b_hw u_la b_se b_re u_bk u_va u_su u_ce u_ho u_wy u_bt u_ps b_pt u_tg u_sn b_ip u_ic b_ah b_be b_me u_wd b_tr b_ld u_st b_wn u_id)), (b_pi, (arI G 400 v_pi)), (b_pa, (arI G 400 v_pa))] s.heap := hP
  have hl := lv_entry ([.ref b_o]) (n := 2) (Nat.le_of_ble_eq_true rfl)
  rw [lg_entry_eq]
  generalize (lg_sl ([.ref b_o]) ++ List.replicate (2 - (lg_sl ([.ref b_o])).length) Slot.unset).toArray = ls at hl ⊢
  replace hl : lv_has ls 2 [(0, .ref b_o)] := hl
  refine lv_aload_n hx hb dX12_isCompared_0 rfl (lv_at hl 0 rfl) ?_
  refine va_get (D := G.1) (ci := 12) (v := .int u_pd) (C := RX12) (T := TX12) (N := 52) hx hb hts inG_X12 hown hK hP 0 rfl rfl 23 (by decide +kernel) (hts _ fl_X12_240) (fun _ h9 => h9) rfl dX12_isCompared_1 ?_
  refine lv_iconst (v := 1) hx hb dX12_isCompared_4 (by decide +kernel) ?_
  refine lv_isub hx hb dX12_isCompared_5 ?_
  have t_1 : (u_pd - 1).toInt = u_pd.toInt - 1 := g5_isub (a := u_pd.toInt) (b := 1) (by rfl) (by decide +kernel) (by omega) (by omega)
  refine W.eq (g2 := F0 m 6 ls [.int (u_pd - 1)]) rfl ?_
  refine lv_istore_n (lv' := [(1, .int (u_pd - 1)), (0, .ref b_o)]) hx hb dX12_isCompared_6 rfl hl (by decide +kernel) rfl ?_
  clear hl
  intro ls hl
  refine g5_loop (α := (Int32)) (fun (k7_1 : (Int32)) (ls : Array Slot) (H : Heap) (locs : List Loc) => lv_has ls 2 [(1, .int k7_1), (0, .ref b_o)] ∧ va_P G.1 vwCl [(b_o, (oc12 u_th u_sa b_rf b_ro b_im b_ke u_fd b_tp u_td u_fr u_to u_so u_wo u_fa u_bd u_nc b_nl u_co b_op b_ar u_le b_pi b_pa u_pd u_od b_ws b_hw u_la b_se b_re u_bk u_va u_su u_ce u_ho u_wy u_bt u_ps b_pt u_tg u_sn b_ip u_ic b_ah b_be b_me u_wd b_tr b_ld u_st b_wn u_id)), (b_pi, (arI G 400 v_pi)), (b_pa, (arI G 400 v_pa))] H ∧ va_D A [(b_o, (oc12 u_th u_sa b_rf b_ro b_im b_ke u_fd b_tp u_td u_fr u_to u_so u_wo u_fa u_bd u_nc b_nl u_co b_op b_ar u_le b_pi b_pa u_pd u_od b_ws b_hw u_la b_se b_re u_bk u_va u_su u_ce u_ho u_wy u_bt u_ps b_pt u_tg u_sn b_ip u_ic b_ah b_be b_me u_wd b_tr b_ld u_st b_wn u_id)), (b_pi, (arI G 400 v_pi)), (b_pa, (arI G 400 v_pa))] ∧ va_S A s.heap H locs ∧ ((-1) ≤ k7_1.toInt ∧ k7_1.toInt ≤ 399) ∧ (CMI v_pi v_pa u_pd k7_1)) (fun (k7_1 : (Int32)) => Int.toNat (k7_1.toInt + 1)) (u_pd - 1) ⟨lv_sub hl [0, 1] rfl, hP, hD, hS, ⟨by omega, by omega⟩, cmi_0 (by omega)⟩ ?_
  rintro k7_1 ls H locs ⟨hl, hP, hD, hS, (i_2 : (-1) ≤ k7_1.toInt ∧ k7_1.toInt ≤ 399), (i_3 : CMI v_pi v_pa u_pd k7_1)⟩ ih_7_4
  replace hl : lv_has ls 2 [(1, .int k7_1), (0, .ref b_o)] := hl
  refine g5_rs [(b_o, (oc12 u_th u_sa b_rf b_ro b_im b_ke u_fd b_tp u_td u_fr u_to u_so u_wo u_fa u_bd u_nc b_nl u_co b_op b_ar u_le b_pi b_pa u_pd u_od b_ws b_hw u_la b_se b_re u_bk u_va u_su u_ce u_ho u_wy u_bt u_ps b_pt u_tg u_sn b_ip u_ic b_ah b_be b_me u_wd b_tr b_ld u_st b_wn u_id)), (b_pi, (arI G 400 v_pi)), (b_pa, (arI G 400 v_pa))] hP hD ?_
  clear hP hD
  intro hP hD
  refine lv_iload_n hx hb dX12_isCompared_7 rfl (lv_at hl 0 rfl) ?_
  refine lv_if_lt (tgt := 36) hx hb dX12_isCompared_8 (by decide +kernel) (fun c_5 => ?_) (fun c_5 => ?_)
  ·
    have i_5 : k7_1.toInt < 0 := g5_lt (a := k7_1.toInt) (b := 0) rfl (by decide +kernel) c_5
    refine lv_iload_n hx hb dX12_isCompared_36 rfl (lv_at hl 0 rfl) ?_
    refine lv_if_lt (tgt := 63) hx hb dX12_isCompared_37 (by decide +kernel) (fun c_6 => ?_) (fun c_6 => ?_)
    ·
      have i_6 : k7_1.toInt < 0 := g5_lt (a := k7_1.toInt) (b := 0) rfl (by decide +kernel) c_6
      refine lv_iconst (v := 0) hx hb dX12_isCompared_63 (by decide +kernel) ?_
      exact W.zret (v := 0) hx hb hr rfl (fun t ht hW => ⟨⟨0, [(b_o, (oc12 u_th u_sa b_rf b_ro b_im b_ke u_fd b_tp u_td u_fr u_to u_so u_wo u_fa u_bd u_nc b_nl u_co b_op b_ar u_le b_pi b_pa u_pd u_od b_ws b_hw u_la b_se b_re u_bk u_va u_su u_ce u_ho u_wy u_bt u_ps b_pt u_tg u_sn b_ip u_ic b_ah b_be b_me u_wd b_tr b_ld u_st b_wn u_id)), (b_pi, (arI G 400 v_pi)), (b_pa, (arI G 400 v_pa))], rfl, Or.inr (⟨cmi_N i_3 (by omega) (by omega), rfl, rfl⟩), by rw [ht]; exact hP.sub [0, 1, 2] rfl, hD.sub [0, 1, 2] (by decide +kernel) rfl⟩, hS.F ht⟩) hS.2.2 dX12_isCompared_64
    ·
      have i_6 : k7_1.toInt ≥ 0 := g5_ltN (a := k7_1.toInt) (b := 0) rfl (by decide +kernel) c_6
      omega
  ·
    have i_5 : k7_1.toInt ≥ 0 := g5_ltN (a := k7_1.toInt) (b := 0) rfl (by decide +kernel) c_5
    refine lv_aload_n hx hb dX12_isCompared_11 rfl (lv_at hl 1 rfl) ?_
    refine va_get (D := G.1) (ci := 12) (v := .ref b_pi) (C := RX12) (T := TX12) (N := 52) hx hb hts inG_X12 hown hK hP 0 rfl rfl 21 (by decide +kernel) (hts _ fl_X12_39) (fun _ h9 => h9) rfl dX12_isCompared_12 ?_
    refine lv_iload_n hx hb dX12_isCompared_15 rfl (lv_at hl 0 rfl) ?_
    refine va_iald hx hb hK hP 1 0 rfl rfl (i := k7_1) (vp_in_iff.mpr ⟨by omega, by omega⟩) dX12_isCompared_16 ?_
    refine W.eq (g2 := F0 m 17 ls [.int (v_pi k7_1.toNatClampNeg)]) rfl ?_
    refine lv_i2l (v := (v_pi k7_1.toNatClampNeg).toInt64) hx hb dX12_isCompared_17 rfl ?_
    refine lv_ldc2 (v := 20) hx hb hown (hts _ kl_X12_250) dX12_isCompared_18 ?_
    refine lv_ldc2 (v := 23) hx hb hown (hts _ kl_X12_130) dX12_isCompared_21 ?_
    obtain ⟨hPc, hDc, hFc⟩ := g5_sub3 (wc := []) hP hD hS hA [] (by decide +kernel) rfl
    refine va_calli (va_runS (As := [.long (v_pi k7_1.toNatClampNeg).toInt64, .long 20, .long 23]) (rest := []) ⟨hx, hb, hml, hown, hts⟩ (n_in_20_23 l G H.size (v_pi k7_1.toNatClampNeg)) (va_cwS 3 hts gS_X12_121 rfl rfl rfl hs_X12_in ⟨Nat.le_of_ble_eq_true rfl, Nat.le_of_ble_eq_true rfl⟩) (g5_preS hPc hK hDc hN hT hS hFc) rfl rfl hl.1 rfl (lv_room (Nat.le_of_ble_eq_true rfl)) dX12_isCompared_24 ⟨Nat.le_of_ble_eq_true rfl, Nat.le_of_ble_eq_true rfl⟩) hS (fun q _ h => hFc q h) hFc (fun r u t H locs ht hvm hw hB hz1 hk1 hS => ?_)
    obtain ⟨hP1, hD1⟩ := hB
    have hP1 := g5_ht ht hP1
    rcases hw with ⟨(i_7 : (v_pi k7_1.toNatClampNeg).toInt < 20 ∨ 23 < (v_pi k7_1.toNatClampNeg).toInt), rfl, rfl⟩ | ⟨(i_8 : 20 ≤ (v_pi k7_1.toNatClampNeg).toInt ∧ (v_pi k7_1.toNatClampNeg).toInt ≤ 23), rfl, rfl⟩
    ·
      have hJ9 := g5_same hP hk1
      clear hP hPc hDc hFc ht hvm hz1 hk1 hP1 hD1
      have hP := hJ9
      clear hJ9
      refine lv_if_eq (tgt := 36) hx hb dX12_isCompared_27 (by decide +kernel) (fun c_9 => ?_) (fun c_9 => ?_)
      ·
        refine lv_iload_n hx hb dX12_isCompared_36 rfl (lv_at hl 0 rfl) ?_
        refine lv_if_lt (tgt := 63) hx hb dX12_isCompared_37 (by decide +kernel) (fun c_10 => ?_) (fun c_10 => ?_)
        ·
          have i_10 : k7_1.toInt < 0 := g5_lt (a := k7_1.toInt) (b := 0) rfl (by decide +kernel) c_10
          omega
        ·
          have i_10 : k7_1.toInt ≥ 0 := g5_ltN (a := k7_1.toInt) (b := 0) rfl (by decide +kernel) c_10
          refine lv_aload_n hx hb dX12_isCompared_40 rfl (lv_at hl 1 rfl) ?_
          refine va_get (D := G.1) (ci := 12) (v := .ref b_pi) (C := RX12) (T := TX12) (N := 52) hx hb hts inG_X12 hown hK hP 0 rfl rfl 21 (by decide +kernel) (hts _ fl_X12_39) (fun _ h9 => h9) rfl dX12_isCompared_41 ?_
          refine lv_iload_n hx hb dX12_isCompared_44 rfl (lv_at hl 0 rfl) ?_
          refine va_iald hx hb hK hP 1 0 rfl rfl (i := k7_1) (vp_in_iff.mpr ⟨by omega, by omega⟩) dX12_isCompared_45 ?_
          refine W.eq (g2 := F0 m 46 ls [.int (v_pi k7_1.toNatClampNeg)]) rfl ?_
          refine lv_i2l (v := (v_pi k7_1.toNatClampNeg).toInt64) hx hb dX12_isCompared_46 rfl ?_
          refine lv_ldc2 (v := 24) hx hb hown (hts _ kl_X12_47) dX12_isCompared_47 ?_
          refine lv_ldc2 (v := 26) hx hb hown (hts _ kl_X12_252) dX12_isCompared_50 ?_
          obtain ⟨hPc, hDc, hFc⟩ := g5_sub3 (wc := []) hP hD hS hA [] (by decide +kernel) rfl
          refine va_calli (va_runS (As := [.long (v_pi k7_1.toNatClampNeg).toInt64, .long 24, .long 26]) (rest := []) ⟨hx, hb, hml, hown, hts⟩ (n_in_24_26 l G H.size (v_pi k7_1.toNatClampNeg)) (va_cwS 3 hts gS_X12_121 rfl rfl rfl hs_X12_in ⟨Nat.le_of_ble_eq_true rfl, Nat.le_of_ble_eq_true rfl⟩) (g5_preS hPc hK hDc hN hT hS hFc) rfl rfl hl.1 rfl (lv_room (Nat.le_of_ble_eq_true rfl)) dX12_isCompared_53 ⟨Nat.le_of_ble_eq_true rfl, Nat.le_of_ble_eq_true rfl⟩) hS (fun q _ h => hFc q h) hFc (fun r u t H locs ht hvm hw hB hz1 hk1 hS => ?_)
          obtain ⟨hP1, hD1⟩ := hB
          have hP1 := g5_ht ht hP1
          rcases hw with ⟨(i_11 : (v_pi k7_1.toNatClampNeg).toInt < 24 ∨ 26 < (v_pi k7_1.toNatClampNeg).toInt), rfl, rfl⟩ | ⟨(i_12 : 24 ≤ (v_pi k7_1.toNatClampNeg).toInt ∧ (v_pi k7_1.toNatClampNeg).toInt ≤ 26), rfl, rfl⟩
          ·
            have hJ9 := g5_same hP hk1
            clear hP hPc hDc hFc ht hvm hz1 hk1 hP1 hD1
            have hP := hJ9
            clear hJ9
            refine lv_if_eq (tgt := 63) hx hb dX12_isCompared_56 (by decide +kernel) (fun c_13 => ?_) (fun c_13 => ?_)
            ·
              refine lv_iconst (v := 0) hx hb dX12_isCompared_63 (by decide +kernel) ?_
              exact W.zret (v := 0) hx hb hr rfl (fun t ht hW => ⟨⟨0, [(b_o, (oc12 u_th u_sa b_rf b_ro b_im b_ke u_fd b_tp u_td u_fr u_to u_so u_wo u_fa u_bd u_nc b_nl u_co b_op b_ar u_le b_pi b_pa u_pd u_od b_ws b_hw u_la b_se b_re u_bk u_va u_su u_ce u_ho u_wy u_bt u_ps b_pt u_tg u_sn b_ip u_ic b_ah b_be b_me u_wd b_tr b_ld u_st b_wn u_id)), (b_pi, (arI G 400 v_pi)), (b_pa, (arI G 400 v_pa))], rfl, Or.inr (⟨cmi_N i_3 (by omega) (by omega), rfl, rfl⟩), by rw [ht]; exact hP.sub [0, 1, 2] rfl, hD.sub [0, 1, 2] (by decide +kernel) rfl⟩, hS.F ht⟩) hS.2.2 dX12_isCompared_64
            ·
              exact absurd c_13 (by decide +kernel)
          ·
            have hJ9 := g5_same hP hk1
            clear hP hPc hDc hFc ht hvm hz1 hk1 hP1 hD1
            have hP := hJ9
            clear hJ9
            refine lv_if_eq (tgt := 63) hx hb dX12_isCompared_56 (by decide +kernel) (fun c_14 => ?_) (fun c_14 => ?_)
            ·
              exact absurd c_14 (by decide +kernel)
            ·
              refine lv_iconst (v := 1) hx hb dX12_isCompared_59 (by decide +kernel) ?_
              refine lv_goto (tgt := 64) hx hb dX12_isCompared_60 (by decide +kernel) ?_
              exact W.zret (v := 1) hx hb hr rfl (fun t ht hW => ⟨⟨1, [(b_o, (oc12 u_th u_sa b_rf b_ro b_im b_ke u_fd b_tp u_td u_fr u_to u_so u_wo u_fa u_bd u_nc b_nl u_co b_op b_ar u_le b_pi b_pa u_pd u_od b_ws b_hw u_la b_se b_re u_bk u_va u_su u_ce u_ho u_wy u_bt u_ps b_pt u_tg u_sn b_ip u_ic b_ah b_be b_me u_wd b_tr b_ld u_st b_wn u_id)), (b_pi, (arI G 400 v_pi)), (b_pa, (arI G 400 v_pa))], rfl, Or.inl (⟨cmi_Y i_3 (by omega) ⟨by omega, by omega⟩, rfl, rfl⟩), by rw [ht]; exact hP.sub [0, 1, 2] rfl, hD.sub [0, 1, 2] (by decide +kernel) rfl⟩, hS.F ht⟩) hS.2.2 dX12_isCompared_64
      ·
        exact absurd c_9 (by decide +kernel)
    ·
      have hJ9 := g5_same hP hk1
      clear hP hPc hDc hFc ht hvm hz1 hk1 hP1 hD1
      have hP := hJ9
      clear hJ9
      refine lv_if_eq (tgt := 36) hx hb dX12_isCompared_27 (by decide +kernel) (fun c_15 => ?_) (fun c_15 => ?_)
      ·
        exact absurd c_15 (by decide +kernel)
      ·
        obtain ⟨y16, hy_16, t_16⟩ := g_incN k7_1 (-1) (by decide +kernel) (by omega) (by omega)
        have t_16 : y16.toInt = k7_1.toInt + (-1) := t_16
        refine lv_iinc (v := y16) (lv' := [(1, .int y16), (0, .ref b_o)]) hx hb dX12_isCompared_30 hl (k := 0) rfl hy_16 (by decide +kernel) rfl ?_
        clear hl
        intro ls hl
        refine lv_goto (tgt := 7) hx hb dX12_isCompared_33 (by decide +kernel) ?_
        exact ih_7_4 y16 ls H locs (show Int.toNat (y16.toInt + 1) < Int.toNat (k7_1.toInt + 1) from g_dn (show y16.toInt < k7_1.toInt by omega) (show 0 ≤ k7_1.toInt by omega)) ⟨lv_sub hl [0, 1] rfl, hP, hD, hS, ⟨by omega, by omega⟩, cmi_S i_3 (by omega) (by omega) ⟨by omega, by omega⟩⟩
set_option maxHeartbeats 4000000 in
set_option maxRecDepth 100000 in
theorem n_partAtX (l : Launch) (G : g5_G) (b_o b_tp b_ws b_hw b_rf b_ro b_im b_ke b_nl b_op b_ar b_pi b_pa b_se b_re b_pt b_ip b_ah b_be b_me b_tr b_ld b_wn : Nat) (sz : Nat) (u_th : Int32) (u_sa : Int32) (u_fd : Int32) (u_td : Int32) (u_fr : Int32) (u_to : Int32) (u_so : Int32) (u_fa : Int32) (u_bd : Int32) (u_nc : Int32) (u_co : Int32) (u_le : Int32) (u_pd : Int32) (u_od : Int32) (u_la : Int32) (u_bk : Int32) (u_ce : Int32) (u_ho : Int32) (u_wy : Int32) (u_bt : Int32) (u_ps : Int32) (u_tg : Int32) (u_sn : Int32) (u_ic : Int32) (u_wd : Int32) (u_id : Int32) (u_wo : Int64) (u_va : Int64) (u_su : Int64) (u_st : Int64) (v_tp : Nat → Int32) (v_ws : Nat → Int64) (v_hw : Nat → Int64) (g_i : Nat) (h_u_td : 0 ≤ u_td.toInt ∧ u_td.toInt ≤ 400) (h_u_fr : 0 ≤ u_fr.toInt ∧ u_fr.toInt ≤ 400) (h_u_to : 0 ≤ u_to.toInt ∧ u_to.toInt ≤ 400) (h_u_bd : 0 ≤ u_bd.toInt ∧ u_bd.toInt ≤ 1) (h_u_nc : 0 ≤ u_nc.toInt ∧ u_nc.toInt ≤ 12) (h_u_co : 0 ≤ u_co.toInt ∧ u_co.toInt ≤ 400) (h_u_pd : 0 ≤ u_pd.toInt ∧ u_pd.toInt ≤ 400) (h_u_la : 0 ≤ u_la.toInt ∧ u_la.toInt ≤ 4840) (h_u_bk : 0 ≤ u_bk.toInt ∧ u_bk.toInt ≤ 1) (h_u_ce : 0 ≤ u_ce.toInt ∧ u_ce.toInt ≤ 63) (h_u_ho : 0 ≤ u_ho.toInt ∧ u_ho.toInt ≤ 23) (h_u_wy : 0 ≤ u_wy.toInt ∧ u_wy.toInt ≤ 3) (h_u_bt : 0 ≤ u_bt.toInt ∧ u_bt.toInt ≤ 1000000) (h_u_ps : 0 ≤ u_ps.toInt ∧ u_ps.toInt ≤ 200) (h_u_ic : 0 ≤ u_ic.toInt ∧ u_ic.toInt ≤ 1) (h_u_id : 0 ≤ u_id.toInt ∧ u_id.toInt ≤ 1) (e_tp : TPI v_tp) (e_ws : WSI v_ws v_hw) (e_tk : TOKA v_tp u_td.toInt.toNat (pT v_tp u_td.toInt.toNat g_i) u_fr u_to u_so u_wo) : Met l yX12_partAt (wsG yX12_partAt cX12_partAt 3 (some .int)) ({ frames := 1, cells := 0, slots := 0, locals := 22 }) (va_Pc [.ref b_o] (g5_P G [(b_o, (oc12 u_th u_sa b_rf b_ro b_im b_ke u_fd b_tp u_td u_fr u_to u_so u_wo u_fa u_bd u_nc b_nl u_co b_op b_ar u_le b_pi b_pa u_pd u_od b_ws b_hw u_la b_se b_re u_bk u_va u_su u_ce u_ho u_wy u_bt u_ps b_pt u_tg u_sn b_ip u_ic b_ah b_be b_me u_wd b_tr b_ld u_st b_wn u_id)), (b_tp, (arI G 400 v_tp)), (b_ws, (arJ G 8 v_ws)), (b_hw, (arJ G 4 v_hw))] sz)) (va_Qi (fun (r : Int32) (u : va_W) => (∃ (o_r : Int32), (-1 ≤ o_r.toInt ∧ o_r.toInt ≤ 8) ∧ (o_r.toInt = -1 ∨ u_so.toInt = 1) ∧ (PTW 264 1 (KDT v_tp u_td.toInt.toNat g_i) o_r.toInt 8) ∧ (r = o_r) ∧ (u = [(b_o, (oc12 u_th u_sa b_rf b_ro b_im b_ke u_fd b_tp u_td u_fr u_to u_so u_wo u_fa u_bd u_nc b_nl u_co b_op b_ar u_le b_pi b_pa u_pd u_od b_ws b_hw u_la b_se b_re u_bk u_va u_su u_ce u_ho u_wy u_bt u_ps b_pt u_tg u_sn b_ip u_ic b_ah b_be b_me u_wd b_tr b_ld u_st b_wn u_id)), (b_tp, (arI G 400 v_tp)), (b_ws, (arJ G 8 v_ws)), (b_hw, (arJ G 4 v_hw))]))) (g5_B G (va_A [(b_o, (oc12 u_th u_sa b_rf b_ro b_im b_ke u_fd b_tp u_td u_fr u_to u_so u_wo u_fa u_bd u_nc b_nl u_co b_op b_ar u_le b_pi b_pa u_pd u_od b_ws b_hw u_la b_se b_re u_bk u_va u_su u_ce u_ho u_wy u_bt u_ps b_pt u_tg u_sn b_ip u_ic b_ah b_be b_me u_wd b_tr b_ld u_st b_wn u_id)), (b_tp, (arI G 400 v_tp)), (b_ws, (arJ G 8 v_ws)), (b_hw, (arJ G 4 v_hw))] sz)) (va_A [(b_o, (oc12 u_th u_sa b_rf b_ro b_im b_ke u_fd b_tp u_td u_fr u_to u_so u_wo u_fa u_bd u_nc b_nl u_co b_op b_ar u_le b_pi b_pa u_pd u_od b_ws b_hw u_la b_se b_re u_bk u_va u_su u_ce u_ho u_wy u_bt u_ps b_pt u_tg u_sn b_ip u_ic b_ah b_be b_me u_wd b_tr b_ld u_st b_wn u_id)), (b_tp, (arI G 400 v_tp)), (b_ws, (arJ G 8 v_ws)), (b_hw, (arJ G 4 v_hw))] sz)) 0 0 (va_A [(b_o, (oc12 u_th u_sa b_rf b_ro b_im b_ke u_fd b_tp u_td u_fr u_to u_so u_wo u_fa u_bd u_nc b_nl u_co b_op b_ar u_le b_pi b_pa u_pd u_od b_ws b_hw u_la b_se b_re u_bk u_va u_su u_ce u_ho u_wy u_bt u_ps b_pt u_tg u_sn b_ip u_ic b_ah b_be b_me u_wd b_tr b_ld u_st b_wn u_id)), (b_tp, (arI G 400 v_tp)), (b_ws, (arJ G 8 v_ws)), (b_hw, (arJ G 4 v_hw))] sz) := by
  refine Met.ofW (cc := cX12_partAt) (maxL := 3) (ret := (some .int)) (by decide +kernel) rfl ?_
  intro p e s m args below meth c s₁ B hml hv
  obtain ⟨rfl, hsz, hP, hK, hD0, hN, hT⟩ := hv
  have hx := B.exec
  have hb := B.bytes
  have hr := B.returns
  have hts : ∀ w ∈ tblG, w.before _ s = true := fun w h => atoms_spec (ws := (wsG yX12_partAt cX12_partAt 3 (some .int))) B.pre w (List.mem_cons_of_mem _ h)
  have hown : s.vm.findClass RX12 = some m.cls := findClass_of_methodNamed B.named
  have hlocks := B.notSynchronized
  subst hsz
  have hD := hD0.self (sz := s.heap.size)
  generalize hAe : va_A [(b_o, (oc12 u_th u_sa b_rf b_ro b_im b_ke u_fd b_tp u_td u_fr u_to u_so u_wo u_fa u_bd u_nc b_nl u_co b_op b_ar u_le b_pi b_pa u_pd u_od b_ws b_hw u_la b_se b_re u_bk u_va u_su u_ce u_ho u_wy u_bt u_ps b_pt u_tg u_sn b_ip u_ic b_ah b_be b_me u_wd b_tr b_ld u_st b_wn u_id)), (b_tp, (arI G 400 v_tp)), (b_ws, (arJ G 8 v_ws)), (b_hw, (arJ G 4 v_hw))] s.heap.size = A at hD hT ⊢
  have hA : ∀ q : Nat, s.heap.size ≤ q → A q := fun q h => by rw [← hAe]; exact Or.inr h
  have hS : va_S A s.heap s.heap [] := va_S.rf
  replace hP : va_P G.1 vwCl [(b_o, (oc12 u_th u_sa b_rf b_ro b_im b_ke u_fd b_tp u_td u_fr u_to u_so u_wo u_fa u_bd u_nc b_nl u_co b_op b_ar u_le b_pi b_pa u_pd u_od b_ws b_hw u_la b_se b_re u_bk u_va u_su u_ce u_ho u_wy u_bt u_ps b_pt u_tg u_sn b_ip u_ic b_ah b_be b_me u_wd b_tr b_ld u_st b_wn u_id)), (b_tp, (arI G 400 v_tp)), (b_ws, (arJ G 8 v_ws)), (b_hw, (arJ G 4 v_hw))] s.heap := hP
  have hl := lv_entry ([.ref b_o]) (n := 3) (Nat.le_of_ble_eq_true rfl)
  rw [lg_entry_eq]
  generalize (lg_sl ([.ref b_o]) ++ List.replicate (3 - (lg_sl ([.ref b_o])).length) Slot.unset).toArray = ls at hl ⊢
  replace hl : lv_has ls 3 [(0, .ref b_o)] := hl
  refine lv_iconst (v := (-1)) hx hb dX12_partAt_0 (by decide +kernel) ?_
  refine lv_istore_n (lv' := [(1, .int (-1)), (0, .ref b_o)]) hx hb dX12_partAt_1 rfl hl (by decide +kernel) rfl ?_
  clear hl
  intro ls hl
  refine lv_iconst (v := 0) hx hb dX12_partAt_2 (by decide +kernel) ?_
  refine lv_istore_n (lv' := [(2, .int 0), (1, .int (-1)), (0, .ref b_o)]) hx hb dX12_partAt_3 rfl hl (by decide +kernel) rfl ?_
  clear hl
  intro ls hl
  refine g5_loop (α := (Int32) × (Int32)) (fun (q : (Int32) × (Int32)) (ls : Array Slot) (H : Heap) (locs : List Loc) => match q with | (k4_2, k4_1) => lv_has ls 3 [(1, .int k4_1), (2, .int k4_2), (0, .ref b_o)] ∧ va_P G.1 vwCl [(b_o, (oc12 u_th u_sa b_rf b_ro b_im b_ke u_fd b_tp u_td u_fr u_to u_so u_wo u_fa u_bd u_nc b_nl u_co b_op b_ar u_le b_pi b_pa u_pd u_od b_ws b_hw u_la b_se b_re u_bk u_va u_su u_ce u_ho u_wy u_bt u_ps b_pt u_tg u_sn b_ip u_ic b_ah b_be b_me u_wd b_tr b_ld u_st b_wn u_id)), (b_tp, (arI G 400 v_tp)), (b_ws, (arJ G 8 v_ws)), (b_hw, (arJ G 4 v_hw))] H ∧ va_D A [(b_o, (oc12 u_th u_sa b_rf b_ro b_im b_ke u_fd b_tp u_td u_fr u_to u_so u_wo u_fa u_bd u_nc b_nl u_co b_op b_ar u_le b_pi b_pa u_pd u_od b_ws b_hw u_la b_se b_re u_bk u_va u_su u_ce u_ho u_wy u_bt u_ps b_pt u_tg u_sn b_ip u_ic b_ah b_be b_me u_wd b_tr b_ld u_st b_wn u_id)), (b_tp, (arI G 400 v_tp)), (b_ws, (arJ G 8 v_ws)), (b_hw, (arJ G 4 v_hw))] ∧ va_S A s.heap H locs ∧ (0 ≤ k4_2.toInt ∧ k4_2.toInt ≤ 8) ∧ ((-1) ≤ k4_1.toInt ∧ k4_1.toInt ≤ 8) ∧ (k4_1.toInt = -1 ∨ u_so.toInt = 1) ∧ (PTW 264 1 (KDT v_tp u_td.toInt.toNat g_i) k4_1.toInt k4_2.toInt)) (fun (q : (Int32) × (Int32)) => match q with | (k4_2, k4_1) => Int.toNat (8 - k4_2.toInt)) (0, (-1)) ⟨lv_sub hl [1, 0, 2] rfl, hP, hD, hS, ⟨by decide, by decide⟩, ⟨by decide, by decide⟩, Or.inl (by decide +kernel), ptw_0 (by decide +kernel) (by decide +kernel)⟩ ?_
  rintro ⟨k4_2, k4_1⟩ ls H locs ⟨hl, hP, hD, hS, (i_1 : 0 ≤ k4_2.toInt ∧ k4_2.toInt ≤ 8), (i_2 : (-1) ≤ k4_1.toInt ∧ k4_1.toInt ≤ 8), (i_3 : k4_1.toInt = -1 ∨ u_so.toInt = 1), (i_4 : PTW 264 1 (KDT v_tp u_td.toInt.toNat g_i) k4_1.toInt k4_2.toInt)⟩ ih_4_5
  replace hl : lv_has ls 3 [(1, .int k4_1), (2, .int k4_2), (0, .ref b_o)] := hl
  refine g5_rs [(b_o, (oc12 u_th u_sa b_rf b_ro b_im b_ke u_fd b_tp u_td u_fr u_to u_so u_wo u_fa u_bd u_nc b_nl u_co b_op b_ar u_le b_pi b_pa u_pd u_od b_ws b_hw u_la b_se b_re u_bk u_va u_su u_ce u_ho u_wy u_bt u_ps b_pt u_tg u_sn b_ip u_ic b_ah b_be b_me u_wd b_tr b_ld u_st b_wn u_id)), (b_tp, (arI G 400 v_tp)), (b_ws, (arJ G 8 v_ws)), (b_hw, (arJ G 4 v_hw))] hP hD ?_
  clear hP hD
  intro hP hD
  refine lv_iload_n hx hb dX12_partAt_4 rfl (lv_at hl 1 rfl) ?_
  refine lv_bipush (v := 8) hx hb dX12_partAt_5 (by decide +kernel) ?_
  refine lv_icmp_ge (tgt := 37) hx hb dX12_partAt_7 (by decide +kernel) (fun c_6 => ?_) (fun c_6 => ?_)
  ·
    have i_6 : k4_2.toInt ≥ 8 := g5_ge (a := k4_2.toInt) (b := 8) rfl (by decide +kernel) c_6
    refine lv_iload_n hx hb dX12_partAt_37 rfl (lv_at hl 0 rfl) ?_
    exact W.iret (v := k4_1) hx hb hr (fun t ht hW => ⟨⟨k4_1, [(b_o, (oc12 u_th u_sa b_rf b_ro b_im b_ke u_fd b_tp u_td u_fr u_to u_so u_wo u_fa u_bd u_nc b_nl u_co b_op b_ar u_le b_pi b_pa u_pd u_od b_ws b_hw u_la b_se b_re u_bk u_va u_su u_ce u_ho u_wy u_bt u_ps b_pt u_tg u_sn b_ip u_ic b_ah b_be b_me u_wd b_tr b_ld u_st b_wn u_id)), (b_tp, (arI G 400 v_tp)), (b_ws, (arJ G 8 v_ws)), (b_hw, (arJ G 4 v_hw))], rfl, ⟨k4_1, ⟨by omega, by omega⟩, i_3, by have q9 : k4_2.toInt = 8 := (by omega); rw [← q9]; exact i_4, rfl, rfl⟩, by rw [ht]; exact hP.sub [0, 1, 2, 3] rfl, hD.sub [0, 1, 2, 3] (by decide +kernel) rfl⟩, hS.F ht⟩) hS.2.2 dX12_partAt_38
  ·
    have i_6 : k4_2.toInt < 8 := g5_geN (a := k4_2.toInt) (b := 8) rfl (by decide +kernel) c_6
    refine lv_aload_n hx hb dX12_partAt_10 rfl (lv_at hl 2 rfl) ?_
    refine lv_aload_n hx hb dX12_partAt_11 rfl (lv_at hl 2 rfl) ?_
    refine va_get (D := G.1) (ci := 12) (v := .ref b_ws) (C := RX12) (T := TX12) (N := 52) hx hb hts inG_X12 hown hK hP 0 rfl rfl 25 (by decide +kernel) (hts _ fl_X12_61) (fun _ h9 => h9) rfl dX12_partAt_12 ?_
    refine lv_iload_n hx hb dX12_partAt_15 rfl (lv_at hl 1 rfl) ?_
    refine W.eq (g2 := F0 m 16 ls [.int k4_2, .ref b_ws, .ref b_o]) rfl ?_
    refine va_lald hx hb hK hP 2 1 rfl rfl (i := k4_2) (vp_in_iff.mpr ⟨by omega, by omega⟩) dX12_partAt_16 ?_
    obtain ⟨hPc, hDc, hFc⟩ := g5_sub3 (wc := [(b_o, (oc12 u_th u_sa b_rf b_ro b_im b_ke u_fd b_tp u_td u_fr u_to u_so u_wo u_fa u_bd u_nc b_nl u_co b_op b_ar u_le b_pi b_pa u_pd u_od b_ws b_hw u_la b_se b_re u_bk u_va u_su u_ce u_ho u_wy u_bt u_ps b_pt u_tg u_sn b_ip u_ic b_ah b_be b_me u_wd b_tr b_ld u_st b_wn u_id))]) hP hD hS hA [0] (by decide +kernel) rfl
    refine va_calli (va_runV (As := [.long (v_ws k4_2.toNatClampNeg)]) (rest := []) ⟨hx, hb, hml, hown, hts⟩ (n_isWordX l G b_o b_rf b_ro b_im b_ke b_tp b_nl b_op b_ar b_pi b_pa b_ws b_hw b_se b_re b_pt b_ip b_ah b_be b_me b_tr b_ld b_wn H.size u_th u_sa u_fd u_td u_fr u_to u_so u_fa u_bd u_nc u_co u_le u_pd u_od u_la u_bk u_ce u_ho u_wy u_bt u_ps u_tg u_sn u_ic u_wd u_id u_wo u_va u_su u_st (v_ws k4_2.toNatClampNeg) h_u_td h_u_fr h_u_to h_u_bd h_u_nc h_u_co h_u_pd h_u_la h_u_bk h_u_ce h_u_ho h_u_wy h_u_bt h_u_ps h_u_ic h_u_id) (cwV 1 hts gV_X12_254 rfl rfl rfl hv_X12_isWord ⟨Nat.le_of_ble_eq_true rfl, Nat.le_of_ble_eq_true rfl⟩) (g5_preV hPc hK hDc hN hT hS hFc (ci := 12) (q0 := 0) rfl rfl) rfl rfl hl.1 rfl (lv_room (Nat.le_of_ble_eq_true rfl)) dX12_partAt_17 ⟨Nat.le_of_ble_eq_true rfl, Nat.le_of_ble_eq_true rfl⟩) hS (fun q _ h => hFc q h) hFc (fun r u t H locs ht hvm hw hB hz1 hk1 hS => ?_)
    obtain ⟨hP1, hD1⟩ := hB
    have hP1 := g5_ht ht hP1
    rcases hw with ⟨(i_7 : u_so.toInt = 1 ∧ u_wo.toInt = (v_ws k4_2.toNatClampNeg).toInt), rfl, rfl⟩ | ⟨(i_8 : ¬ (u_so.toInt = 1 ∧ u_wo.toInt = (v_ws k4_2.toNatClampNeg).toInt)), rfl, rfl⟩
    ·
      have hJ9 := va_join (wr := [(b_tp, (arI G 400 v_tp)), (b_ws, (arJ G 8 v_ws)), (b_hw, (arJ G 4 v_hw))]) hP hD [0] [1, 2, 3] rfl rfl (by decide +kernel) (by decide +kernel) hk1 hFc hP1 hD1
      clear hP hD hPc hDc hFc ht hvm hz1 hk1 hP1 hD1
      obtain ⟨hP, hD⟩ := hJ9
      refine g5_rs [(b_tp, (arI G 400 v_tp)), (b_ws, (arJ G 8 v_ws)), (b_hw, (arJ G 4 v_hw)), (b_o, (oc12 u_th u_sa b_rf b_ro b_im b_ke u_fd b_tp u_td u_fr u_to u_so u_wo u_fa u_bd u_nc b_nl u_co b_op b_ar u_le b_pi b_pa u_pd u_od b_ws b_hw u_la b_se b_re u_bk u_va u_su u_ce u_ho u_wy u_bt u_ps b_pt u_tg u_sn b_ip u_ic b_ah b_be b_me u_wd b_tr b_ld u_st b_wn u_id))] hP hD ?_
      clear hP hD
      intro hP hD
      refine lv_if_eq (tgt := 29) hx hb dX12_partAt_20 (by decide +kernel) (fun c_9 => ?_) (fun c_9 => ?_)
      ·
        exact absurd c_9 (by decide +kernel)
      ·
        refine lv_iload_n hx hb dX12_partAt_23 rfl (lv_at hl 1 rfl) ?_
        refine lv_iconst (v := 1) hx hb dX12_partAt_24 (by decide +kernel) ?_
        refine lv_iadd hx hb dX12_partAt_25 ?_
        have t_10 : (k4_2 + 1).toInt = k4_2.toInt + 1 := g5_iadd (a := k4_2.toInt) (b := 1) (by rfl) (by decide +kernel) (by omega) (by omega)
        refine lv_goto (tgt := 30) hx hb dX12_partAt_26 (by decide +kernel) ?_
        refine W.eq (g2 := F0 m 30 ls [.int (k4_2 + 1)]) rfl ?_
        refine lv_istore_n (lv' := [(1, .int (k4_2 + 1)), (2, .int k4_2), (0, .ref b_o)]) hx hb dX12_partAt_30 rfl hl (by decide +kernel) rfl ?_
        clear hl
        intro ls hl
        refine lv_iinc (v := (k4_2 + 1)) (lv' := [(2, .int (k4_2 + 1)), (1, .int (k4_2 + 1)), (0, .ref b_o)]) hx hb dX12_partAt_31 hl (k := 1) rfl rfl (by decide +kernel) rfl ?_
        clear hl
        intro ls hl
        have t_11 : (k4_2 + 1).toInt = k4_2.toInt + 1 := g5_iadd (a := k4_2.toInt) (b := 1) rfl (by decide +kernel) (by omega) (by omega)
        refine lv_goto (tgt := 4) hx hb dX12_partAt_34 (by decide +kernel) ?_
        exact ih_4_5 ((k4_2 + 1), (k4_2 + 1)) ls H locs (show Int.toNat (8 - (k4_2 + 1).toInt) < Int.toNat (8 - k4_2.toInt) from g_up (show k4_2.toInt < (k4_2 + 1).toInt by omega) (show k4_2.toInt < 8 by omega)) ⟨lv_sub hl [1, 0, 2] rfl, hP.sub [3, 0, 1, 2] rfl, hD.sub [3, 0, 1, 2] (by decide +kernel) rfl, hS, ⟨by omega, by omega⟩, ⟨by omega, by omega⟩, Or.inr (by omega), ptw_Y (by omega) (by omega) ((pt_word e_tp e_ws e_tk (i := k4_2) (by omega)).mpr i_7) (by omega)⟩
    ·
      have hJ9 := va_join (wr := [(b_tp, (arI G 400 v_tp)), (b_ws, (arJ G 8 v_ws)), (b_hw, (arJ G 4 v_hw))]) hP hD [0] [1, 2, 3] rfl rfl (by decide +kernel) (by decide +kernel) hk1 hFc hP1 hD1
      clear hP hD hPc hDc hFc ht hvm hz1 hk1 hP1 hD1
      obtain ⟨hP, hD⟩ := hJ9
      refine g5_rs [(b_tp, (arI G 400 v_tp)), (b_ws, (arJ G 8 v_ws)), (b_hw, (arJ G 4 v_hw)), (b_o, (oc12 u_th u_sa b_rf b_ro b_im b_ke u_fd b_tp u_td u_fr u_to u_so u_wo u_fa u_bd u_nc b_nl u_co b_op b_ar u_le b_pi b_pa u_pd u_od b_ws b_hw u_la b_se b_re u_bk u_va u_su u_ce u_ho u_wy u_bt u_ps b_pt u_tg u_sn b_ip u_ic b_ah b_be b_me u_wd b_tr b_ld u_st b_wn u_id))] hP hD ?_
      clear hP hD
      intro hP hD
      refine lv_if_eq (tgt := 29) hx hb dX12_partAt_20 (by decide +kernel) (fun c_12 => ?_) (fun c_12 => ?_)
      ·
        refine lv_iload_n hx hb dX12_partAt_29 rfl (lv_at hl 0 rfl) ?_
        refine lv_istore_n (lv' := [(1, .int k4_1), (2, .int k4_2), (0, .ref b_o)]) hx hb dX12_partAt_30 rfl hl (by decide +kernel) rfl ?_
        clear hl
        intro ls hl
        refine lv_iinc (v := (k4_2 + 1)) (lv' := [(2, .int (k4_2 + 1)), (1, .int k4_1), (0, .ref b_o)]) hx hb dX12_partAt_31 hl (k := 1) rfl rfl (by decide +kernel) rfl ?_
        clear hl
        intro ls hl
        have t_13 : (k4_2 + 1).toInt = k4_2.toInt + 1 := g5_iadd (a := k4_2.toInt) (b := 1) rfl (by decide +kernel) (by omega) (by omega)
        refine lv_goto (tgt := 4) hx hb dX12_partAt_34 (by decide +kernel) ?_
        exact ih_4_5 ((k4_2 + 1), k4_1) ls H locs (show Int.toNat (8 - (k4_2 + 1).toInt) < Int.toNat (8 - k4_2.toInt) from g_up (show k4_2.toInt < (k4_2 + 1).toInt by omega) (show k4_2.toInt < 8 by omega)) ⟨lv_sub hl [1, 0, 2] rfl, hP.sub [3, 0, 1, 2] rfl, hD.sub [3, 0, 1, 2] (by decide +kernel) rfl, hS, ⟨by omega, by omega⟩, i_2, i_3, ptw_N i_4 (by omega) (fun q9 => i_8 ((pt_word e_tp e_ws e_tk (i := k4_2) (by omega)).mp q9))⟩
      ·
        exact absurd c_12 (by decide +kernel)
set_option maxHeartbeats 4000000 in
set_option maxRecDepth 100000 in
theorem n_openBracketX (l : Launch) (G : g5_G) (b_o b_tp b_pi b_pa b_rf b_ro b_im b_ke b_nl b_op b_ar b_ws b_hw b_se b_re b_pt b_ip b_ah b_be b_me b_tr b_ld b_wn : Nat) (sz : Nat) (u_th : Int32) (u_sa : Int32) (u_fd : Int32) (u_td : Int32) (u_fr : Int32) (u_to : Int32) (u_so : Int32) (u_fa : Int32) (u_bd : Int32) (u_nc : Int32) (u_co : Int32) (u_le : Int32) (u_pd : Int32) (u_od : Int32) (u_la : Int32) (u_bk : Int32) (u_ce : Int32) (u_ho : Int32) (u_wy : Int32) (u_bt : Int32) (u_ps : Int32) (u_tg : Int32) (u_sn : Int32) (u_ic : Int32) (u_wd : Int32) (u_id : Int32) (p_1 : Int32) (u_wo : Int64) (u_va : Int64) (u_su : Int64) (u_st : Int64) (v_tp : Nat → Int32) (v_pi : Nat → Int32) (v_pa : Nat → Int32) (h_u_td : 0 ≤ u_td.toInt ∧ u_td.toInt ≤ 400) (h_u_fr : 0 ≤ u_fr.toInt ∧ u_fr.toInt ≤ 400) (h_u_to : 0 ≤ u_to.toInt ∧ u_to.toInt ≤ 400) (h_u_bd : 0 ≤ u_bd.toInt ∧ u_bd.toInt ≤ 0) (h_u_nc : 0 ≤ u_nc.toInt ∧ u_nc.toInt ≤ 12) (h_u_co : 0 ≤ u_co.toInt ∧ u_co.toInt ≤ 400) (h_u_pd : 0 ≤ u_pd.toInt ∧ u_pd.toInt ≤ 400) (h_u_la : 0 ≤ u_la.toInt ∧ u_la.toInt ≤ 4840) (h_u_bk : 0 ≤ u_bk.toInt ∧ u_bk.toInt ≤ 1) (h_u_ce : 0 ≤ u_ce.toInt ∧ u_ce.toInt ≤ 63) (h_u_ho : 0 ≤ u_ho.toInt ∧ u_ho.toInt ≤ 23) (h_u_wy : 0 ≤ u_wy.toInt ∧ u_wy.toInt ≤ 3) (h_u_bt : 0 ≤ u_bt.toInt ∧ u_bt.toInt ≤ 1000000) (h_u_ps : 0 ≤ u_ps.toInt ∧ u_ps.toInt ≤ 200) (h_u_ic : 0 ≤ u_ic.toInt ∧ u_ic.toInt ≤ 1) (h_u_id : 0 ≤ u_id.toInt ∧ u_id.toInt ≤ 1) (h_p_1 : 30 ≤ p_1.toInt ∧ p_1.toInt ≤ 31) (e_t : u_fr.toInt < u_to.toInt ∧ u_to.toInt ≤ u_td.toInt) (e_p : u_pd.toInt ≤ u_fr.toInt) (e_od : 0 ≤ u_od.toInt ∧ u_od.toInt ≤ 8) : Met l yX12_openBracket (wsG yX12_openBracket cX12_openBracket 2 none) ({ frames := 3, cells := 0, slots := 0, locals := 61 }) (va_Pc [.ref b_o, .int p_1] (g5_P G [(b_o, (oc12 u_th u_sa b_rf b_ro b_im b_ke u_fd b_tp u_td u_fr u_to u_so u_wo u_fa u_bd u_nc b_nl u_co b_op b_ar u_le b_pi b_pa u_pd u_od b_ws b_hw u_la b_se b_re u_bk u_va u_su u_ce u_ho u_wy u_bt u_ps b_pt u_tg u_sn b_ip u_ic b_ah b_be b_me u_wd b_tr b_ld u_st b_wn u_id)), (b_tp, (arI G 400 v_tp)), (b_pi, (arI G 400 v_pi)), (b_pa, (arI G 400 v_pa))] sz)) (va_Qv (fun (u : va_W) => ((8 ≤ u_od.toInt) ∧ (u = [(b_o, (oc12 u_th u_sa b_rf b_ro b_im b_ke u_fd b_tp u_td u_fr u_to u_so u_wo u_fr 1 u_nc b_nl u_co b_op b_ar u_le b_pi b_pa u_pd u_od b_ws b_hw u_la b_se b_re u_bk u_va u_su u_ce u_ho u_wy u_bt u_ps b_pt u_tg u_sn b_ip u_ic b_ah b_be b_me u_wd b_tr b_ld u_st b_wn u_id)), (b_tp, (arI G 400 v_tp)), (b_pi, (arI G 400 v_pi)), (b_pa, (arI G 400 v_pa))])) ∨ (∃ (o_fr : Int32) (o_to : Int32) (o_so : Int32) (o_wo : Int64) (o_pd : Int32) (o_od : Int32), (0 ≤ o_fr.toInt ∧ o_fr.toInt ≤ 400) ∧ (0 ≤ o_to.toInt ∧ o_to.toInt ≤ 400) ∧ (0 ≤ o_pd.toInt ∧ o_pd.toInt ≤ 400) ∧ (u_to.toInt ≤ o_fr.toInt ∧ o_fr.toInt ≤ o_to.toInt ∧ o_to.toInt ≤ u_td.toInt) ∧ (TKs o_so.toInt o_fr.toInt o_to.toInt) ∧ (o_pd.toInt = u_pd.toInt + 1) ∧ (u_od.toInt < 8) ∧ (o_od.toInt = u_od.toInt + 1) ∧ (TOKA v_tp u_td.toInt.toNat (skT v_tp u_td.toInt.toNat u_to.toInt.toNat) o_fr o_to o_so o_wo) ∧ (u = [(b_o, (oc12 u_th u_sa b_rf b_ro b_im b_ke u_fd b_tp u_td o_fr o_to o_so o_wo u_fa u_bd u_nc b_nl u_co b_op b_ar u_le b_pi b_pa o_pd o_od b_ws b_hw u_la b_se b_re u_bk u_va u_su u_ce u_ho u_wy u_bt u_ps b_pt u_tg u_sn b_ip u_ic b_ah b_be b_me u_wd b_tr b_ld u_st b_wn u_id)), (b_tp, (arI G 400 v_tp)), (b_pi, (arI G 400 (upd v_pi u_pd.toNatClampNeg p_1))), (b_pa, (arI G 400 (upd v_pa u_pd.toNatClampNeg 0)))]))) (g5_B G (va_A [(b_o, (oc12 u_th u_sa b_rf b_ro b_im b_ke u_fd b_tp u_td u_fr u_to u_so u_wo u_fa u_bd u_nc b_nl u_co b_op b_ar u_le b_pi b_pa u_pd u_od b_ws b_hw u_la b_se b_re u_bk u_va u_su u_ce u_ho u_wy u_bt u_ps b_pt u_tg u_sn b_ip u_ic b_ah b_be b_me u_wd b_tr b_ld u_st b_wn u_id)), (b_tp, (arI G 400 v_tp)), (b_pi, (arI G 400 v_pi)), (b_pa, (arI G 400 v_pa))] sz)) (va_A [(b_o, (oc12 u_th u_sa b_rf b_ro b_im b_ke u_fd b_tp u_td u_fr u_to u_so u_wo u_fa u_bd u_nc b_nl u_co b_op b_ar u_le b_pi b_pa u_pd u_od b_ws b_hw u_la b_se b_re u_bk u_va u_su u_ce u_ho u_wy u_bt u_ps b_pt u_tg u_sn b_ip u_ic b_ah b_be b_me u_wd b_tr b_ld u_st b_wn u_id)), (b_tp, (arI G 400 v_tp)), (b_pi, (arI G 400 v_pi)), (b_pa, (arI G 400 v_pa))] sz)) 0 0 (va_A [(b_o, (oc12 u_th u_sa b_rf b_ro b_im b_ke u_fd b_tp u_td u_fr u_to u_so u_wo u_fa u_bd u_nc b_nl u_co b_op b_ar u_le b_pi b_pa u_pd u_od b_ws b_hw u_la b_se b_re u_bk u_va u_su u_ce u_ho u_wy u_bt u_ps b_pt u_tg u_sn b_ip u_ic b_ah b_be b_me u_wd b_tr b_ld u_st b_wn u_id)), (b_tp, (arI G 400 v_tp)), (b_pi, (arI G 400 v_pi)), (b_pa, (arI G 400 v_pa))] sz) := by
  refine Met.ofW (cc := cX12_openBracket) (maxL := 2) (ret := none) (by decide +kernel) rfl ?_
  intro p e s m args below meth c s₁ B hml hv
  obtain ⟨rfl, hsz, hP, hK, hD0, hN, hT⟩ := hv
  have hx := B.exec
  have hb := B.bytes
  have hr := B.returns
  have hts : ∀ w ∈ tblG, w.before _ s = true := fun w h => atoms_spec (ws := (wsG yX12_openBracket cX12_openBracket 2 none)) B.pre w (List.mem_cons_of_mem _ h)
  have hown : s.vm.findClass RX12 = some m.cls := findClass_of_methodNamed B.named
  have hlocks := B.notSynchronized
  subst hsz
  have hD := hD0.self (sz := s.heap.size)
  generalize hAe : va_A [(b_o, (oc12 u_th u_sa b_rf b_ro b_im b_ke u_fd b_tp u_td u_fr u_to u_so u_wo u_fa u_bd u_nc b_nl u_co b_op b_ar u_le b_pi b_pa u_pd u_od b_ws b_hw u_la b_se b_re u_bk u_va u_su u_ce u_ho u_wy u_bt u_ps b_pt u_tg u_sn b_ip u_ic b_ah b_be b_me u_wd b_tr b_ld u_st b_wn u_id)), (b_tp, (arI G 400 v_tp)), (b_pi, (arI G 400 v_pi)), (b_pa, (arI G 400 v_pa))] s.heap.size = A at hD hT ⊢
  have hA : ∀ q : Nat, s.heap.size ≤ q → A q := fun q h => by rw [← hAe]; exact Or.inr h
  have hS : va_S A s.heap s.heap [] := va_S.rf
  replace hP : va_P G.1 vwCl [(b_o, (oc12 u_th u_sa b_rf b_ro b_im b_ke u_fd b_tp u_td u_fr u_to u_so u_wo u_fa u_bd u_nc b_nl u_co b_op b_ar u_le b_pi b_pa u_pd u_od b_ws b_hw u_la b_se b_re u_bk u_va u_su u_ce u_ho u_wy u_bt u_ps b_pt u_tg u_sn b_ip u_ic b_ah b_be b_me u_wd b_tr b_ld u_st b_wn u_id)), (b_tp, (arI G 400 v_tp)), (b_pi, (arI G 400 v_pi)), (b_pa, (arI G 400 v_pa))] s.heap := hP
  have hl := lv_entry ([.ref b_o, .int p_1]) (n := 2) (Nat.le_of_ble_eq_true rfl)
  rw [lg_entry_eq]
  generalize (lg_sl ([.ref b_o, .int p_1]) ++ List.replicate (2 - (lg_sl ([.ref b_o, .int p_1])).length) Slot.unset).toArray = ls at hl ⊢
  replace hl : lv_has ls 2 [(0, .ref b_o), (1, .int p_1)] := hl
  refine lv_aload_n hx hb dX12_openBracket_0 rfl (lv_at hl 0 rfl) ?_
  refine lv_aload_n hx hb dX12_openBracket_1 rfl (lv_at hl 0 rfl) ?_
  refine va_get (D := G.1) (ci := 12) (v := .int u_od) (C := RX12) (T := TX12) (N := 52) hx hb hts inG_X12 hown hK hP 0 rfl rfl 24 (by decide +kernel) (hts _ fl_X12_258) (fun _ h9 => h9) rfl dX12_openBracket_2 ?_
  refine lv_bipush (v := 8) hx hb dX12_openBracket_5 (by decide +kernel) ?_
  refine W.eq (g2 := F0 m 7 ls [.int 8, .int u_od, .ref b_o]) rfl ?_
  refine lv_icmp_ge (tgt := 14) hx hb dX12_openBracket_7 (by decide +kernel) (fun c_1 => ?_) (fun c_1 => ?_)
  ·
    have i_1 : u_od.toInt ≥ 8 := g5_ge (a := u_od.toInt) (b := 8) rfl (by decide +kernel) c_1
    refine lv_iconst (v := 0) hx hb dX12_openBracket_14 (by decide +kernel) ?_
    obtain ⟨hPc, hDc, hFc⟩ := g5_sub3 (wc := [(b_o, (oc12 u_th u_sa b_rf b_ro b_im b_ke u_fd b_tp u_td u_fr u_to u_so u_wo u_fa u_bd u_nc b_nl u_co b_op b_ar u_le b_pi b_pa u_pd u_od b_ws b_hw u_la b_se b_re u_bk u_va u_su u_ce u_ho u_wy u_bt u_ps b_pt u_tg u_sn b_ip u_ic b_ah b_be b_me u_wd b_tr b_ld u_st b_wn u_id)), (b_tp, (arI G 400 v_tp))]) hP hD hS hA [0, 1] (by decide +kernel) rfl
    refine va_callv (va_runV (As := [.int 0]) (rest := []) ⟨hx, hb, hml, hown, hts⟩ (n_must0 l G b_o b_tp b_rf b_ro b_im b_ke b_nl b_op b_ar b_pi b_pa b_ws b_hw b_se b_re b_pt b_ip b_ah b_be b_me b_tr b_ld b_wn s.heap.size u_th u_sa u_fd u_td u_fr u_to u_so u_fa u_bd u_nc u_co u_le u_pd u_od u_la u_bk u_ce u_ho u_wy u_bt u_ps u_tg u_sn u_ic u_wd u_id u_wo u_va u_su u_st v_tp h_u_td h_u_fr h_u_to h_u_bd h_u_nc h_u_co h_u_pd h_u_la h_u_bk h_u_ce h_u_ho h_u_wy h_u_bt h_u_ps h_u_ic h_u_id) (cwV 1 hts gV_X12_233 rfl rfl rfl hv_X12_must ⟨Nat.le_of_ble_eq_true rfl, Nat.le_of_ble_eq_true rfl⟩) (g5_preV hPc hK hDc hN hT hS hFc (ci := 12) (q0 := 0) rfl rfl) rfl rfl hl.1 rfl (lv_room (Nat.le_of_ble_eq_true rfl)) dX12_openBracket_15 ⟨Nat.le_of_ble_eq_true rfl, Nat.le_of_ble_eq_true rfl⟩) hS (fun q _ h => hFc q h) hFc (fun u t H locs ht hvm hw hB hz1 hk1 hS => ?_)
    obtain ⟨hP1, hD1⟩ := hB
    have hP1 := g5_ht ht hP1
    obtain rfl := hw
    have hJ9 := va_join (wr := [(b_pi, (arI G 400 v_pi)), (b_pa, (arI G 400 v_pa))]) hP hD [0, 1] [2, 3] rfl rfl (by decide +kernel) (by decide +kernel) hk1 hFc hP1 hD1
    clear hP hD hPc hDc hFc ht hvm hz1 hk1 hP1 hD1
    obtain ⟨hP, hD⟩ := hJ9
    refine g5_rs [(b_pi, (arI G 400 v_pi)), (b_pa, (arI G 400 v_pa)), (b_o, (oc12 u_th u_sa b_rf b_ro b_im b_ke u_fd b_tp u_td u_fr u_to u_so u_wo u_fr 1 u_nc b_nl u_co b_op b_ar u_le b_pi b_pa u_pd u_od b_ws b_hw u_la b_se b_re u_bk u_va u_su u_ce u_ho u_wy u_bt u_ps b_pt u_tg u_sn b_ip u_ic b_ah b_be b_me u_wd b_tr b_ld u_st b_wn u_id)), (b_tp, (arI G 400 v_tp))] hP hD ?_
    clear hP hD
    intro hP hD
    refine lv_aload_n hx hb dX12_openBracket_18 rfl (lv_at hl 0 rfl) ?_
    refine va_get (D := G.1) (ci := 12) (v := .int 1) (C := RX12) (T := TX12) (N := 52) hx hb hts inG_X12 hown hK hP 2 rfl rfl 14 (by decide +kernel) (hts _ fl_X12_205) (fun _ h9 => h9) rfl dX12_openBracket_19 ?_
    refine W.eq (g2 := F0 m 22 ls [.int 1]) rfl ?_
    refine lv_if_ne (tgt := 41) hx hb dX12_openBracket_22 (by decide +kernel) (fun c_2 => ?_) (fun c_2 => ?_)
    ·
      exact W.vret hx hb hr (fun t ht hW => ⟨⟨[(b_o, (oc12 u_th u_sa b_rf b_ro b_im b_ke u_fd b_tp u_td u_fr u_to u_so u_wo u_fr 1 u_nc b_nl u_co b_op b_ar u_le b_pi b_pa u_pd u_od b_ws b_hw u_la b_se b_re u_bk u_va u_su u_ce u_ho u_wy u_bt u_ps b_pt u_tg u_sn b_ip u_ic b_ah b_be b_me u_wd b_tr b_ld u_st b_wn u_id)), (b_tp, (arI G 400 v_tp)), (b_pi, (arI G 400 v_pi)), (b_pa, (arI G 400 v_pa))], rfl, Or.inl (⟨by omega, rfl⟩), by rw [ht]; exact hP.sub [2, 3, 0, 1] rfl, hD.sub [2, 3, 0, 1] (by decide +kernel) rfl⟩, hS.F ht⟩) hS.2.2 dX12_openBracket_41
    ·
      exact absurd c_2 (by decide +kernel)
  ·
    have i_1 : u_od.toInt < 8 := g5_geN (a := u_od.toInt) (b := 8) rfl (by decide +kernel) c_1
    refine lv_iconst (v := 1) hx hb dX12_openBracket_10 (by decide +kernel) ?_
    refine lv_goto (tgt := 15) hx hb dX12_openBracket_11 (by decide +kernel) ?_
    obtain ⟨hPc, hDc, hFc⟩ := g5_sub3 (wc := [(b_o, (oc12 u_th u_sa b_rf b_ro b_im b_ke u_fd b_tp u_td u_fr u_to u_so u_wo u_fa u_bd u_nc b_nl u_co b_op b_ar u_le b_pi b_pa u_pd u_od b_ws b_hw u_la b_se b_re u_bk u_va u_su u_ce u_ho u_wy u_bt u_ps b_pt u_tg u_sn b_ip u_ic b_ah b_be b_me u_wd b_tr b_ld u_st b_wn u_id)), (b_tp, (arI G 400 v_tp))]) hP hD hS hA [0, 1] (by decide +kernel) rfl
    refine va_callv (va_runV (As := [.int 1]) (rest := []) ⟨hx, hb, hml, hown, hts⟩ (n_must1X l G b_o b_tp b_rf b_ro b_im b_ke b_nl b_op b_ar b_pi b_pa b_ws b_hw b_se b_re b_pt b_ip b_ah b_be b_me b_tr b_ld b_wn s.heap.size u_th u_sa u_fd u_td u_fr u_to u_so u_fa u_bd u_nc u_co u_le u_pd u_od u_la u_bk u_ce u_ho u_wy u_bt u_ps u_tg u_sn u_ic u_wd u_id u_wo u_va u_su u_st v_tp h_u_td h_u_fr h_u_to h_u_bd h_u_nc h_u_co h_u_pd h_u_la h_u_bk h_u_ce h_u_ho h_u_wy h_u_bt h_u_ps h_u_ic h_u_id (e_t)) (cwV 1 hts gV_X12_233 rfl rfl rfl hv_X12_must ⟨Nat.le_of_ble_eq_true rfl, Nat.le_of_ble_eq_true rfl⟩) (g5_preV hPc hK hDc hN hT hS hFc (ci := 12) (q0 := 0) rfl rfl) rfl rfl hl.1 rfl (lv_room (Nat.le_of_ble_eq_true rfl)) dX12_openBracket_15 ⟨Nat.le_of_ble_eq_true rfl, Nat.le_of_ble_eq_true rfl⟩) hS (fun q _ h => hFc q h) hFc (fun u t H locs ht hvm hw hB hz1 hk1 hS => ?_)
    obtain ⟨hP1, hD1⟩ := hB
    have hP1 := g5_ht ht hP1
    obtain ⟨z8, z9, z10, z11, (i_3 : 0 ≤ z8.toInt ∧ z8.toInt ≤ 400), (i_4 : 0 ≤ z9.toInt ∧ z9.toInt ≤ 400), (i_5 : u_to.toInt ≤ z8.toInt ∧ z8.toInt ≤ z9.toInt ∧ z9.toInt ≤ u_td.toInt), (i_6 : TKs z10.toInt z8.toInt z9.toInt), (i_7 : TOKA v_tp u_td.toInt.toNat (skT v_tp u_td.toInt.toNat u_to.toInt.toNat) z8 z9 z10 z11), rfl⟩ := hw
    have hJ9 := va_join (wr := [(b_pi, (arI G 400 v_pi)), (b_pa, (arI G 400 v_pa))]) hP hD [0, 1] [2, 3] rfl rfl (by decide +kernel) (by decide +kernel) hk1 hFc hP1 hD1
    clear hP hD hPc hDc hFc ht hvm hz1 hk1 hP1 hD1
    obtain ⟨hP, hD⟩ := hJ9
    refine g5_rs [(b_pi, (arI G 400 v_pi)), (b_pa, (arI G 400 v_pa)), (b_o, (oc12 u_th u_sa b_rf b_ro b_im b_ke u_fd b_tp u_td z8 z9 z10 z11 u_fa u_bd u_nc b_nl u_co b_op b_ar u_le b_pi b_pa u_pd u_od b_ws b_hw u_la b_se b_re u_bk u_va u_su u_ce u_ho u_wy u_bt u_ps b_pt u_tg u_sn b_ip u_ic b_ah b_be b_me u_wd b_tr b_ld u_st b_wn u_id)), (b_tp, (arI G 400 v_tp))] hP hD ?_
    clear hP hD
    intro hP hD
    refine lv_aload_n hx hb dX12_openBracket_18 rfl (lv_at hl 0 rfl) ?_
    refine W.eq (g2 := F0 m 19 ls [.ref b_o]) rfl ?_
    refine va_get (D := G.1) (ci := 12) (v := .int u_bd) (C := RX12) (T := TX12) (N := 52) hx hb hts inG_X12 hown hK hP 2 rfl rfl 14 (by decide +kernel) (hts _ fl_X12_205) (fun _ h9 => h9) rfl dX12_openBracket_19 ?_
    refine lv_if_ne (tgt := 41) hx hb dX12_openBracket_22 (by decide +kernel) (fun c_12 => ?_) (fun c_12 => ?_)
    ·
      have i_12 : u_bd.toInt ≠ 0 := g5_ne (a := u_bd.toInt) (b := 0) rfl (by decide +kernel) c_12
      omega
    ·
      have i_12 : u_bd.toInt = 0 := g5_neN (a := u_bd.toInt) (b := 0) rfl (by decide +kernel) c_12
      refine lv_aload_n hx hb dX12_openBracket_25 rfl (lv_at hl 0 rfl) ?_
      refine lv_dup hx hb dX12_openBracket_26 rfl ?_
      refine va_get (D := G.1) (ci := 12) (v := .int u_od) (C := RX12) (T := TX12) (N := 52) hx hb hts inG_X12 hown hK hP 2 rfl rfl 24 (by decide +kernel) (hts _ fl_X12_258) (fun _ h9 => h9) rfl dX12_openBracket_27 ?_
      refine lv_iconst (v := 1) hx hb dX12_openBracket_30 (by decide +kernel) ?_
      refine W.eq (g2 := F0 m 31 ls [.int 1, .int u_od, .ref b_o]) rfl ?_
      refine lv_iadd hx hb dX12_openBracket_31 ?_
      have t_13 : (u_od + 1).toInt = u_od.toInt + 1 := g5_iadd (a := u_od.toInt) (b := 1) (by rfl) (by decide +kernel) (by omega) (by omega)
      refine va_put (D := G.1) (ci := 12) (v := .int (u_od + 1)) (ty := .int) (C := RX12) (T := TX12) (N := 52) hx hb hts inG_X12 tyX12 tyX12_ok nmX12 hown hK hP hD hS 2 rfl rfl 24 (by decide +kernel) (hts _ fl_X12_258) (fun _ h9 => h9) rfl (by decide +kernel) rfl rfl (Nat.le_of_ble_eq_true rfl) dX12_openBracket_32 ?_
      clear hP hD hS
      intro H locs hP hD hS
      refine g5_rs [(b_pi, (arI G 400 v_pi)), (b_pa, (arI G 400 v_pa)), (b_o, (oc12 u_th u_sa b_rf b_ro b_im b_ke u_fd b_tp u_td z8 z9 z10 z11 u_fa u_bd u_nc b_nl u_co b_op b_ar u_le b_pi b_pa u_pd (u_od + 1) b_ws b_hw u_la b_se b_re u_bk u_va u_su u_ce u_ho u_wy u_bt u_ps b_pt u_tg u_sn b_ip u_ic b_ah b_be b_me u_wd b_tr b_ld u_st b_wn u_id)), (b_tp, (arI G 400 v_tp))] hP hD ?_
      clear hP hD
      intro hP hD
      refine lv_aload_n hx hb dX12_openBracket_35 rfl (lv_at hl 0 rfl) ?_
      refine lv_iload_n hx hb dX12_openBracket_36 rfl (lv_at hl 1 rfl) ?_
      refine lv_iconst (v := 0) hx hb dX12_openBracket_37 (by decide +kernel) ?_
      refine W.eq (g2 := F0 m 38 ls [.int 0, .int p_1, .ref b_o]) rfl ?_
      obtain ⟨hPc, hDc, hFc⟩ := g5_sub3 (wc := [(b_o, (oc12 u_th u_sa b_rf b_ro b_im b_ke u_fd b_tp u_td z8 z9 z10 z11 u_fa u_bd u_nc b_nl u_co b_op b_ar u_le b_pi b_pa u_pd (u_od + 1) b_ws b_hw u_la b_se b_re u_bk u_va u_su u_ce u_ho u_wy u_bt u_ps b_pt u_tg u_sn b_ip u_ic b_ah b_be b_me u_wd b_tr b_ld u_st b_wn u_id)), (b_pi, (arI G 400 v_pi)), (b_pa, (arI G 400 v_pa))]) hP hD hS hA [2, 0, 1] (by decide +kernel) rfl
      refine va_callv (va_runV (As := [.int p_1, .int 0]) (rest := []) ⟨hx, hb, hml, hown, hts⟩ (n_push l G b_o b_pi b_pa b_rf b_ro b_im b_ke b_tp b_nl b_op b_ar b_ws b_hw b_se b_re b_pt b_ip b_ah b_be b_me b_tr b_ld b_wn H.size u_th u_sa u_fd u_td z8 z9 z10 u_fa u_bd u_nc u_co u_le u_pd (u_od + 1) u_la u_bk u_ce u_ho u_wy u_bt u_ps u_tg u_sn u_ic u_wd u_id p_1 0 z11 u_va u_su u_st v_pi v_pa h_u_td i_3 i_4 ⟨by omega, by omega⟩ h_u_nc h_u_co h_u_pd h_u_la h_u_bk h_u_ce h_u_ho h_u_wy h_u_bt h_u_ps h_u_ic h_u_id (by omega)) (cwV 2 hts gV_X12_261 rfl rfl rfl hv_X12_push ⟨Nat.le_of_ble_eq_true rfl, Nat.le_of_ble_eq_true rfl⟩) (g5_preV hPc hK hDc hN hT hS hFc (ci := 12) (q0 := 0) rfl rfl) rfl rfl hl.1 rfl (lv_room (Nat.le_of_ble_eq_true rfl)) dX12_openBracket_38 ⟨Nat.le_of_ble_eq_true rfl, Nat.le_of_ble_eq_true rfl⟩) hS (fun q _ h => hFc q h) hFc (fun u t H locs ht hvm hw hB hz1 hk1 hS => ?_)
      obtain ⟨hP1, hD1⟩ := hB
      have hP1 := g5_ht ht hP1
      obtain ⟨z16, (i_14 : 0 ≤ z16.toInt ∧ z16.toInt ≤ 400), (i_15 : z16.toInt = u_pd.toInt + 1), rfl⟩ := hw
      have hJ9 := va_join (wr := [(b_tp, (arI G 400 v_tp))]) hP hD [2, 0, 1] [3] rfl rfl (by decide +kernel) (by decide +kernel) hk1 hFc hP1 hD1
      clear hP hD hPc hDc hFc ht hvm hz1 hk1 hP1 hD1
      obtain ⟨hP, hD⟩ := hJ9
      refine g5_rs [(b_tp, (arI G 400 v_tp)), (b_o, (oc12 u_th u_sa b_rf b_ro b_im b_ke u_fd b_tp u_td z8 z9 z10 z11 u_fa u_bd u_nc b_nl u_co b_op b_ar u_le b_pi b_pa z16 (u_od + 1) b_ws b_hw u_la b_se b_re u_bk u_va u_su u_ce u_ho u_wy u_bt u_ps b_pt u_tg u_sn b_ip u_ic b_ah b_be b_me u_wd b_tr b_ld u_st b_wn u_id)), (b_pi, (arI G 400 (upd v_pi u_pd.toNatClampNeg p_1))), (b_pa, (arI G 400 (upd v_pa u_pd.toNatClampNeg 0)))] hP hD ?_
      clear hP hD
      intro hP hD
      exact W.vret hx hb hr (fun t ht hW => ⟨⟨[(b_o, (oc12 u_th u_sa b_rf b_ro b_im b_ke u_fd b_tp u_td z8 z9 z10 z11 u_fa u_bd u_nc b_nl u_co b_op b_ar u_le b_pi b_pa z16 (u_od + 1) b_ws b_hw u_la b_se b_re u_bk u_va u_su u_ce u_ho u_wy u_bt u_ps b_pt u_tg u_sn b_ip u_ic b_ah b_be b_me u_wd b_tr b_ld u_st b_wn u_id)), (b_tp, (arI G 400 v_tp)), (b_pi, (arI G 400 (upd v_pi u_pd.toNatClampNeg p_1))), (b_pa, (arI G 400 (upd v_pa u_pd.toNatClampNeg 0)))], rfl, Or.inr (⟨z8, z9, z10, z11, z16, (u_od + 1), i_3, i_4, i_14, by omega, i_6, by omega, by omega, by omega, i_7, rfl⟩), by rw [ht]; exact hP.sub [1, 0, 2, 3] rfl, hD.sub [1, 0, 2, 3] (by decide +kernel) rfl⟩, hS.F ht⟩) hS.2.2 dX12_openBracket_41
set_option maxHeartbeats 4000000 in
set_option maxRecDepth 100000 in
theorem n_leaf1X (l : Launch) (G : g5_G) (b_o b_tp b_op b_ar b_rf b_ro b_im b_ke b_nl b_pi b_pa b_ws b_hw b_se b_re b_pt b_ip b_ah b_be b_me b_tr b_ld b_wn : Nat) (sz : Nat) (u_th : Int32) (u_sa : Int32) (u_fd : Int32) (u_td : Int32) (u_fr : Int32) (u_to : Int32) (u_so : Int32) (u_fa : Int32) (u_bd : Int32) (u_nc : Int32) (u_co : Int32) (u_le : Int32) (u_pd : Int32) (u_od : Int32) (u_la : Int32) (u_bk : Int32) (u_ce : Int32) (u_ho : Int32) (u_wy : Int32) (u_bt : Int32) (u_ps : Int32) (u_tg : Int32) (u_sn : Int32) (u_ic : Int32) (u_wd : Int32) (u_id : Int32) (p_2 : Int32) (p_3 : Int32) (u_wo : Int64) (u_va : Int64) (u_su : Int64) (u_st : Int64) (v_tp : Nat → Int32) (v_op : Nat → Int32) (v_ar : Nat → Int32) (h_u_td : 0 ≤ u_td.toInt ∧ u_td.toInt ≤ 400) (h_u_fr : 0 ≤ u_fr.toInt ∧ u_fr.toInt ≤ 400) (h_u_to : 0 ≤ u_to.toInt ∧ u_to.toInt ≤ 400) (h_u_bd : 0 ≤ u_bd.toInt ∧ u_bd.toInt ≤ 0) (h_u_nc : 0 ≤ u_nc.toInt ∧ u_nc.toInt ≤ 12) (h_u_co : 0 ≤ u_co.toInt ∧ u_co.toInt ≤ 400) (h_u_pd : 0 ≤ u_pd.toInt ∧ u_pd.toInt ≤ 400) (h_u_la : 0 ≤ u_la.toInt ∧ u_la.toInt ≤ 4840) (h_u_bk : 0 ≤ u_bk.toInt ∧ u_bk.toInt ≤ 1) (h_u_ce : 0 ≤ u_ce.toInt ∧ u_ce.toInt ≤ 63) (h_u_ho : 0 ≤ u_ho.toInt ∧ u_ho.toInt ≤ 23) (h_u_wy : 0 ≤ u_wy.toInt ∧ u_wy.toInt ≤ 3) (h_u_bt : 0 ≤ u_bt.toInt ∧ u_bt.toInt ≤ 1000000) (h_u_ps : 0 ≤ u_ps.toInt ∧ u_ps.toInt ≤ 200) (h_u_ic : 0 ≤ u_ic.toInt ∧ u_ic.toInt ≤ 1) (h_u_id : 0 ≤ u_id.toInt ∧ u_id.toInt ≤ 1) (h_p_2 : 0 ≤ p_2.toInt ∧ p_2.toInt ≤ 8) (e_t : u_fr.toInt < u_to.toInt ∧ u_to.toInt ≤ u_td.toInt) (e_p : u_co.toInt ≤ u_fr.toInt) (e_le : 0 ≤ u_le.toInt ∧ u_le.toInt ≤ 50) : Met l yX12_leaf (wsG yX12_leaf cX12_leaf 4 none) ({ frames := 3, cells := 0, slots := 0, locals := 61 }) (va_Pc [.ref b_o, .int 1, .int p_2, .int p_3] (g5_P G [(b_o, (oc12 u_th u_sa b_rf b_ro b_im b_ke u_fd b_tp u_td u_fr u_to u_so u_wo u_fa u_bd u_nc b_nl u_co b_op b_ar u_le b_pi b_pa u_pd u_od b_ws b_hw u_la b_se b_re u_bk u_va u_su u_ce u_ho u_wy u_bt u_ps b_pt u_tg u_sn b_ip u_ic b_ah b_be b_me u_wd b_tr b_ld u_st b_wn u_id)), (b_tp, (arI G 400 v_tp)), (b_op, (arI G 400 v_op)), (b_ar, (arI G 400 v_ar))] sz)) (va_Qv (fun (u : va_W) => ((50 ≤ u_le.toInt) ∧ (u = [(b_o, (oc12 u_th u_sa b_rf b_ro b_im b_ke u_fd b_tp u_td u_fr u_to u_so u_wo u_fr 1 u_nc b_nl u_co b_op b_ar u_le b_pi b_pa u_pd u_od b_ws b_hw u_la b_se b_re u_bk u_va u_su u_ce u_ho u_wy u_bt u_ps b_pt u_tg u_sn b_ip u_ic b_ah b_be b_me u_wd b_tr b_ld u_st b_wn u_id)), (b_tp, (arI G 400 v_tp)), (b_op, (arI G 400 v_op)), (b_ar, (arI G 400 v_ar))])) ∨ (∃ (o_fr : Int32) (o_to : Int32) (o_so : Int32) (o_wo : Int64) (o_co : Int32) (o_le : Int32), (0 ≤ o_fr.toInt ∧ o_fr.toInt ≤ 400) ∧ (0 ≤ o_to.toInt ∧ o_to.toInt ≤ 400) ∧ (0 ≤ o_co.toInt ∧ o_co.toInt ≤ 400) ∧ (u_to.toInt ≤ o_fr.toInt ∧ o_fr.toInt ≤ o_to.toInt ∧ o_to.toInt ≤ u_td.toInt) ∧ (TKs o_so.toInt o_fr.toInt o_to.toInt) ∧ (o_co.toInt = u_co.toInt + 1) ∧ (u_le.toInt < 50) ∧ (o_le.toInt = u_le.toInt + 1) ∧ (TOKA v_tp u_td.toInt.toNat (skT v_tp u_td.toInt.toNat u_to.toInt.toNat) o_fr o_to o_so o_wo) ∧ (u = [(b_o, (oc12 u_th u_sa b_rf b_ro b_im b_ke u_fd b_tp u_td o_fr o_to o_so o_wo u_fa u_bd u_nc b_nl o_co b_op b_ar o_le b_pi b_pa u_pd u_od b_ws b_hw u_la b_se b_re u_bk u_va u_su u_ce u_ho u_wy u_bt u_ps b_pt u_tg u_sn b_ip u_ic b_ah b_be b_me u_wd b_tr b_ld u_st b_wn u_id)), (b_tp, (arI G 400 v_tp)), (b_op, (arI G 400 (upd v_op u_co.toNatClampNeg p_2))), (b_ar, (arI G 400 (upd v_ar u_co.toNatClampNeg p_3)))]))) (g5_B G (va_A [(b_o, (oc12 u_th u_sa b_rf b_ro b_im b_ke u_fd b_tp u_td u_fr u_to u_so u_wo u_fa u_bd u_nc b_nl u_co b_op b_ar u_le b_pi b_pa u_pd u_od b_ws b_hw u_la b_se b_re u_bk u_va u_su u_ce u_ho u_wy u_bt u_ps b_pt u_tg u_sn b_ip u_ic b_ah b_be b_me u_wd b_tr b_ld u_st b_wn u_id)), (b_tp, (arI G 400 v_tp)), (b_op, (arI G 400 v_op)), (b_ar, (arI G 400 v_ar))] sz)) (va_A [(b_o, (oc12 u_th u_sa b_rf b_ro b_im b_ke u_fd b_tp u_td u_fr u_to u_so u_wo u_fa u_bd u_nc b_nl u_co b_op b_ar u_le b_pi b_pa u_pd u_od b_ws b_hw u_la b_se b_re u_bk u_va u_su u_ce u_ho u_wy u_bt u_ps b_pt u_tg u_sn b_ip u_ic b_ah b_be b_me u_wd b_tr b_ld u_st b_wn u_id)), (b_tp, (arI G 400 v_tp)), (b_op, (arI G 400 v_op)), (b_ar, (arI G 400 v_ar))] sz)) 0 0 (va_A [(b_o, (oc12 u_th u_sa b_rf b_ro b_im b_ke u_fd b_tp u_td u_fr u_to u_so u_wo u_fa u_bd u_nc b_nl u_co b_op b_ar u_le b_pi b_pa u_pd u_od b_ws b_hw u_la b_se b_re u_bk u_va u_su u_ce u_ho u_wy u_bt u_ps b_pt u_tg u_sn b_ip u_ic b_ah b_be b_me u_wd b_tr b_ld u_st b_wn u_id)), (b_tp, (arI G 400 v_tp)), (b_op, (arI G 400 v_op)), (b_ar, (arI G 400 v_ar))] sz) := by
  refine Met.ofW (cc := cX12_leaf) (maxL := 4) (ret := none) (by decide +kernel) rfl ?_
  intro p e s m args below meth c s₁ B hml hv
  obtain ⟨rfl, hsz, hP, hK, hD0, hN, hT⟩ := hv
  have hx := B.exec
  have hb := B.bytes
  have hr := B.returns
  have hts : ∀ w ∈ tblG, w.before _ s = true := fun w h => atoms_spec (ws := (wsG yX12_leaf cX12_leaf 4 none)) B.pre w (List.mem_cons_of_mem _ h)
  have hown : s.vm.findClass RX12 = some m.cls := findClass_of_methodNamed B.named
  have hlocks := B.notSynchronized
  subst hsz
  have hD := hD0.self (sz := s.heap.size)
  generalize hAe : va_A [(b_o, (oc12 u_th u_sa b_rf b_ro b_im b_ke u_fd b_tp u_td u_fr u_to u_so u_wo u_fa u_bd u_nc b_nl u_co b_op b_ar u_le b_pi b_pa u_pd u_od b_ws b_hw u_la b_se b_re u_bk u_va u_su u_ce u_ho u_wy u_bt u_ps b_pt u_tg u_sn b_ip u_ic b_ah b_be b_me u_wd b_tr b_ld u_st b_wn u_id)), (b_tp, (arI G 400 v_tp)), (b_op, (arI G 400 v_op)), (b_ar, (arI G 400 v_ar))] s.heap.size = A at hD hT ⊢
  have hA : ∀ q : Nat, s.heap.size ≤ q → A q := fun q h => by rw [← hAe]; exact Or.inr h
  have hS : va_S A s.heap s.heap [] := va_S.rf
  replace hP : va_P G.1 vwCl [(b_o, (oc12 u_th u_sa b_rf b_ro b_im b_ke u_fd b_tp u_td u_fr u_to u_so u_wo u_fa u_bd u_nc b_nl u_co b_op b_ar u_le b_pi b_pa u_pd u_od b_ws b_hw u_la b_se b_re u_bk u_va u_su u_ce u_ho u_wy u_bt u_ps b_pt u_tg u_sn b_ip u_ic b_ah b_be b_me u_wd b_tr b_ld u_st b_wn u_id)), (b_tp, (arI G 400 v_tp)), (b_op, (arI G 400 v_op)), (b_ar, (arI G 400 v_ar))] s.heap := hP
  have hl := lv_entry ([.ref b_o, .int 1, .int p_2, .int p_3]) (n := 4) (Nat.le_of_ble_eq_true rfl)
  rw [lg_entry_eq]
  generalize (lg_sl ([.ref b_o, .int 1, .int p_2, .int p_3]) ++ List.replicate (4 - (lg_sl ([.ref b_o, .int 1, .int p_2, .int p_3])).length) Slot.unset).toArray = ls at hl ⊢
  replace hl : lv_has ls 4 [(0, .ref b_o), (1, .int 1), (2, .int p_2), (3, .int p_3)] := hl
  refine lv_aload_n hx hb dX12_leaf_0 rfl (lv_at hl 0 rfl) ?_
  refine lv_iload_n hx hb dX12_leaf_1 rfl (lv_at hl 1 rfl) ?_
  refine lv_if_eq (tgt := 18) hx hb dX12_leaf_2 (by decide +kernel) (fun c_1 => ?_) (fun c_1 => ?_)
  ·
    exact absurd c_1 (by decide +kernel)
  ·
    refine lv_aload_n hx hb dX12_leaf_5 rfl (lv_at hl 0 rfl) ?_
    refine va_get (D := G.1) (ci := 12) (v := .int u_le) (C := RX12) (T := TX12) (N := 52) hx hb hts inG_X12 hown hK hP 0 rfl rfl 20 (by decide +kernel) (hts _ fl_X12_264) (fun _ h9 => h9) rfl dX12_leaf_6 ?_
    refine lv_bipush (v := 50) hx hb dX12_leaf_9 (by decide +kernel) ?_
    refine lv_icmp_ge (tgt := 18) hx hb dX12_leaf_11 (by decide +kernel) (fun c_2 => ?_) (fun c_2 => ?_)
    ·
      have i_2 : u_le.toInt ≥ 50 := g5_ge (a := u_le.toInt) (b := 50) rfl (by decide +kernel) c_2
      refine lv_iconst (v := 0) hx hb dX12_leaf_18 (by decide +kernel) ?_
      obtain ⟨hPc, hDc, hFc⟩ := g5_sub3 (wc := [(b_o, (oc12 u_th u_sa b_rf b_ro b_im b_ke u_fd b_tp u_td u_fr u_to u_so u_wo u_fa u_bd u_nc b_nl u_co b_op b_ar u_le b_pi b_pa u_pd u_od b_ws b_hw u_la b_se b_re u_bk u_va u_su u_ce u_ho u_wy u_bt u_ps b_pt u_tg u_sn b_ip u_ic b_ah b_be b_me u_wd b_tr b_ld u_st b_wn u_id)), (b_tp, (arI G 400 v_tp))]) hP hD hS hA [0, 1] (by decide +kernel) rfl
      refine va_callv (va_runV (As := [.int 0]) (rest := []) ⟨hx, hb, hml, hown, hts⟩ (n_must0 l G b_o b_tp b_rf b_ro b_im b_ke b_nl b_op b_ar b_pi b_pa b_ws b_hw b_se b_re b_pt b_ip b_ah b_be b_me b_tr b_ld b_wn s.heap.size u_th u_sa u_fd u_td u_fr u_to u_so u_fa u_bd u_nc u_co u_le u_pd u_od u_la u_bk u_ce u_ho u_wy u_bt u_ps u_tg u_sn u_ic u_wd u_id u_wo u_va u_su u_st v_tp h_u_td h_u_fr h_u_to h_u_bd h_u_nc h_u_co h_u_pd h_u_la h_u_bk h_u_ce h_u_ho h_u_wy h_u_bt h_u_ps h_u_ic h_u_id) (cwV 1 hts gV_X12_233 rfl rfl rfl hv_X12_must ⟨Nat.le_of_ble_eq_true rfl, Nat.le_of_ble_eq_true rfl⟩) (g5_preV hPc hK hDc hN hT hS hFc (ci := 12) (q0 := 0) rfl rfl) rfl rfl hl.1 rfl (lv_room (Nat.le_of_ble_eq_true rfl)) dX12_leaf_19 ⟨Nat.le_of_ble_eq_true rfl, Nat.le_of_ble_eq_true rfl⟩) hS (fun q _ h => hFc q h) hFc (fun u t H locs ht hvm hw hB hz1 hk1 hS => ?_)
      obtain ⟨hP1, hD1⟩ := hB
      have hP1 := g5_ht ht hP1
      obtain rfl := hw
      have hJ9 := va_join (wr := [(b_op, (arI G 400 v_op)), (b_ar, (arI G 400 v_ar))]) hP hD [0, 1] [2, 3] rfl rfl (by decide +kernel) (by decide +kernel) hk1 hFc hP1 hD1
      clear hP hD hPc hDc hFc ht hvm hz1 hk1 hP1 hD1
      obtain ⟨hP, hD⟩ := hJ9
      refine g5_rs [(b_op, (arI G 400 v_op)), (b_ar, (arI G 400 v_ar)), (b_o, (oc12 u_th u_sa b_rf b_ro b_im b_ke u_fd b_tp u_td u_fr u_to u_so u_wo u_fr 1 u_nc b_nl u_co b_op b_ar u_le b_pi b_pa u_pd u_od b_ws b_hw u_la b_se b_re u_bk u_va u_su u_ce u_ho u_wy u_bt u_ps b_pt u_tg u_sn b_ip u_ic b_ah b_be b_me u_wd b_tr b_ld u_st b_wn u_id)), (b_tp, (arI G 400 v_tp))] hP hD ?_
      clear hP hD
      intro hP hD
      refine lv_aload_n hx hb dX12_leaf_22 rfl (lv_at hl 0 rfl) ?_
      refine va_get (D := G.1) (ci := 12) (v := .int 1) (C := RX12) (T := TX12) (N := 52) hx hb hts inG_X12 hown hK hP 2 rfl rfl 14 (by decide +kernel) (hts _ fl_X12_205) (fun _ h9 => h9) rfl dX12_leaf_23 ?_
      refine W.eq (g2 := F0 m 26 ls [.int 1]) rfl ?_
      refine lv_if_ne (tgt := 45) hx hb dX12_leaf_26 (by decide +kernel) (fun c_3 => ?_) (fun c_3 => ?_)
      ·
        exact W.vret hx hb hr (fun t ht hW => ⟨⟨[(b_o, (oc12 u_th u_sa b_rf b_ro b_im b_ke u_fd b_tp u_td u_fr u_to u_so u_wo u_fr 1 u_nc b_nl u_co b_op b_ar u_le b_pi b_pa u_pd u_od b_ws b_hw u_la b_se b_re u_bk u_va u_su u_ce u_ho u_wy u_bt u_ps b_pt u_tg u_sn b_ip u_ic b_ah b_be b_me u_wd b_tr b_ld u_st b_wn u_id)), (b_tp, (arI G 400 v_tp)), (b_op, (arI G 400 v_op)), (b_ar, (arI G 400 v_ar))], rfl, Or.inl (⟨by omega, rfl⟩), by rw [ht]; exact hP.sub [2, 3, 0, 1] rfl, hD.sub [2, 3, 0, 1] (by decide +kernel) rfl⟩, hS.F ht⟩) hS.2.2 dX12_leaf_45
      ·
        exact absurd c_3 (by decide +kernel)
    ·
      have i_2 : u_le.toInt < 50 := g5_geN (a := u_le.toInt) (b := 50) rfl (by decide +kernel) c_2
      refine lv_iconst (v := 1) hx hb dX12_leaf_14 (by decide +kernel) ?_
      refine lv_goto (tgt := 19) hx hb dX12_leaf_15 (by decide +kernel) ?_
      obtain ⟨hPc, hDc, hFc⟩ := g5_sub3 (wc := [(b_o, (oc12 u_th u_sa b_rf b_ro b_im b_ke u_fd b_tp u_td u_fr u_to u_so u_wo u_fa u_bd u_nc b_nl u_co b_op b_ar u_le b_pi b_pa u_pd u_od b_ws b_hw u_la b_se b_re u_bk u_va u_su u_ce u_ho u_wy u_bt u_ps b_pt u_tg u_sn b_ip u_ic b_ah b_be b_me u_wd b_tr b_ld u_st b_wn u_id)), (b_tp, (arI G 400 v_tp))]) hP hD hS hA [0, 1] (by decide +kernel) rfl
      refine va_callv (va_runV (As := [.int 1]) (rest := []) ⟨hx, hb, hml, hown, hts⟩ (n_must1X l G b_o b_tp b_rf b_ro b_im b_ke b_nl b_op b_ar b_pi b_pa b_ws b_hw b_se b_re b_pt b_ip b_ah b_be b_me b_tr b_ld b_wn s.heap.size u_th u_sa u_fd u_td u_fr u_to u_so u_fa u_bd u_nc u_co u_le u_pd u_od u_la u_bk u_ce u_ho u_wy u_bt u_ps u_tg u_sn u_ic u_wd u_id u_wo u_va u_su u_st v_tp h_u_td h_u_fr h_u_to h_u_bd h_u_nc h_u_co h_u_pd h_u_la h_u_bk h_u_ce h_u_ho h_u_wy h_u_bt h_u_ps h_u_ic h_u_id (e_t)) (cwV 1 hts gV_X12_233 rfl rfl rfl hv_X12_must ⟨Nat.le_of_ble_eq_true rfl, Nat.le_of_ble_eq_true rfl⟩) (g5_preV hPc hK hDc hN hT hS hFc (ci := 12) (q0 := 0) rfl rfl) rfl rfl hl.1 rfl (lv_room (Nat.le_of_ble_eq_true rfl)) dX12_leaf_19 ⟨Nat.le_of_ble_eq_true rfl, Nat.le_of_ble_eq_true rfl⟩) hS (fun q _ h => hFc q h) hFc (fun u t H locs ht hvm hw hB hz1 hk1 hS => ?_)
      obtain ⟨hP1, hD1⟩ := hB
      have hP1 := g5_ht ht hP1
      obtain ⟨z9, z10, z11, z12, (i_4 : 0 ≤ z9.toInt ∧ z9.toInt ≤ 400), (i_5 : 0 ≤ z10.toInt ∧ z10.toInt ≤ 400), (i_6 : u_to.toInt ≤ z9.toInt ∧ z9.toInt ≤ z10.toInt ∧ z10.toInt ≤ u_td.toInt), (i_7 : TKs z11.toInt z9.toInt z10.toInt), (i_8 : TOKA v_tp u_td.toInt.toNat (skT v_tp u_td.toInt.toNat u_to.toInt.toNat) z9 z10 z11 z12), rfl⟩ := hw
      have hJ9 := va_join (wr := [(b_op, (arI G 400 v_op)), (b_ar, (arI G 400 v_ar))]) hP hD [0, 1] [2, 3] rfl rfl (by decide +kernel) (by decide +kernel) hk1 hFc hP1 hD1
      clear hP hD hPc hDc hFc ht hvm hz1 hk1 hP1 hD1
      obtain ⟨hP, hD⟩ := hJ9
      refine g5_rs [(b_op, (arI G 400 v_op)), (b_ar, (arI G 400 v_ar)), (b_o, (oc12 u_th u_sa b_rf b_ro b_im b_ke u_fd b_tp u_td z9 z10 z11 z12 u_fa u_bd u_nc b_nl u_co b_op b_ar u_le b_pi b_pa u_pd u_od b_ws b_hw u_la b_se b_re u_bk u_va u_su u_ce u_ho u_wy u_bt u_ps b_pt u_tg u_sn b_ip u_ic b_ah b_be b_me u_wd b_tr b_ld u_st b_wn u_id)), (b_tp, (arI G 400 v_tp))] hP hD ?_
      clear hP hD
      intro hP hD
      refine lv_aload_n hx hb dX12_leaf_22 rfl (lv_at hl 0 rfl) ?_
      refine W.eq (g2 := F0 m 23 ls [.ref b_o]) rfl ?_
      refine va_get (D := G.1) (ci := 12) (v := .int u_bd) (C := RX12) (T := TX12) (N := 52) hx hb hts inG_X12 hown hK hP 2 rfl rfl 14 (by decide +kernel) (hts _ fl_X12_205) (fun _ h9 => h9) rfl dX12_leaf_23 ?_
      refine lv_if_ne (tgt := 45) hx hb dX12_leaf_26 (by decide +kernel) (fun c_13 => ?_) (fun c_13 => ?_)
      ·
        have i_13 : u_bd.toInt ≠ 0 := g5_ne (a := u_bd.toInt) (b := 0) rfl (by decide +kernel) c_13
        omega
      ·
        have i_13 : u_bd.toInt = 0 := g5_neN (a := u_bd.toInt) (b := 0) rfl (by decide +kernel) c_13
        refine lv_aload_n hx hb dX12_leaf_29 rfl (lv_at hl 0 rfl) ?_
        refine lv_iload_n hx hb dX12_leaf_30 rfl (lv_at hl 2 rfl) ?_
        refine lv_iload_n hx hb dX12_leaf_31 rfl (lv_at hl 3 rfl) ?_
        obtain ⟨hPc, hDc, hFc⟩ := g5_sub3 (wc := [(b_o, (oc12 u_th u_sa b_rf b_ro b_im b_ke u_fd b_tp u_td z9 z10 z11 z12 u_fa u_bd u_nc b_nl u_co b_op b_ar u_le b_pi b_pa u_pd u_od b_ws b_hw u_la b_se b_re u_bk u_va u_su u_ce u_ho u_wy u_bt u_ps b_pt u_tg u_sn b_ip u_ic b_ah b_be b_me u_wd b_tr b_ld u_st b_wn u_id)), (b_op, (arI G 400 v_op)), (b_ar, (arI G 400 v_ar))]) hP hD hS hA [2, 0, 1] (by decide +kernel) rfl
        refine va_callv (va_runV (As := [.int p_2, .int p_3]) (rest := []) ⟨hx, hb, hml, hown, hts⟩ (n_emit l G b_o b_op b_ar b_rf b_ro b_im b_ke b_tp b_nl b_pi b_pa b_ws b_hw b_se b_re b_pt b_ip b_ah b_be b_me b_tr b_ld b_wn H.size u_th u_sa u_fd u_td z9 z10 z11 u_fa u_bd u_nc u_co u_le u_pd u_od u_la u_bk u_ce u_ho u_wy u_bt u_ps u_tg u_sn u_ic u_wd u_id p_2 p_3 z12 u_va u_su u_st v_op v_ar h_u_td i_4 i_5 ⟨by omega, by omega⟩ h_u_nc h_u_co h_u_pd h_u_la h_u_bk h_u_ce h_u_ho h_u_wy h_u_bt h_u_ps h_u_ic h_u_id (by omega)) (cwV 2 hts gV_X12_246 rfl rfl rfl hv_X12_emit ⟨Nat.le_of_ble_eq_true rfl, Nat.le_of_ble_eq_true rfl⟩) (g5_preV hPc hK hDc hN hT hS hFc (ci := 12) (q0 := 0) rfl rfl) rfl rfl hl.1 rfl (lv_room (Nat.le_of_ble_eq_true rfl)) dX12_leaf_32 ⟨Nat.le_of_ble_eq_true rfl, Nat.le_of_ble_eq_true rfl⟩) hS (fun q _ h => hFc q h) hFc (fun u t H locs ht hvm hw hB hz1 hk1 hS => ?_)
        obtain ⟨hP1, hD1⟩ := hB
        have hP1 := g5_ht ht hP1
        obtain ⟨z16, (i_14 : 0 ≤ z16.toInt ∧ z16.toInt ≤ 400), (i_15 : z16.toInt = u_co.toInt + 1), rfl⟩ := hw
        have hJ9 := va_join (wr := [(b_tp, (arI G 400 v_tp))]) hP hD [2, 0, 1] [3] rfl rfl (by decide +kernel) (by decide +kernel) hk1 hFc hP1 hD1
        clear hP hD hPc hDc hFc ht hvm hz1 hk1 hP1 hD1
        obtain ⟨hP, hD⟩ := hJ9
        refine g5_rs [(b_tp, (arI G 400 v_tp)), (b_o, (oc12 u_th u_sa b_rf b_ro b_im b_ke u_fd b_tp u_td z9 z10 z11 z12 u_fa u_bd u_nc b_nl z16 b_op b_ar u_le b_pi b_pa u_pd u_od b_ws b_hw u_la b_se b_re u_bk u_va u_su u_ce u_ho u_wy u_bt u_ps b_pt u_tg u_sn b_ip u_ic b_ah b_be b_me u_wd b_tr b_ld u_st b_wn u_id)), (b_op, (arI G 400 (upd v_op u_co.toNatClampNeg p_2))), (b_ar, (arI G 400 (upd v_ar u_co.toNatClampNeg p_3)))] hP hD ?_
        clear hP hD
        intro hP hD
        refine W.eq (g2 := F0 m 35 ls []) rfl ?_
        refine lv_aload_n hx hb dX12_leaf_35 rfl (lv_at hl 0 rfl) ?_
        refine lv_dup hx hb dX12_leaf_36 rfl ?_
        refine va_get (D := G.1) (ci := 12) (v := .int u_le) (C := RX12) (T := TX12) (N := 52) hx hb hts inG_X12 hown hK hP 1 rfl rfl 20 (by decide +kernel) (hts _ fl_X12_264) (fun _ h9 => h9) rfl dX12_leaf_37 ?_
        refine lv_iconst (v := 1) hx hb dX12_leaf_40 (by decide +kernel) ?_
        refine lv_iadd hx hb dX12_leaf_41 ?_
        have t_17 : (u_le + 1).toInt = u_le.toInt + 1 := g5_iadd (a := u_le.toInt) (b := 1) (by rfl) (by decide +kernel) (by omega) (by omega)
        refine W.eq (g2 := F0 m 42 ls [.int (u_le + 1), .ref b_o]) rfl ?_
        refine va_put (D := G.1) (ci := 12) (v := .int (u_le + 1)) (ty := .int) (C := RX12) (T := TX12) (N := 52) hx hb hts inG_X12 tyX12 tyX12_ok nmX12 hown hK hP hD hS 1 rfl rfl 20 (by decide +kernel) (hts _ fl_X12_264) (fun _ h9 => h9) rfl (by decide +kernel) rfl rfl (Nat.le_of_ble_eq_true rfl) dX12_leaf_42 ?_
        clear hP hD hS
        intro H locs hP hD hS
        refine g5_rs [(b_tp, (arI G 400 v_tp)), (b_o, (oc12 u_th u_sa b_rf b_ro b_im b_ke u_fd b_tp u_td z9 z10 z11 z12 u_fa u_bd u_nc b_nl z16 b_op b_ar (u_le + 1) b_pi b_pa u_pd u_od b_ws b_hw u_la b_se b_re u_bk u_va u_su u_ce u_ho u_wy u_bt u_ps b_pt u_tg u_sn b_ip u_ic b_ah b_be b_me u_wd b_tr b_ld u_st b_wn u_id)), (b_op, (arI G 400 (upd v_op u_co.toNatClampNeg p_2))), (b_ar, (arI G 400 (upd v_ar u_co.toNatClampNeg p_3)))] hP hD ?_
        clear hP hD
        intro hP hD
        exact W.vret hx hb hr (fun t ht hW => ⟨⟨[(b_o, (oc12 u_th u_sa b_rf b_ro b_im b_ke u_fd b_tp u_td z9 z10 z11 z12 u_fa u_bd u_nc b_nl z16 b_op b_ar (u_le + 1) b_pi b_pa u_pd u_od b_ws b_hw u_la b_se b_re u_bk u_va u_su u_ce u_ho u_wy u_bt u_ps b_pt u_tg u_sn b_ip u_ic b_ah b_be b_me u_wd b_tr b_ld u_st b_wn u_id)), (b_tp, (arI G 400 v_tp)), (b_op, (arI G 400 (upd v_op u_co.toNatClampNeg p_2))), (b_ar, (arI G 400 (upd v_ar u_co.toNatClampNeg p_3)))], rfl, Or.inr (⟨z9, z10, z11, z12, z16, (u_le + 1), i_4, i_5, i_14, by omega, i_7, by omega, by omega, by omega, i_8, rfl⟩), by rw [ht]; exact hP.sub [1, 0, 2, 3] rfl, hD.sub [1, 0, 2, 3] (by decide +kernel) rfl⟩, hS.F ht⟩) hS.2.2 dX12_leaf_45
set_option maxHeartbeats 4000000 in
set_option maxRecDepth 100000 in
theorem n_readPartX (l : Launch) (G : g5_G) (b_o b_tp b_op b_ar b_pi b_pa b_ws b_hw b_rf b_ro b_im b_ke b_nl b_se b_re b_pt b_ip b_ah b_be b_me b_tr b_ld b_wn : Nat) (sz : Nat) (u_th : Int32) (u_sa : Int32) (u_fd : Int32) (u_td : Int32) (u_fr : Int32) (u_to : Int32) (u_so : Int32) (u_fa : Int32) (u_bd : Int32) (u_nc : Int32) (u_co : Int32) (u_le : Int32) (u_pd : Int32) (u_od : Int32) (u_la : Int32) (u_bk : Int32) (u_ce : Int32) (u_ho : Int32) (u_wy : Int32) (u_bt : Int32) (u_ps : Int32) (u_tg : Int32) (u_sn : Int32) (u_ic : Int32) (u_wd : Int32) (u_id : Int32) (g_a : Int32) (g_t : Int32) (g_le : Int32) (u_wo : Int64) (u_va : Int64) (u_su : Int64) (u_st : Int64) (v_tp : Nat → Int32) (v_op : Nat → Int32) (v_ar : Nat → Int32) (v_pi : Nat → Int32) (v_pa : Nat → Int32) (v_ws : Nat → Int64) (v_hw : Nat → Int64) (g_op : Nat → Int32) (g_ar : Nat → Int32) (g_k : Nat) (h_u_td : 0 ≤ u_td.toInt ∧ u_td.toInt ≤ 400) (h_u_fr : 0 ≤ u_fr.toInt ∧ u_fr.toInt ≤ 400) (h_u_to : 0 ≤ u_to.toInt ∧ u_to.toInt ≤ 400) (h_u_bd : 0 ≤ u_bd.toInt ∧ u_bd.toInt ≤ 0) (h_u_nc : 0 ≤ u_nc.toInt ∧ u_nc.toInt ≤ 12) (h_u_co : 0 ≤ u_co.toInt ∧ u_co.toInt ≤ 400) (h_u_pd : 0 ≤ u_pd.toInt ∧ u_pd.toInt ≤ 400) (h_u_la : 0 ≤ u_la.toInt ∧ u_la.toInt ≤ 4840) (h_u_bk : 0 ≤ u_bk.toInt ∧ u_bk.toInt ≤ 1) (h_u_ce : 0 ≤ u_ce.toInt ∧ u_ce.toInt ≤ 63) (h_u_ho : 0 ≤ u_ho.toInt ∧ u_ho.toInt ≤ 23) (h_u_wy : 0 ≤ u_wy.toInt ∧ u_wy.toInt ≤ 3) (h_u_bt : 0 ≤ u_bt.toInt ∧ u_bt.toInt ≤ 1000000) (h_u_ps : 0 ≤ u_ps.toInt ∧ u_ps.toInt ≤ 200) (h_u_ic : 0 ≤ u_ic.toInt ∧ u_ic.toInt ≤ 1) (h_u_id : 0 ≤ u_id.toInt ∧ u_id.toInt ≤ 1) (e_t : u_fr.toInt ≤ u_to.toInt ∧ u_to.toInt ≤ u_td.toInt) (e_s : TKs u_so.toInt u_fr.toInt u_to.toInt) (e_x : XJ g_op g_ar v_op v_ar v_pi v_pa g_a.toInt u_co.toInt u_pd.toInt u_fr.toInt) (e_j : TJ v_op v_ar v_pi v_pa g_a.toInt u_co.toInt u_pd.toInt 1) (e_tp : TPI v_tp) (e_ws : WSI v_ws v_hw) (e_q : RQ1 v_tp u_td g_t (S0X g_t g_k g_op g_ar g_a g_le) u_fr u_to u_so u_wo v_op v_ar v_pi v_pa u_co u_pd u_od u_le) : Met l yX12_readPart (wsG yX12_readPart cX12_readPart 3 (some .int)) ({ frames := 4, cells := 0, slots := 0, locals := 84 }) (va_Pc [.ref b_o] (g5_P G [(b_o, (oc12 u_th u_sa b_rf b_ro b_im b_ke u_fd b_tp u_td u_fr u_to u_so u_wo u_fa u_bd u_nc b_nl u_co b_op b_ar u_le b_pi b_pa u_pd u_od b_ws b_hw u_la b_se b_re u_bk u_va u_su u_ce u_ho u_wy u_bt u_ps b_pt u_tg u_sn b_ip u_ic b_ah b_be b_me u_wd b_tr b_ld u_st b_wn u_id)), (b_tp, (arI G 400 v_tp)), (b_op, (arI G 400 v_op)), (b_ar, (arI G 400 v_ar)), (b_pi, (arI G 400 v_pi)), (b_pa, (arI G 400 v_pa)), (b_ws, (arJ G 8 v_ws)), (b_hw, (arJ G 4 v_hw))] sz)) (va_Qi (fun (r : Int32) (u : va_W) => (∃ (o_r : Int32), (0 ≤ o_r.toInt ∧ o_r.toInt ≤ 4) ∧ (RQ v_tp u_td g_t (S0X g_t g_k g_op g_ar g_a g_le) o_r.toInt true u_fr u_to u_so u_wo v_op v_ar v_pi v_pa u_co u_pd u_od u_le) ∧ (r = o_r) ∧ (u = [(b_o, (oc12 u_th u_sa b_rf b_ro b_im b_ke u_fd b_tp u_td u_fr u_to u_so u_wo u_fr 1 u_nc b_nl u_co b_op b_ar u_le b_pi b_pa u_pd u_od b_ws b_hw u_la b_se b_re u_bk u_va u_su u_ce u_ho u_wy u_bt u_ps b_pt u_tg u_sn b_ip u_ic b_ah b_be b_me u_wd b_tr b_ld u_st b_wn u_id)), (b_tp, (arI G 400 v_tp)), (b_op, (arI G 400 v_op)), (b_ar, (arI G 400 v_ar)), (b_pi, (arI G 400 v_pi)), (b_pa, (arI G 400 v_pa)), (b_ws, (arJ G 8 v_ws)), (b_hw, (arJ G 4 v_hw))])) ∨ (∃ (o_r : Int32) (o_fr : Int32) (o_to : Int32) (o_so : Int32) (o_wo : Int64) (o_co : Int32) (o_le : Int32) (o_pd : Int32) (o_od : Int32) (o_op : Nat → Int32) (o_ar : Nat → Int32) (o_pi : Nat → Int32) (o_pa : Nat → Int32), (0 ≤ o_fr.toInt ∧ o_fr.toInt ≤ 400) ∧ (0 ≤ o_to.toInt ∧ o_to.toInt ≤ 400) ∧ (0 ≤ o_co.toInt ∧ o_co.toInt ≤ 400) ∧ (0 ≤ o_pd.toInt ∧ o_pd.toInt ≤ 400) ∧ (0 ≤ o_r.toInt ∧ o_r.toInt ≤ 4) ∧ (u_fr.toInt ≤ o_fr.toInt ∧ o_fr.toInt ≤ o_to.toInt ∧ o_to.toInt ≤ u_td.toInt) ∧ (TKs o_so.toInt o_fr.toInt o_to.toInt) ∧ (XJ g_op g_ar o_op o_ar o_pi o_pa g_a.toInt o_co.toInt o_pd.toInt o_fr.toInt) ∧ (TJ o_op o_ar o_pi o_pa g_a.toInt o_co.toInt o_pd.toInt o_r.toInt) ∧ (twt o_r.toInt + 1 ≤ 0 + 3 * (o_fr.toInt - u_fr.toInt)) ∧ (RQ v_tp u_td g_t (S0X g_t g_k g_op g_ar g_a g_le) o_r.toInt false o_fr o_to o_so o_wo o_op o_ar o_pi o_pa o_co o_pd o_od o_le) ∧ (r = o_r) ∧ (u = [(b_o, (oc12 u_th u_sa b_rf b_ro b_im b_ke u_fd b_tp u_td o_fr o_to o_so o_wo u_fa u_bd u_nc b_nl o_co b_op b_ar o_le b_pi b_pa o_pd o_od b_ws b_hw u_la b_se b_re u_bk u_va u_su u_ce u_ho u_wy u_bt u_ps b_pt u_tg u_sn b_ip u_ic b_ah b_be b_me u_wd b_tr b_ld u_st b_wn u_id)), (b_tp, (arI G 400 v_tp)), (b_op, (arI G 400 o_op)), (b_ar, (arI G 400 o_ar)), (b_pi, (arI G 400 o_pi)), (b_pa, (arI G 400 o_pa)), (b_ws, (arJ G 8 v_ws)), (b_hw, (arJ G 4 v_hw))]))) (g5_B G (va_A [(b_o, (oc12 u_th u_sa b_rf b_ro b_im b_ke u_fd b_tp u_td u_fr u_to u_so u_wo u_fa u_bd u_nc b_nl u_co b_op b_ar u_le b_pi b_pa u_pd u_od b_ws b_hw u_la b_se b_re u_bk u_va u_su u_ce u_ho u_wy u_bt u_ps b_pt u_tg u_sn b_ip u_ic b_ah b_be b_me u_wd b_tr b_ld u_st b_wn u_id)), (b_tp, (arI G 400 v_tp)), (b_op, (arI G 400 v_op)), (b_ar, (arI G 400 v_ar)), (b_pi, (arI G 400 v_pi)), (b_pa, (arI G 400 v_pa)), (b_ws, (arJ G 8 v_ws)), (b_hw, (arJ G 4 v_hw))] sz)) (va_A [(b_o, (oc12 u_th u_sa b_rf b_ro b_im b_ke u_fd b_tp u_td u_fr u_to u_so u_wo u_fa u_bd u_nc b_nl u_co b_op b_ar u_le b_pi b_pa u_pd u_od b_ws b_hw u_la b_se b_re u_bk u_va u_su u_ce u_ho u_wy u_bt u_ps b_pt u_tg u_sn b_ip u_ic b_ah b_be b_me u_wd b_tr b_ld u_st b_wn u_id)), (b_tp, (arI G 400 v_tp)), (b_op, (arI G 400 v_op)), (b_ar, (arI G 400 v_ar)), (b_pi, (arI G 400 v_pi)), (b_pa, (arI G 400 v_pa)), (b_ws, (arJ G 8 v_ws)), (b_hw, (arJ G 4 v_hw))] sz)) 0 0 (va_A [(b_o, (oc12 u_th u_sa b_rf b_ro b_im b_ke u_fd b_tp u_td u_fr u_to u_so u_wo u_fa u_bd u_nc b_nl u_co b_op b_ar u_le b_pi b_pa u_pd u_od b_ws b_hw u_la b_se b_re u_bk u_va u_su u_ce u_ho u_wy u_bt u_ps b_pt u_tg u_sn b_ip u_ic b_ah b_be b_me u_wd b_tr b_ld u_st b_wn u_id)), (b_tp, (arI G 400 v_tp)), (b_op, (arI G 400 v_op)), (b_ar, (arI G 400 v_ar)), (b_pi, (arI G 400 v_pi)), (b_pa, (arI G 400 v_pa)), (b_ws, (arJ G 8 v_ws)), (b_hw, (arJ G 4 v_hw))] sz) := by
  refine Met.ofW (cc := cX12_readPart) (maxL := 3) (ret := (some .int)) (by decide +kernel) rfl ?_
  intro p e s m args below meth c s₁ B hml hv
  obtain ⟨rfl, hsz, hP, hK, hD0, hN, hT⟩ := hv
  have hx := B.exec
  have hb := B.bytes
  have hr := B.returns
  have hts : ∀ w ∈ tblG, w.before _ s = true := fun w h => atoms_spec (ws := (wsG yX12_readPart cX12_readPart 3 (some .int))) B.pre w (List.mem_cons_of_mem _ h)
  have hown : s.vm.findClass RX12 = some m.cls := findClass_of_methodNamed B.named
  have hlocks := B.notSynchronized
  subst hsz
  have hD := hD0.self (sz := s.heap.size)
  generalize hAe : va_A [(b_o, (oc12 u_th u_sa b_rf b_ro b_im b_ke u_fd b_tp u_td u_fr u_to u_so u_wo u_fa u_bd u_nc b_nl u_co b_op b_ar u_le b_pi b_pa u_pd u_od b_ws b_hw u_la b_se b_re u_bk u_va u_su u_ce u_ho u_wy u_bt u_ps b_pt u_tg u_sn b_ip u_ic b_ah b_be b_me u_wd b_tr b_ld u_st b_wn u_id)), (b_tp, (arI G 400 v_tp)), (b_op, (arI G 400 v_op)), (b_ar, (arI G 400 v_ar)), (b_pi, (arI G 400 v_pi)), (b_pa, (arI G 400 v_pa)), (b_ws, (arJ G 8 v_ws)), (b_hw, (arJ G 4 v_hw))] s.heap.size = A at hD hT ⊢
  have hA : ∀ q : Nat, s.heap.size ≤ q → A q := fun q h => by rw [← hAe]; exact Or.inr h
  have hS : va_S A s.heap s.heap [] := va_S.rf
  replace hP : va_P G.1 vwCl [(b_o, (oc12 u_th u_sa b_rf b_ro b_im b_ke u_fd b_tp u_td u_fr u_to u_so u_wo u_fa u_bd u_nc b_nl u_co b_op b_ar u_le b_pi b_pa u_pd u_od b_ws b_hw u_la b_se b_re u_bk u_va u_su u_ce u_ho u_wy u_bt u_ps b_pt u_tg u_sn b_ip u_ic b_ah b_be b_me u_wd b_tr b_ld u_st b_wn u_id)), (b_tp, (arI G 400 v_tp)), (b_op, (arI G 400 v_op)), (b_ar, (arI G 400 v_ar)), (b_pi, (arI G 400 v_pi)), (b_pa, (arI G 400 v_pa)), (b_ws, (arJ G 8 v_ws)), (b_hw, (arJ G 4 v_hw))] s.heap := hP
  have hl := lv_entry ([.ref b_o]) (n := 3) (Nat.le_of_ble_eq_true rfl)
  rw [lg_entry_eq]
  generalize (lg_sl ([.ref b_o]) ++ List.replicate (3 - (lg_sl ([.ref b_o])).length) Slot.unset).toArray = ls at hl ⊢
  replace hl : lv_has ls 3 [(0, .ref b_o)] := hl
  have hmf9 := xj_mf e_x
  obtain ⟨kk, ⟨tt, hRC, htt⟩, hFD⟩ := e_q
  have hTK := hFD.1
  have hr1 := hFD.2.1
  have hr2 := hFD.2.2.1
  refine lv_aload_n hx hb dX12_readPart_0 rfl (lv_at hl 0 rfl) ?_
  refine lv_bipush (v := 91) hx hb dX12_readPart_1 (by decide +kernel) ?_
  obtain ⟨hPc, hDc, hFc⟩ := g5_sub3 (wc := [(b_o, (oc12 u_th u_sa b_rf b_ro b_im b_ke u_fd b_tp u_td u_fr u_to u_so u_wo u_fa u_bd u_nc b_nl u_co b_op b_ar u_le b_pi b_pa u_pd u_od b_ws b_hw u_la b_se b_re u_bk u_va u_su u_ce u_ho u_wy u_bt u_ps b_pt u_tg u_sn b_ip u_ic b_ah b_be b_me u_wd b_tr b_ld u_st b_wn u_id))]) hP hD hS hA [0] (by decide +kernel) rfl
  refine va_calli (va_runV (As := [.int 91]) (rest := []) ⟨hx, hb, hml, hown, hts⟩ (n_isSignX91 l G b_o b_rf b_ro b_im b_ke b_tp b_nl b_op b_ar b_pi b_pa b_ws b_hw b_se b_re b_pt b_ip b_ah b_be b_me b_tr b_ld b_wn s.heap.size u_th u_sa u_fd u_td u_fr u_to u_so u_fa u_bd u_nc u_co u_le u_pd u_od u_la u_bk u_ce u_ho u_wy u_bt u_ps u_tg u_sn u_ic u_wd u_id u_wo u_va u_su u_st h_u_td h_u_fr h_u_to ⟨by omega, by omega⟩ h_u_nc h_u_co h_u_pd h_u_la h_u_bk h_u_ce h_u_ho h_u_wy h_u_bt h_u_ps h_u_ic h_u_id) (cwV 1 hts gV_X12_267 rfl rfl rfl hv_X12_isSign ⟨Nat.le_of_ble_eq_true rfl, Nat.le_of_ble_eq_true rfl⟩) (g5_preV hPc hK hDc hN hT hS hFc (ci := 12) (q0 := 0) rfl rfl) rfl rfl hl.1 rfl (lv_room (Nat.le_of_ble_eq_true rfl)) dX12_readPart_3 ⟨Nat.le_of_ble_eq_true rfl, Nat.le_of_ble_eq_true rfl⟩) hS (fun q _ h => hFc q h) hFc (fun r u t H locs ht hvm hw hB hz1 hk1 hS => ?_)
  obtain ⟨hP1, hD1⟩ := hB
  have hP1 := g5_ht ht hP1
  rcases hw with ⟨(i_1 : u_so.toInt = 3 ∧ u_wo.toInt = 91), rfl, rfl⟩ | ⟨(i_2 : ¬ (u_so.toInt = 3 ∧ u_wo.toInt = 91)), rfl, rfl⟩
  ·
    have hJ9 := va_join (wr := [(b_tp, (arI G 400 v_tp)), (b_op, (arI G 400 v_op)), (b_ar, (arI G 400 v_ar)), (b_pi, (arI G 400 v_pi)), (b_pa, (arI G 400 v_pa)), (b_ws, (arJ G 8 v_ws)), (b_hw, (arJ G 4 v_hw))]) hP hD [0] [1, 2, 3, 4, 5, 6, 7] rfl rfl (by decide +kernel) (by decide +kernel) hk1 hFc hP1 hD1
    clear hP hD hPc hDc hFc ht hvm hz1 hk1 hP1 hD1
    obtain ⟨hP, hD⟩ := hJ9
    refine g5_rs [(b_tp, (arI G 400 v_tp)), (b_op, (arI G 400 v_op)), (b_ar, (arI G 400 v_ar)), (b_pi, (arI G 400 v_pi)), (b_pa, (arI G 400 v_pa)), (b_ws, (arJ G 8 v_ws)), (b_hw, (arJ G 4 v_hw)), (b_o, (oc12 u_th u_sa b_rf b_ro b_im b_ke u_fd b_tp u_td u_fr u_to u_so u_wo u_fa u_bd u_nc b_nl u_co b_op b_ar u_le b_pi b_pa u_pd u_od b_ws b_hw u_la b_se b_re u_bk u_va u_su u_ce u_ho u_wy u_bt u_ps b_pt u_tg u_sn b_ip u_ic b_ah b_be b_me u_wd b_tr b_ld u_st b_wn u_id))] hP hD ?_
    clear hP hD
    intro hP hD
    refine lv_if_eq (tgt := 17) hx hb dX12_readPart_6 (by decide +kernel) (fun c_3 => ?_) (fun c_3 => ?_)
    ·
      exact absurd c_3 (by decide +kernel)
    ·
      have hlt9 : u_fr.toInt < u_to.toInt := tks_lt e_s (by omega)
      refine lv_aload_n hx hb dX12_readPart_9 rfl (lv_at hl 0 rfl) ?_
      refine lv_bipush (v := 31) hx hb dX12_readPart_10 (by decide +kernel) ?_
      obtain ⟨hPc, hDc, hFc⟩ := g5_sub3 (wc := [(b_o, (oc12 u_th u_sa b_rf b_ro b_im b_ke u_fd b_tp u_td u_fr u_to u_so u_wo u_fa u_bd u_nc b_nl u_co b_op b_ar u_le b_pi b_pa u_pd u_od b_ws b_hw u_la b_se b_re u_bk u_va u_su u_ce u_ho u_wy u_bt u_ps b_pt u_tg u_sn b_ip u_ic b_ah b_be b_me u_wd b_tr b_ld u_st b_wn u_id)), (b_tp, (arI G 400 v_tp)), (b_pi, (arI G 400 v_pi)), (b_pa, (arI G 400 v_pa))]) hP hD hS hA [7, 0, 3, 4] (by decide +kernel) rfl
      refine va_callv (va_runV (As := [.int 31]) (rest := []) ⟨hx, hb, hml, hown, hts⟩ (n_openBracketX l G b_o b_tp b_pi b_pa b_rf b_ro b_im b_ke b_nl b_op b_ar b_ws b_hw b_se b_re b_pt b_ip b_ah b_be b_me b_tr b_ld b_wn H.size u_th u_sa u_fd u_td u_fr u_to u_so u_fa u_bd u_nc u_co u_le u_pd u_od u_la u_bk u_ce u_ho u_wy u_bt u_ps u_tg u_sn u_ic u_wd u_id 31 u_wo u_va u_su u_st v_tp v_pi v_pa h_u_td h_u_fr h_u_to h_u_bd h_u_nc h_u_co h_u_pd h_u_la h_u_bk h_u_ce h_u_ho h_u_wy h_u_bt h_u_ps h_u_ic h_u_id ⟨by decide, by decide⟩ (by omega) (by omega) (by omega)) (cwV 1 hts gV_X12_270 rfl rfl rfl hv_X12_openBracket ⟨Nat.le_of_ble_eq_true rfl, Nat.le_of_ble_eq_true rfl⟩) (g5_preV hPc hK hDc hN hT hS hFc (ci := 12) (q0 := 0) rfl rfl) rfl rfl hl.1 rfl (lv_room (Nat.le_of_ble_eq_true rfl)) dX12_readPart_12 ⟨Nat.le_of_ble_eq_true rfl, Nat.le_of_ble_eq_true rfl⟩) hS (fun q _ h => hFc q h) hFc (fun u t H locs ht hvm hw hB hz1 hk1 hS => ?_)
      obtain ⟨hP1, hD1⟩ := hB
      have hP1 := g5_ht ht hP1
      rcases hw with ⟨(i_4 : 8 ≤ u_od.toInt), rfl⟩ | ⟨z14, z15, z16, z17, z18, z19, (i_5 : 0 ≤ z14.toInt ∧ z14.toInt ≤ 400), (i_6 : 0 ≤ z15.toInt ∧ z15.toInt ≤ 400), (i_7 : 0 ≤ z18.toInt ∧ z18.toInt ≤ 400), (i_8 : u_to.toInt ≤ z14.toInt ∧ z14.toInt ≤ z15.toInt ∧ z15.toInt ≤ u_td.toInt), (i_9 : TKs z16.toInt z14.toInt z15.toInt), (i_10 : z18.toInt = u_pd.toInt + 1), (i_11 : u_od.toInt < 8), (i_12 : z19.toInt = u_od.toInt + 1), (i_13 : TOKA v_tp u_td.toInt.toNat (skT v_tp u_td.toInt.toNat u_to.toInt.toNat) z14 z15 z16 z17), rfl⟩
      ·
        have hJ9 := va_join (wr := [(b_op, (arI G 400 v_op)), (b_ar, (arI G 400 v_ar)), (b_ws, (arJ G 8 v_ws)), (b_hw, (arJ G 4 v_hw))]) hP hD [7, 0, 3, 4] [1, 2, 5, 6] rfl rfl (by decide +kernel) (by decide +kernel) hk1 hFc hP1 hD1
        clear hP hD hPc hDc hFc ht hvm hz1 hk1 hP1 hD1
        obtain ⟨hP, hD⟩ := hJ9
        refine g5_rs [(b_op, (arI G 400 v_op)), (b_ar, (arI G 400 v_ar)), (b_ws, (arJ G 8 v_ws)), (b_hw, (arJ G 4 v_hw)), (b_o, (oc12 u_th u_sa b_rf b_ro b_im b_ke u_fd b_tp u_td u_fr u_to u_so u_wo u_fr 1 u_nc b_nl u_co b_op b_ar u_le b_pi b_pa u_pd u_od b_ws b_hw u_la b_se b_re u_bk u_va u_su u_ce u_ho u_wy u_bt u_ps b_pt u_tg u_sn b_ip u_ic b_ah b_be b_me u_wd b_tr b_ld u_st b_wn u_id)), (b_tp, (arI G 400 v_tp)), (b_pi, (arI G 400 v_pi)), (b_pa, (arI G 400 v_pa))] hP hD ?_
        clear hP hD
        intro hP hD
        refine lv_iconst (v := 1) hx hb dX12_readPart_15 (by decide +kernel) ?_
        exact W.iret (v := 1) hx hb hr (fun t ht hW => ⟨⟨1, [(b_o, (oc12 u_th u_sa b_rf b_ro b_im b_ke u_fd b_tp u_td u_fr u_to u_so u_wo u_fr 1 u_nc b_nl u_co b_op b_ar u_le b_pi b_pa u_pd u_od b_ws b_hw u_la b_se b_re u_bk u_va u_su u_ce u_ho u_wy u_bt u_ps b_pt u_tg u_sn b_ip u_ic b_ah b_be b_me u_wd b_tr b_ld u_st b_wn u_id)), (b_tp, (arI G 400 v_tp)), (b_op, (arI G 400 v_op)), (b_ar, (arI G 400 v_ar)), (b_pi, (arI G 400 v_pi)), (b_pa, (arI G 400 v_pa)), (b_ws, (arJ G 8 v_ws)), (b_hw, (arJ G 4 v_hw))], rfl, Or.inl (⟨1, ⟨by have zc_o_r : (1 : Int32).toInt = 1 := (by decide +kernel); omega, by have zc_o_r : (1 : Int32).toInt = 1 := (by decide +kernel); omega⟩, rq_t (rq_openB (t' := 1) hRC ((rq1_st htt).trans (mpart_91 ((tk_sign e_tp hTK (by decide +kernel) (by decide +kernel) (c := 91)).mpr i_1))) hFD (by omega)) (by decide +kernel), rfl, rfl⟩), by rw [ht]; exact hP.sub [4, 5, 0, 1, 6, 7, 2, 3] rfl, hD.sub [4, 5, 0, 1, 6, 7, 2, 3] (by decide +kernel) rfl⟩, hS.F ht⟩) hS.2.2 dX12_readPart_16
      ·
        have hJ9 := va_join (wr := [(b_op, (arI G 400 v_op)), (b_ar, (arI G 400 v_ar)), (b_ws, (arJ G 8 v_ws)), (b_hw, (arJ G 4 v_hw))]) hP hD [7, 0, 3, 4] [1, 2, 5, 6] rfl rfl (by decide +kernel) (by decide +kernel) hk1 hFc hP1 hD1
        clear hP hD hPc hDc hFc ht hvm hz1 hk1 hP1 hD1
        obtain ⟨hP, hD⟩ := hJ9
        refine g5_rs [(b_op, (arI G 400 v_op)), (b_ar, (arI G 400 v_ar)), (b_ws, (arJ G 8 v_ws)), (b_hw, (arJ G 4 v_hw)), (b_o, (oc12 u_th u_sa b_rf b_ro b_im b_ke u_fd b_tp u_td z14 z15 z16 z17 u_fa u_bd u_nc b_nl u_co b_op b_ar u_le b_pi b_pa z18 z19 b_ws b_hw u_la b_se b_re u_bk u_va u_su u_ce u_ho u_wy u_bt u_ps b_pt u_tg u_sn b_ip u_ic b_ah b_be b_me u_wd b_tr b_ld u_st b_wn u_id)), (b_tp, (arI G 400 v_tp)), (b_pi, (arI G 400 (upd v_pi u_pd.toNatClampNeg 31))), (b_pa, (arI G 400 (upd v_pa u_pd.toNatClampNeg 0)))] hP hD ?_
        clear hP hD
        intro hP hD
        refine lv_iconst (v := 1) hx hb dX12_readPart_15 (by decide +kernel) ?_
        exact W.iret (v := 1) hx hb hr (fun t ht hW => ⟨⟨1, [(b_o, (oc12 u_th u_sa b_rf b_ro b_im b_ke u_fd b_tp u_td z14 z15 z16 z17 u_fa u_bd u_nc b_nl u_co b_op b_ar u_le b_pi b_pa z18 z19 b_ws b_hw u_la b_se b_re u_bk u_va u_su u_ce u_ho u_wy u_bt u_ps b_pt u_tg u_sn b_ip u_ic b_ah b_be b_me u_wd b_tr b_ld u_st b_wn u_id)), (b_tp, (arI G 400 v_tp)), (b_op, (arI G 400 v_op)), (b_ar, (arI G 400 v_ar)), (b_pi, (arI G 400 (upd v_pi u_pd.toNatClampNeg 31))), (b_pa, (arI G 400 (upd v_pa u_pd.toNatClampNeg 0))), (b_ws, (arJ G 8 v_ws)), (b_hw, (arJ G 4 v_hw))], rfl, Or.inr (⟨1, z14, z15, z16, z17, u_co, u_le, z18, z19, v_op, v_ar, (upd v_pi u_pd.toNatClampNeg 31), (upd v_pa u_pd.toNatClampNeg 0), i_5, i_6, h_u_co, i_7, ⟨by have zc_o_r : (1 : Int32).toInt = 1 := (by decide +kernel); omega, by have zc_o_r : (1 : Int32).toInt = 1 := (by decide +kernel); omega⟩, by omega, i_9, xj_push e_x (by omega) (by omega) ⟨by decide, by decide⟩ (Or.inr (by decide +kernel)), tj_1 (hj_push0 (tj_d0 e_j (Or.inr rfl)) (by omega) (by omega) (Or.inr (by decide +kernel)) (Or.inl (by decide +kernel))) (by decide +kernel), by have w9 := (twt_0 (by decide +kernel) : twt (1 : Int32).toInt = 0); omega, rq_t (rq_open (t' := 1) hRC ((rq1_st htt).trans (mpart_91 ((tk_sign e_tp hTK (by decide +kernel) (by decide +kernel) (c := 91)).mpr i_1))) hFD (by omega) (toka_nx hTK i_13) (by omega) (by omega)) (by decide +kernel), rfl, rfl⟩), by rw [ht]; exact hP.sub [4, 5, 0, 1, 6, 7, 2, 3] rfl, hD.sub [4, 5, 0, 1, 6, 7, 2, 3] (by decide +kernel) rfl⟩, hS.F ht⟩) hS.2.2 dX12_readPart_16
  ·
    have hJ9 := va_join (wr := [(b_tp, (arI G 400 v_tp)), (b_op, (arI G 400 v_op)), (b_ar, (arI G 400 v_ar)), (b_pi, (arI G 400 v_pi)), (b_pa, (arI G 400 v_pa)), (b_ws, (arJ G 8 v_ws)), (b_hw, (arJ G 4 v_hw))]) hP hD [0] [1, 2, 3, 4, 5, 6, 7] rfl rfl (by decide +kernel) (by decide +kernel) hk1 hFc hP1 hD1
    clear hP hD hPc hDc hFc ht hvm hz1 hk1 hP1 hD1
    obtain ⟨hP, hD⟩ := hJ9
    refine g5_rs [(b_tp, (arI G 400 v_tp)), (b_op, (arI G 400 v_op)), (b_ar, (arI G 400 v_ar)), (b_pi, (arI G 400 v_pi)), (b_pa, (arI G 400 v_pa)), (b_ws, (arJ G 8 v_ws)), (b_hw, (arJ G 4 v_hw)), (b_o, (oc12 u_th u_sa b_rf b_ro b_im b_ke u_fd b_tp u_td u_fr u_to u_so u_wo u_fa u_bd u_nc b_nl u_co b_op b_ar u_le b_pi b_pa u_pd u_od b_ws b_hw u_la b_se b_re u_bk u_va u_su u_ce u_ho u_wy u_bt u_ps b_pt u_tg u_sn b_ip u_ic b_ah b_be b_me u_wd b_tr b_ld u_st b_wn u_id))] hP hD ?_
    clear hP hD
    intro hP hD
    refine lv_if_eq (tgt := 17) hx hb dX12_readPart_6 (by decide +kernel) (fun c_20 => ?_) (fun c_20 => ?_)
    ·
      refine lv_aload_n hx hb dX12_readPart_17 rfl (lv_at hl 0 rfl) ?_
      obtain ⟨hPc, hDc, hFc⟩ := g5_sub3 (wc := [(b_o, (oc12 u_th u_sa b_rf b_ro b_im b_ke u_fd b_tp u_td u_fr u_to u_so u_wo u_fa u_bd u_nc b_nl u_co b_op b_ar u_le b_pi b_pa u_pd u_od b_ws b_hw u_la b_se b_re u_bk u_va u_su u_ce u_ho u_wy u_bt u_ps b_pt u_tg u_sn b_ip u_ic b_ah b_be b_me u_wd b_tr b_ld u_st b_wn u_id)), (b_tp, (arI G 400 v_tp)), (b_ws, (arJ G 8 v_ws)), (b_hw, (arJ G 4 v_hw))]) hP hD hS hA [7, 0, 5, 6] (by decide +kernel) rfl
      refine va_calli (va_runV (As := []) (rest := []) ⟨hx, hb, hml, hown, hts⟩ (n_partAtX l G b_o b_tp b_ws b_hw b_rf b_ro b_im b_ke b_nl b_op b_ar b_pi b_pa b_se b_re b_pt b_ip b_ah b_be b_me b_tr b_ld b_wn H.size u_th u_sa u_fd u_td u_fr u_to u_so u_fa u_bd u_nc u_co u_le u_pd u_od u_la u_bk u_ce u_ho u_wy u_bt u_ps u_tg u_sn u_ic u_wd u_id u_wo u_va u_su u_st v_tp v_ws v_hw kk h_u_td h_u_fr h_u_to ⟨by omega, by omega⟩ h_u_nc h_u_co h_u_pd h_u_la h_u_bk h_u_ce h_u_ho h_u_wy h_u_bt h_u_ps h_u_ic h_u_id (e_tp) (e_ws) (hTK)) (cwV 0 hts gV_X12_273 rfl rfl rfl hv_X12_partAt ⟨Nat.le_of_ble_eq_true rfl, Nat.le_of_ble_eq_true rfl⟩) (g5_preV hPc hK hDc hN hT hS hFc (ci := 12) (q0 := 0) rfl rfl) rfl rfl hl.1 rfl (lv_room (Nat.le_of_ble_eq_true rfl)) dX12_readPart_18 ⟨Nat.le_of_ble_eq_true rfl, Nat.le_of_ble_eq_true rfl⟩) hS (fun q _ h => hFc q h) hFc (fun r u t H locs ht hvm hw hB hz1 hk1 hS => ?_)
      obtain ⟨hP1, hD1⟩ := hB
      have hP1 := g5_ht ht hP1
      obtain ⟨z24, (i_21 : -1 ≤ z24.toInt ∧ z24.toInt ≤ 8), (i_22 : z24.toInt = -1 ∨ u_so.toInt = 1), (i_23 : PTW 264 1 (KDT v_tp u_td.toInt.toNat kk) z24.toInt 8), y25, rfl⟩ := hw
      have hJ9 := va_join (wr := [(b_op, (arI G 400 v_op)), (b_ar, (arI G 400 v_ar)), (b_pi, (arI G 400 v_pi)), (b_pa, (arI G 400 v_pa))]) hP hD [7, 0, 5, 6] [1, 2, 3, 4] rfl rfl (by decide +kernel) (by decide +kernel) hk1 hFc hP1 hD1
      clear hP hD hPc hDc hFc ht hvm hz1 hk1 hP1 hD1
      obtain ⟨hP, hD⟩ := hJ9
      refine g5_rs [(b_op, (arI G 400 v_op)), (b_ar, (arI G 400 v_ar)), (b_pi, (arI G 400 v_pi)), (b_pa, (arI G 400 v_pa)), (b_o, (oc12 u_th u_sa b_rf b_ro b_im b_ke u_fd b_tp u_td u_fr u_to u_so u_wo u_fa u_bd u_nc b_nl u_co b_op b_ar u_le b_pi b_pa u_pd u_od b_ws b_hw u_la b_se b_re u_bk u_va u_su u_ce u_ho u_wy u_bt u_ps b_pt u_tg u_sn b_ip u_ic b_ah b_be b_me u_wd b_tr b_ld u_st b_wn u_id)), (b_tp, (arI G 400 v_tp)), (b_ws, (arJ G 8 v_ws)), (b_hw, (arJ G 4 v_hw))] hP hD ?_
      clear hP hD
      intro hP hD
      refine g5_ti (v := z24) y25 ?_
      refine lv_istore_n (lv' := [(1, .int z24), (0, .ref b_o)]) hx hb dX12_readPart_21 rfl hl (by decide +kernel) rfl ?_
      clear hl
      intro ls hl
      refine lv_aload_n hx hb dX12_readPart_22 rfl (lv_at hl 1 rfl) ?_
      refine W.eq (g2 := F0 m 23 ls [.ref b_o]) rfl ?_
      refine va_get (D := G.1) (ci := 12) (v := .int u_so) (C := RX12) (T := TX12) (N := 52) hx hb hts inG_X12 hown hK hP 4 rfl rfl 11 (by decide +kernel) (hts _ fl_X12_224) (fun _ h9 => h9) rfl dX12_readPart_23 ?_
      refine lv_iconst (v := 2) hx hb dX12_readPart_26 (by decide +kernel) ?_
      refine lv_icmp_ne (tgt := 45) hx hb dX12_readPart_27 (by decide +kernel) (fun c_26 => ?_) (fun c_26 => ?_)
      ·
        have n_26 : gNe (u_so.toInt) (2) := g5_ne (a := u_so.toInt) (b := 2) rfl (by decide +kernel) c_26
        refine lv_iconst (v := 0) hx hb dX12_readPart_45 (by decide +kernel) ?_
        refine lv_istore_n (lv' := [(2, .int 0), (1, .int z24), (0, .ref b_o)]) hx hb dX12_readPart_46 rfl hl (by decide +kernel) rfl ?_
        clear hl
        intro ls hl
        refine lv_aload_n hx hb dX12_readPart_47 rfl (lv_at hl 2 rfl) ?_
        refine lv_iload_n hx hb dX12_readPart_48 rfl (lv_at hl 1 rfl) ?_
        refine W.eq (g2 := F0 m 49 ls [.int z24, .ref b_o]) rfl ?_
        refine lv_iconst (v := (-1)) hx hb dX12_readPart_49 (by decide +kernel) ?_
        refine lv_icmp_ne (tgt := 57) hx hb dX12_readPart_50 (by decide +kernel) (fun c_27 => ?_) (fun c_27 => ?_)
        ·
          have n_27 : gNe (z24.toInt) ((-1)) := g5_ne (a := z24.toInt) (b := (-1)) rfl (by decide +kernel) c_27
          have i_27 : z24.toInt ≥ 0 := by have z := g5_ne (a := z24.toInt) (b := (-1)) (by rfl) (by decide +kernel) c_27; omega
          refine lv_iconst (v := 1) hx hb dX12_readPart_57 (by decide +kernel) ?_
          refine lv_goto (tgt := 62) hx hb dX12_readPart_58 (by decide +kernel) ?_
          refine lv_iload_n hx hb dX12_readPart_62 rfl (lv_at hl 1 rfl) ?_
          refine lv_iconst (v := (-1)) hx hb dX12_readPart_63 (by decide +kernel) ?_
          refine W.eq (g2 := F0 m 64 ls [.int (-1), .int z24, .int 1, .ref b_o]) rfl ?_
          refine lv_icmp_ne (tgt := 71) hx hb dX12_readPart_64 (by decide +kernel) (fun c_28 => ?_) (fun c_28 => ?_)
          ·
            have n_28 : gNe (z24.toInt) ((-1)) := g5_ne (a := z24.toInt) (b := (-1)) rfl (by decide +kernel) c_28
            refine lv_iload_n hx hb dX12_readPart_71 rfl (lv_at hl 1 rfl) ?_
            refine lv_iload_n hx hb dX12_readPart_72 rfl (lv_at hl 0 rfl) ?_
            refine lv_if_eq (tgt := 84) hx hb dX12_readPart_73 (by decide +kernel) (fun c_29 => ?_) (fun c_29 => ?_)
            ·
              refine lv_iconst (v := 0) hx hb dX12_readPart_84 (by decide +kernel) ?_
              have hlt9 : u_fr.toInt < u_to.toInt := tks_lt e_s (by omega)
              obtain ⟨hPc, hDc, hFc⟩ := g5_sub3 (wc := [(b_o, (oc12 u_th u_sa b_rf b_ro b_im b_ke u_fd b_tp u_td u_fr u_to u_so u_wo u_fa u_bd u_nc b_nl u_co b_op b_ar u_le b_pi b_pa u_pd u_od b_ws b_hw u_la b_se b_re u_bk u_va u_su u_ce u_ho u_wy u_bt u_ps b_pt u_tg u_sn b_ip u_ic b_ah b_be b_me u_wd b_tr b_ld u_st b_wn u_id)), (b_tp, (arI G 400 v_tp)), (b_op, (arI G 400 v_op)), (b_ar, (arI G 400 v_ar))]) hP hD hS hA [4, 5, 0, 1] (by decide +kernel) rfl
              refine va_callv (va_runV (As := [.int 1, .int z24, .int 0]) (rest := []) ⟨hx, hb, hml, hown, hts⟩ (n_leaf1X l G b_o b_tp b_op b_ar b_rf b_ro b_im b_ke b_nl b_pi b_pa b_ws b_hw b_se b_re b_pt b_ip b_ah b_be b_me b_tr b_ld b_wn H.size u_th u_sa u_fd u_td u_fr u_to u_so u_fa u_bd u_nc u_co u_le u_pd u_od u_la u_bk u_ce u_ho u_wy u_bt u_ps u_tg u_sn u_ic u_wd u_id z24 0 u_wo u_va u_su u_st v_tp v_op v_ar h_u_td h_u_fr h_u_to h_u_bd h_u_nc h_u_co h_u_pd h_u_la h_u_bk h_u_ce h_u_ho h_u_wy h_u_bt h_u_ps h_u_ic h_u_id ⟨by omega, by omega⟩ (by omega) (by omega) (by omega)) (cwV 3 hts gV_X12_279 rfl rfl rfl hv_X12_leaf ⟨Nat.le_of_ble_eq_true rfl, Nat.le_of_ble_eq_true rfl⟩) (g5_preV hPc hK hDc hN hT hS hFc (ci := 12) (q0 := 0) rfl rfl) rfl rfl hl.1 rfl (lv_room (Nat.le_of_ble_eq_true rfl)) dX12_readPart_85 ⟨Nat.le_of_ble_eq_true rfl, Nat.le_of_ble_eq_true rfl⟩) hS (fun q _ h => hFc q h) hFc (fun u t H locs ht hvm hw hB hz1 hk1 hS => ?_)
              obtain ⟨hP1, hD1⟩ := hB
              have hP1 := g5_ht ht hP1
              rcases hw with ⟨(i_30 : 50 ≤ u_le.toInt), rfl⟩ | ⟨z40, z41, z42, z43, z44, z45, (i_31 : 0 ≤ z40.toInt ∧ z40.toInt ≤ 400), (i_32 : 0 ≤ z41.toInt ∧ z41.toInt ≤ 400), (i_33 : 0 ≤ z44.toInt ∧ z44.toInt ≤ 400), (i_34 : u_to.toInt ≤ z40.toInt ∧ z40.toInt ≤ z41.toInt ∧ z41.toInt ≤ u_td.toInt), (i_35 : TKs z42.toInt z40.toInt z41.toInt), (i_36 : z44.toInt = u_co.toInt + 1), (i_37 : u_le.toInt < 50), (i_38 : z45.toInt = u_le.toInt + 1), (i_39 : TOKA v_tp u_td.toInt.toNat (skT v_tp u_td.toInt.toNat u_to.toInt.toNat) z40 z41 z42 z43), rfl⟩
              ·
                have hJ9 := va_join (wr := [(b_pi, (arI G 400 v_pi)), (b_pa, (arI G 400 v_pa)), (b_ws, (arJ G 8 v_ws)), (b_hw, (arJ G 4 v_hw))]) hP hD [4, 5, 0, 1] [2, 3, 6, 7] rfl rfl (by decide +kernel) (by decide +kernel) hk1 hFc hP1 hD1
                clear hP hD hPc hDc hFc ht hvm hz1 hk1 hP1 hD1
                obtain ⟨hP, hD⟩ := hJ9
                refine g5_rs [(b_pi, (arI G 400 v_pi)), (b_pa, (arI G 400 v_pa)), (b_ws, (arJ G 8 v_ws)), (b_hw, (arJ G 4 v_hw)), (b_o, (oc12 u_th u_sa b_rf b_ro b_im b_ke u_fd b_tp u_td u_fr u_to u_so u_wo u_fr 1 u_nc b_nl u_co b_op b_ar u_le b_pi b_pa u_pd u_od b_ws b_hw u_la b_se b_re u_bk u_va u_su u_ce u_ho u_wy u_bt u_ps b_pt u_tg u_sn b_ip u_ic b_ah b_be b_me u_wd b_tr b_ld u_st b_wn u_id)), (b_tp, (arI G 400 v_tp)), (b_op, (arI G 400 v_op)), (b_ar, (arI G 400 v_ar))] hP hD ?_
                clear hP hD
                intro hP hD
                refine lv_iconst (v := 3) hx hb dX12_readPart_88 (by decide +kernel) ?_
                exact W.iret (v := 3) hx hb hr (fun t ht hW => ⟨⟨3, [(b_o, (oc12 u_th u_sa b_rf b_ro b_im b_ke u_fd b_tp u_td u_fr u_to u_so u_wo u_fr 1 u_nc b_nl u_co b_op b_ar u_le b_pi b_pa u_pd u_od b_ws b_hw u_la b_se b_re u_bk u_va u_su u_ce u_ho u_wy u_bt u_ps b_pt u_tg u_sn b_ip u_ic b_ah b_be b_me u_wd b_tr b_ld u_st b_wn u_id)), (b_tp, (arI G 400 v_tp)), (b_op, (arI G 400 v_op)), (b_ar, (arI G 400 v_ar)), (b_pi, (arI G 400 v_pi)), (b_pa, (arI G 400 v_pa)), (b_ws, (arJ G 8 v_ws)), (b_hw, (arJ G 4 v_hw))], rfl, Or.inl (⟨3, ⟨by have zc_o_r : (3 : Int32).toInt = 3 := (by decide +kernel); omega, by have zc_o_r : (3 : Int32).toInt = 3 := (by decide +kernel); omega⟩, rq_t (rq_leafB hRC (rq1_st htt) hFD (fun q8 => i_2 ((tk_sign e_tp hTK (by decide +kernel) (by decide +kernel) (c := 91)).mp q8)) (lf_bad e_tp hTK i_23 (by have z9 : (0 : Int32).toInt = 0 := (by decide +kernel); first | omega | (unfold gNe at *; omega)))) (by decide +kernel), rfl, rfl⟩), by rw [ht]; exact hP.sub [4, 5, 6, 7, 0, 1, 2, 3] rfl, hD.sub [4, 5, 6, 7, 0, 1, 2, 3] (by decide +kernel) rfl⟩, hS.F ht⟩) hS.2.2 dX12_readPart_89
              ·
                have hJ9 := va_join (wr := [(b_pi, (arI G 400 v_pi)), (b_pa, (arI G 400 v_pa)), (b_ws, (arJ G 8 v_ws)), (b_hw, (arJ G 4 v_hw))]) hP hD [4, 5, 0, 1] [2, 3, 6, 7] rfl rfl (by decide +kernel) (by decide +kernel) hk1 hFc hP1 hD1
                clear hP hD hPc hDc hFc ht hvm hz1 hk1 hP1 hD1
                obtain ⟨hP, hD⟩ := hJ9
                refine g5_rs [(b_pi, (arI G 400 v_pi)), (b_pa, (arI G 400 v_pa)), (b_ws, (arJ G 8 v_ws)), (b_hw, (arJ G 4 v_hw)), (b_o, (oc12 u_th u_sa b_rf b_ro b_im b_ke u_fd b_tp u_td z40 z41 z42 z43 u_fa u_bd u_nc b_nl z44 b_op b_ar z45 b_pi b_pa u_pd u_od b_ws b_hw u_la b_se b_re u_bk u_va u_su u_ce u_ho u_wy u_bt u_ps b_pt u_tg u_sn b_ip u_ic b_ah b_be b_me u_wd b_tr b_ld u_st b_wn u_id)), (b_tp, (arI G 400 v_tp)), (b_op, (arI G 400 (upd v_op u_co.toNatClampNeg z24))), (b_ar, (arI G 400 (upd v_ar u_co.toNatClampNeg 0)))] hP hD ?_
                clear hP hD
                intro hP hD
                refine lv_iconst (v := 3) hx hb dX12_readPart_88 (by decide +kernel) ?_
                exact W.iret (v := 3) hx hb hr (fun t ht hW => ⟨⟨3, [(b_o, (oc12 u_th u_sa b_rf b_ro b_im b_ke u_fd b_tp u_td z40 z41 z42 z43 u_fa u_bd u_nc b_nl z44 b_op b_ar z45 b_pi b_pa u_pd u_od b_ws b_hw u_la b_se b_re u_bk u_va u_su u_ce u_ho u_wy u_bt u_ps b_pt u_tg u_sn b_ip u_ic b_ah b_be b_me u_wd b_tr b_ld u_st b_wn u_id)), (b_tp, (arI G 400 v_tp)), (b_op, (arI G 400 (upd v_op u_co.toNatClampNeg z24))), (b_ar, (arI G 400 (upd v_ar u_co.toNatClampNeg 0))), (b_pi, (arI G 400 v_pi)), (b_pa, (arI G 400 v_pa)), (b_ws, (arJ G 8 v_ws)), (b_hw, (arJ G 4 v_hw))], rfl, Or.inr (⟨3, z40, z41, z42, z43, z44, z45, u_pd, u_od, (upd v_op u_co.toNatClampNeg z24), (upd v_ar u_co.toNatClampNeg 0), v_pi, v_pa, i_31, i_32, i_33, h_u_pd, ⟨by have zc_o_r : (3 : Int32).toInt = 3 := (by decide +kernel); omega, by have zc_o_r : (3 : Int32).toInt = 3 := (by decide +kernel); omega⟩, by omega, i_35, xj_emit e_x (by omega) (by omega), tj_3 (hj_leaf e_x (tj_d0 e_j (Or.inr rfl)) (by omega) ⟨by omega, by omega⟩) (by decide +kernel), by have w9 := (twt_3 (by decide +kernel) : twt (3 : Int32).toInt = 2); omega, rq_t (rq_leaf hRC (rq1_st htt) hFD (lf_kind e_tp hTK i_23 (by omega)) (by omega) (lf_op e_tp hTK i_23 (by have z9 : (0 : Int32).toInt = 0 := (by decide +kernel); first | omega | (unfold gNe at *; omega))) (lf_arg0 e_tp hTK i_23 (by omega)) (toka_nx hTK i_39) (by omega) (by omega)) (by decide +kernel), rfl, rfl⟩), by rw [ht]; exact hP.sub [4, 5, 6, 7, 0, 1, 2, 3] rfl, hD.sub [4, 5, 6, 7, 0, 1, 2, 3] (by decide +kernel) rfl⟩, hS.F ht⟩) hS.2.2 dX12_readPart_89
            ·
              exact absurd c_29 (by decide +kernel)
          ·
            have i_28 : z24.toInt = (-1) := g5_neN (a := z24.toInt) (b := (-1)) rfl (by decide +kernel) c_28
            omega
        ·
          have i_27 : z24.toInt = (-1) := g5_neN (a := z24.toInt) (b := (-1)) rfl (by decide +kernel) c_27
          refine lv_iload_n hx hb dX12_readPart_53 rfl (lv_at hl 0 rfl) ?_
          refine lv_if_eq (tgt := 61) hx hb dX12_readPart_54 (by decide +kernel) (fun c_46 => ?_) (fun c_46 => ?_)
          ·
            refine lv_iconst (v := 0) hx hb dX12_readPart_61 (by decide +kernel) ?_
            refine lv_iload_n hx hb dX12_readPart_62 rfl (lv_at hl 1 rfl) ?_
            refine lv_iconst (v := (-1)) hx hb dX12_readPart_63 (by decide +kernel) ?_
            refine lv_icmp_ne (tgt := 71) hx hb dX12_readPart_64 (by decide +kernel) (fun c_47 => ?_) (fun c_47 => ?_)
            ·
              have i_47 : z24.toInt ≠ (-1) := g5_ne (a := z24.toInt) (b := (-1)) rfl (by decide +kernel) c_47
              omega
            ·
              have i_47 : z24.toInt = (-1) := g5_neN (a := z24.toInt) (b := (-1)) rfl (by decide +kernel) c_47
              refine lv_iconst (v := 0) hx hb dX12_readPart_67 (by decide +kernel) ?_
              refine lv_goto (tgt := 72) hx hb dX12_readPart_68 (by decide +kernel) ?_
              refine lv_iload_n hx hb dX12_readPart_72 rfl (lv_at hl 0 rfl) ?_
              refine lv_if_eq (tgt := 84) hx hb dX12_readPart_73 (by decide +kernel) (fun c_48 => ?_) (fun c_48 => ?_)
              ·
                refine lv_iconst (v := 0) hx hb dX12_readPart_84 (by decide +kernel) ?_
                obtain ⟨hPc, hDc, hFc⟩ := g5_sub3 (wc := [(b_o, (oc12 u_th u_sa b_rf b_ro b_im b_ke u_fd b_tp u_td u_fr u_to u_so u_wo u_fa u_bd u_nc b_nl u_co b_op b_ar u_le b_pi b_pa u_pd u_od b_ws b_hw u_la b_se b_re u_bk u_va u_su u_ce u_ho u_wy u_bt u_ps b_pt u_tg u_sn b_ip u_ic b_ah b_be b_me u_wd b_tr b_ld u_st b_wn u_id)), (b_tp, (arI G 400 v_tp)), (b_op, (arI G 400 v_op)), (b_ar, (arI G 400 v_ar))]) hP hD hS hA [4, 5, 0, 1] (by decide +kernel) rfl
                refine va_callv (va_runV (As := [.int 0, .int 0, .int 0]) (rest := []) ⟨hx, hb, hml, hown, hts⟩ (n_leaf0 l G b_o b_tp b_op b_ar b_rf b_ro b_im b_ke b_nl b_pi b_pa b_ws b_hw b_se b_re b_pt b_ip b_ah b_be b_me b_tr b_ld b_wn H.size u_th u_sa u_fd u_td u_fr u_to u_so u_fa u_bd u_nc u_co u_le u_pd u_od u_la u_bk u_ce u_ho u_wy u_bt u_ps u_tg u_sn u_ic u_wd u_id 0 0 u_wo u_va u_su u_st v_tp v_op v_ar h_u_td h_u_fr h_u_to h_u_bd h_u_nc h_u_co h_u_pd h_u_la h_u_bk h_u_ce h_u_ho h_u_wy h_u_bt h_u_ps h_u_ic h_u_id ⟨by decide, by decide⟩) (cwV 3 hts gV_X12_279 rfl rfl rfl hv_X12_leaf ⟨Nat.le_of_ble_eq_true rfl, Nat.le_of_ble_eq_true rfl⟩) (g5_preV hPc hK hDc hN hT hS hFc (ci := 12) (q0 := 0) rfl rfl) rfl rfl hl.1 rfl (lv_room (Nat.le_of_ble_eq_true rfl)) dX12_readPart_85 ⟨Nat.le_of_ble_eq_true rfl, Nat.le_of_ble_eq_true rfl⟩) hS (fun q _ h => hFc q h) hFc (fun u t H locs ht hvm hw hB hz1 hk1 hS => ?_)
                obtain ⟨hP1, hD1⟩ := hB
                have hP1 := g5_ht ht hP1
                obtain rfl := hw
                have hJ9 := va_join (wr := [(b_pi, (arI G 400 v_pi)), (b_pa, (arI G 400 v_pa)), (b_ws, (arJ G 8 v_ws)), (b_hw, (arJ G 4 v_hw))]) hP hD [4, 5, 0, 1] [2, 3, 6, 7] rfl rfl (by decide +kernel) (by decide +kernel) hk1 hFc hP1 hD1
                clear hP hD hPc hDc hFc ht hvm hz1 hk1 hP1 hD1
                obtain ⟨hP, hD⟩ := hJ9
                refine g5_rs [(b_pi, (arI G 400 v_pi)), (b_pa, (arI G 400 v_pa)), (b_ws, (arJ G 8 v_ws)), (b_hw, (arJ G 4 v_hw)), (b_o, (oc12 u_th u_sa b_rf b_ro b_im b_ke u_fd b_tp u_td u_fr u_to u_so u_wo u_fr 1 u_nc b_nl u_co b_op b_ar u_le b_pi b_pa u_pd u_od b_ws b_hw u_la b_se b_re u_bk u_va u_su u_ce u_ho u_wy u_bt u_ps b_pt u_tg u_sn b_ip u_ic b_ah b_be b_me u_wd b_tr b_ld u_st b_wn u_id)), (b_tp, (arI G 400 v_tp)), (b_op, (arI G 400 v_op)), (b_ar, (arI G 400 v_ar))] hP hD ?_
                clear hP hD
                intro hP hD
                refine lv_iconst (v := 3) hx hb dX12_readPart_88 (by decide +kernel) ?_
                exact W.iret (v := 3) hx hb hr (fun t ht hW => ⟨⟨3, [(b_o, (oc12 u_th u_sa b_rf b_ro b_im b_ke u_fd b_tp u_td u_fr u_to u_so u_wo u_fr 1 u_nc b_nl u_co b_op b_ar u_le b_pi b_pa u_pd u_od b_ws b_hw u_la b_se b_re u_bk u_va u_su u_ce u_ho u_wy u_bt u_ps b_pt u_tg u_sn b_ip u_ic b_ah b_be b_me u_wd b_tr b_ld u_st b_wn u_id)), (b_tp, (arI G 400 v_tp)), (b_op, (arI G 400 v_op)), (b_ar, (arI G 400 v_ar)), (b_pi, (arI G 400 v_pi)), (b_pa, (arI G 400 v_pa)), (b_ws, (arJ G 8 v_ws)), (b_hw, (arJ G 4 v_hw))], rfl, Or.inl (⟨3, ⟨by have zc_o_r : (3 : Int32).toInt = 3 := (by decide +kernel); omega, by have zc_o_r : (3 : Int32).toInt = 3 := (by decide +kernel); omega⟩, rq_t (rq_leafB hRC (rq1_st htt) hFD (fun q8 => i_2 ((tk_sign e_tp hTK (by decide +kernel) (by decide +kernel) (c := 91)).mp q8)) (lf_bad e_tp hTK i_23 (by have z9 : (0 : Int32).toInt = 0 := (by decide +kernel); first | omega | (unfold gNe at *; omega)))) (by decide +kernel), rfl, rfl⟩), by rw [ht]; exact hP.sub [4, 5, 6, 7, 0, 1, 2, 3] rfl, hD.sub [4, 5, 6, 7, 0, 1, 2, 3] (by decide +kernel) rfl⟩, hS.F ht⟩) hS.2.2 dX12_readPart_89
              ·
                exact absurd c_48 (by decide +kernel)
          ·
            exact absurd c_46 (by decide +kernel)
      ·
        have i_26 : u_so.toInt = 2 := g5_neN (a := u_so.toInt) (b := 2) rfl (by decide +kernel) c_26
        refine lv_aload_n hx hb dX12_readPart_30 rfl (lv_at hl 1 rfl) ?_
        refine va_get (D := G.1) (ci := 12) (v := .long u_wo) (C := RX12) (T := TX12) (N := 52) hx hb hts inG_X12 hown hK hP 4 rfl rfl 12 (by decide +kernel) (hts _ fl_X12_214) (fun _ h9 => h9) rfl dX12_readPart_31 ?_
        refine lv_ldc2 (v := 1000) hx hb hown (hts _ kl_X12_277) dX12_readPart_34 ?_
        have tl_49 : (1000 : Int64).toInt = 1000 := (by decide +kernel)
        have tc_50 := g5_cmpI u_wo (1000 : Int64)
        refine W.lcmp hx hb dX12_readPart_37 ?_
        refine W.eq (g2 := F0 m 38 ls [.int (lg_cmp u_wo 1000)]) rfl ?_
        refine lv_if_gt (tgt := 45) hx hb dX12_readPart_38 (by decide +kernel) (fun c_51 => ?_) (fun c_51 => ?_)
        ·
          have i_51 : (lg_cmp u_wo 1000).toInt > 0 := g5_gt (a := (lg_cmp u_wo 1000).toInt) (b := 0) rfl (by decide +kernel) c_51
          refine lv_iconst (v := 0) hx hb dX12_readPart_45 (by decide +kernel) ?_
          refine lv_istore_n (lv' := [(2, .int 0), (1, .int z24), (0, .ref b_o)]) hx hb dX12_readPart_46 rfl hl (by decide +kernel) rfl ?_
          clear hl
          intro ls hl
          refine lv_aload_n hx hb dX12_readPart_47 rfl (lv_at hl 2 rfl) ?_
          refine lv_iload_n hx hb dX12_readPart_48 rfl (lv_at hl 1 rfl) ?_
          refine W.eq (g2 := F0 m 49 ls [.int z24, .ref b_o]) rfl ?_
          refine lv_iconst (v := (-1)) hx hb dX12_readPart_49 (by decide +kernel) ?_
          refine lv_icmp_ne (tgt := 57) hx hb dX12_readPart_50 (by decide +kernel) (fun c_52 => ?_) (fun c_52 => ?_)
          ·
            have n_52 : gNe (z24.toInt) ((-1)) := g5_ne (a := z24.toInt) (b := (-1)) rfl (by decide +kernel) c_52
            have i_52 : z24.toInt ≥ 0 := by have z := g5_ne (a := z24.toInt) (b := (-1)) (by rfl) (by decide +kernel) c_52; omega
            refine lv_iconst (v := 1) hx hb dX12_readPart_57 (by decide +kernel) ?_
            refine lv_goto (tgt := 62) hx hb dX12_readPart_58 (by decide +kernel) ?_
            refine lv_iload_n hx hb dX12_readPart_62 rfl (lv_at hl 1 rfl) ?_
            refine lv_iconst (v := (-1)) hx hb dX12_readPart_63 (by decide +kernel) ?_
            refine W.eq (g2 := F0 m 64 ls [.int (-1), .int z24, .int 1, .ref b_o]) rfl ?_
            refine lv_icmp_ne (tgt := 71) hx hb dX12_readPart_64 (by decide +kernel) (fun c_53 => ?_) (fun c_53 => ?_)
            ·
              have n_53 : gNe (z24.toInt) ((-1)) := g5_ne (a := z24.toInt) (b := (-1)) rfl (by decide +kernel) c_53
              refine lv_iload_n hx hb dX12_readPart_71 rfl (lv_at hl 1 rfl) ?_
              refine lv_iload_n hx hb dX12_readPart_72 rfl (lv_at hl 0 rfl) ?_
              refine lv_if_eq (tgt := 84) hx hb dX12_readPart_73 (by decide +kernel) (fun c_54 => ?_) (fun c_54 => ?_)
              ·
                refine lv_iconst (v := 0) hx hb dX12_readPart_84 (by decide +kernel) ?_
                have hlt9 : u_fr.toInt < u_to.toInt := tks_lt e_s (by omega)
                obtain ⟨hPc, hDc, hFc⟩ := g5_sub3 (wc := [(b_o, (oc12 u_th u_sa b_rf b_ro b_im b_ke u_fd b_tp u_td u_fr u_to u_so u_wo u_fa u_bd u_nc b_nl u_co b_op b_ar u_le b_pi b_pa u_pd u_od b_ws b_hw u_la b_se b_re u_bk u_va u_su u_ce u_ho u_wy u_bt u_ps b_pt u_tg u_sn b_ip u_ic b_ah b_be b_me u_wd b_tr b_ld u_st b_wn u_id)), (b_tp, (arI G 400 v_tp)), (b_op, (arI G 400 v_op)), (b_ar, (arI G 400 v_ar))]) hP hD hS hA [4, 5, 0, 1] (by decide +kernel) rfl
                refine va_callv (va_runV (As := [.int 1, .int z24, .int 0]) (rest := []) ⟨hx, hb, hml, hown, hts⟩ (n_leaf1X l G b_o b_tp b_op b_ar b_rf b_ro b_im b_ke b_nl b_pi b_pa b_ws b_hw b_se b_re b_pt b_ip b_ah b_be b_me b_tr b_ld b_wn H.size u_th u_sa u_fd u_td u_fr u_to u_so u_fa u_bd u_nc u_co u_le u_pd u_od u_la u_bk u_ce u_ho u_wy u_bt u_ps u_tg u_sn u_ic u_wd u_id z24 0 u_wo u_va u_su u_st v_tp v_op v_ar h_u_td h_u_fr h_u_to h_u_bd h_u_nc h_u_co h_u_pd h_u_la h_u_bk h_u_ce h_u_ho h_u_wy h_u_bt h_u_ps h_u_ic h_u_id ⟨by omega, by omega⟩ (by omega) (by omega) (by omega)) (cwV 3 hts gV_X12_279 rfl rfl rfl hv_X12_leaf ⟨Nat.le_of_ble_eq_true rfl, Nat.le_of_ble_eq_true rfl⟩) (g5_preV hPc hK hDc hN hT hS hFc (ci := 12) (q0 := 0) rfl rfl) rfl rfl hl.1 rfl (lv_room (Nat.le_of_ble_eq_true rfl)) dX12_readPart_85 ⟨Nat.le_of_ble_eq_true rfl, Nat.le_of_ble_eq_true rfl⟩) hS (fun q _ h => hFc q h) hFc (fun u t H locs ht hvm hw hB hz1 hk1 hS => ?_)
                obtain ⟨hP1, hD1⟩ := hB
                have hP1 := g5_ht ht hP1
                rcases hw with ⟨(i_55 : 50 ≤ u_le.toInt), rfl⟩ | ⟨z65, z66, z67, z68, z69, z70, (i_56 : 0 ≤ z65.toInt ∧ z65.toInt ≤ 400), (i_57 : 0 ≤ z66.toInt ∧ z66.toInt ≤ 400), (i_58 : 0 ≤ z69.toInt ∧ z69.toInt ≤ 400), (i_59 : u_to.toInt ≤ z65.toInt ∧ z65.toInt ≤ z66.toInt ∧ z66.toInt ≤ u_td.toInt), (i_60 : TKs z67.toInt z65.toInt z66.toInt), (i_61 : z69.toInt = u_co.toInt + 1), (i_62 : u_le.toInt < 50), (i_63 : z70.toInt = u_le.toInt + 1), (i_64 : TOKA v_tp u_td.toInt.toNat (skT v_tp u_td.toInt.toNat u_to.toInt.toNat) z65 z66 z67 z68), rfl⟩
                ·
                  have hJ9 := va_join (wr := [(b_pi, (arI G 400 v_pi)), (b_pa, (arI G 400 v_pa)), (b_ws, (arJ G 8 v_ws)), (b_hw, (arJ G 4 v_hw))]) hP hD [4, 5, 0, 1] [2, 3, 6, 7] rfl rfl (by decide +kernel) (by decide +kernel) hk1 hFc hP1 hD1
                  clear hP hD hPc hDc hFc ht hvm hz1 hk1 hP1 hD1
                  obtain ⟨hP, hD⟩ := hJ9
                  refine g5_rs [(b_pi, (arI G 400 v_pi)), (b_pa, (arI G 400 v_pa)), (b_ws, (arJ G 8 v_ws)), (b_hw, (arJ G 4 v_hw)), (b_o, (oc12 u_th u_sa b_rf b_ro b_im b_ke u_fd b_tp u_td u_fr u_to u_so u_wo u_fr 1 u_nc b_nl u_co b_op b_ar u_le b_pi b_pa u_pd u_od b_ws b_hw u_la b_se b_re u_bk u_va u_su u_ce u_ho u_wy u_bt u_ps b_pt u_tg u_sn b_ip u_ic b_ah b_be b_me u_wd b_tr b_ld u_st b_wn u_id)), (b_tp, (arI G 400 v_tp)), (b_op, (arI G 400 v_op)), (b_ar, (arI G 400 v_ar))] hP hD ?_
                  clear hP hD
                  intro hP hD
                  refine lv_iconst (v := 3) hx hb dX12_readPart_88 (by decide +kernel) ?_
                  exact W.iret (v := 3) hx hb hr (fun t ht hW => ⟨⟨3, [(b_o, (oc12 u_th u_sa b_rf b_ro b_im b_ke u_fd b_tp u_td u_fr u_to u_so u_wo u_fr 1 u_nc b_nl u_co b_op b_ar u_le b_pi b_pa u_pd u_od b_ws b_hw u_la b_se b_re u_bk u_va u_su u_ce u_ho u_wy u_bt u_ps b_pt u_tg u_sn b_ip u_ic b_ah b_be b_me u_wd b_tr b_ld u_st b_wn u_id)), (b_tp, (arI G 400 v_tp)), (b_op, (arI G 400 v_op)), (b_ar, (arI G 400 v_ar)), (b_pi, (arI G 400 v_pi)), (b_pa, (arI G 400 v_pa)), (b_ws, (arJ G 8 v_ws)), (b_hw, (arJ G 4 v_hw))], rfl, Or.inl (⟨3, ⟨by have zc_o_r : (3 : Int32).toInt = 3 := (by decide +kernel); omega, by have zc_o_r : (3 : Int32).toInt = 3 := (by decide +kernel); omega⟩, rq_t (rq_leafB hRC (rq1_st htt) hFD (fun q8 => i_2 ((tk_sign e_tp hTK (by decide +kernel) (by decide +kernel) (c := 91)).mp q8)) (lf_bad e_tp hTK i_23 (by have z9 : (0 : Int32).toInt = 0 := (by decide +kernel); first | omega | (unfold gNe at *; omega)))) (by decide +kernel), rfl, rfl⟩), by rw [ht]; exact hP.sub [4, 5, 6, 7, 0, 1, 2, 3] rfl, hD.sub [4, 5, 6, 7, 0, 1, 2, 3] (by decide +kernel) rfl⟩, hS.F ht⟩) hS.2.2 dX12_readPart_89
                ·
                  have hJ9 := va_join (wr := [(b_pi, (arI G 400 v_pi)), (b_pa, (arI G 400 v_pa)), (b_ws, (arJ G 8 v_ws)), (b_hw, (arJ G 4 v_hw))]) hP hD [4, 5, 0, 1] [2, 3, 6, 7] rfl rfl (by decide +kernel) (by decide +kernel) hk1 hFc hP1 hD1
                  clear hP hD hPc hDc hFc ht hvm hz1 hk1 hP1 hD1
                  obtain ⟨hP, hD⟩ := hJ9
                  refine g5_rs [(b_pi, (arI G 400 v_pi)), (b_pa, (arI G 400 v_pa)), (b_ws, (arJ G 8 v_ws)), (b_hw, (arJ G 4 v_hw)), (b_o, (oc12 u_th u_sa b_rf b_ro b_im b_ke u_fd b_tp u_td z65 z66 z67 z68 u_fa u_bd u_nc b_nl z69 b_op b_ar z70 b_pi b_pa u_pd u_od b_ws b_hw u_la b_se b_re u_bk u_va u_su u_ce u_ho u_wy u_bt u_ps b_pt u_tg u_sn b_ip u_ic b_ah b_be b_me u_wd b_tr b_ld u_st b_wn u_id)), (b_tp, (arI G 400 v_tp)), (b_op, (arI G 400 (upd v_op u_co.toNatClampNeg z24))), (b_ar, (arI G 400 (upd v_ar u_co.toNatClampNeg 0)))] hP hD ?_
                  clear hP hD
                  intro hP hD
                  refine lv_iconst (v := 3) hx hb dX12_readPart_88 (by decide +kernel) ?_
                  exact W.iret (v := 3) hx hb hr (fun t ht hW => ⟨⟨3, [(b_o, (oc12 u_th u_sa b_rf b_ro b_im b_ke u_fd b_tp u_td z65 z66 z67 z68 u_fa u_bd u_nc b_nl z69 b_op b_ar z70 b_pi b_pa u_pd u_od b_ws b_hw u_la b_se b_re u_bk u_va u_su u_ce u_ho u_wy u_bt u_ps b_pt u_tg u_sn b_ip u_ic b_ah b_be b_me u_wd b_tr b_ld u_st b_wn u_id)), (b_tp, (arI G 400 v_tp)), (b_op, (arI G 400 (upd v_op u_co.toNatClampNeg z24))), (b_ar, (arI G 400 (upd v_ar u_co.toNatClampNeg 0))), (b_pi, (arI G 400 v_pi)), (b_pa, (arI G 400 v_pa)), (b_ws, (arJ G 8 v_ws)), (b_hw, (arJ G 4 v_hw))], rfl, Or.inr (⟨3, z65, z66, z67, z68, z69, z70, u_pd, u_od, (upd v_op u_co.toNatClampNeg z24), (upd v_ar u_co.toNatClampNeg 0), v_pi, v_pa, i_56, i_57, i_58, h_u_pd, ⟨by have zc_o_r : (3 : Int32).toInt = 3 := (by decide +kernel); omega, by have zc_o_r : (3 : Int32).toInt = 3 := (by decide +kernel); omega⟩, by omega, i_60, xj_emit e_x (by omega) (by omega), tj_3 (hj_leaf e_x (tj_d0 e_j (Or.inr rfl)) (by omega) ⟨by omega, by omega⟩) (by decide +kernel), by have w9 := (twt_3 (by decide +kernel) : twt (3 : Int32).toInt = 2); omega, rq_t (rq_leaf hRC (rq1_st htt) hFD (lf_kind e_tp hTK i_23 (by omega)) (by omega) (lf_op e_tp hTK i_23 (by have z9 : (0 : Int32).toInt = 0 := (by decide +kernel); first | omega | (unfold gNe at *; omega))) (lf_arg0 e_tp hTK i_23 (by omega)) (toka_nx hTK i_64) (by omega) (by omega)) (by decide +kernel), rfl, rfl⟩), by rw [ht]; exact hP.sub [4, 5, 6, 7, 0, 1, 2, 3] rfl, hD.sub [4, 5, 6, 7, 0, 1, 2, 3] (by decide +kernel) rfl⟩, hS.F ht⟩) hS.2.2 dX12_readPart_89
              ·
                exact absurd c_54 (by decide +kernel)
            ·
              have i_53 : z24.toInt = (-1) := g5_neN (a := z24.toInt) (b := (-1)) rfl (by decide +kernel) c_53
              omega
          ·
            have i_52 : z24.toInt = (-1) := g5_neN (a := z24.toInt) (b := (-1)) rfl (by decide +kernel) c_52
            refine lv_iload_n hx hb dX12_readPart_53 rfl (lv_at hl 0 rfl) ?_
            refine lv_if_eq (tgt := 61) hx hb dX12_readPart_54 (by decide +kernel) (fun c_71 => ?_) (fun c_71 => ?_)
            ·
              refine lv_iconst (v := 0) hx hb dX12_readPart_61 (by decide +kernel) ?_
              refine lv_iload_n hx hb dX12_readPart_62 rfl (lv_at hl 1 rfl) ?_
              refine lv_iconst (v := (-1)) hx hb dX12_readPart_63 (by decide +kernel) ?_
              refine lv_icmp_ne (tgt := 71) hx hb dX12_readPart_64 (by decide +kernel) (fun c_72 => ?_) (fun c_72 => ?_)
              ·
                have i_72 : z24.toInt ≠ (-1) := g5_ne (a := z24.toInt) (b := (-1)) rfl (by decide +kernel) c_72
                omega
              ·
                have i_72 : z24.toInt = (-1) := g5_neN (a := z24.toInt) (b := (-1)) rfl (by decide +kernel) c_72
                refine lv_iconst (v := 0) hx hb dX12_readPart_67 (by decide +kernel) ?_
                refine lv_goto (tgt := 72) hx hb dX12_readPart_68 (by decide +kernel) ?_
                refine lv_iload_n hx hb dX12_readPart_72 rfl (lv_at hl 0 rfl) ?_
                refine lv_if_eq (tgt := 84) hx hb dX12_readPart_73 (by decide +kernel) (fun c_73 => ?_) (fun c_73 => ?_)
                ·
                  refine lv_iconst (v := 0) hx hb dX12_readPart_84 (by decide +kernel) ?_
                  obtain ⟨hPc, hDc, hFc⟩ := g5_sub3 (wc := [(b_o, (oc12 u_th u_sa b_rf b_ro b_im b_ke u_fd b_tp u_td u_fr u_to u_so u_wo u_fa u_bd u_nc b_nl u_co b_op b_ar u_le b_pi b_pa u_pd u_od b_ws b_hw u_la b_se b_re u_bk u_va u_su u_ce u_ho u_wy u_bt u_ps b_pt u_tg u_sn b_ip u_ic b_ah b_be b_me u_wd b_tr b_ld u_st b_wn u_id)), (b_tp, (arI G 400 v_tp)), (b_op, (arI G 400 v_op)), (b_ar, (arI G 400 v_ar))]) hP hD hS hA [4, 5, 0, 1] (by decide +kernel) rfl
                  refine va_callv (va_runV (As := [.int 0, .int 0, .int 0]) (rest := []) ⟨hx, hb, hml, hown, hts⟩ (n_leaf0 l G b_o b_tp b_op b_ar b_rf b_ro b_im b_ke b_nl b_pi b_pa b_ws b_hw b_se b_re b_pt b_ip b_ah b_be b_me b_tr b_ld b_wn H.size u_th u_sa u_fd u_td u_fr u_to u_so u_fa u_bd u_nc u_co u_le u_pd u_od u_la u_bk u_ce u_ho u_wy u_bt u_ps u_tg u_sn u_ic u_wd u_id 0 0 u_wo u_va u_su u_st v_tp v_op v_ar h_u_td h_u_fr h_u_to h_u_bd h_u_nc h_u_co h_u_pd h_u_la h_u_bk h_u_ce h_u_ho h_u_wy h_u_bt h_u_ps h_u_ic h_u_id ⟨by decide, by decide⟩) (cwV 3 hts gV_X12_279 rfl rfl rfl hv_X12_leaf ⟨Nat.le_of_ble_eq_true rfl, Nat.le_of_ble_eq_true rfl⟩) (g5_preV hPc hK hDc hN hT hS hFc (ci := 12) (q0 := 0) rfl rfl) rfl rfl hl.1 rfl (lv_room (Nat.le_of_ble_eq_true rfl)) dX12_readPart_85 ⟨Nat.le_of_ble_eq_true rfl, Nat.le_of_ble_eq_true rfl⟩) hS (fun q _ h => hFc q h) hFc (fun u t H locs ht hvm hw hB hz1 hk1 hS => ?_)
                  obtain ⟨hP1, hD1⟩ := hB
                  have hP1 := g5_ht ht hP1
                  obtain rfl := hw
                  have hJ9 := va_join (wr := [(b_pi, (arI G 400 v_pi)), (b_pa, (arI G 400 v_pa)), (b_ws, (arJ G 8 v_ws)), (b_hw, (arJ G 4 v_hw))]) hP hD [4, 5, 0, 1] [2, 3, 6, 7] rfl rfl (by decide +kernel) (by decide +kernel) hk1 hFc hP1 hD1
                  clear hP hD hPc hDc hFc ht hvm hz1 hk1 hP1 hD1
                  obtain ⟨hP, hD⟩ := hJ9
                  refine g5_rs [(b_pi, (arI G 400 v_pi)), (b_pa, (arI G 400 v_pa)), (b_ws, (arJ G 8 v_ws)), (b_hw, (arJ G 4 v_hw)), (b_o, (oc12 u_th u_sa b_rf b_ro b_im b_ke u_fd b_tp u_td u_fr u_to u_so u_wo u_fr 1 u_nc b_nl u_co b_op b_ar u_le b_pi b_pa u_pd u_od b_ws b_hw u_la b_se b_re u_bk u_va u_su u_ce u_ho u_wy u_bt u_ps b_pt u_tg u_sn b_ip u_ic b_ah b_be b_me u_wd b_tr b_ld u_st b_wn u_id)), (b_tp, (arI G 400 v_tp)), (b_op, (arI G 400 v_op)), (b_ar, (arI G 400 v_ar))] hP hD ?_
                  clear hP hD
                  intro hP hD
                  refine lv_iconst (v := 3) hx hb dX12_readPart_88 (by decide +kernel) ?_
                  exact W.iret (v := 3) hx hb hr (fun t ht hW => ⟨⟨3, [(b_o, (oc12 u_th u_sa b_rf b_ro b_im b_ke u_fd b_tp u_td u_fr u_to u_so u_wo u_fr 1 u_nc b_nl u_co b_op b_ar u_le b_pi b_pa u_pd u_od b_ws b_hw u_la b_se b_re u_bk u_va u_su u_ce u_ho u_wy u_bt u_ps b_pt u_tg u_sn b_ip u_ic b_ah b_be b_me u_wd b_tr b_ld u_st b_wn u_id)), (b_tp, (arI G 400 v_tp)), (b_op, (arI G 400 v_op)), (b_ar, (arI G 400 v_ar)), (b_pi, (arI G 400 v_pi)), (b_pa, (arI G 400 v_pa)), (b_ws, (arJ G 8 v_ws)), (b_hw, (arJ G 4 v_hw))], rfl, Or.inl (⟨3, ⟨by have zc_o_r : (3 : Int32).toInt = 3 := (by decide +kernel); omega, by have zc_o_r : (3 : Int32).toInt = 3 := (by decide +kernel); omega⟩, rq_t (rq_leafB hRC (rq1_st htt) hFD (fun q8 => i_2 ((tk_sign e_tp hTK (by decide +kernel) (by decide +kernel) (c := 91)).mp q8)) (lf_bad e_tp hTK i_23 (by have z9 : (0 : Int32).toInt = 0 := (by decide +kernel); first | omega | (unfold gNe at *; omega)))) (by decide +kernel), rfl, rfl⟩), by rw [ht]; exact hP.sub [4, 5, 6, 7, 0, 1, 2, 3] rfl, hD.sub [4, 5, 6, 7, 0, 1, 2, 3] (by decide +kernel) rfl⟩, hS.F ht⟩) hS.2.2 dX12_readPart_89
                ·
                  exact absurd c_73 (by decide +kernel)
            ·
              exact absurd c_71 (by decide +kernel)
        ·
          have i_51 : (lg_cmp u_wo 1000).toInt ≤ 0 := g5_gtN (a := (lg_cmp u_wo 1000).toInt) (b := 0) rfl (by decide +kernel) c_51
          refine lv_iconst (v := 1) hx hb dX12_readPart_41 (by decide +kernel) ?_
          refine lv_goto (tgt := 46) hx hb dX12_readPart_42 (by decide +kernel) ?_
          refine lv_istore_n (lv' := [(2, .int 1), (1, .int z24), (0, .ref b_o)]) hx hb dX12_readPart_46 rfl hl (by decide +kernel) rfl ?_
          clear hl
          intro ls hl
          refine lv_aload_n hx hb dX12_readPart_47 rfl (lv_at hl 2 rfl) ?_
          refine W.eq (g2 := F0 m 48 ls [.ref b_o]) rfl ?_
          refine lv_iload_n hx hb dX12_readPart_48 rfl (lv_at hl 1 rfl) ?_
          refine lv_iconst (v := (-1)) hx hb dX12_readPart_49 (by decide +kernel) ?_
          refine lv_icmp_ne (tgt := 57) hx hb dX12_readPart_50 (by decide +kernel) (fun c_74 => ?_) (fun c_74 => ?_)
          ·
            have n_74 : gNe (z24.toInt) ((-1)) := g5_ne (a := z24.toInt) (b := (-1)) rfl (by decide +kernel) c_74
            have i_74 : z24.toInt ≥ 0 := by have z := g5_ne (a := z24.toInt) (b := (-1)) (by rfl) (by decide +kernel) c_74; omega
            refine lv_iconst (v := 1) hx hb dX12_readPart_57 (by decide +kernel) ?_
            refine lv_goto (tgt := 62) hx hb dX12_readPart_58 (by decide +kernel) ?_
            refine lv_iload_n hx hb dX12_readPart_62 rfl (lv_at hl 1 rfl) ?_
            refine lv_iconst (v := (-1)) hx hb dX12_readPart_63 (by decide +kernel) ?_
            refine W.eq (g2 := F0 m 64 ls [.int (-1), .int z24, .int 1, .ref b_o]) rfl ?_
            refine lv_icmp_ne (tgt := 71) hx hb dX12_readPart_64 (by decide +kernel) (fun c_75 => ?_) (fun c_75 => ?_)
            ·
              have n_75 : gNe (z24.toInt) ((-1)) := g5_ne (a := z24.toInt) (b := (-1)) rfl (by decide +kernel) c_75
              refine lv_iload_n hx hb dX12_readPart_71 rfl (lv_at hl 1 rfl) ?_
              refine lv_iload_n hx hb dX12_readPart_72 rfl (lv_at hl 0 rfl) ?_
              refine lv_if_eq (tgt := 84) hx hb dX12_readPart_73 (by decide +kernel) (fun c_76 => ?_) (fun c_76 => ?_)
              ·
                exact absurd c_76 (by decide +kernel)
              ·
                refine lv_aload_n hx hb dX12_readPart_76 rfl (lv_at hl 2 rfl) ?_
                refine va_get (D := G.1) (ci := 12) (v := .long u_wo) (C := RX12) (T := TX12) (N := 52) hx hb hts inG_X12 hown hK hP 4 rfl rfl 12 (by decide +kernel) (hts _ fl_X12_214) (fun _ h9 => h9) rfl dX12_readPart_77 ?_
                refine lv_l2i (v := u_wo.toInt32) hx hb dX12_readPart_80 rfl ?_
                refine lv_goto (tgt := 85) hx hb dX12_readPart_81 (by decide +kernel) ?_
                have hlt9 : u_fr.toInt < u_to.toInt := tks_lt e_s (by omega)
                refine W.eq (g2 := F0 m 85 ls [.int u_wo.toInt32, .int z24, .int 1, .ref b_o]) rfl ?_
                obtain ⟨hPc, hDc, hFc⟩ := g5_sub3 (wc := [(b_o, (oc12 u_th u_sa b_rf b_ro b_im b_ke u_fd b_tp u_td u_fr u_to u_so u_wo u_fa u_bd u_nc b_nl u_co b_op b_ar u_le b_pi b_pa u_pd u_od b_ws b_hw u_la b_se b_re u_bk u_va u_su u_ce u_ho u_wy u_bt u_ps b_pt u_tg u_sn b_ip u_ic b_ah b_be b_me u_wd b_tr b_ld u_st b_wn u_id)), (b_tp, (arI G 400 v_tp)), (b_op, (arI G 400 v_op)), (b_ar, (arI G 400 v_ar))]) hP hD hS hA [4, 5, 0, 1] (by decide +kernel) rfl
                refine va_callv (va_runV (As := [.int 1, .int z24, .int u_wo.toInt32]) (rest := []) ⟨hx, hb, hml, hown, hts⟩ (n_leaf1X l G b_o b_tp b_op b_ar b_rf b_ro b_im b_ke b_nl b_pi b_pa b_ws b_hw b_se b_re b_pt b_ip b_ah b_be b_me b_tr b_ld b_wn H.size u_th u_sa u_fd u_td u_fr u_to u_so u_fa u_bd u_nc u_co u_le u_pd u_od u_la u_bk u_ce u_ho u_wy u_bt u_ps u_tg u_sn u_ic u_wd u_id z24 u_wo.toInt32 u_wo u_va u_su u_st v_tp v_op v_ar h_u_td h_u_fr h_u_to h_u_bd h_u_nc h_u_co h_u_pd h_u_la h_u_bk h_u_ce h_u_ho h_u_wy h_u_bt h_u_ps h_u_ic h_u_id ⟨by omega, by omega⟩ (by omega) (by omega) (by omega)) (cwV 3 hts gV_X12_279 rfl rfl rfl hv_X12_leaf ⟨Nat.le_of_ble_eq_true rfl, Nat.le_of_ble_eq_true rfl⟩) (g5_preV hPc hK hDc hN hT hS hFc (ci := 12) (q0 := 0) rfl rfl) rfl rfl hl.1 rfl (lv_room (Nat.le_of_ble_eq_true rfl)) dX12_readPart_85 ⟨Nat.le_of_ble_eq_true rfl, Nat.le_of_ble_eq_true rfl⟩) hS (fun q _ h => hFc q h) hFc (fun u t H locs ht hvm hw hB hz1 hk1 hS => ?_)
                obtain ⟨hP1, hD1⟩ := hB
                have hP1 := g5_ht ht hP1
                rcases hw with ⟨(i_77 : 50 ≤ u_le.toInt), rfl⟩ | ⟨z87, z88, z89, z90, z91, z92, (i_78 : 0 ≤ z87.toInt ∧ z87.toInt ≤ 400), (i_79 : 0 ≤ z88.toInt ∧ z88.toInt ≤ 400), (i_80 : 0 ≤ z91.toInt ∧ z91.toInt ≤ 400), (i_81 : u_to.toInt ≤ z87.toInt ∧ z87.toInt ≤ z88.toInt ∧ z88.toInt ≤ u_td.toInt), (i_82 : TKs z89.toInt z87.toInt z88.toInt), (i_83 : z91.toInt = u_co.toInt + 1), (i_84 : u_le.toInt < 50), (i_85 : z92.toInt = u_le.toInt + 1), (i_86 : TOKA v_tp u_td.toInt.toNat (skT v_tp u_td.toInt.toNat u_to.toInt.toNat) z87 z88 z89 z90), rfl⟩
                ·
                  have hJ9 := va_join (wr := [(b_pi, (arI G 400 v_pi)), (b_pa, (arI G 400 v_pa)), (b_ws, (arJ G 8 v_ws)), (b_hw, (arJ G 4 v_hw))]) hP hD [4, 5, 0, 1] [2, 3, 6, 7] rfl rfl (by decide +kernel) (by decide +kernel) hk1 hFc hP1 hD1
                  clear hP hD hPc hDc hFc ht hvm hz1 hk1 hP1 hD1
                  obtain ⟨hP, hD⟩ := hJ9
                  refine g5_rs [(b_pi, (arI G 400 v_pi)), (b_pa, (arI G 400 v_pa)), (b_ws, (arJ G 8 v_ws)), (b_hw, (arJ G 4 v_hw)), (b_o, (oc12 u_th u_sa b_rf b_ro b_im b_ke u_fd b_tp u_td u_fr u_to u_so u_wo u_fr 1 u_nc b_nl u_co b_op b_ar u_le b_pi b_pa u_pd u_od b_ws b_hw u_la b_se b_re u_bk u_va u_su u_ce u_ho u_wy u_bt u_ps b_pt u_tg u_sn b_ip u_ic b_ah b_be b_me u_wd b_tr b_ld u_st b_wn u_id)), (b_tp, (arI G 400 v_tp)), (b_op, (arI G 400 v_op)), (b_ar, (arI G 400 v_ar))] hP hD ?_
                  clear hP hD
                  intro hP hD
                  refine lv_iconst (v := 3) hx hb dX12_readPart_88 (by decide +kernel) ?_
                  exact W.iret (v := 3) hx hb hr (fun t ht hW => ⟨⟨3, [(b_o, (oc12 u_th u_sa b_rf b_ro b_im b_ke u_fd b_tp u_td u_fr u_to u_so u_wo u_fr 1 u_nc b_nl u_co b_op b_ar u_le b_pi b_pa u_pd u_od b_ws b_hw u_la b_se b_re u_bk u_va u_su u_ce u_ho u_wy u_bt u_ps b_pt u_tg u_sn b_ip u_ic b_ah b_be b_me u_wd b_tr b_ld u_st b_wn u_id)), (b_tp, (arI G 400 v_tp)), (b_op, (arI G 400 v_op)), (b_ar, (arI G 400 v_ar)), (b_pi, (arI G 400 v_pi)), (b_pa, (arI G 400 v_pa)), (b_ws, (arJ G 8 v_ws)), (b_hw, (arJ G 4 v_hw))], rfl, Or.inl (⟨3, ⟨by have zc_o_r : (3 : Int32).toInt = 3 := (by decide +kernel); omega, by have zc_o_r : (3 : Int32).toInt = 3 := (by decide +kernel); omega⟩, rq_t (rq_leafB hRC (rq1_st htt) hFD (fun q8 => i_2 ((tk_sign e_tp hTK (by decide +kernel) (by decide +kernel) (c := 91)).mp q8)) (lf_bad e_tp hTK i_23 (by have z9 : (0 : Int32).toInt = 0 := (by decide +kernel); first | omega | (unfold gNe at *; omega)))) (by decide +kernel), rfl, rfl⟩), by rw [ht]; exact hP.sub [4, 5, 6, 7, 0, 1, 2, 3] rfl, hD.sub [4, 5, 6, 7, 0, 1, 2, 3] (by decide +kernel) rfl⟩, hS.F ht⟩) hS.2.2 dX12_readPart_89
                ·
                  have hJ9 := va_join (wr := [(b_pi, (arI G 400 v_pi)), (b_pa, (arI G 400 v_pa)), (b_ws, (arJ G 8 v_ws)), (b_hw, (arJ G 4 v_hw))]) hP hD [4, 5, 0, 1] [2, 3, 6, 7] rfl rfl (by decide +kernel) (by decide +kernel) hk1 hFc hP1 hD1
                  clear hP hD hPc hDc hFc ht hvm hz1 hk1 hP1 hD1
                  obtain ⟨hP, hD⟩ := hJ9
                  refine g5_rs [(b_pi, (arI G 400 v_pi)), (b_pa, (arI G 400 v_pa)), (b_ws, (arJ G 8 v_ws)), (b_hw, (arJ G 4 v_hw)), (b_o, (oc12 u_th u_sa b_rf b_ro b_im b_ke u_fd b_tp u_td z87 z88 z89 z90 u_fa u_bd u_nc b_nl z91 b_op b_ar z92 b_pi b_pa u_pd u_od b_ws b_hw u_la b_se b_re u_bk u_va u_su u_ce u_ho u_wy u_bt u_ps b_pt u_tg u_sn b_ip u_ic b_ah b_be b_me u_wd b_tr b_ld u_st b_wn u_id)), (b_tp, (arI G 400 v_tp)), (b_op, (arI G 400 (upd v_op u_co.toNatClampNeg z24))), (b_ar, (arI G 400 (upd v_ar u_co.toNatClampNeg u_wo.toInt32)))] hP hD ?_
                  clear hP hD
                  intro hP hD
                  refine lv_iconst (v := 3) hx hb dX12_readPart_88 (by decide +kernel) ?_
                  exact W.iret (v := 3) hx hb hr (fun t ht hW => ⟨⟨3, [(b_o, (oc12 u_th u_sa b_rf b_ro b_im b_ke u_fd b_tp u_td z87 z88 z89 z90 u_fa u_bd u_nc b_nl z91 b_op b_ar z92 b_pi b_pa u_pd u_od b_ws b_hw u_la b_se b_re u_bk u_va u_su u_ce u_ho u_wy u_bt u_ps b_pt u_tg u_sn b_ip u_ic b_ah b_be b_me u_wd b_tr b_ld u_st b_wn u_id)), (b_tp, (arI G 400 v_tp)), (b_op, (arI G 400 (upd v_op u_co.toNatClampNeg z24))), (b_ar, (arI G 400 (upd v_ar u_co.toNatClampNeg u_wo.toInt32))), (b_pi, (arI G 400 v_pi)), (b_pa, (arI G 400 v_pa)), (b_ws, (arJ G 8 v_ws)), (b_hw, (arJ G 4 v_hw))], rfl, Or.inr (⟨3, z87, z88, z89, z90, z91, z92, u_pd, u_od, (upd v_op u_co.toNatClampNeg z24), (upd v_ar u_co.toNatClampNeg u_wo.toInt32), v_pi, v_pa, i_78, i_79, i_80, h_u_pd, ⟨by have zc_o_r : (3 : Int32).toInt = 3 := (by decide +kernel); omega, by have zc_o_r : (3 : Int32).toInt = 3 := (by decide +kernel); omega⟩, by omega, i_82, xj_emit e_x (by omega) (by omega), tj_3 (hj_leaf e_x (tj_d0 e_j (Or.inr rfl)) (by omega) ⟨by omega, by omega⟩) (by decide +kernel), by have w9 := (twt_3 (by decide +kernel) : twt (3 : Int32).toInt = 2); omega, rq_t (rq_leaf hRC (rq1_st htt) hFD (lf_kind e_tp hTK i_23 (by omega)) (by omega) (lf_op e_tp hTK i_23 (by have z9 : (0 : Int32).toInt = 0 := (by decide +kernel); first | omega | (unfold gNe at *; omega))) (lf_argN e_tp hTK (by omega)) (toka_nx hTK i_86) (by omega) (by omega)) (by decide +kernel), rfl, rfl⟩), by rw [ht]; exact hP.sub [4, 5, 6, 7, 0, 1, 2, 3] rfl, hD.sub [4, 5, 6, 7, 0, 1, 2, 3] (by decide +kernel) rfl⟩, hS.F ht⟩) hS.2.2 dX12_readPart_89
            ·
              have i_75 : z24.toInt = (-1) := g5_neN (a := z24.toInt) (b := (-1)) rfl (by decide +kernel) c_75
              omega
          ·
            have i_74 : z24.toInt = (-1) := g5_neN (a := z24.toInt) (b := (-1)) rfl (by decide +kernel) c_74
            refine lv_iload_n hx hb dX12_readPart_53 rfl (lv_at hl 0 rfl) ?_
            refine lv_if_eq (tgt := 61) hx hb dX12_readPart_54 (by decide +kernel) (fun c_93 => ?_) (fun c_93 => ?_)
            ·
              exact absurd c_93 (by decide +kernel)
            ·
              refine lv_iconst (v := 1) hx hb dX12_readPart_57 (by decide +kernel) ?_
              refine lv_goto (tgt := 62) hx hb dX12_readPart_58 (by decide +kernel) ?_
              refine lv_iload_n hx hb dX12_readPart_62 rfl (lv_at hl 1 rfl) ?_
              refine lv_iconst (v := (-1)) hx hb dX12_readPart_63 (by decide +kernel) ?_
              refine W.eq (g2 := F0 m 64 ls [.int (-1), .int z24, .int 1, .ref b_o]) rfl ?_
              refine lv_icmp_ne (tgt := 71) hx hb dX12_readPart_64 (by decide +kernel) (fun c_94 => ?_) (fun c_94 => ?_)
              ·
                have i_94 : z24.toInt ≠ (-1) := g5_ne (a := z24.toInt) (b := (-1)) rfl (by decide +kernel) c_94
                omega
              ·
                have i_94 : z24.toInt = (-1) := g5_neN (a := z24.toInt) (b := (-1)) rfl (by decide +kernel) c_94
                refine lv_iconst (v := 0) hx hb dX12_readPart_67 (by decide +kernel) ?_
                refine lv_goto (tgt := 72) hx hb dX12_readPart_68 (by decide +kernel) ?_
                refine lv_iload_n hx hb dX12_readPart_72 rfl (lv_at hl 0 rfl) ?_
                refine lv_if_eq (tgt := 84) hx hb dX12_readPart_73 (by decide +kernel) (fun c_95 => ?_) (fun c_95 => ?_)
                ·
                  exact absurd c_95 (by decide +kernel)
                ·
                  refine lv_aload_n hx hb dX12_readPart_76 rfl (lv_at hl 2 rfl) ?_
                  refine va_get (D := G.1) (ci := 12) (v := .long u_wo) (C := RX12) (T := TX12) (N := 52) hx hb hts inG_X12 hown hK hP 4 rfl rfl 12 (by decide +kernel) (hts _ fl_X12_214) (fun _ h9 => h9) rfl dX12_readPart_77 ?_
                  refine lv_l2i (v := u_wo.toInt32) hx hb dX12_readPart_80 rfl ?_
                  refine lv_goto (tgt := 85) hx hb dX12_readPart_81 (by decide +kernel) ?_
                  have hlt9 : u_fr.toInt < u_to.toInt := tks_lt e_s (by omega)
                  refine W.eq (g2 := F0 m 85 ls [.int u_wo.toInt32, .int 0, .int 1, .ref b_o]) rfl ?_
                  obtain ⟨hPc, hDc, hFc⟩ := g5_sub3 (wc := [(b_o, (oc12 u_th u_sa b_rf b_ro b_im b_ke u_fd b_tp u_td u_fr u_to u_so u_wo u_fa u_bd u_nc b_nl u_co b_op b_ar u_le b_pi b_pa u_pd u_od b_ws b_hw u_la b_se b_re u_bk u_va u_su u_ce u_ho u_wy u_bt u_ps b_pt u_tg u_sn b_ip u_ic b_ah b_be b_me u_wd b_tr b_ld u_st b_wn u_id)), (b_tp, (arI G 400 v_tp)), (b_op, (arI G 400 v_op)), (b_ar, (arI G 400 v_ar))]) hP hD hS hA [4, 5, 0, 1] (by decide +kernel) rfl
                  refine va_callv (va_runV (As := [.int 1, .int 0, .int u_wo.toInt32]) (rest := []) ⟨hx, hb, hml, hown, hts⟩ (n_leaf1X l G b_o b_tp b_op b_ar b_rf b_ro b_im b_ke b_nl b_pi b_pa b_ws b_hw b_se b_re b_pt b_ip b_ah b_be b_me b_tr b_ld b_wn H.size u_th u_sa u_fd u_td u_fr u_to u_so u_fa u_bd u_nc u_co u_le u_pd u_od u_la u_bk u_ce u_ho u_wy u_bt u_ps u_tg u_sn u_ic u_wd u_id 0 u_wo.toInt32 u_wo u_va u_su u_st v_tp v_op v_ar h_u_td h_u_fr h_u_to h_u_bd h_u_nc h_u_co h_u_pd h_u_la h_u_bk h_u_ce h_u_ho h_u_wy h_u_bt h_u_ps h_u_ic h_u_id ⟨by decide, by decide⟩ (by omega) (by omega) (by omega)) (cwV 3 hts gV_X12_279 rfl rfl rfl hv_X12_leaf ⟨Nat.le_of_ble_eq_true rfl, Nat.le_of_ble_eq_true rfl⟩) (g5_preV hPc hK hDc hN hT hS hFc (ci := 12) (q0 := 0) rfl rfl) rfl rfl hl.1 rfl (lv_room (Nat.le_of_ble_eq_true rfl)) dX12_readPart_85 ⟨Nat.le_of_ble_eq_true rfl, Nat.le_of_ble_eq_true rfl⟩) hS (fun q _ h => hFc q h) hFc (fun u t H locs ht hvm hw hB hz1 hk1 hS => ?_)
                  obtain ⟨hP1, hD1⟩ := hB
                  have hP1 := g5_ht ht hP1
                  rcases hw with ⟨(i_96 : 50 ≤ u_le.toInt), rfl⟩ | ⟨z106, z107, z108, z109, z110, z111, (i_97 : 0 ≤ z106.toInt ∧ z106.toInt ≤ 400), (i_98 : 0 ≤ z107.toInt ∧ z107.toInt ≤ 400), (i_99 : 0 ≤ z110.toInt ∧ z110.toInt ≤ 400), (i_100 : u_to.toInt ≤ z106.toInt ∧ z106.toInt ≤ z107.toInt ∧ z107.toInt ≤ u_td.toInt), (i_101 : TKs z108.toInt z106.toInt z107.toInt), (i_102 : z110.toInt = u_co.toInt + 1), (i_103 : u_le.toInt < 50), (i_104 : z111.toInt = u_le.toInt + 1), (i_105 : TOKA v_tp u_td.toInt.toNat (skT v_tp u_td.toInt.toNat u_to.toInt.toNat) z106 z107 z108 z109), rfl⟩
                  ·
                    have hJ9 := va_join (wr := [(b_pi, (arI G 400 v_pi)), (b_pa, (arI G 400 v_pa)), (b_ws, (arJ G 8 v_ws)), (b_hw, (arJ G 4 v_hw))]) hP hD [4, 5, 0, 1] [2, 3, 6, 7] rfl rfl (by decide +kernel) (by decide +kernel) hk1 hFc hP1 hD1
                    clear hP hD hPc hDc hFc ht hvm hz1 hk1 hP1 hD1
                    obtain ⟨hP, hD⟩ := hJ9
                    refine g5_rs [(b_pi, (arI G 400 v_pi)), (b_pa, (arI G 400 v_pa)), (b_ws, (arJ G 8 v_ws)), (b_hw, (arJ G 4 v_hw)), (b_o, (oc12 u_th u_sa b_rf b_ro b_im b_ke u_fd b_tp u_td u_fr u_to u_so u_wo u_fr 1 u_nc b_nl u_co b_op b_ar u_le b_pi b_pa u_pd u_od b_ws b_hw u_la b_se b_re u_bk u_va u_su u_ce u_ho u_wy u_bt u_ps b_pt u_tg u_sn b_ip u_ic b_ah b_be b_me u_wd b_tr b_ld u_st b_wn u_id)), (b_tp, (arI G 400 v_tp)), (b_op, (arI G 400 v_op)), (b_ar, (arI G 400 v_ar))] hP hD ?_
                    clear hP hD
                    intro hP hD
                    refine lv_iconst (v := 3) hx hb dX12_readPart_88 (by decide +kernel) ?_
                    exact W.iret (v := 3) hx hb hr (fun t ht hW => ⟨⟨3, [(b_o, (oc12 u_th u_sa b_rf b_ro b_im b_ke u_fd b_tp u_td u_fr u_to u_so u_wo u_fr 1 u_nc b_nl u_co b_op b_ar u_le b_pi b_pa u_pd u_od b_ws b_hw u_la b_se b_re u_bk u_va u_su u_ce u_ho u_wy u_bt u_ps b_pt u_tg u_sn b_ip u_ic b_ah b_be b_me u_wd b_tr b_ld u_st b_wn u_id)), (b_tp, (arI G 400 v_tp)), (b_op, (arI G 400 v_op)), (b_ar, (arI G 400 v_ar)), (b_pi, (arI G 400 v_pi)), (b_pa, (arI G 400 v_pa)), (b_ws, (arJ G 8 v_ws)), (b_hw, (arJ G 4 v_hw))], rfl, Or.inl (⟨3, ⟨by have zc_o_r : (3 : Int32).toInt = 3 := (by decide +kernel); omega, by have zc_o_r : (3 : Int32).toInt = 3 := (by decide +kernel); omega⟩, rq_t (rq_leafB hRC (rq1_st htt) hFD (fun q8 => i_2 ((tk_sign e_tp hTK (by decide +kernel) (by decide +kernel) (c := 91)).mp q8)) (lf_bad e_tp hTK i_23 (by have z9 : (0 : Int32).toInt = 0 := (by decide +kernel); first | omega | (unfold gNe at *; omega)))) (by decide +kernel), rfl, rfl⟩), by rw [ht]; exact hP.sub [4, 5, 6, 7, 0, 1, 2, 3] rfl, hD.sub [4, 5, 6, 7, 0, 1, 2, 3] (by decide +kernel) rfl⟩, hS.F ht⟩) hS.2.2 dX12_readPart_89
                  ·
                    have hJ9 := va_join (wr := [(b_pi, (arI G 400 v_pi)), (b_pa, (arI G 400 v_pa)), (b_ws, (arJ G 8 v_ws)), (b_hw, (arJ G 4 v_hw))]) hP hD [4, 5, 0, 1] [2, 3, 6, 7] rfl rfl (by decide +kernel) (by decide +kernel) hk1 hFc hP1 hD1
                    clear hP hD hPc hDc hFc ht hvm hz1 hk1 hP1 hD1
                    obtain ⟨hP, hD⟩ := hJ9
                    refine g5_rs [(b_pi, (arI G 400 v_pi)), (b_pa, (arI G 400 v_pa)), (b_ws, (arJ G 8 v_ws)), (b_hw, (arJ G 4 v_hw)), (b_o, (oc12 u_th u_sa b_rf b_ro b_im b_ke u_fd b_tp u_td z106 z107 z108 z109 u_fa u_bd u_nc b_nl z110 b_op b_ar z111 b_pi b_pa u_pd u_od b_ws b_hw u_la b_se b_re u_bk u_va u_su u_ce u_ho u_wy u_bt u_ps b_pt u_tg u_sn b_ip u_ic b_ah b_be b_me u_wd b_tr b_ld u_st b_wn u_id)), (b_tp, (arI G 400 v_tp)), (b_op, (arI G 400 (upd v_op u_co.toNatClampNeg 0))), (b_ar, (arI G 400 (upd v_ar u_co.toNatClampNeg u_wo.toInt32)))] hP hD ?_
                    clear hP hD
                    intro hP hD
                    refine lv_iconst (v := 3) hx hb dX12_readPart_88 (by decide +kernel) ?_
                    exact W.iret (v := 3) hx hb hr (fun t ht hW => ⟨⟨3, [(b_o, (oc12 u_th u_sa b_rf b_ro b_im b_ke u_fd b_tp u_td z106 z107 z108 z109 u_fa u_bd u_nc b_nl z110 b_op b_ar z111 b_pi b_pa u_pd u_od b_ws b_hw u_la b_se b_re u_bk u_va u_su u_ce u_ho u_wy u_bt u_ps b_pt u_tg u_sn b_ip u_ic b_ah b_be b_me u_wd b_tr b_ld u_st b_wn u_id)), (b_tp, (arI G 400 v_tp)), (b_op, (arI G 400 (upd v_op u_co.toNatClampNeg 0))), (b_ar, (arI G 400 (upd v_ar u_co.toNatClampNeg u_wo.toInt32))), (b_pi, (arI G 400 v_pi)), (b_pa, (arI G 400 v_pa)), (b_ws, (arJ G 8 v_ws)), (b_hw, (arJ G 4 v_hw))], rfl, Or.inr (⟨3, z106, z107, z108, z109, z110, z111, u_pd, u_od, (upd v_op u_co.toNatClampNeg 0), (upd v_ar u_co.toNatClampNeg u_wo.toInt32), v_pi, v_pa, i_97, i_98, i_99, h_u_pd, ⟨by have zc_o_r : (3 : Int32).toInt = 3 := (by decide +kernel); omega, by have zc_o_r : (3 : Int32).toInt = 3 := (by decide +kernel); omega⟩, by omega, i_101, xj_emit e_x (by omega) (by omega), tj_3 (hj_leaf e_x (tj_d0 e_j (Or.inr rfl)) (by omega) ⟨by decide, by decide⟩) (by decide +kernel), by have w9 := (twt_3 (by decide +kernel) : twt (3 : Int32).toInt = 2); omega, rq_t (rq_leaf hRC (rq1_st htt) hFD (lf_kind e_tp hTK i_23 (by omega)) (by omega) (lf_op e_tp hTK i_23 (by have z9 : (0 : Int32).toInt = 0 := (by decide +kernel); first | omega | (unfold gNe at *; omega))) (lf_argN e_tp hTK (by omega)) (toka_nx hTK i_105) (by omega) (by omega)) (by decide +kernel), rfl, rfl⟩), by rw [ht]; exact hP.sub [4, 5, 6, 7, 0, 1, 2, 3] rfl, hD.sub [4, 5, 6, 7, 0, 1, 2, 3] (by decide +kernel) rfl⟩, hS.F ht⟩) hS.2.2 dX12_readPart_89
    ·
      exact absurd c_20 (by decide +kernel)
set_option maxHeartbeats 4000000 in
set_option maxRecDepth 100000 in
theorem n_readPlainX (l : Launch) (G : g5_G) (b_o b_tp b_op b_ar b_pi b_pa b_ws b_hw b_rf b_ro b_im b_ke b_nl b_se b_re b_pt b_ip b_ah b_be b_me b_tr b_ld b_wn : Nat) (sz : Nat) (u_th : Int32) (u_sa : Int32) (u_fd : Int32) (u_td : Int32) (u_fr : Int32) (u_to : Int32) (u_so : Int32) (u_fa : Int32) (u_bd : Int32) (u_nc : Int32) (u_co : Int32) (u_le : Int32) (u_pd : Int32) (u_od : Int32) (u_la : Int32) (u_bk : Int32) (u_ce : Int32) (u_ho : Int32) (u_wy : Int32) (u_bt : Int32) (u_ps : Int32) (u_tg : Int32) (u_sn : Int32) (u_ic : Int32) (u_wd : Int32) (u_id : Int32) (g_a : Int32) (g_t : Int32) (g_le : Int32) (u_wo : Int64) (u_va : Int64) (u_su : Int64) (u_st : Int64) (v_tp : Nat → Int32) (v_op : Nat → Int32) (v_ar : Nat → Int32) (v_pi : Nat → Int32) (v_pa : Nat → Int32) (v_ws : Nat → Int64) (v_hw : Nat → Int64) (g_op : Nat → Int32) (g_ar : Nat → Int32) (g_k : Nat) (h_u_td : 0 ≤ u_td.toInt ∧ u_td.toInt ≤ 400) (h_u_fr : 0 ≤ u_fr.toInt ∧ u_fr.toInt ≤ 400) (h_u_to : 0 ≤ u_to.toInt ∧ u_to.toInt ≤ 400) (h_u_bd : 0 ≤ u_bd.toInt ∧ u_bd.toInt ≤ 0) (h_u_nc : 0 ≤ u_nc.toInt ∧ u_nc.toInt ≤ 12) (h_u_co : 0 ≤ u_co.toInt ∧ u_co.toInt ≤ 400) (h_u_pd : 0 ≤ u_pd.toInt ∧ u_pd.toInt ≤ 400) (h_u_la : 0 ≤ u_la.toInt ∧ u_la.toInt ≤ 4840) (h_u_bk : 0 ≤ u_bk.toInt ∧ u_bk.toInt ≤ 1) (h_u_ce : 0 ≤ u_ce.toInt ∧ u_ce.toInt ≤ 63) (h_u_ho : 0 ≤ u_ho.toInt ∧ u_ho.toInt ≤ 23) (h_u_wy : 0 ≤ u_wy.toInt ∧ u_wy.toInt ≤ 3) (h_u_bt : 0 ≤ u_bt.toInt ∧ u_bt.toInt ≤ 1000000) (h_u_ps : 0 ≤ u_ps.toInt ∧ u_ps.toInt ≤ 200) (h_u_ic : 0 ≤ u_ic.toInt ∧ u_ic.toInt ≤ 1) (h_u_id : 0 ≤ u_id.toInt ∧ u_id.toInt ≤ 1) (e_t : u_fr.toInt ≤ u_to.toInt ∧ u_to.toInt ≤ u_td.toInt) (e_s : TKs u_so.toInt u_fr.toInt u_to.toInt) (e_x : XJ g_op g_ar v_op v_ar v_pi v_pa g_a.toInt u_co.toInt u_pd.toInt u_fr.toInt) (e_j : TJ v_op v_ar v_pi v_pa g_a.toInt u_co.toInt u_pd.toInt 0) (e_tp : TPI v_tp) (e_ws : WSI v_ws v_hw) (e_q : RQ v_tp u_td g_t (S0X g_t g_k g_op g_ar g_a g_le) 0 false u_fr u_to u_so u_wo v_op v_ar v_pi v_pa u_co u_pd u_od u_le) : Met l yX12_readPlain (wsG yX12_readPlain cX12_readPlain 1 (some .int)) ({ frames := 5, cells := 0, slots := 0, locals := 106 }) (va_Pc [.ref b_o] (g5_P G [(b_o, (oc12 u_th u_sa b_rf b_ro b_im b_ke u_fd b_tp u_td u_fr u_to u_so u_wo u_fa u_bd u_nc b_nl u_co b_op b_ar u_le b_pi b_pa u_pd u_od b_ws b_hw u_la b_se b_re u_bk u_va u_su u_ce u_ho u_wy u_bt u_ps b_pt u_tg u_sn b_ip u_ic b_ah b_be b_me u_wd b_tr b_ld u_st b_wn u_id)), (b_tp, (arI G 400 v_tp)), (b_op, (arI G 400 v_op)), (b_ar, (arI G 400 v_ar)), (b_pi, (arI G 400 v_pi)), (b_pa, (arI G 400 v_pa)), (b_ws, (arJ G 8 v_ws)), (b_hw, (arJ G 4 v_hw))] sz)) (va_Qi (fun (r : Int32) (u : va_W) => (∃ (o_r : Int32), (0 ≤ o_r.toInt ∧ o_r.toInt ≤ 4) ∧ (RQ v_tp u_td g_t (S0X g_t g_k g_op g_ar g_a g_le) o_r.toInt true u_fr u_to u_so u_wo v_op v_ar v_pi v_pa u_co u_pd u_od u_le) ∧ (r = o_r) ∧ (u = [(b_o, (oc12 u_th u_sa b_rf b_ro b_im b_ke u_fd b_tp u_td u_fr u_to u_so u_wo u_fr 1 u_nc b_nl u_co b_op b_ar u_le b_pi b_pa u_pd u_od b_ws b_hw u_la b_se b_re u_bk u_va u_su u_ce u_ho u_wy u_bt u_ps b_pt u_tg u_sn b_ip u_ic b_ah b_be b_me u_wd b_tr b_ld u_st b_wn u_id)), (b_tp, (arI G 400 v_tp)), (b_op, (arI G 400 v_op)), (b_ar, (arI G 400 v_ar)), (b_pi, (arI G 400 v_pi)), (b_pa, (arI G 400 v_pa)), (b_ws, (arJ G 8 v_ws)), (b_hw, (arJ G 4 v_hw))])) ∨ (∃ (o_r : Int32) (o_fr : Int32) (o_to : Int32) (o_so : Int32) (o_wo : Int64) (o_co : Int32) (o_le : Int32) (o_pd : Int32) (o_od : Int32) (o_op : Nat → Int32) (o_ar : Nat → Int32) (o_pi : Nat → Int32) (o_pa : Nat → Int32), (0 ≤ o_fr.toInt ∧ o_fr.toInt ≤ 400) ∧ (0 ≤ o_to.toInt ∧ o_to.toInt ≤ 400) ∧ (0 ≤ o_co.toInt ∧ o_co.toInt ≤ 400) ∧ (0 ≤ o_pd.toInt ∧ o_pd.toInt ≤ 400) ∧ (0 ≤ o_r.toInt ∧ o_r.toInt ≤ 4) ∧ (u_fr.toInt ≤ o_fr.toInt ∧ o_fr.toInt ≤ o_to.toInt ∧ o_to.toInt ≤ u_td.toInt) ∧ (TKs o_so.toInt o_fr.toInt o_to.toInt) ∧ (XJ g_op g_ar o_op o_ar o_pi o_pa g_a.toInt o_co.toInt o_pd.toInt o_fr.toInt) ∧ (TJ o_op o_ar o_pi o_pa g_a.toInt o_co.toInt o_pd.toInt o_r.toInt) ∧ (twt o_r.toInt + 1 ≤ 0 + 3 * (o_fr.toInt - u_fr.toInt)) ∧ (RQ v_tp u_td g_t (S0X g_t g_k g_op g_ar g_a g_le) o_r.toInt false o_fr o_to o_so o_wo o_op o_ar o_pi o_pa o_co o_pd o_od o_le) ∧ (r = o_r) ∧ (u = [(b_o, (oc12 u_th u_sa b_rf b_ro b_im b_ke u_fd b_tp u_td o_fr o_to o_so o_wo u_fa u_bd u_nc b_nl o_co b_op b_ar o_le b_pi b_pa o_pd o_od b_ws b_hw u_la b_se b_re u_bk u_va u_su u_ce u_ho u_wy u_bt u_ps b_pt u_tg u_sn b_ip u_ic b_ah b_be b_me u_wd b_tr b_ld u_st b_wn u_id)), (b_tp, (arI G 400 v_tp)), (b_op, (arI G 400 o_op)), (b_ar, (arI G 400 o_ar)), (b_pi, (arI G 400 o_pi)), (b_pa, (arI G 400 o_pa)), (b_ws, (arJ G 8 v_ws)), (b_hw, (arJ G 4 v_hw))]))) (g5_B G (va_A [(b_o, (oc12 u_th u_sa b_rf b_ro b_im b_ke u_fd b_tp u_td u_fr u_to u_so u_wo u_fa u_bd u_nc b_nl u_co b_op b_ar u_le b_pi b_pa u_pd u_od b_ws b_hw u_la b_se b_re u_bk u_va u_su u_ce u_ho u_wy u_bt u_ps b_pt u_tg u_sn b_ip u_ic b_ah b_be b_me u_wd b_tr b_ld u_st b_wn u_id)), (b_tp, (arI G 400 v_tp)), (b_op, (arI G 400 v_op)), (b_ar, (arI G 400 v_ar)), (b_pi, (arI G 400 v_pi)), (b_pa, (arI G 400 v_pa)), (b_ws, (arJ G 8 v_ws)), (b_hw, (arJ G 4 v_hw))] sz)) (va_A [(b_o, (oc12 u_th u_sa b_rf b_ro b_im b_ke u_fd b_tp u_td u_fr u_to u_so u_wo u_fa u_bd u_nc b_nl u_co b_op b_ar u_le b_pi b_pa u_pd u_od b_ws b_hw u_la b_se b_re u_bk u_va u_su u_ce u_ho u_wy u_bt u_ps b_pt u_tg u_sn b_ip u_ic b_ah b_be b_me u_wd b_tr b_ld u_st b_wn u_id)), (b_tp, (arI G 400 v_tp)), (b_op, (arI G 400 v_op)), (b_ar, (arI G 400 v_ar)), (b_pi, (arI G 400 v_pi)), (b_pa, (arI G 400 v_pa)), (b_ws, (arJ G 8 v_ws)), (b_hw, (arJ G 4 v_hw))] sz)) 0 0 (va_A [(b_o, (oc12 u_th u_sa b_rf b_ro b_im b_ke u_fd b_tp u_td u_fr u_to u_so u_wo u_fa u_bd u_nc b_nl u_co b_op b_ar u_le b_pi b_pa u_pd u_od b_ws b_hw u_la b_se b_re u_bk u_va u_su u_ce u_ho u_wy u_bt u_ps b_pt u_tg u_sn b_ip u_ic b_ah b_be b_me u_wd b_tr b_ld u_st b_wn u_id)), (b_tp, (arI G 400 v_tp)), (b_op, (arI G 400 v_op)), (b_ar, (arI G 400 v_ar)), (b_pi, (arI G 400 v_pi)), (b_pa, (arI G 400 v_pa)), (b_ws, (arJ G 8 v_ws)), (b_hw, (arJ G 4 v_hw))] sz) := by
  refine Met.ofW (cc := cX12_readPlain) (maxL := 1) (ret := (some .int)) (by decide +kernel) rfl ?_
  intro p e s m args below meth c s₁ B hml hv
  obtain ⟨rfl, hsz, hP, hK, hD0, hN, hT⟩ := hv
  have hx := B.exec
  have hb := B.bytes
  have hr := B.returns
  have hts : ∀ w ∈ tblG, w.before _ s = true := fun w h => atoms_spec (ws := (wsG yX12_readPlain cX12_readPlain 1 (some .int))) B.pre w (List.mem_cons_of_mem _ h)
  have hown : s.vm.findClass RX12 = some m.cls := findClass_of_methodNamed B.named
  have hlocks := B.notSynchronized
  subst hsz
  have hD := hD0.self (sz := s.heap.size)
  generalize hAe : va_A [(b_o, (oc12 u_th u_sa b_rf b_ro b_im b_ke u_fd b_tp u_td u_fr u_to u_so u_wo u_fa u_bd u_nc b_nl u_co b_op b_ar u_le b_pi b_pa u_pd u_od b_ws b_hw u_la b_se b_re u_bk u_va u_su u_ce u_ho u_wy u_bt u_ps b_pt u_tg u_sn b_ip u_ic b_ah b_be b_me u_wd b_tr b_ld u_st b_wn u_id)), (b_tp, (arI G 400 v_tp)), (b_op, (arI G 400 v_op)), (b_ar, (arI G 400 v_ar)), (b_pi, (arI G 400 v_pi)), (b_pa, (arI G 400 v_pa)), (b_ws, (arJ G 8 v_ws)), (b_hw, (arJ G 4 v_hw))] s.heap.size = A at hD hT ⊢
  have hA : ∀ q : Nat, s.heap.size ≤ q → A q := fun q h => by rw [← hAe]; exact Or.inr h
  have hS : va_S A s.heap s.heap [] := va_S.rf
  replace hP : va_P G.1 vwCl [(b_o, (oc12 u_th u_sa b_rf b_ro b_im b_ke u_fd b_tp u_td u_fr u_to u_so u_wo u_fa u_bd u_nc b_nl u_co b_op b_ar u_le b_pi b_pa u_pd u_od b_ws b_hw u_la b_se b_re u_bk u_va u_su u_ce u_ho u_wy u_bt u_ps b_pt u_tg u_sn b_ip u_ic b_ah b_be b_me u_wd b_tr b_ld u_st b_wn u_id)), (b_tp, (arI G 400 v_tp)), (b_op, (arI G 400 v_op)), (b_ar, (arI G 400 v_ar)), (b_pi, (arI G 400 v_pi)), (b_pa, (arI G 400 v_pa)), (b_ws, (arJ G 8 v_ws)), (b_hw, (arJ G 4 v_hw))] s.heap := hP
  have hl := lv_entry ([.ref b_o]) (n := 1) (Nat.le_of_ble_eq_true rfl)
  rw [lg_entry_eq]
  generalize (lg_sl ([.ref b_o]) ++ List.replicate (1 - (lg_sl ([.ref b_o])).length) Slot.unset).toArray = ls at hl ⊢
  replace hl : lv_has ls 1 [(0, .ref b_o)] := hl
  have hmf9 := xj_mf e_x
  obtain ⟨kk, hRC, hFD⟩ := e_q
  have hTK := hFD.1
  have hr1 := hFD.2.1
  have hr2 := hFD.2.2.1
  refine lv_aload_n hx hb dX12_readPlain_0 rfl (lv_at hl 0 rfl) ?_
  refine lv_ldc2 (v := 14836) hx hb hown (hts _ kl_X12_283) dX12_readPlain_1 ?_
  obtain ⟨hPc, hDc, hFc⟩ := g5_sub3 (wc := [(b_o, (oc12 u_th u_sa b_rf b_ro b_im b_ke u_fd b_tp u_td u_fr u_to u_so u_wo u_fa u_bd u_nc b_nl u_co b_op b_ar u_le b_pi b_pa u_pd u_od b_ws b_hw u_la b_se b_re u_bk u_va u_su u_ce u_ho u_wy u_bt u_ps b_pt u_tg u_sn b_ip u_ic b_ah b_be b_me u_wd b_tr b_ld u_st b_wn u_id))]) hP hD hS hA [0] (by decide +kernel) rfl
  refine va_calli (va_runV (As := [.long 14836]) (rest := []) ⟨hx, hb, hml, hown, hts⟩ (n_isWordX14836 l G b_o b_rf b_ro b_im b_ke b_tp b_nl b_op b_ar b_pi b_pa b_ws b_hw b_se b_re b_pt b_ip b_ah b_be b_me b_tr b_ld b_wn s.heap.size u_th u_sa u_fd u_td u_fr u_to u_so u_fa u_bd u_nc u_co u_le u_pd u_od u_la u_bk u_ce u_ho u_wy u_bt u_ps u_tg u_sn u_ic u_wd u_id u_wo u_va u_su u_st h_u_td h_u_fr h_u_to ⟨by omega, by omega⟩ h_u_nc h_u_co h_u_pd h_u_la h_u_bk h_u_ce h_u_ho h_u_wy h_u_bt h_u_ps h_u_ic h_u_id) (cwV 1 hts gV_X12_254 rfl rfl rfl hv_X12_isWord ⟨Nat.le_of_ble_eq_true rfl, Nat.le_of_ble_eq_true rfl⟩) (g5_preV hPc hK hDc hN hT hS hFc (ci := 12) (q0 := 0) rfl rfl) rfl rfl hl.1 rfl (lv_room (Nat.le_of_ble_eq_true rfl)) dX12_readPlain_4 ⟨Nat.le_of_ble_eq_true rfl, Nat.le_of_ble_eq_true rfl⟩) hS (fun q _ h => hFc q h) hFc (fun r u t H locs ht hvm hw hB hz1 hk1 hS => ?_)
  obtain ⟨hP1, hD1⟩ := hB
  have hP1 := g5_ht ht hP1
  rcases hw with ⟨(i_1 : u_so.toInt = 1 ∧ u_wo.toInt = 14836), rfl, rfl⟩ | ⟨(i_2 : ¬ (u_so.toInt = 1 ∧ u_wo.toInt = 14836)), rfl, rfl⟩
  ·
    have hJ9 := va_join (wr := [(b_tp, (arI G 400 v_tp)), (b_op, (arI G 400 v_op)), (b_ar, (arI G 400 v_ar)), (b_pi, (arI G 400 v_pi)), (b_pa, (arI G 400 v_pa)), (b_ws, (arJ G 8 v_ws)), (b_hw, (arJ G 4 v_hw))]) hP hD [0] [1, 2, 3, 4, 5, 6, 7] rfl rfl (by decide +kernel) (by decide +kernel) hk1 hFc hP1 hD1
    clear hP hD hPc hDc hFc ht hvm hz1 hk1 hP1 hD1
    obtain ⟨hP, hD⟩ := hJ9
    refine g5_rs [(b_tp, (arI G 400 v_tp)), (b_op, (arI G 400 v_op)), (b_ar, (arI G 400 v_ar)), (b_pi, (arI G 400 v_pi)), (b_pa, (arI G 400 v_pa)), (b_ws, (arJ G 8 v_ws)), (b_hw, (arJ G 4 v_hw)), (b_o, (oc12 u_th u_sa b_rf b_ro b_im b_ke u_fd b_tp u_td u_fr u_to u_so u_wo u_fa u_bd u_nc b_nl u_co b_op b_ar u_le b_pi b_pa u_pd u_od b_ws b_hw u_la b_se b_re u_bk u_va u_su u_ce u_ho u_wy u_bt u_ps b_pt u_tg u_sn b_ip u_ic b_ah b_be b_me u_wd b_tr b_ld u_st b_wn u_id))] hP hD ?_
    clear hP hD
    intro hP hD
    refine lv_if_eq (tgt := 23) hx hb dX12_readPlain_7 (by decide +kernel) (fun c_3 => ?_) (fun c_3 => ?_)
    ·
      exact absurd c_3 (by decide +kernel)
    ·
      have hlt9 : u_fr.toInt < u_to.toInt := tks_lt e_s (by omega)
      refine lv_aload_n hx hb dX12_readPlain_10 rfl (lv_at hl 0 rfl) ?_
      refine lv_bipush (v := 27) hx hb dX12_readPlain_11 (by decide +kernel) ?_
      refine lv_iconst (v := 0) hx hb dX12_readPlain_13 (by decide +kernel) ?_
      obtain ⟨hPc, hDc, hFc⟩ := g5_sub3 (wc := [(b_o, (oc12 u_th u_sa b_rf b_ro b_im b_ke u_fd b_tp u_td u_fr u_to u_so u_wo u_fa u_bd u_nc b_nl u_co b_op b_ar u_le b_pi b_pa u_pd u_od b_ws b_hw u_la b_se b_re u_bk u_va u_su u_ce u_ho u_wy u_bt u_ps b_pt u_tg u_sn b_ip u_ic b_ah b_be b_me u_wd b_tr b_ld u_st b_wn u_id)), (b_pi, (arI G 400 v_pi)), (b_pa, (arI G 400 v_pa))]) hP hD hS hA [7, 3, 4] (by decide +kernel) rfl
      refine va_callv (va_runV (As := [.int 27, .int 0]) (rest := []) ⟨hx, hb, hml, hown, hts⟩ (n_push l G b_o b_pi b_pa b_rf b_ro b_im b_ke b_tp b_nl b_op b_ar b_ws b_hw b_se b_re b_pt b_ip b_ah b_be b_me b_tr b_ld b_wn H.size u_th u_sa u_fd u_td u_fr u_to u_so u_fa u_bd u_nc u_co u_le u_pd u_od u_la u_bk u_ce u_ho u_wy u_bt u_ps u_tg u_sn u_ic u_wd u_id 27 0 u_wo u_va u_su u_st v_pi v_pa h_u_td h_u_fr h_u_to ⟨by omega, by omega⟩ h_u_nc h_u_co h_u_pd h_u_la h_u_bk h_u_ce h_u_ho h_u_wy h_u_bt h_u_ps h_u_ic h_u_id (by omega)) (cwV 2 hts gV_X12_261 rfl rfl rfl hv_X12_push ⟨Nat.le_of_ble_eq_true rfl, Nat.le_of_ble_eq_true rfl⟩) (g5_preV hPc hK hDc hN hT hS hFc (ci := 12) (q0 := 0) rfl rfl) rfl rfl hl.1 rfl (lv_room (Nat.le_of_ble_eq_true rfl)) dX12_readPlain_14 ⟨Nat.le_of_ble_eq_true rfl, Nat.le_of_ble_eq_true rfl⟩) hS (fun q _ h => hFc q h) hFc (fun u t H locs ht hvm hw hB hz1 hk1 hS => ?_)
      obtain ⟨hP1, hD1⟩ := hB
      have hP1 := g5_ht ht hP1
      obtain ⟨z6, (i_4 : 0 ≤ z6.toInt ∧ z6.toInt ≤ 400), (i_5 : z6.toInt = u_pd.toInt + 1), rfl⟩ := hw
      have hJ9 := va_join (wr := [(b_tp, (arI G 400 v_tp)), (b_op, (arI G 400 v_op)), (b_ar, (arI G 400 v_ar)), (b_ws, (arJ G 8 v_ws)), (b_hw, (arJ G 4 v_hw))]) hP hD [7, 3, 4] [0, 1, 2, 5, 6] rfl rfl (by decide +kernel) (by decide +kernel) hk1 hFc hP1 hD1
      clear hP hD hPc hDc hFc ht hvm hz1 hk1 hP1 hD1
      obtain ⟨hP, hD⟩ := hJ9
      refine g5_rs [(b_tp, (arI G 400 v_tp)), (b_op, (arI G 400 v_op)), (b_ar, (arI G 400 v_ar)), (b_ws, (arJ G 8 v_ws)), (b_hw, (arJ G 4 v_hw)), (b_o, (oc12 u_th u_sa b_rf b_ro b_im b_ke u_fd b_tp u_td u_fr u_to u_so u_wo u_fa u_bd u_nc b_nl u_co b_op b_ar u_le b_pi b_pa z6 u_od b_ws b_hw u_la b_se b_re u_bk u_va u_su u_ce u_ho u_wy u_bt u_ps b_pt u_tg u_sn b_ip u_ic b_ah b_be b_me u_wd b_tr b_ld u_st b_wn u_id)), (b_pi, (arI G 400 (upd v_pi u_pd.toNatClampNeg 27))), (b_pa, (arI G 400 (upd v_pa u_pd.toNatClampNeg 0)))] hP hD ?_
      clear hP hD
      intro hP hD
      refine W.eq (g2 := F0 m 17 ls []) rfl ?_
      refine lv_aload_n hx hb dX12_readPlain_17 rfl (lv_at hl 0 rfl) ?_
      obtain ⟨hPc, hDc, hFc⟩ := g5_sub3 (wc := [(b_o, (oc12 u_th u_sa b_rf b_ro b_im b_ke u_fd b_tp u_td u_fr u_to u_so u_wo u_fa u_bd u_nc b_nl u_co b_op b_ar u_le b_pi b_pa z6 u_od b_ws b_hw u_la b_se b_re u_bk u_va u_su u_ce u_ho u_wy u_bt u_ps b_pt u_tg u_sn b_ip u_ic b_ah b_be b_me u_wd b_tr b_ld u_st b_wn u_id)), (b_tp, (arI G 400 v_tp))]) hP hD hS hA [5, 0] (by decide +kernel) rfl
      refine va_callv (va_runV (As := []) (rest := []) ⟨hx, hb, hml, hown, hts⟩ (n_nextX l G b_o b_tp b_rf b_ro b_im b_ke b_nl b_op b_ar b_pi b_pa b_ws b_hw b_se b_re b_pt b_ip b_ah b_be b_me b_tr b_ld b_wn H.size u_th u_sa u_fd u_td u_fr u_to u_so u_fa u_bd u_nc u_co u_le z6 u_od u_la u_bk u_ce u_ho u_wy u_bt u_ps u_tg u_sn u_ic u_wd u_id u_wo u_va u_su u_st v_tp h_u_td h_u_fr h_u_to ⟨by omega, by omega⟩ h_u_nc h_u_co i_4 h_u_la h_u_bk h_u_ce h_u_ho h_u_wy h_u_bt h_u_ps h_u_ic h_u_id (by omega)) (cwV 0 hts gV_X12_208 rfl rfl rfl hv_X12_next ⟨Nat.le_of_ble_eq_true rfl, Nat.le_of_ble_eq_true rfl⟩) (g5_preV hPc hK hDc hN hT hS hFc (ci := 12) (q0 := 0) rfl rfl) rfl rfl hl.1 rfl (lv_room (Nat.le_of_ble_eq_true rfl)) dX12_readPlain_18 ⟨Nat.le_of_ble_eq_true rfl, Nat.le_of_ble_eq_true rfl⟩) hS (fun q _ h => hFc q h) hFc (fun u t H locs ht hvm hw hB hz1 hk1 hS => ?_)
      obtain ⟨hP1, hD1⟩ := hB
      have hP1 := g5_ht ht hP1
      obtain ⟨z12, z13, z14, z15, (i_7 : 0 ≤ z12.toInt ∧ z12.toInt ≤ 400), (i_8 : 0 ≤ z13.toInt ∧ z13.toInt ≤ 400), (i_9 : u_to.toInt ≤ z12.toInt ∧ z12.toInt ≤ z13.toInt ∧ z13.toInt ≤ u_td.toInt), (i_10 : TKs z14.toInt z12.toInt z13.toInt), (i_11 : TOKA v_tp u_td.toInt.toNat (skT v_tp u_td.toInt.toNat u_to.toInt.toNat) z12 z13 z14 z15), rfl⟩ := hw
      have hJ9 := va_join (wr := [(b_op, (arI G 400 v_op)), (b_ar, (arI G 400 v_ar)), (b_ws, (arJ G 8 v_ws)), (b_hw, (arJ G 4 v_hw)), (b_pi, (arI G 400 (upd v_pi u_pd.toNatClampNeg 27))), (b_pa, (arI G 400 (upd v_pa u_pd.toNatClampNeg 0)))]) hP hD [5, 0] [1, 2, 3, 4, 6, 7] rfl rfl (by decide +kernel) (by decide +kernel) hk1 hFc hP1 hD1
      clear hP hD hPc hDc hFc ht hvm hz1 hk1 hP1 hD1
      obtain ⟨hP, hD⟩ := hJ9
      refine g5_rs [(b_op, (arI G 400 v_op)), (b_ar, (arI G 400 v_ar)), (b_ws, (arJ G 8 v_ws)), (b_hw, (arJ G 4 v_hw)), (b_pi, (arI G 400 (upd v_pi u_pd.toNatClampNeg 27))), (b_pa, (arI G 400 (upd v_pa u_pd.toNatClampNeg 0))), (b_o, (oc12 u_th u_sa b_rf b_ro b_im b_ke u_fd b_tp u_td z12 z13 z14 z15 u_fa u_bd u_nc b_nl u_co b_op b_ar u_le b_pi b_pa z6 u_od b_ws b_hw u_la b_se b_re u_bk u_va u_su u_ce u_ho u_wy u_bt u_ps b_pt u_tg u_sn b_ip u_ic b_ah b_be b_me u_wd b_tr b_ld u_st b_wn u_id)), (b_tp, (arI G 400 v_tp))] hP hD ?_
      clear hP hD
      intro hP hD
      refine lv_iconst (v := 0) hx hb dX12_readPlain_21 (by decide +kernel) ?_
      exact W.iret (v := 0) hx hb hr (fun t ht hW => ⟨⟨0, [(b_o, (oc12 u_th u_sa b_rf b_ro b_im b_ke u_fd b_tp u_td z12 z13 z14 z15 u_fa u_bd u_nc b_nl u_co b_op b_ar u_le b_pi b_pa z6 u_od b_ws b_hw u_la b_se b_re u_bk u_va u_su u_ce u_ho u_wy u_bt u_ps b_pt u_tg u_sn b_ip u_ic b_ah b_be b_me u_wd b_tr b_ld u_st b_wn u_id)), (b_tp, (arI G 400 v_tp)), (b_op, (arI G 400 v_op)), (b_ar, (arI G 400 v_ar)), (b_pi, (arI G 400 (upd v_pi u_pd.toNatClampNeg 27))), (b_pa, (arI G 400 (upd v_pa u_pd.toNatClampNeg 0))), (b_ws, (arJ G 8 v_ws)), (b_hw, (arJ G 4 v_hw))], rfl, Or.inr (⟨0, z12, z13, z14, z15, u_co, u_le, z6, u_od, v_op, v_ar, (upd v_pi u_pd.toNatClampNeg 27), (upd v_pa u_pd.toNatClampNeg 0), i_7, i_8, h_u_co, i_4, ⟨by have zc_o_r : (0 : Int32).toInt = 0 := (by decide +kernel); omega, by have zc_o_r : (0 : Int32).toInt = 0 := (by decide +kernel); omega⟩, by omega, i_10, xj_push e_x (by omega) (by omega) ⟨by decide, by decide⟩ (Or.inl (by decide +kernel)), tj_0 (hj_push0 (tj_d0 e_j (Or.inl rfl)) (by omega) (by omega) (Or.inl (by decide +kernel)) (Or.inr (e_j.2.1 (Or.inl rfl)))) (by decide +kernel) (no31_push (e_j.2.1 (Or.inl rfl)) (by omega) (by omega) (by decide +kernel)), by have w9 := (twt_0 (by decide +kernel) : twt (0 : Int32).toInt = 0); omega, rq_t (rq_not hRC hFD ((tw_not e_tp hTK).mpr i_1) (toka_nx hTK i_11) (by omega)) (by decide +kernel), rfl, rfl⟩), by rw [ht]; exact hP.sub [6, 7, 0, 1, 4, 5, 2, 3] rfl, hD.sub [6, 7, 0, 1, 4, 5, 2, 3] (by decide +kernel) rfl⟩, hS.F ht⟩) hS.2.2 dX12_readPlain_22
  ·
    have hJ9 := va_join (wr := [(b_tp, (arI G 400 v_tp)), (b_op, (arI G 400 v_op)), (b_ar, (arI G 400 v_ar)), (b_pi, (arI G 400 v_pi)), (b_pa, (arI G 400 v_pa)), (b_ws, (arJ G 8 v_ws)), (b_hw, (arJ G 4 v_hw))]) hP hD [0] [1, 2, 3, 4, 5, 6, 7] rfl rfl (by decide +kernel) (by decide +kernel) hk1 hFc hP1 hD1
    clear hP hD hPc hDc hFc ht hvm hz1 hk1 hP1 hD1
    obtain ⟨hP, hD⟩ := hJ9
    refine g5_rs [(b_tp, (arI G 400 v_tp)), (b_op, (arI G 400 v_op)), (b_ar, (arI G 400 v_ar)), (b_pi, (arI G 400 v_pi)), (b_pa, (arI G 400 v_pa)), (b_ws, (arJ G 8 v_ws)), (b_hw, (arJ G 4 v_hw)), (b_o, (oc12 u_th u_sa b_rf b_ro b_im b_ke u_fd b_tp u_td u_fr u_to u_so u_wo u_fa u_bd u_nc b_nl u_co b_op b_ar u_le b_pi b_pa u_pd u_od b_ws b_hw u_la b_se b_re u_bk u_va u_su u_ce u_ho u_wy u_bt u_ps b_pt u_tg u_sn b_ip u_ic b_ah b_be b_me u_wd b_tr b_ld u_st b_wn u_id))] hP hD ?_
    clear hP hD
    intro hP hD
    refine lv_if_eq (tgt := 23) hx hb dX12_readPlain_7 (by decide +kernel) (fun c_16 => ?_) (fun c_16 => ?_)
    ·
      refine lv_aload_n hx hb dX12_readPlain_23 rfl (lv_at hl 0 rfl) ?_
      refine lv_bipush (v := 40) hx hb dX12_readPlain_24 (by decide +kernel) ?_
      obtain ⟨hPc, hDc, hFc⟩ := g5_sub3 (wc := [(b_o, (oc12 u_th u_sa b_rf b_ro b_im b_ke u_fd b_tp u_td u_fr u_to u_so u_wo u_fa u_bd u_nc b_nl u_co b_op b_ar u_le b_pi b_pa u_pd u_od b_ws b_hw u_la b_se b_re u_bk u_va u_su u_ce u_ho u_wy u_bt u_ps b_pt u_tg u_sn b_ip u_ic b_ah b_be b_me u_wd b_tr b_ld u_st b_wn u_id))]) hP hD hS hA [7] (by decide +kernel) rfl
      refine va_calli (va_runV (As := [.int 40]) (rest := []) ⟨hx, hb, hml, hown, hts⟩ (n_isSignX40 l G b_o b_rf b_ro b_im b_ke b_tp b_nl b_op b_ar b_pi b_pa b_ws b_hw b_se b_re b_pt b_ip b_ah b_be b_me b_tr b_ld b_wn H.size u_th u_sa u_fd u_td u_fr u_to u_so u_fa u_bd u_nc u_co u_le u_pd u_od u_la u_bk u_ce u_ho u_wy u_bt u_ps u_tg u_sn u_ic u_wd u_id u_wo u_va u_su u_st h_u_td h_u_fr h_u_to ⟨by omega, by omega⟩ h_u_nc h_u_co h_u_pd h_u_la h_u_bk h_u_ce h_u_ho h_u_wy h_u_bt h_u_ps h_u_ic h_u_id) (cwV 1 hts gV_X12_267 rfl rfl rfl hv_X12_isSign ⟨Nat.le_of_ble_eq_true rfl, Nat.le_of_ble_eq_true rfl⟩) (g5_preV hPc hK hDc hN hT hS hFc (ci := 12) (q0 := 0) rfl rfl) rfl rfl hl.1 rfl (lv_room (Nat.le_of_ble_eq_true rfl)) dX12_readPlain_26 ⟨Nat.le_of_ble_eq_true rfl, Nat.le_of_ble_eq_true rfl⟩) hS (fun q _ h => hFc q h) hFc (fun r u t H locs ht hvm hw hB hz1 hk1 hS => ?_)
      obtain ⟨hP1, hD1⟩ := hB
      have hP1 := g5_ht ht hP1
      rcases hw with ⟨(i_17 : u_so.toInt = 3 ∧ u_wo.toInt = 40), rfl, rfl⟩ | ⟨(i_18 : ¬ (u_so.toInt = 3 ∧ u_wo.toInt = 40)), rfl, rfl⟩
      ·
        have hJ9 := va_join (wr := [(b_tp, (arI G 400 v_tp)), (b_op, (arI G 400 v_op)), (b_ar, (arI G 400 v_ar)), (b_pi, (arI G 400 v_pi)), (b_pa, (arI G 400 v_pa)), (b_ws, (arJ G 8 v_ws)), (b_hw, (arJ G 4 v_hw))]) hP hD [7] [0, 1, 2, 3, 4, 5, 6] rfl rfl (by decide +kernel) (by decide +kernel) hk1 hFc hP1 hD1
        clear hP hD hPc hDc hFc ht hvm hz1 hk1 hP1 hD1
        obtain ⟨hP, hD⟩ := hJ9
        refine g5_rs [(b_tp, (arI G 400 v_tp)), (b_op, (arI G 400 v_op)), (b_ar, (arI G 400 v_ar)), (b_pi, (arI G 400 v_pi)), (b_pa, (arI G 400 v_pa)), (b_ws, (arJ G 8 v_ws)), (b_hw, (arJ G 4 v_hw)), (b_o, (oc12 u_th u_sa b_rf b_ro b_im b_ke u_fd b_tp u_td u_fr u_to u_so u_wo u_fa u_bd u_nc b_nl u_co b_op b_ar u_le b_pi b_pa u_pd u_od b_ws b_hw u_la b_se b_re u_bk u_va u_su u_ce u_ho u_wy u_bt u_ps b_pt u_tg u_sn b_ip u_ic b_ah b_be b_me u_wd b_tr b_ld u_st b_wn u_id))] hP hD ?_
        clear hP hD
        intro hP hD
        refine lv_if_eq (tgt := 40) hx hb dX12_readPlain_29 (by decide +kernel) (fun c_19 => ?_) (fun c_19 => ?_)
        ·
          exact absurd c_19 (by decide +kernel)
        ·
          have hlt9 : u_fr.toInt < u_to.toInt := tks_lt e_s (by omega)
          refine lv_aload_n hx hb dX12_readPlain_32 rfl (lv_at hl 0 rfl) ?_
          refine lv_bipush (v := 30) hx hb dX12_readPlain_33 (by decide +kernel) ?_
          obtain ⟨hPc, hDc, hFc⟩ := g5_sub3 (wc := [(b_o, (oc12 u_th u_sa b_rf b_ro b_im b_ke u_fd b_tp u_td u_fr u_to u_so u_wo u_fa u_bd u_nc b_nl u_co b_op b_ar u_le b_pi b_pa u_pd u_od b_ws b_hw u_la b_se b_re u_bk u_va u_su u_ce u_ho u_wy u_bt u_ps b_pt u_tg u_sn b_ip u_ic b_ah b_be b_me u_wd b_tr b_ld u_st b_wn u_id)), (b_tp, (arI G 400 v_tp)), (b_pi, (arI G 400 v_pi)), (b_pa, (arI G 400 v_pa))]) hP hD hS hA [7, 0, 3, 4] (by decide +kernel) rfl
          refine va_callv (va_runV (As := [.int 30]) (rest := []) ⟨hx, hb, hml, hown, hts⟩ (n_openBracketX l G b_o b_tp b_pi b_pa b_rf b_ro b_im b_ke b_nl b_op b_ar b_ws b_hw b_se b_re b_pt b_ip b_ah b_be b_me b_tr b_ld b_wn H.size u_th u_sa u_fd u_td u_fr u_to u_so u_fa u_bd u_nc u_co u_le u_pd u_od u_la u_bk u_ce u_ho u_wy u_bt u_ps u_tg u_sn u_ic u_wd u_id 30 u_wo u_va u_su u_st v_tp v_pi v_pa h_u_td h_u_fr h_u_to h_u_bd h_u_nc h_u_co h_u_pd h_u_la h_u_bk h_u_ce h_u_ho h_u_wy h_u_bt h_u_ps h_u_ic h_u_id ⟨by decide, by decide⟩ (by omega) (by omega) (by omega)) (cwV 1 hts gV_X12_270 rfl rfl rfl hv_X12_openBracket ⟨Nat.le_of_ble_eq_true rfl, Nat.le_of_ble_eq_true rfl⟩) (g5_preV hPc hK hDc hN hT hS hFc (ci := 12) (q0 := 0) rfl rfl) rfl rfl hl.1 rfl (lv_room (Nat.le_of_ble_eq_true rfl)) dX12_readPlain_35 ⟨Nat.le_of_ble_eq_true rfl, Nat.le_of_ble_eq_true rfl⟩) hS (fun q _ h => hFc q h) hFc (fun u t H locs ht hvm hw hB hz1 hk1 hS => ?_)
          obtain ⟨hP1, hD1⟩ := hB
          have hP1 := g5_ht ht hP1
          rcases hw with ⟨(i_20 : 8 ≤ u_od.toInt), rfl⟩ | ⟨z30, z31, z32, z33, z34, z35, (i_21 : 0 ≤ z30.toInt ∧ z30.toInt ≤ 400), (i_22 : 0 ≤ z31.toInt ∧ z31.toInt ≤ 400), (i_23 : 0 ≤ z34.toInt ∧ z34.toInt ≤ 400), (i_24 : u_to.toInt ≤ z30.toInt ∧ z30.toInt ≤ z31.toInt ∧ z31.toInt ≤ u_td.toInt), (i_25 : TKs z32.toInt z30.toInt z31.toInt), (i_26 : z34.toInt = u_pd.toInt + 1), (i_27 : u_od.toInt < 8), (i_28 : z35.toInt = u_od.toInt + 1), (i_29 : TOKA v_tp u_td.toInt.toNat (skT v_tp u_td.toInt.toNat u_to.toInt.toNat) z30 z31 z32 z33), rfl⟩
          ·
            have hJ9 := va_join (wr := [(b_op, (arI G 400 v_op)), (b_ar, (arI G 400 v_ar)), (b_ws, (arJ G 8 v_ws)), (b_hw, (arJ G 4 v_hw))]) hP hD [7, 0, 3, 4] [1, 2, 5, 6] rfl rfl (by decide +kernel) (by decide +kernel) hk1 hFc hP1 hD1
            clear hP hD hPc hDc hFc ht hvm hz1 hk1 hP1 hD1
            obtain ⟨hP, hD⟩ := hJ9
            refine g5_rs [(b_op, (arI G 400 v_op)), (b_ar, (arI G 400 v_ar)), (b_ws, (arJ G 8 v_ws)), (b_hw, (arJ G 4 v_hw)), (b_o, (oc12 u_th u_sa b_rf b_ro b_im b_ke u_fd b_tp u_td u_fr u_to u_so u_wo u_fr 1 u_nc b_nl u_co b_op b_ar u_le b_pi b_pa u_pd u_od b_ws b_hw u_la b_se b_re u_bk u_va u_su u_ce u_ho u_wy u_bt u_ps b_pt u_tg u_sn b_ip u_ic b_ah b_be b_me u_wd b_tr b_ld u_st b_wn u_id)), (b_tp, (arI G 400 v_tp)), (b_pi, (arI G 400 v_pi)), (b_pa, (arI G 400 v_pa))] hP hD ?_
            clear hP hD
            intro hP hD
            refine lv_iconst (v := 0) hx hb dX12_readPlain_38 (by decide +kernel) ?_
            exact W.iret (v := 0) hx hb hr (fun t ht hW => ⟨⟨0, [(b_o, (oc12 u_th u_sa b_rf b_ro b_im b_ke u_fd b_tp u_td u_fr u_to u_so u_wo u_fr 1 u_nc b_nl u_co b_op b_ar u_le b_pi b_pa u_pd u_od b_ws b_hw u_la b_se b_re u_bk u_va u_su u_ce u_ho u_wy u_bt u_ps b_pt u_tg u_sn b_ip u_ic b_ah b_be b_me u_wd b_tr b_ld u_st b_wn u_id)), (b_tp, (arI G 400 v_tp)), (b_op, (arI G 400 v_op)), (b_ar, (arI G 400 v_ar)), (b_pi, (arI G 400 v_pi)), (b_pa, (arI G 400 v_pa)), (b_ws, (arJ G 8 v_ws)), (b_hw, (arJ G 4 v_hw))], rfl, Or.inl (⟨0, ⟨by have zc_o_r : (0 : Int32).toInt = 0 := (by decide +kernel); omega, by have zc_o_r : (0 : Int32).toInt = 0 := (by decide +kernel); omega⟩, rq_t (rq_openB (t' := 0) hRC (mplain_40 ((tk_sign e_tp hTK (by decide +kernel) (by decide +kernel) (c := 40)).mpr i_17)) hFD (by omega)) (by decide +kernel), rfl, rfl⟩), by rw [ht]; exact hP.sub [4, 5, 0, 1, 6, 7, 2, 3] rfl, hD.sub [4, 5, 0, 1, 6, 7, 2, 3] (by decide +kernel) rfl⟩, hS.F ht⟩) hS.2.2 dX12_readPlain_39
          ·
            have hJ9 := va_join (wr := [(b_op, (arI G 400 v_op)), (b_ar, (arI G 400 v_ar)), (b_ws, (arJ G 8 v_ws)), (b_hw, (arJ G 4 v_hw))]) hP hD [7, 0, 3, 4] [1, 2, 5, 6] rfl rfl (by decide +kernel) (by decide +kernel) hk1 hFc hP1 hD1
            clear hP hD hPc hDc hFc ht hvm hz1 hk1 hP1 hD1
            obtain ⟨hP, hD⟩ := hJ9
            refine g5_rs [(b_op, (arI G 400 v_op)), (b_ar, (arI G 400 v_ar)), (b_ws, (arJ G 8 v_ws)), (b_hw, (arJ G 4 v_hw)), (b_o, (oc12 u_th u_sa b_rf b_ro b_im b_ke u_fd b_tp u_td z30 z31 z32 z33 u_fa u_bd u_nc b_nl u_co b_op b_ar u_le b_pi b_pa z34 z35 b_ws b_hw u_la b_se b_re u_bk u_va u_su u_ce u_ho u_wy u_bt u_ps b_pt u_tg u_sn b_ip u_ic b_ah b_be b_me u_wd b_tr b_ld u_st b_wn u_id)), (b_tp, (arI G 400 v_tp)), (b_pi, (arI G 400 (upd v_pi u_pd.toNatClampNeg 30))), (b_pa, (arI G 400 (upd v_pa u_pd.toNatClampNeg 0)))] hP hD ?_
            clear hP hD
            intro hP hD
            refine lv_iconst (v := 0) hx hb dX12_readPlain_38 (by decide +kernel) ?_
            exact W.iret (v := 0) hx hb hr (fun t ht hW => ⟨⟨0, [(b_o, (oc12 u_th u_sa b_rf b_ro b_im b_ke u_fd b_tp u_td z30 z31 z32 z33 u_fa u_bd u_nc b_nl u_co b_op b_ar u_le b_pi b_pa z34 z35 b_ws b_hw u_la b_se b_re u_bk u_va u_su u_ce u_ho u_wy u_bt u_ps b_pt u_tg u_sn b_ip u_ic b_ah b_be b_me u_wd b_tr b_ld u_st b_wn u_id)), (b_tp, (arI G 400 v_tp)), (b_op, (arI G 400 v_op)), (b_ar, (arI G 400 v_ar)), (b_pi, (arI G 400 (upd v_pi u_pd.toNatClampNeg 30))), (b_pa, (arI G 400 (upd v_pa u_pd.toNatClampNeg 0))), (b_ws, (arJ G 8 v_ws)), (b_hw, (arJ G 4 v_hw))], rfl, Or.inr (⟨0, z30, z31, z32, z33, u_co, u_le, z34, z35, v_op, v_ar, (upd v_pi u_pd.toNatClampNeg 30), (upd v_pa u_pd.toNatClampNeg 0), i_21, i_22, h_u_co, i_23, ⟨by have zc_o_r : (0 : Int32).toInt = 0 := (by decide +kernel); omega, by have zc_o_r : (0 : Int32).toInt = 0 := (by decide +kernel); omega⟩, by omega, i_25, xj_push e_x (by omega) (by omega) ⟨by decide, by decide⟩ (Or.inr (by decide +kernel)), tj_0 (hj_push0 (tj_d0 e_j (Or.inl rfl)) (by omega) (by omega) (Or.inr (by decide +kernel)) (Or.inr (e_j.2.1 (Or.inl rfl)))) (by decide +kernel) (no31_push (e_j.2.1 (Or.inl rfl)) (by omega) (by omega) (by decide +kernel)), by have w9 := (twt_0 (by decide +kernel) : twt (0 : Int32).toInt = 0); omega, rq_t (rq_open (t' := 0) hRC (mplain_40 ((tk_sign e_tp hTK (by decide +kernel) (by decide +kernel) (c := 40)).mpr i_17)) hFD (by omega) (toka_nx hTK i_29) (by omega) (by omega)) (by decide +kernel), rfl, rfl⟩), by rw [ht]; exact hP.sub [4, 5, 0, 1, 6, 7, 2, 3] rfl, hD.sub [4, 5, 0, 1, 6, 7, 2, 3] (by decide +kernel) rfl⟩, hS.F ht⟩) hS.2.2 dX12_readPlain_39
      ·
        have hJ9 := va_join (wr := [(b_tp, (arI G 400 v_tp)), (b_op, (arI G 400 v_op)), (b_ar, (arI G 400 v_ar)), (b_pi, (arI G 400 v_pi)), (b_pa, (arI G 400 v_pa)), (b_ws, (arJ G 8 v_ws)), (b_hw, (arJ G 4 v_hw))]) hP hD [7] [0, 1, 2, 3, 4, 5, 6] rfl rfl (by decide +kernel) (by decide +kernel) hk1 hFc hP1 hD1
        clear hP hD hPc hDc hFc ht hvm hz1 hk1 hP1 hD1
        obtain ⟨hP, hD⟩ := hJ9
        refine g5_rs [(b_tp, (arI G 400 v_tp)), (b_op, (arI G 400 v_op)), (b_ar, (arI G 400 v_ar)), (b_pi, (arI G 400 v_pi)), (b_pa, (arI G 400 v_pa)), (b_ws, (arJ G 8 v_ws)), (b_hw, (arJ G 4 v_hw)), (b_o, (oc12 u_th u_sa b_rf b_ro b_im b_ke u_fd b_tp u_td u_fr u_to u_so u_wo u_fa u_bd u_nc b_nl u_co b_op b_ar u_le b_pi b_pa u_pd u_od b_ws b_hw u_la b_se b_re u_bk u_va u_su u_ce u_ho u_wy u_bt u_ps b_pt u_tg u_sn b_ip u_ic b_ah b_be b_me u_wd b_tr b_ld u_st b_wn u_id))] hP hD ?_
        clear hP hD
        intro hP hD
        refine lv_if_eq (tgt := 40) hx hb dX12_readPlain_29 (by decide +kernel) (fun c_36 => ?_) (fun c_36 => ?_)
        ·
          refine lv_aload_n hx hb dX12_readPlain_40 rfl (lv_at hl 0 rfl) ?_
          have hE_37 : TJ v_op v_ar v_pi v_pa g_a.toInt u_co.toInt u_pd.toInt 1 := tj_1 (tj_d0 e_j (Or.inl rfl)) rfl
          have hE_38 : RQ1 v_tp u_td g_t (S0X g_t g_k g_op g_ar g_a g_le) u_fr u_to u_so u_wo v_op v_ar v_pi v_pa u_co u_pd u_od u_le := ⟨kk, ⟨0, hRC, Or.inr ⟨rfl, (fun q8 => i_2 ((tw_not e_tp hTK).mp q8)), (fun q8 => i_18 ((tk_sign e_tp hTK (by decide +kernel) (by decide +kernel) (c := 40)).mp q8))⟩⟩, hFD⟩
          obtain ⟨hPc, hDc, hFc⟩ := g5_sub3 (wc := [(b_o, (oc12 u_th u_sa b_rf b_ro b_im b_ke u_fd b_tp u_td u_fr u_to u_so u_wo u_fa u_bd u_nc b_nl u_co b_op b_ar u_le b_pi b_pa u_pd u_od b_ws b_hw u_la b_se b_re u_bk u_va u_su u_ce u_ho u_wy u_bt u_ps b_pt u_tg u_sn b_ip u_ic b_ah b_be b_me u_wd b_tr b_ld u_st b_wn u_id)), (b_tp, (arI G 400 v_tp)), (b_op, (arI G 400 v_op)), (b_ar, (arI G 400 v_ar)), (b_pi, (arI G 400 v_pi)), (b_pa, (arI G 400 v_pa)), (b_ws, (arJ G 8 v_ws)), (b_hw, (arJ G 4 v_hw))]) hP hD hS hA [7, 0, 1, 2, 3, 4, 5, 6] (by decide +kernel) rfl
          refine va_calli (va_runV (As := []) (rest := []) ⟨hx, hb, hml, hown, hts⟩ (n_readPartX l G b_o b_tp b_op b_ar b_pi b_pa b_ws b_hw b_rf b_ro b_im b_ke b_nl b_se b_re b_pt b_ip b_ah b_be b_me b_tr b_ld b_wn H.size u_th u_sa u_fd u_td u_fr u_to u_so u_fa u_bd u_nc u_co u_le u_pd u_od u_la u_bk u_ce u_ho u_wy u_bt u_ps u_tg u_sn u_ic u_wd u_id g_a g_t g_le u_wo u_va u_su u_st v_tp v_op v_ar v_pi v_pa v_ws v_hw g_op g_ar g_k h_u_td h_u_fr h_u_to h_u_bd h_u_nc h_u_co h_u_pd h_u_la h_u_bk h_u_ce h_u_ho h_u_wy h_u_bt h_u_ps h_u_ic h_u_id (e_t) (e_s) (e_x) (hE_37) (e_tp) (e_ws) (hE_38)) (cwV 0 hts gV_X12_285 rfl rfl rfl hv_X12_readPart ⟨Nat.le_of_ble_eq_true rfl, Nat.le_of_ble_eq_true rfl⟩) (g5_preV hPc hK hDc hN hT hS hFc (ci := 12) (q0 := 0) rfl rfl) rfl rfl hl.1 rfl (lv_room (Nat.le_of_ble_eq_true rfl)) dX12_readPlain_41 ⟨Nat.le_of_ble_eq_true rfl, Nat.le_of_ble_eq_true rfl⟩) hS (fun q _ h => hFc q h) hFc (fun r u t H locs ht hvm hw hB hz1 hk1 hS => ?_)
          obtain ⟨hP1, hD1⟩ := hB
          have hP1 := g5_ht ht hP1
          rcases hw with ⟨z41, (i_39 : 0 ≤ z41.toInt ∧ z41.toInt ≤ 4), (i_40 : RQ v_tp u_td g_t (S0X g_t g_k g_op g_ar g_a g_le) z41.toInt true u_fr u_to u_so u_wo v_op v_ar v_pi v_pa u_co u_pd u_od u_le), y42, rfl⟩ | ⟨z54, z55, z56, z57, z58, z59, z60, z61, z62, z63, z64, z65, z66, (i_43 : 0 ≤ z55.toInt ∧ z55.toInt ≤ 400), (i_44 : 0 ≤ z56.toInt ∧ z56.toInt ≤ 400), (i_45 : 0 ≤ z59.toInt ∧ z59.toInt ≤ 400), (i_46 : 0 ≤ z61.toInt ∧ z61.toInt ≤ 400), (i_47 : 0 ≤ z54.toInt ∧ z54.toInt ≤ 4), (i_48 : u_fr.toInt ≤ z55.toInt ∧ z55.toInt ≤ z56.toInt ∧ z56.toInt ≤ u_td.toInt), (i_49 : TKs z57.toInt z55.toInt z56.toInt), (i_50 : XJ g_op g_ar z63 z64 z65 z66 g_a.toInt z59.toInt z61.toInt z55.toInt), (i_51 : TJ z63 z64 z65 z66 g_a.toInt z59.toInt z61.toInt z54.toInt), (i_52 : twt z54.toInt + 1 ≤ 0 + 3 * (z55.toInt - u_fr.toInt)), (i_53 : RQ v_tp u_td g_t (S0X g_t g_k g_op g_ar g_a g_le) z54.toInt false z55 z56 z57 z58 z63 z64 z65 z66 z59 z61 z62 z60), y67, rfl⟩
          ·
            have hJ9 := va_join (wr := []) hP hD [7, 0, 1, 2, 3, 4, 5, 6] [] rfl rfl (by decide +kernel) (by decide +kernel) hk1 hFc hP1 hD1
            clear hP hD hPc hDc hFc ht hvm hz1 hk1 hP1 hD1
            obtain ⟨hP, hD⟩ := hJ9
            refine g5_rs [(b_o, (oc12 u_th u_sa b_rf b_ro b_im b_ke u_fd b_tp u_td u_fr u_to u_so u_wo u_fr 1 u_nc b_nl u_co b_op b_ar u_le b_pi b_pa u_pd u_od b_ws b_hw u_la b_se b_re u_bk u_va u_su u_ce u_ho u_wy u_bt u_ps b_pt u_tg u_sn b_ip u_ic b_ah b_be b_me u_wd b_tr b_ld u_st b_wn u_id)), (b_tp, (arI G 400 v_tp)), (b_op, (arI G 400 v_op)), (b_ar, (arI G 400 v_ar)), (b_pi, (arI G 400 v_pi)), (b_pa, (arI G 400 v_pa)), (b_ws, (arJ G 8 v_ws)), (b_hw, (arJ G 4 v_hw))] hP hD ?_
            clear hP hD
            intro hP hD
            refine g5_ti (v := z41) y42 ?_
            exact W.iret (v := z41) hx hb hr (fun t ht hW => ⟨⟨z41, [(b_o, (oc12 u_th u_sa b_rf b_ro b_im b_ke u_fd b_tp u_td u_fr u_to u_so u_wo u_fr 1 u_nc b_nl u_co b_op b_ar u_le b_pi b_pa u_pd u_od b_ws b_hw u_la b_se b_re u_bk u_va u_su u_ce u_ho u_wy u_bt u_ps b_pt u_tg u_sn b_ip u_ic b_ah b_be b_me u_wd b_tr b_ld u_st b_wn u_id)), (b_tp, (arI G 400 v_tp)), (b_op, (arI G 400 v_op)), (b_ar, (arI G 400 v_ar)), (b_pi, (arI G 400 v_pi)), (b_pa, (arI G 400 v_pa)), (b_ws, (arJ G 8 v_ws)), (b_hw, (arJ G 4 v_hw))], rfl, Or.inl (⟨z41, i_39, i_40, rfl, rfl⟩), by rw [ht]; exact hP.sub [0, 1, 2, 3, 4, 5, 6, 7] rfl, hD.sub [0, 1, 2, 3, 4, 5, 6, 7] (by decide +kernel) rfl⟩, hS.F ht⟩) hS.2.2 dX12_readPlain_44
          ·
            have hJ9 := va_join (wr := []) hP hD [7, 0, 1, 2, 3, 4, 5, 6] [] rfl rfl (by decide +kernel) (by decide +kernel) hk1 hFc hP1 hD1
            clear hP hD hPc hDc hFc ht hvm hz1 hk1 hP1 hD1
            obtain ⟨hP, hD⟩ := hJ9
            refine g5_rs [(b_o, (oc12 u_th u_sa b_rf b_ro b_im b_ke u_fd b_tp u_td z55 z56 z57 z58 u_fa u_bd u_nc b_nl z59 b_op b_ar z60 b_pi b_pa z61 z62 b_ws b_hw u_la b_se b_re u_bk u_va u_su u_ce u_ho u_wy u_bt u_ps b_pt u_tg u_sn b_ip u_ic b_ah b_be b_me u_wd b_tr b_ld u_st b_wn u_id)), (b_tp, (arI G 400 v_tp)), (b_op, (arI G 400 z63)), (b_ar, (arI G 400 z64)), (b_pi, (arI G 400 z65)), (b_pa, (arI G 400 z66)), (b_ws, (arJ G 8 v_ws)), (b_hw, (arJ G 4 v_hw))] hP hD ?_
            clear hP hD
            intro hP hD
            refine g5_ti (v := z54) y67 ?_
            exact W.iret (v := z54) hx hb hr (fun t ht hW => ⟨⟨z54, [(b_o, (oc12 u_th u_sa b_rf b_ro b_im b_ke u_fd b_tp u_td z55 z56 z57 z58 u_fa u_bd u_nc b_nl z59 b_op b_ar z60 b_pi b_pa z61 z62 b_ws b_hw u_la b_se b_re u_bk u_va u_su u_ce u_ho u_wy u_bt u_ps b_pt u_tg u_sn b_ip u_ic b_ah b_be b_me u_wd b_tr b_ld u_st b_wn u_id)), (b_tp, (arI G 400 v_tp)), (b_op, (arI G 400 z63)), (b_ar, (arI G 400 z64)), (b_pi, (arI G 400 z65)), (b_pa, (arI G 400 z66)), (b_ws, (arJ G 8 v_ws)), (b_hw, (arJ G 4 v_hw))], rfl, Or.inr (⟨z54, z55, z56, z57, z58, z59, z60, z61, z62, z63, z64, z65, z66, i_43, i_44, i_45, i_46, i_47, by omega, i_49, i_50, i_51, by omega, i_53, rfl, rfl⟩), by rw [ht]; exact hP.sub [0, 1, 2, 3, 4, 5, 6, 7] rfl, hD.sub [0, 1, 2, 3, 4, 5, 6, 7] (by decide +kernel) rfl⟩, hS.F ht⟩) hS.2.2 dX12_readPlain_44
        ·
          exact absurd c_36 (by decide +kernel)
    ·
      exact absurd c_16 (by decide +kernel)
