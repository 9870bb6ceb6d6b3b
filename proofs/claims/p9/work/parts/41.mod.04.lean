theorem dgX12_where_0 : ∀ r ∈ ([(0, (.aload_n 0, 1)), (1, (.iconst 0, 1)), (2, (.putfield 107, 3)), (5, (.aload_n 0, 1)), (6, (.iload_n 1, 1)), (7, (.invokevirtual 180, 3)), (10, (.ifCond .eq 19, 3)), (13, (.iload_n 2, 1)), (14, (.invokestatic 175, 3)), (17, (.ifCond .eq 12, 3)), (20, (.aload_n 0, 1)), (21, (.iload_n 1, 1)), (22, (.iload_n 2, 1)), (23, (.invokevirtual 187, 3)), (26, (.goto 4, 3)), (29, (.iconst (-1), 1)), (30, (.ireturn, 1))] : List (Nat × (Instr × Nat))), decode cX12_where r.1 = .ok r.2 := by decide +kernel
theorem dX12_where_0 : decode cX12_where 0 = .ok (.aload_n 0, 1) := dgX12_where_0 (0, (.aload_n 0, 1)) (List.mem_of_getElem? (i := 0) rfl)
theorem dX12_where_1 : decode cX12_where 1 = .ok (.iconst 0, 1) := dgX12_where_0 (1, (.iconst 0, 1)) (List.mem_of_getElem? (i := 1) rfl)
theorem dX12_where_2 : decode cX12_where 2 = .ok (.putfield 107, 3) := dgX12_where_0 (2, (.putfield 107, 3)) (List.mem_of_getElem? (i := 2) rfl)
theorem dX12_where_5 : decode cX12_where 5 = .ok (.aload_n 0, 1) := dgX12_where_0 (5, (.aload_n 0, 1)) (List.mem_of_getElem? (i := 3) rfl)
theorem dX12_where_6 : decode cX12_where 6 = .ok (.iload_n 1, 1) := dgX12_where_0 (6, (.iload_n 1, 1)) (List.mem_of_getElem? (i := 4) rfl)
theorem dX12_where_7 : decode cX12_where 7 = .ok (.invokevirtual 180, 3) := dgX12_where_0 (7, (.invokevirtual 180, 3)) (List.mem_of_getElem? (i := 5) rfl)
theorem dX12_where_10 : decode cX12_where 10 = .ok (.ifCond .eq 19, 3) := dgX12_where_0 (10, (.ifCond .eq 19, 3)) (List.mem_of_getElem? (i := 6) rfl)
theorem dX12_where_13 : decode cX12_where 13 = .ok (.iload_n 2, 1) := dgX12_where_0 (13, (.iload_n 2, 1)) (List.mem_of_getElem? (i := 7) rfl)
theorem dX12_where_14 : decode cX12_where 14 = .ok (.invokestatic 175, 3) := dgX12_where_0 (14, (.invokestatic 175, 3)) (List.mem_of_getElem? (i := 8) rfl)
theorem dX12_where_17 : decode cX12_where 17 = .ok (.ifCond .eq 12, 3) := dgX12_where_0 (17, (.ifCond .eq 12, 3)) (List.mem_of_getElem? (i := 9) rfl)
theorem dX12_where_20 : decode cX12_where 20 = .ok (.aload_n 0, 1) := dgX12_where_0 (20, (.aload_n 0, 1)) (List.mem_of_getElem? (i := 10) rfl)
theorem dX12_where_21 : decode cX12_where 21 = .ok (.iload_n 1, 1) := dgX12_where_0 (21, (.iload_n 1, 1)) (List.mem_of_getElem? (i := 11) rfl)
theorem dX12_where_22 : decode cX12_where 22 = .ok (.iload_n 2, 1) := dgX12_where_0 (22, (.iload_n 2, 1)) (List.mem_of_getElem? (i := 12) rfl)
theorem dX12_where_23 : decode cX12_where 23 = .ok (.invokevirtual 187, 3) := dgX12_where_0 (23, (.invokevirtual 187, 3)) (List.mem_of_getElem? (i := 13) rfl)
theorem dX12_where_26 : decode cX12_where 26 = .ok (.goto 4, 3) := dgX12_where_0 (26, (.goto 4, 3)) (List.mem_of_getElem? (i := 14) rfl)
theorem dX12_where_29 : decode cX12_where 29 = .ok (.iconst (-1), 1) := dgX12_where_0 (29, (.iconst (-1), 1)) (List.mem_of_getElem? (i := 15) rfl)
theorem dX12_where_30 : decode cX12_where 30 = .ok (.ireturn, 1) := dgX12_where_0 (30, (.ireturn, 1)) (List.mem_of_getElem? (i := 16) rfl)
theorem ml_X12_187 : Cond.methodLink RX12 187 yX12_whereIs ∈ tblG := tg 1463 (by decide +kernel) (by decide +kernel)
theorem im_X12_whereIs : Cond.instanceMethod yX12_whereIs ∈ tblG := tg 1465 (by decide +kernel) (by decide +kernel)
theorem se_X12_whereIs : Cond.selects RX12 yX12_whereIs yX12_whereIs ∈ tblG := tg 41 (by decide +kernel) (by decide +kernel)
theorem cd_X12_whereIs : Cond.code yX12_whereIs cX12_whereIs 3 (some .int) ∈ tblG := tg 1466 (by decide +kernel) (by decide +kernel)
theorem gW_X12_whereIs : GoodIn tblG (wsG yX12_whereIs cX12_whereIs 3 (some .int)) := tgi cd_X12_whereIs
theorem gV_X12_187 : GoodIn tblG (wsV RX12 187 RX12 yX12_whereIs (wsG yX12_whereIs cX12_whereIs 3 (some .int))) := tgV ml_X12_187 im_X12_whereIs se_X12_whereIs ini_X12 gW_X12_whereIs
theorem hv_X12_whereIs : yX12_whereIs.cls = RX12 ∧ yX12_whereIs.cls ≠ "java/lang/invoke/MethodHandle" ∧ yX12_whereIs.cls ≠ "java/lang/invoke/VarHandle" ∧ (parseMethodDescriptor yX12_whereIs.desc).map (fun d => d.parameters.length) = some 2 := by decide +kernel
theorem dgX12_least_0 : ∀ r ∈ ([(0, (.aload_n 0, 1)), (1, (.iconst 0, 1)), (2, (.putfield 107, 3)), (5, (.iload_n 1, 1)), (6, (.i2l, 1)), (7, (.lconst 0, 1)), (8, (.ldc2_w 190, 3)), (11, (.invokestatic 121, 3)), (14, (.ifCond .eq 12, 3)), (17, (.aload_n 0, 1)), (18, (.iconst 4, 1)), (19, (.iload_n 1, 1)), (20, (.invokevirtual 151, 3)), (23, (.goto 8, 3)), (26, (.aload_n 0, 1)), (27, (.iconst (-1), 1)), (28, (.invokevirtual 125, 3)), (31, (.ireturn, 1))] : List (Nat × (Instr × Nat))), decode cX12_least r.1 = .ok r.2 := by decide +kernel
theorem dX12_least_0 : decode cX12_least 0 = .ok (.aload_n 0, 1) := dgX12_least_0 (0, (.aload_n 0, 1)) (List.mem_of_getElem? (i := 0) rfl)
theorem dX12_least_1 : decode cX12_least 1 = .ok (.iconst 0, 1) := dgX12_least_0 (1, (.iconst 0, 1)) (List.mem_of_getElem? (i := 1) rfl)
theorem dX12_least_2 : decode cX12_least 2 = .ok (.putfield 107, 3) := dgX12_least_0 (2, (.putfield 107, 3)) (List.mem_of_getElem? (i := 2) rfl)
theorem dX12_least_5 : decode cX12_least 5 = .ok (.iload_n 1, 1) := dgX12_least_0 (5, (.iload_n 1, 1)) (List.mem_of_getElem? (i := 3) rfl)
theorem dX12_least_6 : decode cX12_least 6 = .ok (.i2l, 1) := dgX12_least_0 (6, (.i2l, 1)) (List.mem_of_getElem? (i := 4) rfl)
theorem dX12_least_7 : decode cX12_least 7 = .ok (.lconst 0, 1) := dgX12_least_0 (7, (.lconst 0, 1)) (List.mem_of_getElem? (i := 5) rfl)
theorem dX12_least_8 : decode cX12_least 8 = .ok (.ldc2_w 190, 3) := dgX12_least_0 (8, (.ldc2_w 190, 3)) (List.mem_of_getElem? (i := 6) rfl)
theorem dX12_least_11 : decode cX12_least 11 = .ok (.invokestatic 121, 3) := dgX12_least_0 (11, (.invokestatic 121, 3)) (List.mem_of_getElem? (i := 7) rfl)
theorem dX12_least_14 : decode cX12_least 14 = .ok (.ifCond .eq 12, 3) := dgX12_least_0 (14, (.ifCond .eq 12, 3)) (List.mem_of_getElem? (i := 8) rfl)
theorem dX12_least_17 : decode cX12_least 17 = .ok (.aload_n 0, 1) := dgX12_least_0 (17, (.aload_n 0, 1)) (List.mem_of_getElem? (i := 9) rfl)
theorem dX12_least_18 : decode cX12_least 18 = .ok (.iconst 4, 1) := dgX12_least_0 (18, (.iconst 4, 1)) (List.mem_of_getElem? (i := 10) rfl)
theorem dX12_least_19 : decode cX12_least 19 = .ok (.iload_n 1, 1) := dgX12_least_0 (19, (.iload_n 1, 1)) (List.mem_of_getElem? (i := 11) rfl)
theorem dX12_least_20 : decode cX12_least 20 = .ok (.invokevirtual 151, 3) := dgX12_least_0 (20, (.invokevirtual 151, 3)) (List.mem_of_getElem? (i := 12) rfl)
theorem dX12_least_23 : decode cX12_least 23 = .ok (.goto 8, 3) := dgX12_least_0 (23, (.goto 8, 3)) (List.mem_of_getElem? (i := 13) rfl)
theorem dX12_least_26 : decode cX12_least 26 = .ok (.aload_n 0, 1) := dgX12_least_0 (26, (.aload_n 0, 1)) (List.mem_of_getElem? (i := 14) rfl)
theorem dX12_least_27 : decode cX12_least 27 = .ok (.iconst (-1), 1) := dgX12_least_0 (27, (.iconst (-1), 1)) (List.mem_of_getElem? (i := 15) rfl)
theorem dX12_least_28 : decode cX12_least 28 = .ok (.invokevirtual 125, 3) := dgX12_least_0 (28, (.invokevirtual 125, 3)) (List.mem_of_getElem? (i := 16) rfl)
theorem dX12_least_31 : decode cX12_least 31 = .ok (.ireturn, 1) := dgX12_least_0 (31, (.ireturn, 1)) (List.mem_of_getElem? (i := 17) rfl)
theorem kl_X12_190 : Cond.constantLong RX12 190 1000000 ∈ tblG := tg 1471 (by decide +kernel) (by decide +kernel)
set_option maxHeartbeats 4000000 in
set_option maxRecDepth 100000 in
theorem n_in_0_1000000 (l : Launch) (G : g5_G) (sz : Nat) (p_x : Int32) : Met l yX12_in (wsG yX12_in cX12_in 6 (some .boolean)) ({ frames := 0, cells := 0, slots := 0, locals := 0 }) (va_Pc [.long p_x.toInt64, .long 0, .long 1000000] (g5_P G [] sz)) (va_Qi (fun (r : Int32) (u : va_W) => ((p_x.toInt < 0 ∨ 1000000 < p_x.toInt) ∧ (r = 0) ∧ (u = [])) ∨ ((0 ≤ p_x.toInt ∧ p_x.toInt ≤ 1000000) ∧ (r = 1) ∧ (u = []))) (g5_B G (va_A [] sz)) (va_A [] sz)) 0 0 (va_A [] sz) := by
  refine Met.ofW (cc := cX12_in) (maxL := 6) (ret := (some .boolean)) (by decide) rfl ?_
  intro p e s m args below meth c s₁ B hml hv
  obtain ⟨rfl, hsz, hP, hK, hD0, hN, hT⟩ := hv
  have hx := B.exec
  have hb := B.bytes
  have hr := B.returns
  have hts : ∀ w ∈ tblG, w.before _ s = true := fun w h => atoms_spec (ws := (wsG yX12_in cX12_in 6 (some .boolean))) B.pre w (List.mem_cons_of_mem _ h)
  have hown : s.vm.findClass RX12 = some m.cls := findClass_of_methodNamed B.named
  have hlocks := B.notSynchronized
  subst hsz
  have hD := hD0.self (sz := s.heap.size)
  generalize hAe : va_A [] s.heap.size = A at hD hT ⊢
  have hA : ∀ q : Nat, s.heap.size ≤ q → A q := fun q h => by rw [← hAe]; exact Or.inr h
  have hS : va_S A s.heap s.heap [] := va_S.rf
  have hP : va_P G.1 vwCl [] s.heap := hP
  have hl := lv_entry ([.long p_x.toInt64, .long 0, .long 1000000]) (n := 6) (Nat.le_of_ble_eq_true rfl)
  rw [lg_entry_eq]
  generalize (lg_sl ([.long p_x.toInt64, .long 0, .long 1000000]) ++ List.replicate (6 - (lg_sl ([.long p_x.toInt64, .long 0, .long 1000000])).length) Slot.unset).toArray = ls at hl ⊢
  have hl : lv_has ls 6 [(0, .long p_x.toInt64), (2, .long 0), (4, .long 1000000)] := hl
  refine lv_lload_n hx hb dX12_in_0 rfl (lv_at hl 0 rfl) ?_
  refine lv_lload_n hx hb dX12_in_1 rfl (lv_at hl 1 rfl) ?_
  have tl_1 : p_x.toInt64.toInt = p_x.toInt := Int32.toInt_toInt64 _
  have tl_2 : (0 : Int64).toInt = 0 := (by decide)
  have tc_3 := g5_cmpI p_x.toInt64 0
  refine W.lcmp hx hb dX12_in_2 ?_
  refine lv_if_lt (tgt := 17) hx hb dX12_in_3 (by decide) (fun c_4 => ?_) (fun c_4 => ?_)
  ·
    have i_4 : (lg_cmp p_x.toInt64 0).toInt < 0 := by have z := g5_lt (a := (lg_cmp p_x.toInt64 0).toInt) (b := 0) (by rfl) (by decide) c_4; omega
    refine lv_iconst (v := 0) hx hb dX12_in_17 (by decide) ?_
    exact W.zret (v := 0) hx hb hr rfl (fun t ht hW => ⟨⟨0, [], rfl, Or.inl (⟨by omega, rfl, rfl⟩), by rw [ht]; exact hP.sub [] rfl, hD.sub [] (by decide) rfl⟩, hS.F ht⟩) hS.2.2 dX12_in_18
  ·
    have i_4 : (lg_cmp p_x.toInt64 0).toInt ≥ 0 := by have z := g5_ltN (a := (lg_cmp p_x.toInt64 0).toInt) (b := 0) (by rfl) (by decide) c_4; omega
    refine lv_lload_n hx hb dX12_in_6 rfl (lv_at hl 0 rfl) ?_
    refine lv_lload hx hb dX12_in_7 (lv_at hl 2 rfl) ?_
    have tl_5 : p_x.toInt64.toInt = p_x.toInt := Int32.toInt_toInt64 _
    have tl_6 : (1000000 : Int64).toInt = 1000000 := (by decide)
    have tc_7 := g5_cmpI p_x.toInt64 1000000
    refine W.lcmp hx hb dX12_in_9 ?_
    refine lv_if_gt (tgt := 17) hx hb dX12_in_10 (by decide) (fun c_8 => ?_) (fun c_8 => ?_)
    ·
      have i_8 : (lg_cmp p_x.toInt64 1000000).toInt > 0 := by have z := g5_gt (a := (lg_cmp p_x.toInt64 1000000).toInt) (b := 0) (by rfl) (by decide) c_8; omega
      refine lv_iconst (v := 0) hx hb dX12_in_17 (by decide) ?_
      exact W.zret (v := 0) hx hb hr rfl (fun t ht hW => ⟨⟨0, [], rfl, Or.inl (⟨by omega, rfl, rfl⟩), by rw [ht]; exact hP.sub [] rfl, hD.sub [] (by decide) rfl⟩, hS.F ht⟩) hS.2.2 dX12_in_18
    ·
      have i_8 : (lg_cmp p_x.toInt64 1000000).toInt ≤ 0 := by have z := g5_gtN (a := (lg_cmp p_x.toInt64 1000000).toInt) (b := 0) (by rfl) (by decide) c_8; omega
      refine lv_iconst (v := 1) hx hb dX12_in_13 (by decide) ?_
      refine lv_goto (tgt := 18) hx hb dX12_in_14 (by decide) ?_
      exact W.zret (v := 1) hx hb hr rfl (fun t ht hW => ⟨⟨1, [], rfl, Or.inr (⟨by omega, rfl, rfl⟩), by rw [ht]; exact hP.sub [] rfl, hD.sub [] (by decide) rfl⟩, hS.F ht⟩) hS.2.2 dX12_in_18
theorem dgX12_faded_0 : ∀ r ∈ ([(0, (.aload_n 0, 1)), (1, (.iconst 0, 1)), (2, (.putfield 107, 3)), (5, (.aload_n 0, 1)), (6, (.getfield 195, 3)), (9, (.ireturn, 1))] : List (Nat × (Instr × Nat))), decode cX12_faded r.1 = .ok r.2 := by decide +kernel
theorem dX12_faded_0 : decode cX12_faded 0 = .ok (.aload_n 0, 1) := dgX12_faded_0 (0, (.aload_n 0, 1)) (List.mem_of_getElem? (i := 0) rfl)
theorem dX12_faded_1 : decode cX12_faded 1 = .ok (.iconst 0, 1) := dgX12_faded_0 (1, (.iconst 0, 1)) (List.mem_of_getElem? (i := 1) rfl)
theorem dX12_faded_2 : decode cX12_faded 2 = .ok (.putfield 107, 3) := dgX12_faded_0 (2, (.putfield 107, 3)) (List.mem_of_getElem? (i := 2) rfl)
theorem dX12_faded_5 : decode cX12_faded 5 = .ok (.aload_n 0, 1) := dgX12_faded_0 (5, (.aload_n 0, 1)) (List.mem_of_getElem? (i := 3) rfl)
theorem dX12_faded_6 : decode cX12_faded 6 = .ok (.getfield 195, 3) := dgX12_faded_0 (6, (.getfield 195, 3)) (List.mem_of_getElem? (i := 4) rfl)
theorem dX12_faded_9 : decode cX12_faded 9 = .ok (.ireturn, 1) := dgX12_faded_0 (9, (.ireturn, 1)) (List.mem_of_getElem? (i := 5) rfl)
theorem fl_X12_195 : Cond.fieldLink RX12 195 "LateGlassModel" "faded" "I" ∈ tblG := tg 1209 (by decide +kernel) (by decide +kernel)
theorem dgX12_fault_0 : ∀ r ∈ ([(0, (.aload_n 0, 1)), (1, (.iconst 0, 1)), (2, (.putfield 107, 3)), (5, (.aload_n 0, 1)), (6, (.getfield 26, 3)), (9, (.ireturn, 1))] : List (Nat × (Instr × Nat))), decode cX12_fault r.1 = .ok r.2 := by decide +kernel
theorem dX12_fault_0 : decode cX12_fault 0 = .ok (.aload_n 0, 1) := dgX12_fault_0 (0, (.aload_n 0, 1)) (List.mem_of_getElem? (i := 0) rfl)
theorem dX12_fault_1 : decode cX12_fault 1 = .ok (.iconst 0, 1) := dgX12_fault_0 (1, (.iconst 0, 1)) (List.mem_of_getElem? (i := 1) rfl)
theorem dX12_fault_2 : decode cX12_fault 2 = .ok (.putfield 107, 3) := dgX12_fault_0 (2, (.putfield 107, 3)) (List.mem_of_getElem? (i := 2) rfl)
theorem dX12_fault_5 : decode cX12_fault 5 = .ok (.aload_n 0, 1) := dgX12_fault_0 (5, (.aload_n 0, 1)) (List.mem_of_getElem? (i := 3) rfl)
theorem dX12_fault_6 : decode cX12_fault 6 = .ok (.getfield 26, 3) := dgX12_fault_0 (6, (.getfield 26, 3)) (List.mem_of_getElem? (i := 4) rfl)
theorem dX12_fault_9 : decode cX12_fault 9 = .ok (.ireturn, 1) := dgX12_fault_0 (9, (.ireturn, 1)) (List.mem_of_getElem? (i := 5) rfl)
theorem fl_X12_26 : Cond.fieldLink RX12 26 "LateGlassModel" "fault" "I" ∈ tblG := tg 1216 (by decide +kernel) (by decide +kernel)
set_option maxHeartbeats 4000000 in
set_option maxRecDepth 100000 in
theorem n_fault (l : Launch) (G : g5_G) (b_o b_rf b_ro b_im b_ke b_tp b_nl b_op b_ar b_pi b_pa b_ws b_hw b_se b_re b_pt b_ip b_ah b_be b_me b_tr b_ld b_wn : Nat) (sz : Nat) (u_th : Int32) (u_sa : Int32) (u_fd : Int32) (u_td : Int32) (u_fr : Int32) (u_to : Int32) (u_so : Int32) (u_fa : Int32) (u_bd : Int32) (u_nc : Int32) (u_co : Int32) (u_le : Int32) (u_pd : Int32) (u_od : Int32) (u_la : Int32) (u_bk : Int32) (u_ce : Int32) (u_ho : Int32) (u_wy : Int32) (u_bt : Int32) (u_ps : Int32) (u_tg : Int32) (u_sn : Int32) (u_ic : Int32) (u_wd : Int32) (u_id : Int32) (u_wo : Int64) (u_va : Int64) (u_su : Int64) (u_st : Int64) (h_u_td : 0 ≤ u_td.toInt ∧ u_td.toInt ≤ 400) (h_u_fr : 0 ≤ u_fr.toInt ∧ u_fr.toInt ≤ 400) (h_u_to : 0 ≤ u_to.toInt ∧ u_to.toInt ≤ 400) (h_u_bd : 0 ≤ u_bd.toInt ∧ u_bd.toInt ≤ 1) (h_u_nc : 0 ≤ u_nc.toInt ∧ u_nc.toInt ≤ 12) (h_u_co : 0 ≤ u_co.toInt ∧ u_co.toInt ≤ 400) (h_u_pd : 0 ≤ u_pd.toInt ∧ u_pd.toInt ≤ 400) (h_u_la : 0 ≤ u_la.toInt ∧ u_la.toInt ≤ 4840) (h_u_bk : 0 ≤ u_bk.toInt ∧ u_bk.toInt ≤ 1) (h_u_ce : 0 ≤ u_ce.toInt ∧ u_ce.toInt ≤ 63) (h_u_ho : 0 ≤ u_ho.toInt ∧ u_ho.toInt ≤ 23) (h_u_wy : 0 ≤ u_wy.toInt ∧ u_wy.toInt ≤ 3) (h_u_bt : 0 ≤ u_bt.toInt ∧ u_bt.toInt ≤ 1000000) (h_u_ps : 0 ≤ u_ps.toInt ∧ u_ps.toInt ≤ 200) (h_u_ic : 0 ≤ u_ic.toInt ∧ u_ic.toInt ≤ 1) (h_u_id : 0 ≤ u_id.toInt ∧ u_id.toInt ≤ 1) : Met l yX12_fault (wsG yX12_fault cX12_fault 1 (some .int)) ({ frames := 0, cells := 0, slots := 0, locals := 0 }) (va_Pc [.ref b_o] (g5_P G [(b_o, (oc12 u_th u_sa b_rf b_ro b_im b_ke u_fd b_tp u_td u_fr u_to u_so u_wo u_fa u_bd u_nc b_nl u_co b_op b_ar u_le b_pi b_pa u_pd u_od b_ws b_hw u_la b_se b_re u_bk u_va u_su u_ce u_ho u_wy u_bt u_ps b_pt u_tg u_sn b_ip u_ic b_ah b_be b_me u_wd b_tr b_ld u_st b_wn u_id))] sz)) (va_Qi (fun (r : Int32) (u : va_W) => (∃ (o_r : Int32) (o_th : Int32), (r = o_r) ∧ (u = [(b_o, (oc12 o_th u_sa b_rf b_ro b_im b_ke u_fd b_tp u_td u_fr u_to u_so u_wo u_fa u_bd u_nc b_nl u_co b_op b_ar u_le b_pi b_pa u_pd u_od b_ws b_hw u_la b_se b_re u_bk u_va u_su u_ce u_ho u_wy u_bt u_ps b_pt u_tg u_sn b_ip u_ic b_ah b_be b_me u_wd b_tr b_ld u_st b_wn u_id))]))) (g5_B G (va_A [(b_o, (oc12 u_th u_sa b_rf b_ro b_im b_ke u_fd b_tp u_td u_fr u_to u_so u_wo u_fa u_bd u_nc b_nl u_co b_op b_ar u_le b_pi b_pa u_pd u_od b_ws b_hw u_la b_se b_re u_bk u_va u_su u_ce u_ho u_wy u_bt u_ps b_pt u_tg u_sn b_ip u_ic b_ah b_be b_me u_wd b_tr b_ld u_st b_wn u_id))] sz)) (va_A [(b_o, (oc12 u_th u_sa b_rf b_ro b_im b_ke u_fd b_tp u_td u_fr u_to u_so u_wo u_fa u_bd u_nc b_nl u_co b_op b_ar u_le b_pi b_pa u_pd u_od b_ws b_hw u_la b_se b_re u_bk u_va u_su u_ce u_ho u_wy u_bt u_ps b_pt u_tg u_sn b_ip u_ic b_ah b_be b_me u_wd b_tr b_ld u_st b_wn u_id))] sz)) 0 0 (va_A [(b_o, (oc12 u_th u_sa b_rf b_ro b_im b_ke u_fd b_tp u_td u_fr u_to u_so u_wo u_fa u_bd u_nc b_nl u_co b_op b_ar u_le b_pi b_pa u_pd u_od b_ws b_hw u_la b_se b_re u_bk u_va u_su u_ce u_ho u_wy u_bt u_ps b_pt u_tg u_sn b_ip u_ic b_ah b_be b_me u_wd b_tr b_ld u_st b_wn u_id))] sz) := by
  refine Met.ofW (cc := cX12_fault) (maxL := 1) (ret := (some .int)) (by decide) rfl ?_
  intro p e s m args below meth c s₁ B hml hv
  obtain ⟨rfl, hsz, hP, hK, hD0, hN, hT⟩ := hv
  have hx := B.exec
  have hb := B.bytes
  have hr := B.returns
  have hts : ∀ w ∈ tblG, w.before _ s = true := fun w h => atoms_spec (ws := (wsG yX12_fault cX12_fault 1 (some .int))) B.pre w (List.mem_cons_of_mem _ h)
  have hown : s.vm.findClass RX12 = some m.cls := findClass_of_methodNamed B.named
  have hlocks := B.notSynchronized
  subst hsz
  have hD := hD0.self (sz := s.heap.size)
  generalize hAe : va_A [(b_o, (oc12 u_th u_sa b_rf b_ro b_im b_ke u_fd b_tp u_td u_fr u_to u_so u_wo u_fa u_bd u_nc b_nl u_co b_op b_ar u_le b_pi b_pa u_pd u_od b_ws b_hw u_la b_se b_re u_bk u_va u_su u_ce u_ho u_wy u_bt u_ps b_pt u_tg u_sn b_ip u_ic b_ah b_be b_me u_wd b_tr b_ld u_st b_wn u_id))] s.heap.size = A at hD hT ⊢
  have hA : ∀ q : Nat, s.heap.size ≤ q → A q := fun q h => by rw [← hAe]; exact Or.inr h
  have hS : va_S A s.heap s.heap [] := va_S.rf
  have hP : va_P G.1 vwCl [(b_o, (oc12 u_th u_sa b_rf b_ro b_im b_ke u_fd b_tp u_td u_fr u_to u_so u_wo u_fa u_bd u_nc b_nl u_co b_op b_ar u_le b_pi b_pa u_pd u_od b_ws b_hw u_la b_se b_re u_bk u_va u_su u_ce u_ho u_wy u_bt u_ps b_pt u_tg u_sn b_ip u_ic b_ah b_be b_me u_wd b_tr b_ld u_st b_wn u_id))] s.heap := hP
  have hl := lv_entry ([.ref b_o]) (n := 1) (Nat.le_of_ble_eq_true rfl)
  rw [lg_entry_eq]
  generalize (lg_sl ([.ref b_o]) ++ List.replicate (1 - (lg_sl ([.ref b_o])).length) Slot.unset).toArray = ls at hl ⊢
  have hl : lv_has ls 1 [(0, .ref b_o)] := hl
  refine lv_aload_n hx hb dX12_fault_0 rfl (lv_at hl 0 rfl) ?_
  refine lv_iconst (v := 0) hx hb dX12_fault_1 (by decide) ?_
  refine va_put (D := G.1) (ci := 12) (v := .int 0) (ty := .int) (C := RX12) (T := TX12) (N := 52) hx hb hts inG_X12 tyX12 tyX12_ok nmX12 hown hK hP hD hS 0 rfl rfl 0 (by decide) (hts _ fl_X12_107) (fun _ h9 => h9) rfl (by decide +kernel) rfl rfl (Nat.le_of_ble_eq_true rfl) dX12_fault_2 (fun H locs hP hD hS => ?_)
  refine g5_rs [(b_o, (oc12 0 u_sa b_rf b_ro b_im b_ke u_fd b_tp u_td u_fr u_to u_so u_wo u_fa u_bd u_nc b_nl u_co b_op b_ar u_le b_pi b_pa u_pd u_od b_ws b_hw u_la b_se b_re u_bk u_va u_su u_ce u_ho u_wy u_bt u_ps b_pt u_tg u_sn b_ip u_ic b_ah b_be b_me u_wd b_tr b_ld u_st b_wn u_id))] hP hD (fun hP hD => ?_)
  refine lv_aload_n hx hb dX12_fault_5 rfl (lv_at hl 0 rfl) ?_
  refine va_get (D := G.1) (ci := 12) (v := .int u_fa) (C := RX12) (T := TX12) (N := 52) hx hb hts inG_X12 hown hK hP 0 rfl rfl 13 (by decide) (hts _ fl_X12_26) (fun _ h9 => h9) rfl dX12_fault_6 ?_
  exact W.iret (v := u_fa) hx hb hr (fun t ht hW => ⟨⟨u_fa, [(b_o, (oc12 0 u_sa b_rf b_ro b_im b_ke u_fd b_tp u_td u_fr u_to u_so u_wo u_fa u_bd u_nc b_nl u_co b_op b_ar u_le b_pi b_pa u_pd u_od b_ws b_hw u_la b_se b_re u_bk u_va u_su u_ce u_ho u_wy u_bt u_ps b_pt u_tg u_sn b_ip u_ic b_ah b_be b_me u_wd b_tr b_ld u_st b_wn u_id))], rfl, ⟨u_fa, 0, rfl, rfl⟩, by rw [ht]; exact hP.sub [0] rfl, hD.sub [0] (by decide) rfl⟩, hS.F ht⟩) hS.2.2 dX12_fault_9
theorem dgX12_status_0 : ∀ r ∈ ([(0, (.aload_n 0, 1)), (1, (.iconst 0, 1)), (2, (.putfield 107, 3)), (5, (.aload_n 0, 1)), (6, (.getfield 110, 3)), (9, (.ireturn, 1))] : List (Nat × (Instr × Nat))), decode cX12_status r.1 = .ok r.2 := by decide +kernel
theorem dX12_status_0 : decode cX12_status 0 = .ok (.aload_n 0, 1) := dgX12_status_0 (0, (.aload_n 0, 1)) (List.mem_of_getElem? (i := 0) rfl)
theorem dX12_status_1 : decode cX12_status 1 = .ok (.iconst 0, 1) := dgX12_status_0 (1, (.iconst 0, 1)) (List.mem_of_getElem? (i := 1) rfl)
theorem dX12_status_2 : decode cX12_status 2 = .ok (.putfield 107, 3) := dgX12_status_0 (2, (.putfield 107, 3)) (List.mem_of_getElem? (i := 2) rfl)
theorem dX12_status_5 : decode cX12_status 5 = .ok (.aload_n 0, 1) := dgX12_status_0 (5, (.aload_n 0, 1)) (List.mem_of_getElem? (i := 3) rfl)
theorem dX12_status_6 : decode cX12_status 6 = .ok (.getfield 110, 3) := dgX12_status_0 (6, (.getfield 110, 3)) (List.mem_of_getElem? (i := 4) rfl)
theorem dX12_status_9 : decode cX12_status 9 = .ok (.ireturn, 1) := dgX12_status_0 (9, (.ireturn, 1)) (List.mem_of_getElem? (i := 5) rfl)
set_option maxHeartbeats 4000000 in
set_option maxRecDepth 100000 in
theorem n_status (l : Launch) (G : g5_G) (b_o b_rf b_ro b_im b_ke b_tp b_nl b_op b_ar b_pi b_pa b_ws b_hw b_se b_re b_pt b_ip b_ah b_be b_me b_tr b_ld b_wn : Nat) (sz : Nat) (u_th : Int32) (u_sa : Int32) (u_fd : Int32) (u_td : Int32) (u_fr : Int32) (u_to : Int32) (u_so : Int32) (u_fa : Int32) (u_bd : Int32) (u_nc : Int32) (u_co : Int32) (u_le : Int32) (u_pd : Int32) (u_od : Int32) (u_la : Int32) (u_bk : Int32) (u_ce : Int32) (u_ho : Int32) (u_wy : Int32) (u_bt : Int32) (u_ps : Int32) (u_tg : Int32) (u_sn : Int32) (u_ic : Int32) (u_wd : Int32) (u_id : Int32) (u_wo : Int64) (u_va : Int64) (u_su : Int64) (u_st : Int64) (h_u_td : 0 ≤ u_td.toInt ∧ u_td.toInt ≤ 400) (h_u_fr : 0 ≤ u_fr.toInt ∧ u_fr.toInt ≤ 400) (h_u_to : 0 ≤ u_to.toInt ∧ u_to.toInt ≤ 400) (h_u_bd : 0 ≤ u_bd.toInt ∧ u_bd.toInt ≤ 1) (h_u_nc : 0 ≤ u_nc.toInt ∧ u_nc.toInt ≤ 12) (h_u_co : 0 ≤ u_co.toInt ∧ u_co.toInt ≤ 400) (h_u_pd : 0 ≤ u_pd.toInt ∧ u_pd.toInt ≤ 400) (h_u_la : 0 ≤ u_la.toInt ∧ u_la.toInt ≤ 4840) (h_u_bk : 0 ≤ u_bk.toInt ∧ u_bk.toInt ≤ 1) (h_u_ce : 0 ≤ u_ce.toInt ∧ u_ce.toInt ≤ 63) (h_u_ho : 0 ≤ u_ho.toInt ∧ u_ho.toInt ≤ 23) (h_u_wy : 0 ≤ u_wy.toInt ∧ u_wy.toInt ≤ 3) (h_u_bt : 0 ≤ u_bt.toInt ∧ u_bt.toInt ≤ 1000000) (h_u_ps : 0 ≤ u_ps.toInt ∧ u_ps.toInt ≤ 200) (h_u_ic : 0 ≤ u_ic.toInt ∧ u_ic.toInt ≤ 1) (h_u_id : 0 ≤ u_id.toInt ∧ u_id.toInt ≤ 1) : Met l yX12_status (wsG yX12_status cX12_status 1 (some .int)) ({ frames := 0, cells := 0, slots := 0, locals := 0 }) (va_Pc [.ref b_o] (g5_P G [(b_o, (oc12 u_th u_sa b_rf b_ro b_im b_ke u_fd b_tp u_td u_fr u_to u_so u_wo u_fa u_bd u_nc b_nl u_co b_op b_ar u_le b_pi b_pa u_pd u_od b_ws b_hw u_la b_se b_re u_bk u_va u_su u_ce u_ho u_wy u_bt u_ps b_pt u_tg u_sn b_ip u_ic b_ah b_be b_me u_wd b_tr b_ld u_st b_wn u_id))] sz)) (va_Qi (fun (r : Int32) (u : va_W) => (∃ (o_r : Int32) (o_th : Int32), (r = o_r) ∧ (u = [(b_o, (oc12 o_th u_sa b_rf b_ro b_im b_ke u_fd b_tp u_td u_fr u_to u_so u_wo u_fa u_bd u_nc b_nl u_co b_op b_ar u_le b_pi b_pa u_pd u_od b_ws b_hw u_la b_se b_re u_bk u_va u_su u_ce u_ho u_wy u_bt u_ps b_pt u_tg u_sn b_ip u_ic b_ah b_be b_me u_wd b_tr b_ld u_st b_wn u_id))]))) (g5_B G (va_A [(b_o, (oc12 u_th u_sa b_rf b_ro b_im b_ke u_fd b_tp u_td u_fr u_to u_so u_wo u_fa u_bd u_nc b_nl u_co b_op b_ar u_le b_pi b_pa u_pd u_od b_ws b_hw u_la b_se b_re u_bk u_va u_su u_ce u_ho u_wy u_bt u_ps b_pt u_tg u_sn b_ip u_ic b_ah b_be b_me u_wd b_tr b_ld u_st b_wn u_id))] sz)) (va_A [(b_o, (oc12 u_th u_sa b_rf b_ro b_im b_ke u_fd b_tp u_td u_fr u_to u_so u_wo u_fa u_bd u_nc b_nl u_co b_op b_ar u_le b_pi b_pa u_pd u_od b_ws b_hw u_la b_se b_re u_bk u_va u_su u_ce u_ho u_wy u_bt u_ps b_pt u_tg u_sn b_ip u_ic b_ah b_be b_me u_wd b_tr b_ld u_st b_wn u_id))] sz)) 0 0 (va_A [(b_o, (oc12 u_th u_sa b_rf b_ro b_im b_ke u_fd b_tp u_td u_fr u_to u_so u_wo u_fa u_bd u_nc b_nl u_co b_op b_ar u_le b_pi b_pa u_pd u_od b_ws b_hw u_la b_se b_re u_bk u_va u_su u_ce u_ho u_wy u_bt u_ps b_pt u_tg u_sn b_ip u_ic b_ah b_be b_me u_wd b_tr b_ld u_st b_wn u_id))] sz) := by
  refine Met.ofW (cc := cX12_status) (maxL := 1) (ret := (some .int)) (by decide) rfl ?_
  intro p e s m args below meth c s₁ B hml hv
  obtain ⟨rfl, hsz, hP, hK, hD0, hN, hT⟩ := hv
  have hx := B.exec
  have hb := B.bytes
  have hr := B.returns
  have hts : ∀ w ∈ tblG, w.before _ s = true := fun w h => atoms_spec (ws := (wsG yX12_status cX12_status 1 (some .int))) B.pre w (List.mem_cons_of_mem _ h)
  have hown : s.vm.findClass RX12 = some m.cls := findClass_of_methodNamed B.named
  have hlocks := B.notSynchronized
  subst hsz
  have hD := hD0.self (sz := s.heap.size)
  generalize hAe : va_A [(b_o, (oc12 u_th u_sa b_rf b_ro b_im b_ke u_fd b_tp u_td u_fr u_to u_so u_wo u_fa u_bd u_nc b_nl u_co b_op b_ar u_le b_pi b_pa u_pd u_od b_ws b_hw u_la b_se b_re u_bk u_va u_su u_ce u_ho u_wy u_bt u_ps b_pt u_tg u_sn b_ip u_ic b_ah b_be b_me u_wd b_tr b_ld u_st b_wn u_id))] s.heap.size = A at hD hT ⊢
  have hA : ∀ q : Nat, s.heap.size ≤ q → A q := fun q h => by rw [← hAe]; exact Or.inr h
  have hS : va_S A s.heap s.heap [] := va_S.rf
  have hP : va_P G.1 vwCl [(b_o, (oc12 u_th u_sa b_rf b_ro b_im b_ke u_fd b_tp u_td u_fr u_to u_so u_wo u_fa u_bd u_nc b_nl u_co b_op b_ar u_le b_pi b_pa u_pd u_od b_ws b_hw u_la b_se b_re u_bk u_va u_su u_ce u_ho u_wy u_bt u_ps b_pt u_tg u_sn b_ip u_ic b_ah b_be b_me u_wd b_tr b_ld u_st b_wn u_id))] s.heap := hP
  have hl := lv_entry ([.ref b_o]) (n := 1) (Nat.le_of_ble_eq_true rfl)
  rw [lg_entry_eq]
  generalize (lg_sl ([.ref b_o]) ++ List.replicate (1 - (lg_sl ([.ref b_o])).length) Slot.unset).toArray = ls at hl ⊢
  have hl : lv_has ls 1 [(0, .ref b_o)] := hl
  refine lv_aload_n hx hb dX12_status_0 rfl (lv_at hl 0 rfl) ?_
  refine lv_iconst (v := 0) hx hb dX12_status_1 (by decide) ?_
  refine va_put (D := G.1) (ci := 12) (v := .int 0) (ty := .int) (C := RX12) (T := TX12) (N := 52) hx hb hts inG_X12 tyX12 tyX12_ok nmX12 hown hK hP hD hS 0 rfl rfl 0 (by decide) (hts _ fl_X12_107) (fun _ h9 => h9) rfl (by decide +kernel) rfl rfl (Nat.le_of_ble_eq_true rfl) dX12_status_2 (fun H locs hP hD hS => ?_)
  refine g5_rs [(b_o, (oc12 0 u_sa b_rf b_ro b_im b_ke u_fd b_tp u_td u_fr u_to u_so u_wo u_fa u_bd u_nc b_nl u_co b_op b_ar u_le b_pi b_pa u_pd u_od b_ws b_hw u_la b_se b_re u_bk u_va u_su u_ce u_ho u_wy u_bt u_ps b_pt u_tg u_sn b_ip u_ic b_ah b_be b_me u_wd b_tr b_ld u_st b_wn u_id))] hP hD (fun hP hD => ?_)
  refine lv_aload_n hx hb dX12_status_5 rfl (lv_at hl 0 rfl) ?_
  refine va_get (D := G.1) (ci := 12) (v := .int u_sa) (C := RX12) (T := TX12) (N := 52) hx hb hts inG_X12 hown hK hP 0 rfl rfl 1 (by decide) (hts _ fl_X12_110) (fun _ h9 => h9) rfl dX12_status_6 ?_
  exact W.iret (v := u_sa) hx hb hr (fun t ht hW => ⟨⟨u_sa, [(b_o, (oc12 0 u_sa b_rf b_ro b_im b_ke u_fd b_tp u_td u_fr u_to u_so u_wo u_fa u_bd u_nc b_nl u_co b_op b_ar u_le b_pi b_pa u_pd u_od b_ws b_hw u_la b_se b_re u_bk u_va u_su u_ce u_ho u_wy u_bt u_ps b_pt u_tg u_sn b_ip u_ic b_ah b_be b_me u_wd b_tr b_ld u_st b_wn u_id))], rfl, ⟨u_sa, 0, rfl, rfl⟩, by rw [ht]; exact hP.sub [0] rfl, hD.sub [0] (by decide) rfl⟩, hS.F ht⟩) hS.2.2 dX12_status_9
theorem dgX12_drawn_0 : ∀ r ∈ ([(0, (.aload_n 0, 1)), (1, (.iconst 0, 1)), (2, (.putfield 107, 3)), (5, (.aload_n 0, 1)), (6, (.getfield 478, 3)), (9, (.ifCond .eq 19, 3)), (12, (.iload_n 1, 1)), (13, (.invokestatic 175, 3)), (16, (.ifCond .eq 12, 3)), (19, (.aload_n 0, 1)), (20, (.getfield 104, 3)), (23, (.iload_n 1, 1)), (24, (.iaload, 1)), (25, (.goto 4, 3)), (28, (.iconst (-1), 1)), (29, (.ireturn, 1))] : List (Nat × (Instr × Nat))), decode cX12_drawn r.1 = .ok r.2 := by decide +kernel
theorem dX12_drawn_0 : decode cX12_drawn 0 = .ok (.aload_n 0, 1) := dgX12_drawn_0 (0, (.aload_n 0, 1)) (List.mem_of_getElem? (i := 0) rfl)
theorem dX12_drawn_1 : decode cX12_drawn 1 = .ok (.iconst 0, 1) := dgX12_drawn_0 (1, (.iconst 0, 1)) (List.mem_of_getElem? (i := 1) rfl)
theorem dX12_drawn_2 : decode cX12_drawn 2 = .ok (.putfield 107, 3) := dgX12_drawn_0 (2, (.putfield 107, 3)) (List.mem_of_getElem? (i := 2) rfl)
theorem dX12_drawn_5 : decode cX12_drawn 5 = .ok (.aload_n 0, 1) := dgX12_drawn_0 (5, (.aload_n 0, 1)) (List.mem_of_getElem? (i := 3) rfl)
theorem dX12_drawn_6 : decode cX12_drawn 6 = .ok (.getfield 478, 3) := dgX12_drawn_0 (6, (.getfield 478, 3)) (List.mem_of_getElem? (i := 4) rfl)
theorem dX12_drawn_9 : decode cX12_drawn 9 = .ok (.ifCond .eq 19, 3) := dgX12_drawn_0 (9, (.ifCond .eq 19, 3)) (List.mem_of_getElem? (i := 5) rfl)
theorem dX12_drawn_12 : decode cX12_drawn 12 = .ok (.iload_n 1, 1) := dgX12_drawn_0 (12, (.iload_n 1, 1)) (List.mem_of_getElem? (i := 6) rfl)
theorem dX12_drawn_13 : decode cX12_drawn 13 = .ok (.invokestatic 175, 3) := dgX12_drawn_0 (13, (.invokestatic 175, 3)) (List.mem_of_getElem? (i := 7) rfl)
theorem dX12_drawn_16 : decode cX12_drawn 16 = .ok (.ifCond .eq 12, 3) := dgX12_drawn_0 (16, (.ifCond .eq 12, 3)) (List.mem_of_getElem? (i := 8) rfl)
theorem dX12_drawn_19 : decode cX12_drawn 19 = .ok (.aload_n 0, 1) := dgX12_drawn_0 (19, (.aload_n 0, 1)) (List.mem_of_getElem? (i := 9) rfl)
theorem dX12_drawn_20 : decode cX12_drawn 20 = .ok (.getfield 104, 3) := dgX12_drawn_0 (20, (.getfield 104, 3)) (List.mem_of_getElem? (i := 10) rfl)
theorem dX12_drawn_23 : decode cX12_drawn 23 = .ok (.iload_n 1, 1) := dgX12_drawn_0 (23, (.iload_n 1, 1)) (List.mem_of_getElem? (i := 11) rfl)
theorem dX12_drawn_24 : decode cX12_drawn 24 = .ok (.iaload, 1) := dgX12_drawn_0 (24, (.iaload, 1)) (List.mem_of_getElem? (i := 12) rfl)
theorem dX12_drawn_25 : decode cX12_drawn 25 = .ok (.goto 4, 3) := dgX12_drawn_0 (25, (.goto 4, 3)) (List.mem_of_getElem? (i := 13) rfl)
theorem dX12_drawn_28 : decode cX12_drawn 28 = .ok (.iconst (-1), 1) := dgX12_drawn_0 (28, (.iconst (-1), 1)) (List.mem_of_getElem? (i := 14) rfl)
theorem dX12_drawn_29 : decode cX12_drawn 29 = .ok (.ireturn, 1) := dgX12_drawn_0 (29, (.ireturn, 1)) (List.mem_of_getElem? (i := 15) rfl)
theorem fl_X12_478 : Cond.fieldLink RX12 478 "LateGlassModel" "isDrawn" "Z" ∈ tblG := tg 1254 (by decide +kernel) (by decide +kernel)
theorem fl_X12_104 : Cond.fieldLink RX12 104 "LateGlassModel" "wandered" "[I" ∈ tblG := tg 1253 (by decide +kernel) (by decide +kernel)
