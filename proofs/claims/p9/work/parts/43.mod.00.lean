set_option maxHeartbeats 4000000 in
set_option maxRecDepth 100000 in
theorem n_inL (l : Launch) (G : g5_G) (sz : Nat) (p_a : Int64) (p_b : Int64) (p_c : Int64) : Met l yX12_in (wsG yX12_in cX12_in 6 (some .boolean)) ({ frames := 0, cells := 0, slots := 0, locals := 0 }) (va_Pc [.long p_a, .long p_b, .long p_c] (g5_P G [] sz)) (va_Qi (fun (r : Int32) (u : va_W) => (∃ (o_r : Int32), (0 ≤ o_r.toInt ∧ o_r.toInt ≤ 1) ∧ (r = o_r) ∧ (u = []))) (g5_B G (va_A [] sz)) (va_A [] sz)) 0 0 (va_A [] sz) := by
  refine Met.ofW (cc := cX12_in) (maxL := 6) (ret := (some .boolean)) (by decide) rfl ?_
  intro p e s m args below meth c s₁ B hml hv
  obtain ⟨rfl, hsz, hP, hK, hD0, hN, hT⟩ := hv
  have hx := B.exec
  have hb := B.bytes
  have hr := B.returns
  have hts : ∀ w ∈ tblG, w.before _ s = true := fun w h => atoms_spec (ws := (wsG yX12_in cX12_in 6 (some .boolean))) B.pre w (List.mem_cons_of_mem _ h)
  have hown : s.vm.findClass RX12 = some m.cls := findClass_of_methodNamed B.named
  have hlocks := B.notSynchronized
  subst hsz
  have hD := hD0.self (sz := s.heap.size)
  generalize hAe : va_A [] s.heap.size = A at hD hT ⊢
  have hA : ∀ q : Nat, s.heap.size ≤ q → A q := fun q h => by rw [← hAe]; exact Or.inr h
  have hS : va_S A s.heap s.heap [] := va_S.rf
  have hP : va_P G.1 vwCl [] s.heap := hP
  have hl := lv_entry ([.long p_a, .long p_b, .long p_c]) (n := 6) (Nat.le_of_ble_eq_true rfl)
  rw [lg_entry_eq]
  generalize (lg_sl ([.long p_a, .long p_b, .long p_c]) ++ List.replicate (6 - (lg_sl ([.long p_a, .long p_b, .long p_c])).length) Slot.unset).toArray = ls at hl ⊢
  have hl : lv_has ls 6 [(0, .long p_a), (2, .long p_b), (4, .long p_c)] := hl
  refine lv_lload_n hx hb dX12_in_0 rfl (lv_at hl 0 rfl) ?_
  refine lv_lload_n hx hb dX12_in_1 rfl (lv_at hl 1 rfl) ?_
  refine W.lcmp hx hb dX12_in_2 ?_
  refine lv_if_lt (tgt := 17) hx hb dX12_in_3 (by decide) (fun c_1 => ?_) (fun c_1 => ?_)
  ·
    have i_1 : (lg_cmp p_a p_b).toInt < 0 := by have z := g5_lt (a := (lg_cmp p_a p_b).toInt) (b := 0) (by rfl) (by decide) c_1; omega
    refine lv_iconst (v := 0) hx hb dX12_in_17 (by decide) ?_
    exact W.zret (v := 0) hx hb hr rfl (fun t ht hW => ⟨⟨0, [], rfl, ⟨0, ⟨by have zc_o_r : (0 : Int32).toInt = 0 := (by decide); omega, by have zc_o_r : (0 : Int32).toInt = 0 := (by decide); omega⟩, rfl, rfl⟩, by rw [ht]; exact hP.sub [] rfl, hD.sub [] (by decide) rfl⟩, hS.F ht⟩) hS.2.2 dX12_in_18
  ·
    have i_1 : (lg_cmp p_a p_b).toInt ≥ 0 := by have z := g5_ltN (a := (lg_cmp p_a p_b).toInt) (b := 0) (by rfl) (by decide) c_1; omega
    refine lv_lload_n hx hb dX12_in_6 rfl (lv_at hl 0 rfl) ?_
    refine lv_lload hx hb dX12_in_7 (lv_at hl 2 rfl) ?_
    refine W.lcmp hx hb dX12_in_9 ?_
    refine lv_if_gt (tgt := 17) hx hb dX12_in_10 (by decide) (fun c_2 => ?_) (fun c_2 => ?_)
    ·
      have i_2 : (lg_cmp p_a p_c).toInt > 0 := by have z := g5_gt (a := (lg_cmp p_a p_c).toInt) (b := 0) (by rfl) (by decide) c_2; omega
      refine lv_iconst (v := 0) hx hb dX12_in_17 (by decide) ?_
      exact W.zret (v := 0) hx hb hr rfl (fun t ht hW => ⟨⟨0, [], rfl, ⟨0, ⟨by have zc_o_r : (0 : Int32).toInt = 0 := (by decide); omega, by have zc_o_r : (0 : Int32).toInt = 0 := (by decide); omega⟩, rfl, rfl⟩, by rw [ht]; exact hP.sub [] rfl, hD.sub [] (by decide) rfl⟩, hS.F ht⟩) hS.2.2 dX12_in_18
    ·
      have i_2 : (lg_cmp p_a p_c).toInt ≤ 0 := by have z := g5_gtN (a := (lg_cmp p_a p_c).toInt) (b := 0) (by rfl) (by decide) c_2; omega
      refine lv_iconst (v := 1) hx hb dX12_in_13 (by decide) ?_
      refine lv_goto (tgt := 18) hx hb dX12_in_14 (by decide) ?_
      exact W.zret (v := 1) hx hb hr rfl (fun t ht hW => ⟨⟨1, [], rfl, ⟨1, ⟨by have zc_o_r : (1 : Int32).toInt = 1 := (by decide); omega, by have zc_o_r : (1 : Int32).toInt = 1 := (by decide); omega⟩, rfl, rfl⟩, by rw [ht]; exact hP.sub [] rfl, hD.sub [] (by decide) rfl⟩, hS.F ht⟩) hS.2.2 dX12_in_18
theorem dgX12_reckon_0 : ∀ r ∈ ([(0, (.iload_n 1, 1)), (1, (.tableswitch 112 20 25 #[39, 44, 49, 54, 86, 99], 39)), (40, (.lload_n 2, 1)), (41, (.lload 4, 2)), (43, (.ladd, 1)), (44, (.lreturn, 1)), (45, (.lload_n 2, 1)), (46, (.lload 4, 2)), (48, (.lsub, 1)), (49, (.lreturn, 1)), (50, (.lload_n 2, 1)), (51, (.lload 4, 2)), (53, (.lmul, 1)), (54, (.lreturn, 1)), (55, (.aload_n 0, 1)), (56, (.lload 4, 2)), (58, (.lconst 0, 1)), (59, (.lcmp, 1)), (60, (.ifCond .ne 7, 3)), (63, (.iconst 1, 1)), (64, (.goto 4, 3)), (67, (.iconst 0, 1)), (68, (.putfield 326, 3)), (71, (.aload_n 0, 1)), (72, (.getfield 326, 3)), (75, (.ifCond .eq 7, 3)), (78, (.lconst 0, 1)), (79, (.goto 7, 3)), (82, (.lload_n 2, 1)), (83, (.lload 4, 2)), (85, (.ldiv, 1)), (86, (.lreturn, 1)), (87, (.lload_n 2, 1)), (88, (.lload 4, 2)), (90, (.lcmp, 1)), (91, (.ifCond .ge 7, 3)), (94, (.lconst 1, 1)), (95, (.goto 4, 3)), (98, (.lconst 0, 1)), (99, (.lreturn, 1))] : List (Nat × (Instr × Nat))), decode cX12_reckon r.1 = .ok r.2 := by decide +kernel
theorem dX12_reckon_0 : decode cX12_reckon 0 = .ok (.iload_n 1, 1) := dgX12_reckon_0 (0, (.iload_n 1, 1)) (List.mem_of_getElem? (i := 0) rfl)
theorem dX12_reckon_1 : decode cX12_reckon 1 = .ok (.tableswitch 112 20 25 #[39, 44, 49, 54, 86, 99], 39) := dgX12_reckon_0 (1, (.tableswitch 112 20 25 #[39, 44, 49, 54, 86, 99], 39)) (List.mem_of_getElem? (i := 1) rfl)
theorem dX12_reckon_40 : decode cX12_reckon 40 = .ok (.lload_n 2, 1) := dgX12_reckon_0 (40, (.lload_n 2, 1)) (List.mem_of_getElem? (i := 2) rfl)
theorem dX12_reckon_41 : decode cX12_reckon 41 = .ok (.lload 4, 2) := dgX12_reckon_0 (41, (.lload 4, 2)) (List.mem_of_getElem? (i := 3) rfl)
theorem dX12_reckon_43 : decode cX12_reckon 43 = .ok (.ladd, 1) := dgX12_reckon_0 (43, (.ladd, 1)) (List.mem_of_getElem? (i := 4) rfl)
theorem dX12_reckon_44 : decode cX12_reckon 44 = .ok (.lreturn, 1) := dgX12_reckon_0 (44, (.lreturn, 1)) (List.mem_of_getElem? (i := 5) rfl)
theorem dX12_reckon_45 : decode cX12_reckon 45 = .ok (.lload_n 2, 1) := dgX12_reckon_0 (45, (.lload_n 2, 1)) (List.mem_of_getElem? (i := 6) rfl)
theorem dX12_reckon_46 : decode cX12_reckon 46 = .ok (.lload 4, 2) := dgX12_reckon_0 (46, (.lload 4, 2)) (List.mem_of_getElem? (i := 7) rfl)
theorem dX12_reckon_48 : decode cX12_reckon 48 = .ok (.lsub, 1) := dgX12_reckon_0 (48, (.lsub, 1)) (List.mem_of_getElem? (i := 8) rfl)
theorem dX12_reckon_49 : decode cX12_reckon 49 = .ok (.lreturn, 1) := dgX12_reckon_0 (49, (.lreturn, 1)) (List.mem_of_getElem? (i := 9) rfl)
theorem dX12_reckon_50 : decode cX12_reckon 50 = .ok (.lload_n 2, 1) := dgX12_reckon_0 (50, (.lload_n 2, 1)) (List.mem_of_getElem? (i := 10) rfl)
theorem dX12_reckon_51 : decode cX12_reckon 51 = .ok (.lload 4, 2) := dgX12_reckon_0 (51, (.lload 4, 2)) (List.mem_of_getElem? (i := 11) rfl)
theorem dX12_reckon_53 : decode cX12_reckon 53 = .ok (.lmul, 1) := dgX12_reckon_0 (53, (.lmul, 1)) (List.mem_of_getElem? (i := 12) rfl)
theorem dX12_reckon_54 : decode cX12_reckon 54 = .ok (.lreturn, 1) := dgX12_reckon_0 (54, (.lreturn, 1)) (List.mem_of_getElem? (i := 13) rfl)
theorem dX12_reckon_55 : decode cX12_reckon 55 = .ok (.aload_n 0, 1) := dgX12_reckon_0 (55, (.aload_n 0, 1)) (List.mem_of_getElem? (i := 14) rfl)
theorem dX12_reckon_56 : decode cX12_reckon 56 = .ok (.lload 4, 2) := dgX12_reckon_0 (56, (.lload 4, 2)) (List.mem_of_getElem? (i := 15) rfl)
theorem dX12_reckon_58 : decode cX12_reckon 58 = .ok (.lconst 0, 1) := dgX12_reckon_0 (58, (.lconst 0, 1)) (List.mem_of_getElem? (i := 16) rfl)
theorem dX12_reckon_59 : decode cX12_reckon 59 = .ok (.lcmp, 1) := dgX12_reckon_0 (59, (.lcmp, 1)) (List.mem_of_getElem? (i := 17) rfl)
theorem dX12_reckon_60 : decode cX12_reckon 60 = .ok (.ifCond .ne 7, 3) := dgX12_reckon_0 (60, (.ifCond .ne 7, 3)) (List.mem_of_getElem? (i := 18) rfl)
theorem dX12_reckon_63 : decode cX12_reckon 63 = .ok (.iconst 1, 1) := dgX12_reckon_0 (63, (.iconst 1, 1)) (List.mem_of_getElem? (i := 19) rfl)
theorem dX12_reckon_64 : decode cX12_reckon 64 = .ok (.goto 4, 3) := dgX12_reckon_0 (64, (.goto 4, 3)) (List.mem_of_getElem? (i := 20) rfl)
theorem dX12_reckon_67 : decode cX12_reckon 67 = .ok (.iconst 0, 1) := dgX12_reckon_0 (67, (.iconst 0, 1)) (List.mem_of_getElem? (i := 21) rfl)
theorem dX12_reckon_68 : decode cX12_reckon 68 = .ok (.putfield 326, 3) := dgX12_reckon_0 (68, (.putfield 326, 3)) (List.mem_of_getElem? (i := 22) rfl)
theorem dX12_reckon_71 : decode cX12_reckon 71 = .ok (.aload_n 0, 1) := dgX12_reckon_0 (71, (.aload_n 0, 1)) (List.mem_of_getElem? (i := 23) rfl)
theorem dX12_reckon_72 : decode cX12_reckon 72 = .ok (.getfield 326, 3) := dgX12_reckon_0 (72, (.getfield 326, 3)) (List.mem_of_getElem? (i := 24) rfl)
theorem dX12_reckon_75 : decode cX12_reckon 75 = .ok (.ifCond .eq 7, 3) := dgX12_reckon_0 (75, (.ifCond .eq 7, 3)) (List.mem_of_getElem? (i := 25) rfl)
theorem dX12_reckon_78 : decode cX12_reckon 78 = .ok (.lconst 0, 1) := dgX12_reckon_0 (78, (.lconst 0, 1)) (List.mem_of_getElem? (i := 26) rfl)
theorem dX12_reckon_79 : decode cX12_reckon 79 = .ok (.goto 7, 3) := dgX12_reckon_0 (79, (.goto 7, 3)) (List.mem_of_getElem? (i := 27) rfl)
theorem dX12_reckon_82 : decode cX12_reckon 82 = .ok (.lload_n 2, 1) := dgX12_reckon_0 (82, (.lload_n 2, 1)) (List.mem_of_getElem? (i := 28) rfl)
theorem dX12_reckon_83 : decode cX12_reckon 83 = .ok (.lload 4, 2) := dgX12_reckon_0 (83, (.lload 4, 2)) (List.mem_of_getElem? (i := 29) rfl)
theorem dX12_reckon_85 : decode cX12_reckon 85 = .ok (.ldiv, 1) := dgX12_reckon_0 (85, (.ldiv, 1)) (List.mem_of_getElem? (i := 30) rfl)
theorem dX12_reckon_86 : decode cX12_reckon 86 = .ok (.lreturn, 1) := dgX12_reckon_0 (86, (.lreturn, 1)) (List.mem_of_getElem? (i := 31) rfl)
theorem dX12_reckon_87 : decode cX12_reckon 87 = .ok (.lload_n 2, 1) := dgX12_reckon_0 (87, (.lload_n 2, 1)) (List.mem_of_getElem? (i := 32) rfl)
theorem dX12_reckon_88 : decode cX12_reckon 88 = .ok (.lload 4, 2) := dgX12_reckon_0 (88, (.lload 4, 2)) (List.mem_of_getElem? (i := 33) rfl)
theorem dX12_reckon_90 : decode cX12_reckon 90 = .ok (.lcmp, 1) := dgX12_reckon_0 (90, (.lcmp, 1)) (List.mem_of_getElem? (i := 34) rfl)
theorem dX12_reckon_91 : decode cX12_reckon 91 = .ok (.ifCond .ge 7, 3) := dgX12_reckon_0 (91, (.ifCond .ge 7, 3)) (List.mem_of_getElem? (i := 35) rfl)
theorem dX12_reckon_94 : decode cX12_reckon 94 = .ok (.lconst 1, 1) := dgX12_reckon_0 (94, (.lconst 1, 1)) (List.mem_of_getElem? (i := 36) rfl)
theorem dX12_reckon_95 : decode cX12_reckon 95 = .ok (.goto 4, 3) := dgX12_reckon_0 (95, (.goto 4, 3)) (List.mem_of_getElem? (i := 37) rfl)
theorem dX12_reckon_98 : decode cX12_reckon 98 = .ok (.lconst 0, 1) := dgX12_reckon_0 (98, (.lconst 0, 1)) (List.mem_of_getElem? (i := 38) rfl)
theorem dX12_reckon_99 : decode cX12_reckon 99 = .ok (.lreturn, 1) := dgX12_reckon_0 (99, (.lreturn, 1)) (List.mem_of_getElem? (i := 39) rfl)
theorem dgX12_reckon_1 : ∀ r ∈ ([(100, (.lload_n 2, 1)), (101, (.lload 4, 2)), (103, (.lcmp, 1)), (104, (.ifCond .le 7, 3)), (107, (.lconst 1, 1)), (108, (.goto 4, 3)), (111, (.lconst 0, 1)), (112, (.lreturn, 1)), (113, (.lload_n 2, 1)), (114, (.lload 4, 2)), (116, (.lcmp, 1)), (117, (.ifCond .ne 7, 3)), (120, (.lconst 1, 1)), (121, (.goto 4, 3)), (124, (.lconst 0, 1)), (125, (.lreturn, 1))] : List (Nat × (Instr × Nat))), decode cX12_reckon r.1 = .ok r.2 := by decide +kernel
theorem dX12_reckon_100 : decode cX12_reckon 100 = .ok (.lload_n 2, 1) := dgX12_reckon_1 (100, (.lload_n 2, 1)) (List.mem_of_getElem? (i := 0) rfl)
theorem dX12_reckon_101 : decode cX12_reckon 101 = .ok (.lload 4, 2) := dgX12_reckon_1 (101, (.lload 4, 2)) (List.mem_of_getElem? (i := 1) rfl)
theorem dX12_reckon_103 : decode cX12_reckon 103 = .ok (.lcmp, 1) := dgX12_reckon_1 (103, (.lcmp, 1)) (List.mem_of_getElem? (i := 2) rfl)
theorem dX12_reckon_104 : decode cX12_reckon 104 = .ok (.ifCond .le 7, 3) := dgX12_reckon_1 (104, (.ifCond .le 7, 3)) (List.mem_of_getElem? (i := 3) rfl)
theorem dX12_reckon_107 : decode cX12_reckon 107 = .ok (.lconst 1, 1) := dgX12_reckon_1 (107, (.lconst 1, 1)) (List.mem_of_getElem? (i := 4) rfl)
theorem dX12_reckon_108 : decode cX12_reckon 108 = .ok (.goto 4, 3) := dgX12_reckon_1 (108, (.goto 4, 3)) (List.mem_of_getElem? (i := 5) rfl)
theorem dX12_reckon_111 : decode cX12_reckon 111 = .ok (.lconst 0, 1) := dgX12_reckon_1 (111, (.lconst 0, 1)) (List.mem_of_getElem? (i := 6) rfl)
theorem dX12_reckon_112 : decode cX12_reckon 112 = .ok (.lreturn, 1) := dgX12_reckon_1 (112, (.lreturn, 1)) (List.mem_of_getElem? (i := 7) rfl)
theorem dX12_reckon_113 : decode cX12_reckon 113 = .ok (.lload_n 2, 1) := dgX12_reckon_1 (113, (.lload_n 2, 1)) (List.mem_of_getElem? (i := 8) rfl)
theorem dX12_reckon_114 : decode cX12_reckon 114 = .ok (.lload 4, 2) := dgX12_reckon_1 (114, (.lload 4, 2)) (List.mem_of_getElem? (i := 9) rfl)
theorem dX12_reckon_116 : decode cX12_reckon 116 = .ok (.lcmp, 1) := dgX12_reckon_1 (116, (.lcmp, 1)) (List.mem_of_getElem? (i := 10) rfl)
theorem dX12_reckon_117 : decode cX12_reckon 117 = .ok (.ifCond .ne 7, 3) := dgX12_reckon_1 (117, (.ifCond .ne 7, 3)) (List.mem_of_getElem? (i := 11) rfl)
theorem dX12_reckon_120 : decode cX12_reckon 120 = .ok (.lconst 1, 1) := dgX12_reckon_1 (120, (.lconst 1, 1)) (List.mem_of_getElem? (i := 12) rfl)
theorem dX12_reckon_121 : decode cX12_reckon 121 = .ok (.goto 4, 3) := dgX12_reckon_1 (121, (.goto 4, 3)) (List.mem_of_getElem? (i := 13) rfl)
theorem dX12_reckon_124 : decode cX12_reckon 124 = .ok (.lconst 0, 1) := dgX12_reckon_1 (124, (.lconst 0, 1)) (List.mem_of_getElem? (i := 14) rfl)
theorem dX12_reckon_125 : decode cX12_reckon 125 = .ok (.lreturn, 1) := dgX12_reckon_1 (125, (.lreturn, 1)) (List.mem_of_getElem? (i := 15) rfl)
theorem fl_X12_326 : Cond.fieldLink RX12 326 "LateGlassModel" "broken" "Z" ∈ tblG := tg 1233 (by decide +kernel) (by decide +kernel)
set_option maxHeartbeats 4000000 in
set_option maxRecDepth 100000 in
theorem n_reckon (l : Launch) (G : g5_G) (b_o b_rf b_ro b_im b_ke b_tp b_nl b_op b_ar b_pi b_pa b_ws b_hw b_se b_re b_pt b_ip b_ah b_be b_me b_tr b_ld b_wn : Nat) (sz : Nat) (u_th : Int32) (u_sa : Int32) (u_fd : Int32) (u_td : Int32) (u_fr : Int32) (u_to : Int32) (u_so : Int32) (u_fa : Int32) (u_bd : Int32) (u_nc : Int32) (u_co : Int32) (u_le : Int32) (u_pd : Int32) (u_od : Int32) (u_la : Int32) (u_bk : Int32) (u_ce : Int32) (u_ho : Int32) (u_wy : Int32) (u_bt : Int32) (u_ps : Int32) (u_tg : Int32) (u_sn : Int32) (u_ic : Int32) (u_wd : Int32) (u_id : Int32) (p_1 : Int32) (u_wo : Int64) (u_va : Int64) (u_su : Int64) (u_st : Int64) (p_2 : Int64) (p_4 : Int64) (h_u_td : 0 ≤ u_td.toInt ∧ u_td.toInt ≤ 400) (h_u_fr : 0 ≤ u_fr.toInt ∧ u_fr.toInt ≤ 400) (h_u_to : 0 ≤ u_to.toInt ∧ u_to.toInt ≤ 400) (h_u_bd : 0 ≤ u_bd.toInt ∧ u_bd.toInt ≤ 1) (h_u_nc : 0 ≤ u_nc.toInt ∧ u_nc.toInt ≤ 12) (h_u_co : 0 ≤ u_co.toInt ∧ u_co.toInt ≤ 400) (h_u_pd : 0 ≤ u_pd.toInt ∧ u_pd.toInt ≤ 400) (h_u_la : 0 ≤ u_la.toInt ∧ u_la.toInt ≤ 4840) (h_u_bk : 0 ≤ u_bk.toInt ∧ u_bk.toInt ≤ 1) (h_u_ce : 0 ≤ u_ce.toInt ∧ u_ce.toInt ≤ 63) (h_u_ho : 0 ≤ u_ho.toInt ∧ u_ho.toInt ≤ 23) (h_u_wy : 0 ≤ u_wy.toInt ∧ u_wy.toInt ≤ 3) (h_u_bt : 0 ≤ u_bt.toInt ∧ u_bt.toInt ≤ 1000000) (h_u_ps : 0 ≤ u_ps.toInt ∧ u_ps.toInt ≤ 200) (h_u_ic : 0 ≤ u_ic.toInt ∧ u_ic.toInt ≤ 1) (h_u_id : 0 ≤ u_id.toInt ∧ u_id.toInt ≤ 1) (h_p_1 : 0 ≤ p_1.toInt ∧ p_1.toInt ≤ 29) : Met l yX12_reckon (wsG yX12_reckon cX12_reckon 6 (some .long)) ({ frames := 0, cells := 0, slots := 0, locals := 0 }) (va_Pc [.ref b_o, .int p_1, .long p_2, .long p_4] (g5_P G [(b_o, (oc12 u_th u_sa b_rf b_ro b_im b_ke u_fd b_tp u_td u_fr u_to u_so u_wo u_fa u_bd u_nc b_nl u_co b_op b_ar u_le b_pi b_pa u_pd u_od b_ws b_hw u_la b_se b_re u_bk u_va u_su u_ce u_ho u_wy u_bt u_ps b_pt u_tg u_sn b_ip u_ic b_ah b_be b_me u_wd b_tr b_ld u_st b_wn u_id))] sz)) (va_Ql (fun (r : Int64) (u : va_W) => (∃ (o_r : Int64) (o_bk : Int32), (0 ≤ o_bk.toInt ∧ o_bk.toInt ≤ 1) ∧ (r = o_r) ∧ (u = [(b_o, (oc12 u_th u_sa b_rf b_ro b_im b_ke u_fd b_tp u_td u_fr u_to u_so u_wo u_fa u_bd u_nc b_nl u_co b_op b_ar u_le b_pi b_pa u_pd u_od b_ws b_hw u_la b_se b_re o_bk u_va u_su u_ce u_ho u_wy u_bt u_ps b_pt u_tg u_sn b_ip u_ic b_ah b_be b_me u_wd b_tr b_ld u_st b_wn u_id))]))) (g5_B G (va_A [(b_o, (oc12 u_th u_sa b_rf b_ro b_im b_ke u_fd b_tp u_td u_fr u_to u_so u_wo u_fa u_bd u_nc b_nl u_co b_op b_ar u_le b_pi b_pa u_pd u_od b_ws b_hw u_la b_se b_re u_bk u_va u_su u_ce u_ho u_wy u_bt u_ps b_pt u_tg u_sn b_ip u_ic b_ah b_be b_me u_wd b_tr b_ld u_st b_wn u_id))] sz)) (va_A [(b_o, (oc12 u_th u_sa b_rf b_ro b_im b_ke u_fd b_tp u_td u_fr u_to u_so u_wo u_fa u_bd u_nc b_nl u_co b_op b_ar u_le b_pi b_pa u_pd u_od b_ws b_hw u_la b_se b_re u_bk u_va u_su u_ce u_ho u_wy u_bt u_ps b_pt u_tg u_sn b_ip u_ic b_ah b_be b_me u_wd b_tr b_ld u_st b_wn u_id))] sz)) 0 0 (va_A [(b_o, (oc12 u_th u_sa b_rf b_ro b_im b_ke u_fd b_tp u_td u_fr u_to u_so u_wo u_fa u_bd u_nc b_nl u_co b_op b_ar u_le b_pi b_pa u_pd u_od b_ws b_hw u_la b_se b_re u_bk u_va u_su u_ce u_ho u_wy u_bt u_ps b_pt u_tg u_sn b_ip u_ic b_ah b_be b_me u_wd b_tr b_ld u_st b_wn u_id))] sz) := by
  refine Met.ofW (cc := cX12_reckon) (maxL := 6) (ret := (some .long)) (by decide) rfl ?_
  intro p e s m args below meth c s₁ B hml hv
  obtain ⟨rfl, hsz, hP, hK, hD0, hN, hT⟩ := hv
  have hx := B.exec
  have hb := B.bytes
  have hr := B.returns
  have hts : ∀ w ∈ tblG, w.before _ s = true := fun w h => atoms_spec (ws := (wsG yX12_reckon cX12_reckon 6 (some .long))) B.pre w (List.mem_cons_of_mem _ h)
  have hown : s.vm.findClass RX12 = some m.cls := findClass_of_methodNamed B.named
  have hlocks := B.notSynchronized
  subst hsz
  have hD := hD0.self (sz := s.heap.size)
  generalize hAe : va_A [(b_o, (oc12 u_th u_sa b_rf b_ro b_im b_ke u_fd b_tp u_td u_fr u_to u_so u_wo u_fa u_bd u_nc b_nl u_co b_op b_ar u_le b_pi b_pa u_pd u_od b_ws b_hw u_la b_se b_re u_bk u_va u_su u_ce u_ho u_wy u_bt u_ps b_pt u_tg u_sn b_ip u_ic b_ah b_be b_me u_wd b_tr b_ld u_st b_wn u_id))] s.heap.size = A at hD hT ⊢
  have hA : ∀ q : Nat, s.heap.size ≤ q → A q := fun q h => by rw [← hAe]; exact Or.inr h
  have hS : va_S A s.heap s.heap [] := va_S.rf
  have hP : va_P G.1 vwCl [(b_o, (oc12 u_th u_sa b_rf b_ro b_im b_ke u_fd b_tp u_td u_fr u_to u_so u_wo u_fa u_bd u_nc b_nl u_co b_op b_ar u_le b_pi b_pa u_pd u_od b_ws b_hw u_la b_se b_re u_bk u_va u_su u_ce u_ho u_wy u_bt u_ps b_pt u_tg u_sn b_ip u_ic b_ah b_be b_me u_wd b_tr b_ld u_st b_wn u_id))] s.heap := hP
  have hl := lv_entry ([.ref b_o, .int p_1, .long p_2, .long p_4]) (n := 6) (Nat.le_of_ble_eq_true rfl)
  rw [lg_entry_eq]
  generalize (lg_sl ([.ref b_o, .int p_1, .long p_2, .long p_4]) ++ List.replicate (6 - (lg_sl ([.ref b_o, .int p_1, .long p_2, .long p_4])).length) Slot.unset).toArray = ls at hl ⊢
  have hl : lv_has ls 6 [(0, .ref b_o), (1, .int p_1), (2, .long p_2), (4, .long p_4)] := hl
  refine lv_iload_n hx hb dX12_reckon_0 rfl (lv_at hl 1 rfl) ?_
  rcases (show p_1.toInt = 20 ∨ p_1.toInt = 21 ∨ p_1.toInt = 22 ∨ p_1.toInt = 23 ∨ p_1.toInt = 24 ∨ p_1.toInt = 25 ∨ p_1.toInt < 20 ∨ p_1.toInt > 25 by omega) with s_1 | s_1 | s_1 | s_1 | s_1 | s_1 | s_1 | s_1
  ·
    have i_1 : p_1.toInt = 20 := by omega
    refine lv_tableIn (tgt := 40) hx hb dX12_reckon_1 (by omega) (by omega) (by rw [s_1]; rfl) (by decide) ?_
    refine lv_lload_n hx hb dX12_reckon_40 rfl (lv_at hl 2 rfl) ?_
    refine lv_lload hx hb dX12_reckon_41 (lv_at hl 3 rfl) ?_
    refine lv_ladd hx hb dX12_reckon_43 ?_
    exact W.lret (v := (p_2 + p_4)) hx hb hr (fun t ht hW => ⟨⟨(p_2 + p_4), [(b_o, (oc12 u_th u_sa b_rf b_ro b_im b_ke u_fd b_tp u_td u_fr u_to u_so u_wo u_fa u_bd u_nc b_nl u_co b_op b_ar u_le b_pi b_pa u_pd u_od b_ws b_hw u_la b_se b_re u_bk u_va u_su u_ce u_ho u_wy u_bt u_ps b_pt u_tg u_sn b_ip u_ic b_ah b_be b_me u_wd b_tr b_ld u_st b_wn u_id))], rfl, ⟨(p_2 + p_4), u_bk, h_u_bk, rfl, rfl⟩, by rw [ht]; exact hP.sub [0] rfl, hD.sub [0] (by decide) rfl⟩, hS.F ht⟩) hS.2.2 dX12_reckon_44
  ·
    have i_1 : p_1.toInt = 21 := by omega
    refine lv_tableIn (tgt := 45) hx hb dX12_reckon_1 (by omega) (by omega) (by rw [s_1]; rfl) (by decide) ?_
    refine lv_lload_n hx hb dX12_reckon_45 rfl (lv_at hl 2 rfl) ?_
    refine lv_lload hx hb dX12_reckon_46 (lv_at hl 3 rfl) ?_
    refine lv_lsub hx hb dX12_reckon_48 ?_
    exact W.lret (v := (p_2 - p_4)) hx hb hr (fun t ht hW => ⟨⟨(p_2 - p_4), [(b_o, (oc12 u_th u_sa b_rf b_ro b_im b_ke u_fd b_tp u_td u_fr u_to u_so u_wo u_fa u_bd u_nc b_nl u_co b_op b_ar u_le b_pi b_pa u_pd u_od b_ws b_hw u_la b_se b_re u_bk u_va u_su u_ce u_ho u_wy u_bt u_ps b_pt u_tg u_sn b_ip u_ic b_ah b_be b_me u_wd b_tr b_ld u_st b_wn u_id))], rfl, ⟨(p_2 - p_4), u_bk, h_u_bk, rfl, rfl⟩, by rw [ht]; exact hP.sub [0] rfl, hD.sub [0] (by decide) rfl⟩, hS.F ht⟩) hS.2.2 dX12_reckon_49
  ·
    have i_1 : p_1.toInt = 22 := by omega
    refine lv_tableIn (tgt := 50) hx hb dX12_reckon_1 (by omega) (by omega) (by rw [s_1]; rfl) (by decide) ?_
    refine lv_lload_n hx hb dX12_reckon_50 rfl (lv_at hl 2 rfl) ?_
    refine lv_lload hx hb dX12_reckon_51 (lv_at hl 3 rfl) ?_
    refine lv_lmul hx hb dX12_reckon_53 ?_
    exact W.lret (v := (p_2 * p_4)) hx hb hr (fun t ht hW => ⟨⟨(p_2 * p_4), [(b_o, (oc12 u_th u_sa b_rf b_ro b_im b_ke u_fd b_tp u_td u_fr u_to u_so u_wo u_fa u_bd u_nc b_nl u_co b_op b_ar u_le b_pi b_pa u_pd u_od b_ws b_hw u_la b_se b_re u_bk u_va u_su u_ce u_ho u_wy u_bt u_ps b_pt u_tg u_sn b_ip u_ic b_ah b_be b_me u_wd b_tr b_ld u_st b_wn u_id))], rfl, ⟨(p_2 * p_4), u_bk, h_u_bk, rfl, rfl⟩, by rw [ht]; exact hP.sub [0] rfl, hD.sub [0] (by decide) rfl⟩, hS.F ht⟩) hS.2.2 dX12_reckon_54
  ·
    have i_1 : p_1.toInt = 23 := by omega
    refine lv_tableIn (tgt := 55) hx hb dX12_reckon_1 (by omega) (by omega) (by rw [s_1]; rfl) (by decide) ?_
    refine lv_aload_n hx hb dX12_reckon_55 rfl (lv_at hl 0 rfl) ?_
    refine lv_lload hx hb dX12_reckon_56 (lv_at hl 3 rfl) ?_
    refine lv_lconst (v := 0) hx hb dX12_reckon_58 (by decide) ?_
    refine W.lcmp hx hb dX12_reckon_59 ?_
    refine lv_if_ne (tgt := 67) hx hb dX12_reckon_60 (by decide) (fun c_2 => ?_) (fun c_2 => ?_)
    ·
      have n_2 : gNe ((lg_cmp p_4 0).toInt) (0) := by have z := g5_ne (a := (lg_cmp p_4 0).toInt) (b := 0) (by rfl) (by decide) c_2; unfold gNe; omega
      refine lv_iconst (v := 0) hx hb dX12_reckon_67 (by decide) ?_
      refine va_put (D := G.1) (ci := 12) (v := .int 0) (ty := .boolean) (C := RX12) (T := TX12) (N := 52) hx hb hts inG_X12 tyX12 tyX12_ok nmX12 hown hK hP hD hS 0 rfl rfl 30 (by decide) (hts _ fl_X12_326) (fun _ h9 => h9) rfl (by decide +kernel) rfl rfl (Nat.le_of_ble_eq_true rfl) dX12_reckon_68 (fun H locs hP hD hS => ?_)
      refine g5_rs [(b_o, (oc12 u_th u_sa b_rf b_ro b_im b_ke u_fd b_tp u_td u_fr u_to u_so u_wo u_fa u_bd u_nc b_nl u_co b_op b_ar u_le b_pi b_pa u_pd u_od b_ws b_hw u_la b_se b_re 0 u_va u_su u_ce u_ho u_wy u_bt u_ps b_pt u_tg u_sn b_ip u_ic b_ah b_be b_me u_wd b_tr b_ld u_st b_wn u_id))] hP hD (fun hP hD => ?_)
      refine lv_aload_n hx hb dX12_reckon_71 rfl (lv_at hl 0 rfl) ?_
      refine va_get (D := G.1) (ci := 12) (v := .int 0) (C := RX12) (T := TX12) (N := 52) hx hb hts inG_X12 hown hK hP 0 rfl rfl 30 (by decide) (hts _ fl_X12_326) (fun _ h9 => h9) rfl dX12_reckon_72 ?_
      refine lv_if_eq (tgt := 82) hx hb dX12_reckon_75 (by decide) (fun c_3 => ?_) (fun c_3 => ?_)
      ·
        refine lv_lload_n hx hb dX12_reckon_82 rfl (lv_at hl 2 rfl) ?_
        refine lv_lload hx hb dX12_reckon_83 (lv_at hl 3 rfl) ?_
        refine lv_ldiv hx hb dX12_reckon_85 (g5_cmp1 n_2) ?_
        exact W.lret (v := (p_2 / p_4)) hx hb hr (fun t ht hW => ⟨⟨(p_2 / p_4), [(b_o, (oc12 u_th u_sa b_rf b_ro b_im b_ke u_fd b_tp u_td u_fr u_to u_so u_wo u_fa u_bd u_nc b_nl u_co b_op b_ar u_le b_pi b_pa u_pd u_od b_ws b_hw u_la b_se b_re 0 u_va u_su u_ce u_ho u_wy u_bt u_ps b_pt u_tg u_sn b_ip u_ic b_ah b_be b_me u_wd b_tr b_ld u_st b_wn u_id))], rfl, ⟨(p_2 / p_4), 0, ⟨by have zc_o_bk : (0 : Int32).toInt = 0 := (by decide); omega, by have zc_o_bk : (0 : Int32).toInt = 0 := (by decide); omega⟩, rfl, rfl⟩, by rw [ht]; exact hP.sub [0] rfl, hD.sub [0] (by decide) rfl⟩, hS.F ht⟩) hS.2.2 dX12_reckon_86
      ·
        exact absurd c_3 (by decide)
    ·
      have i_2 : (lg_cmp p_4 0).toInt = 0 := by have z := g5_neN (a := (lg_cmp p_4 0).toInt) (b := 0) (by rfl) (by decide) c_2; omega
      refine lv_iconst (v := 1) hx hb dX12_reckon_63 (by decide) ?_
      refine lv_goto (tgt := 68) hx hb dX12_reckon_64 (by decide) ?_
      refine va_put (D := G.1) (ci := 12) (v := .int 1) (ty := .boolean) (C := RX12) (T := TX12) (N := 52) hx hb hts inG_X12 tyX12 tyX12_ok nmX12 hown hK hP hD hS 0 rfl rfl 30 (by decide) (hts _ fl_X12_326) (fun _ h9 => h9) rfl (by decide +kernel) rfl rfl (Nat.le_of_ble_eq_true rfl) dX12_reckon_68 (fun H locs hP hD hS => ?_)
      refine g5_rs [(b_o, (oc12 u_th u_sa b_rf b_ro b_im b_ke u_fd b_tp u_td u_fr u_to u_so u_wo u_fa u_bd u_nc b_nl u_co b_op b_ar u_le b_pi b_pa u_pd u_od b_ws b_hw u_la b_se b_re 1 u_va u_su u_ce u_ho u_wy u_bt u_ps b_pt u_tg u_sn b_ip u_ic b_ah b_be b_me u_wd b_tr b_ld u_st b_wn u_id))] hP hD (fun hP hD => ?_)
      refine lv_aload_n hx hb dX12_reckon_71 rfl (lv_at hl 0 rfl) ?_
      refine va_get (D := G.1) (ci := 12) (v := .int 1) (C := RX12) (T := TX12) (N := 52) hx hb hts inG_X12 hown hK hP 0 rfl rfl 30 (by decide) (hts _ fl_X12_326) (fun _ h9 => h9) rfl dX12_reckon_72 ?_
      refine lv_if_eq (tgt := 82) hx hb dX12_reckon_75 (by decide) (fun c_4 => ?_) (fun c_4 => ?_)
      ·
        exact absurd c_4 (by decide)
      ·
        refine lv_lconst (v := 0) hx hb dX12_reckon_78 (by decide) ?_
        refine lv_goto (tgt := 86) hx hb dX12_reckon_79 (by decide) ?_
        exact W.lret (v := 0) hx hb hr (fun t ht hW => ⟨⟨0, [(b_o, (oc12 u_th u_sa b_rf b_ro b_im b_ke u_fd b_tp u_td u_fr u_to u_so u_wo u_fa u_bd u_nc b_nl u_co b_op b_ar u_le b_pi b_pa u_pd u_od b_ws b_hw u_la b_se b_re 1 u_va u_su u_ce u_ho u_wy u_bt u_ps b_pt u_tg u_sn b_ip u_ic b_ah b_be b_me u_wd b_tr b_ld u_st b_wn u_id))], rfl, ⟨0, 1, ⟨by have zc_o_bk : (1 : Int32).toInt = 1 := (by decide); omega, by have zc_o_bk : (1 : Int32).toInt = 1 := (by decide); omega⟩, rfl, rfl⟩, by rw [ht]; exact hP.sub [0] rfl, hD.sub [0] (by decide) rfl⟩, hS.F ht⟩) hS.2.2 dX12_reckon_86
  ·
    have i_1 : p_1.toInt = 24 := by omega
    refine lv_tableIn (tgt := 87) hx hb dX12_reckon_1 (by omega) (by omega) (by rw [s_1]; rfl) (by decide) ?_
    refine lv_lload_n hx hb dX12_reckon_87 rfl (lv_at hl 2 rfl) ?_
    refine lv_lload hx hb dX12_reckon_88 (lv_at hl 3 rfl) ?_
    refine W.lcmp hx hb dX12_reckon_90 ?_
    refine lv_if_ge (tgt := 98) hx hb dX12_reckon_91 (by decide) (fun c_5 => ?_) (fun c_5 => ?_)
    ·
      have i_5 : (lg_cmp p_2 p_4).toInt ≥ 0 := by have z := g5_ge (a := (lg_cmp p_2 p_4).toInt) (b := 0) (by rfl) (by decide) c_5; omega
      refine lv_lconst (v := 0) hx hb dX12_reckon_98 (by decide) ?_
      exact W.lret (v := 0) hx hb hr (fun t ht hW => ⟨⟨0, [(b_o, (oc12 u_th u_sa b_rf b_ro b_im b_ke u_fd b_tp u_td u_fr u_to u_so u_wo u_fa u_bd u_nc b_nl u_co b_op b_ar u_le b_pi b_pa u_pd u_od b_ws b_hw u_la b_se b_re u_bk u_va u_su u_ce u_ho u_wy u_bt u_ps b_pt u_tg u_sn b_ip u_ic b_ah b_be b_me u_wd b_tr b_ld u_st b_wn u_id))], rfl, ⟨0, u_bk, h_u_bk, rfl, rfl⟩, by rw [ht]; exact hP.sub [0] rfl, hD.sub [0] (by decide) rfl⟩, hS.F ht⟩) hS.2.2 dX12_reckon_99
    ·
      have i_5 : (lg_cmp p_2 p_4).toInt < 0 := by have z := g5_geN (a := (lg_cmp p_2 p_4).toInt) (b := 0) (by rfl) (by decide) c_5; omega
      refine lv_lconst (v := 1) hx hb dX12_reckon_94 (by decide) ?_
      refine lv_goto (tgt := 99) hx hb dX12_reckon_95 (by decide) ?_
      exact W.lret (v := 1) hx hb hr (fun t ht hW => ⟨⟨1, [(b_o, (oc12 u_th u_sa b_rf b_ro b_im b_ke u_fd b_tp u_td u_fr u_to u_so u_wo u_fa u_bd u_nc b_nl u_co b_op b_ar u_le b_pi b_pa u_pd u_od b_ws b_hw u_la b_se b_re u_bk u_va u_su u_ce u_ho u_wy u_bt u_ps b_pt u_tg u_sn b_ip u_ic b_ah b_be b_me u_wd b_tr b_ld u_st b_wn u_id))], rfl, ⟨1, u_bk, h_u_bk, rfl, rfl⟩, by rw [ht]; exact hP.sub [0] rfl, hD.sub [0] (by decide) rfl⟩, hS.F ht⟩) hS.2.2 dX12_reckon_99
  ·
    have i_1 : p_1.toInt = 25 := by omega
    refine lv_tableIn (tgt := 100) hx hb dX12_reckon_1 (by omega) (by omega) (by rw [s_1]; rfl) (by decide) ?_
    refine lv_lload_n hx hb dX12_reckon_100 rfl (lv_at hl 2 rfl) ?_
    refine lv_lload hx hb dX12_reckon_101 (lv_at hl 3 rfl) ?_
    refine W.lcmp hx hb dX12_reckon_103 ?_
    refine lv_if_le (tgt := 111) hx hb dX12_reckon_104 (by decide) (fun c_6 => ?_) (fun c_6 => ?_)
    ·
      have i_6 : (lg_cmp p_2 p_4).toInt ≤ 0 := by have z := g5_le (a := (lg_cmp p_2 p_4).toInt) (b := 0) (by rfl) (by decide) c_6; omega
      refine lv_lconst (v := 0) hx hb dX12_reckon_111 (by decide) ?_
      exact W.lret (v := 0) hx hb hr (fun t ht hW => ⟨⟨0, [(b_o, (oc12 u_th u_sa b_rf b_ro b_im b_ke u_fd b_tp u_td u_fr u_to u_so u_wo u_fa u_bd u_nc b_nl u_co b_op b_ar u_le b_pi b_pa u_pd u_od b_ws b_hw u_la b_se b_re u_bk u_va u_su u_ce u_ho u_wy u_bt u_ps b_pt u_tg u_sn b_ip u_ic b_ah b_be b_me u_wd b_tr b_ld u_st b_wn u_id))], rfl, ⟨0, u_bk, h_u_bk, rfl, rfl⟩, by rw [ht]; exact hP.sub [0] rfl, hD.sub [0] (by decide) rfl⟩, hS.F ht⟩) hS.2.2 dX12_reckon_112
    ·
      have i_6 : (lg_cmp p_2 p_4).toInt > 0 := by have z := g5_leN (a := (lg_cmp p_2 p_4).toInt) (b := 0) (by rfl) (by decide) c_6; omega
      refine lv_lconst (v := 1) hx hb dX12_reckon_107 (by decide) ?_
      refine lv_goto (tgt := 112) hx hb dX12_reckon_108 (by decide) ?_
      exact W.lret (v := 1) hx hb hr (fun t ht hW => ⟨⟨1, [(b_o, (oc12 u_th u_sa b_rf b_ro b_im b_ke u_fd b_tp u_td u_fr u_to u_so u_wo u_fa u_bd u_nc b_nl u_co b_op b_ar u_le b_pi b_pa u_pd u_od b_ws b_hw u_la b_se b_re u_bk u_va u_su u_ce u_ho u_wy u_bt u_ps b_pt u_tg u_sn b_ip u_ic b_ah b_be b_me u_wd b_tr b_ld u_st b_wn u_id))], rfl, ⟨1, u_bk, h_u_bk, rfl, rfl⟩, by rw [ht]; exact hP.sub [0] rfl, hD.sub [0] (by decide) rfl⟩, hS.F ht⟩) hS.2.2 dX12_reckon_112
  ·
    have i_1 : p_1.toInt < 20 := by omega
    refine lv_tableOut (tgt := 113) hx hb dX12_reckon_1 (by omega) (by decide) ?_
    refine lv_lload_n hx hb dX12_reckon_113 rfl (lv_at hl 2 rfl) ?_
    refine lv_lload hx hb dX12_reckon_114 (lv_at hl 3 rfl) ?_
    refine W.lcmp hx hb dX12_reckon_116 ?_
    refine lv_if_ne (tgt := 124) hx hb dX12_reckon_117 (by decide) (fun c_7 => ?_) (fun c_7 => ?_)
    ·
      have n_7 : gNe ((lg_cmp p_2 p_4).toInt) (0) := by have z := g5_ne (a := (lg_cmp p_2 p_4).toInt) (b := 0) (by rfl) (by decide) c_7; unfold gNe; omega
      refine lv_lconst (v := 0) hx hb dX12_reckon_124 (by decide) ?_
      exact W.lret (v := 0) hx hb hr (fun t ht hW => ⟨⟨0, [(b_o, (oc12 u_th u_sa b_rf b_ro b_im b_ke u_fd b_tp u_td u_fr u_to u_so u_wo u_fa u_bd u_nc b_nl u_co b_op b_ar u_le b_pi b_pa u_pd u_od b_ws b_hw u_la b_se b_re u_bk u_va u_su u_ce u_ho u_wy u_bt u_ps b_pt u_tg u_sn b_ip u_ic b_ah b_be b_me u_wd b_tr b_ld u_st b_wn u_id))], rfl, ⟨0, u_bk, h_u_bk, rfl, rfl⟩, by rw [ht]; exact hP.sub [0] rfl, hD.sub [0] (by decide) rfl⟩, hS.F ht⟩) hS.2.2 dX12_reckon_125
    ·
      have i_7 : (lg_cmp p_2 p_4).toInt = 0 := by have z := g5_neN (a := (lg_cmp p_2 p_4).toInt) (b := 0) (by rfl) (by decide) c_7; omega
      refine lv_lconst (v := 1) hx hb dX12_reckon_120 (by decide) ?_
      refine lv_goto (tgt := 125) hx hb dX12_reckon_121 (by decide) ?_
      exact W.lret (v := 1) hx hb hr (fun t ht hW => ⟨⟨1, [(b_o, (oc12 u_th u_sa b_rf b_ro b_im b_ke u_fd b_tp u_td u_fr u_to u_so u_wo u_fa u_bd u_nc b_nl u_co b_op b_ar u_le b_pi b_pa u_pd u_od b_ws b_hw u_la b_se b_re u_bk u_va u_su u_ce u_ho u_wy u_bt u_ps b_pt u_tg u_sn b_ip u_ic b_ah b_be b_me u_wd b_tr b_ld u_st b_wn u_id))], rfl, ⟨1, u_bk, h_u_bk, rfl, rfl⟩, by rw [ht]; exact hP.sub [0] rfl, hD.sub [0] (by decide) rfl⟩, hS.F ht⟩) hS.2.2 dX12_reckon_125
  ·
    have i_1 : p_1.toInt > 25 := by omega
    refine lv_tableOut (tgt := 113) hx hb dX12_reckon_1 (by omega) (by decide) ?_
    refine lv_lload_n hx hb dX12_reckon_113 rfl (lv_at hl 2 rfl) ?_
    refine lv_lload hx hb dX12_reckon_114 (lv_at hl 3 rfl) ?_
    refine W.lcmp hx hb dX12_reckon_116 ?_
    refine lv_if_ne (tgt := 124) hx hb dX12_reckon_117 (by decide) (fun c_8 => ?_) (fun c_8 => ?_)
    ·
      have n_8 : gNe ((lg_cmp p_2 p_4).toInt) (0) := by have z := g5_ne (a := (lg_cmp p_2 p_4).toInt) (b := 0) (by rfl) (by decide) c_8; unfold gNe; omega
      refine lv_lconst (v := 0) hx hb dX12_reckon_124 (by decide) ?_
      exact W.lret (v := 0) hx hb hr (fun t ht hW => ⟨⟨0, [(b_o, (oc12 u_th u_sa b_rf b_ro b_im b_ke u_fd b_tp u_td u_fr u_to u_so u_wo u_fa u_bd u_nc b_nl u_co b_op b_ar u_le b_pi b_pa u_pd u_od b_ws b_hw u_la b_se b_re u_bk u_va u_su u_ce u_ho u_wy u_bt u_ps b_pt u_tg u_sn b_ip u_ic b_ah b_be b_me u_wd b_tr b_ld u_st b_wn u_id))], rfl, ⟨0, u_bk, h_u_bk, rfl, rfl⟩, by rw [ht]; exact hP.sub [0] rfl, hD.sub [0] (by decide) rfl⟩, hS.F ht⟩) hS.2.2 dX12_reckon_125
    ·
      have i_8 : (lg_cmp p_2 p_4).toInt = 0 := by have z := g5_neN (a := (lg_cmp p_2 p_4).toInt) (b := 0) (by rfl) (by decide) c_8; omega
      refine lv_lconst (v := 1) hx hb dX12_reckon_120 (by decide) ?_
      refine lv_goto (tgt := 125) hx hb dX12_reckon_121 (by decide) ?_
      exact W.lret (v := 1) hx hb hr (fun t ht hW => ⟨⟨1, [(b_o, (oc12 u_th u_sa b_rf b_ro b_im b_ke u_fd b_tp u_td u_fr u_to u_so u_wo u_fa u_bd u_nc b_nl u_co b_op b_ar u_le b_pi b_pa u_pd u_od b_ws b_hw u_la b_se b_re u_bk u_va u_su u_ce u_ho u_wy u_bt u_ps b_pt u_tg u_sn b_ip u_ic b_ah b_be b_me u_wd b_tr b_ld u_st b_wn u_id))], rfl, ⟨1, u_bk, h_u_bk, rfl, rfl⟩, by rw [ht]; exact hP.sub [0] rfl, hD.sub [0] (by decide) rfl⟩, hS.F ht⟩) hS.2.2 dX12_reckon_125
theorem dgX12_reckonAll_0 : ∀ r ∈ ([(0, (.aload_n 0, 1)), (1, (.iconst 0, 1)), (2, (.putfield 326, 3)), (5, (.iconst 0, 1)), (6, (.istore_n 3, 1)), (7, (.iload_n 1, 1)), (8, (.istore 4, 2)), (10, (.iload 4, 2)), (12, (.iload_n 2, 1)), (13, (.if_icmp .ge 232, 3)), (16, (.aload_n 0, 1)), (17, (.getfield 326, 3)), (20, (.ifCond .ne 225, 3)), (23, (.aload_n 0, 1)), (24, (.getfield 13, 3)), (27, (.aload_n 0, 1)), (28, (.getfield 329, 3)), (31, (.bipush 98, 2)), (33, (.iadd, 1)), (34, (.iconst 2, 1)), (35, (.iload 4, 2)), (37, (.imul, 1)), (38, (.iadd, 1)), (39, (.iaload, 1)), (40, (.istore 5, 2)), (42, (.aload_n 0, 1)), (43, (.getfield 13, 3)), (46, (.aload_n 0, 1)), (47, (.getfield 329, 3)), (50, (.bipush 98, 2)), (52, (.iadd, 1)), (53, (.iconst 2, 1)), (54, (.iload 4, 2)), (56, (.imul, 1)), (57, (.iadd, 1)), (58, (.iconst 1, 1)), (59, (.iadd, 1)), (60, (.iaload, 1)), (61, (.istore 6, 2)), (63, (.iinc 4 1, 3))] : List (Nat × (Instr × Nat))), decode cX12_reckonAll r.1 = .ok r.2 := by decide +kernel
theorem dX12_reckonAll_0 : decode cX12_reckonAll 0 = .ok (.aload_n 0, 1) := dgX12_reckonAll_0 (0, (.aload_n 0, 1)) (List.mem_of_getElem? (i := 0) rfl)
theorem dX12_reckonAll_1 : decode cX12_reckonAll 1 = .ok (.iconst 0, 1) := dgX12_reckonAll_0 (1, (.iconst 0, 1)) (List.mem_of_getElem? (i := 1) rfl)
theorem dX12_reckonAll_2 : decode cX12_reckonAll 2 = .ok (.putfield 326, 3) := dgX12_reckonAll_0 (2, (.putfield 326, 3)) (List.mem_of_getElem? (i := 2) rfl)
theorem dX12_reckonAll_5 : decode cX12_reckonAll 5 = .ok (.iconst 0, 1) := dgX12_reckonAll_0 (5, (.iconst 0, 1)) (List.mem_of_getElem? (i := 3) rfl)
theorem dX12_reckonAll_6 : decode cX12_reckonAll 6 = .ok (.istore_n 3, 1) := dgX12_reckonAll_0 (6, (.istore_n 3, 1)) (List.mem_of_getElem? (i := 4) rfl)
theorem dX12_reckonAll_7 : decode cX12_reckonAll 7 = .ok (.iload_n 1, 1) := dgX12_reckonAll_0 (7, (.iload_n 1, 1)) (List.mem_of_getElem? (i := 5) rfl)
theorem dX12_reckonAll_8 : decode cX12_reckonAll 8 = .ok (.istore 4, 2) := dgX12_reckonAll_0 (8, (.istore 4, 2)) (List.mem_of_getElem? (i := 6) rfl)
theorem dX12_reckonAll_10 : decode cX12_reckonAll 10 = .ok (.iload 4, 2) := dgX12_reckonAll_0 (10, (.iload 4, 2)) (List.mem_of_getElem? (i := 7) rfl)
theorem dX12_reckonAll_12 : decode cX12_reckonAll 12 = .ok (.iload_n 2, 1) := dgX12_reckonAll_0 (12, (.iload_n 2, 1)) (List.mem_of_getElem? (i := 8) rfl)
theorem dX12_reckonAll_13 : decode cX12_reckonAll 13 = .ok (.if_icmp .ge 232, 3) := dgX12_reckonAll_0 (13, (.if_icmp .ge 232, 3)) (List.mem_of_getElem? (i := 9) rfl)
theorem dX12_reckonAll_16 : decode cX12_reckonAll 16 = .ok (.aload_n 0, 1) := dgX12_reckonAll_0 (16, (.aload_n 0, 1)) (List.mem_of_getElem? (i := 10) rfl)
theorem dX12_reckonAll_17 : decode cX12_reckonAll 17 = .ok (.getfield 326, 3) := dgX12_reckonAll_0 (17, (.getfield 326, 3)) (List.mem_of_getElem? (i := 11) rfl)
theorem dX12_reckonAll_20 : decode cX12_reckonAll 20 = .ok (.ifCond .ne 225, 3) := dgX12_reckonAll_0 (20, (.ifCond .ne 225, 3)) (List.mem_of_getElem? (i := 12) rfl)
theorem dX12_reckonAll_23 : decode cX12_reckonAll 23 = .ok (.aload_n 0, 1) := dgX12_reckonAll_0 (23, (.aload_n 0, 1)) (List.mem_of_getElem? (i := 13) rfl)
theorem dX12_reckonAll_24 : decode cX12_reckonAll 24 = .ok (.getfield 13, 3) := dgX12_reckonAll_0 (24, (.getfield 13, 3)) (List.mem_of_getElem? (i := 14) rfl)
theorem dX12_reckonAll_27 : decode cX12_reckonAll 27 = .ok (.aload_n 0, 1) := dgX12_reckonAll_0 (27, (.aload_n 0, 1)) (List.mem_of_getElem? (i := 15) rfl)
theorem dX12_reckonAll_28 : decode cX12_reckonAll 28 = .ok (.getfield 329, 3) := dgX12_reckonAll_0 (28, (.getfield 329, 3)) (List.mem_of_getElem? (i := 16) rfl)
theorem dX12_reckonAll_31 : decode cX12_reckonAll 31 = .ok (.bipush 98, 2) := dgX12_reckonAll_0 (31, (.bipush 98, 2)) (List.mem_of_getElem? (i := 17) rfl)
theorem dX12_reckonAll_33 : decode cX12_reckonAll 33 = .ok (.iadd, 1) := dgX12_reckonAll_0 (33, (.iadd, 1)) (List.mem_of_getElem? (i := 18) rfl)
theorem dX12_reckonAll_34 : decode cX12_reckonAll 34 = .ok (.iconst 2, 1) := dgX12_reckonAll_0 (34, (.iconst 2, 1)) (List.mem_of_getElem? (i := 19) rfl)
theorem dX12_reckonAll_35 : decode cX12_reckonAll 35 = .ok (.iload 4, 2) := dgX12_reckonAll_0 (35, (.iload 4, 2)) (List.mem_of_getElem? (i := 20) rfl)
theorem dX12_reckonAll_37 : decode cX12_reckonAll 37 = .ok (.imul, 1) := dgX12_reckonAll_0 (37, (.imul, 1)) (List.mem_of_getElem? (i := 21) rfl)
theorem dX12_reckonAll_38 : decode cX12_reckonAll 38 = .ok (.iadd, 1) := dgX12_reckonAll_0 (38, (.iadd, 1)) (List.mem_of_getElem? (i := 22) rfl)
theorem dX12_reckonAll_39 : decode cX12_reckonAll 39 = .ok (.iaload, 1) := dgX12_reckonAll_0 (39, (.iaload, 1)) (List.mem_of_getElem? (i := 23) rfl)
theorem dX12_reckonAll_40 : decode cX12_reckonAll 40 = .ok (.istore 5, 2) := dgX12_reckonAll_0 (40, (.istore 5, 2)) (List.mem_of_getElem? (i := 24) rfl)
theorem dX12_reckonAll_42 : decode cX12_reckonAll 42 = .ok (.aload_n 0, 1) := dgX12_reckonAll_0 (42, (.aload_n 0, 1)) (List.mem_of_getElem? (i := 25) rfl)
theorem dX12_reckonAll_43 : decode cX12_reckonAll 43 = .ok (.getfield 13, 3) := dgX12_reckonAll_0 (43, (.getfield 13, 3)) (List.mem_of_getElem? (i := 26) rfl)
theorem dX12_reckonAll_46 : decode cX12_reckonAll 46 = .ok (.aload_n 0, 1) := dgX12_reckonAll_0 (46, (.aload_n 0, 1)) (List.mem_of_getElem? (i := 27) rfl)
theorem dX12_reckonAll_47 : decode cX12_reckonAll 47 = .ok (.getfield 329, 3) := dgX12_reckonAll_0 (47, (.getfield 329, 3)) (List.mem_of_getElem? (i := 28) rfl)
theorem dX12_reckonAll_50 : decode cX12_reckonAll 50 = .ok (.bipush 98, 2) := dgX12_reckonAll_0 (50, (.bipush 98, 2)) (List.mem_of_getElem? (i := 29) rfl)
theorem dX12_reckonAll_52 : decode cX12_reckonAll 52 = .ok (.iadd, 1) := dgX12_reckonAll_0 (52, (.iadd, 1)) (List.mem_of_getElem? (i := 30) rfl)
theorem dX12_reckonAll_53 : decode cX12_reckonAll 53 = .ok (.iconst 2, 1) := dgX12_reckonAll_0 (53, (.iconst 2, 1)) (List.mem_of_getElem? (i := 31) rfl)
theorem dX12_reckonAll_54 : decode cX12_reckonAll 54 = .ok (.iload 4, 2) := dgX12_reckonAll_0 (54, (.iload 4, 2)) (List.mem_of_getElem? (i := 32) rfl)
theorem dX12_reckonAll_56 : decode cX12_reckonAll 56 = .ok (.imul, 1) := dgX12_reckonAll_0 (56, (.imul, 1)) (List.mem_of_getElem? (i := 33) rfl)
theorem dX12_reckonAll_57 : decode cX12_reckonAll 57 = .ok (.iadd, 1) := dgX12_reckonAll_0 (57, (.iadd, 1)) (List.mem_of_getElem? (i := 34) rfl)
theorem dX12_reckonAll_58 : decode cX12_reckonAll 58 = .ok (.iconst 1, 1) := dgX12_reckonAll_0 (58, (.iconst 1, 1)) (List.mem_of_getElem? (i := 35) rfl)
theorem dX12_reckonAll_59 : decode cX12_reckonAll 59 = .ok (.iadd, 1) := dgX12_reckonAll_0 (59, (.iadd, 1)) (List.mem_of_getElem? (i := 36) rfl)
theorem dX12_reckonAll_60 : decode cX12_reckonAll 60 = .ok (.iaload, 1) := dgX12_reckonAll_0 (60, (.iaload, 1)) (List.mem_of_getElem? (i := 37) rfl)
theorem dX12_reckonAll_61 : decode cX12_reckonAll 61 = .ok (.istore 6, 2) := dgX12_reckonAll_0 (61, (.istore 6, 2)) (List.mem_of_getElem? (i := 38) rfl)
theorem dX12_reckonAll_63 : decode cX12_reckonAll 63 = .ok (.iinc 4 1, 3) := dgX12_reckonAll_0 (63, (.iinc 4 1, 3)) (List.mem_of_getElem? (i := 39) rfl)
theorem dgX12_reckonAll_1 : ∀ r ∈ ([(66, (.iload 5, 2)), (68, (.bipush 20, 2)), (70, (.if_icmp .ge 33, 3)), (73, (.aload_n 0, 1)), (74, (.getfield 79, 3)), (77, (.iload_n 3, 1)), (78, (.iload 5, 2)), (80, (.ifCond .ne 9, 3)), (83, (.iload 6, 2)), (85, (.i2l, 1)), (86, (.goto 10, 3)), (89, (.aload_n 0, 1)), (90, (.getfield 76, 3)), (93, (.iload 5, 2)), (95, (.laload, 1)), (96, (.lastore, 1)), (97, (.iinc 3 1, 3)), (100, (.goto 142, 3)), (103, (.iload 5, 2)), (105, (.bipush 27, 2)), (107, (.if_icmp .ge 73, 3)), (110, (.iinc 3 (-1), 3)), (113, (.aload_n 0, 1)), (114, (.getfield 79, 3)), (117, (.iload_n 3, 1)), (118, (.iconst 1, 1)), (119, (.isub, 1)), (120, (.aload_n 0, 1)), (121, (.iload 5, 2)), (123, (.aload_n 0, 1)), (124, (.getfield 79, 3)), (127, (.iload_n 3, 1)), (128, (.iconst 1, 1)), (129, (.isub, 1)), (130, (.laload, 1)), (131, (.aload_n 0, 1)), (132, (.getfield 79, 3)), (135, (.iload_n 3, 1)), (136, (.laload, 1)), (137, (.invokevirtual 332, 3))] : List (Nat × (Instr × Nat))), decode cX12_reckonAll r.1 = .ok r.2 := by decide +kernel
theorem dX12_reckonAll_66 : decode cX12_reckonAll 66 = .ok (.iload 5, 2) := dgX12_reckonAll_1 (66, (.iload 5, 2)) (List.mem_of_getElem? (i := 0) rfl)
theorem dX12_reckonAll_68 : decode cX12_reckonAll 68 = .ok (.bipush 20, 2) := dgX12_reckonAll_1 (68, (.bipush 20, 2)) (List.mem_of_getElem? (i := 1) rfl)
theorem dX12_reckonAll_70 : decode cX12_reckonAll 70 = .ok (.if_icmp .ge 33, 3) := dgX12_reckonAll_1 (70, (.if_icmp .ge 33, 3)) (List.mem_of_getElem? (i := 2) rfl)
theorem dX12_reckonAll_73 : decode cX12_reckonAll 73 = .ok (.aload_n 0, 1) := dgX12_reckonAll_1 (73, (.aload_n 0, 1)) (List.mem_of_getElem? (i := 3) rfl)
theorem dX12_reckonAll_74 : decode cX12_reckonAll 74 = .ok (.getfield 79, 3) := dgX12_reckonAll_1 (74, (.getfield 79, 3)) (List.mem_of_getElem? (i := 4) rfl)
theorem dX12_reckonAll_77 : decode cX12_reckonAll 77 = .ok (.iload_n 3, 1) := dgX12_reckonAll_1 (77, (.iload_n 3, 1)) (List.mem_of_getElem? (i := 5) rfl)
theorem dX12_reckonAll_78 : decode cX12_reckonAll 78 = .ok (.iload 5, 2) := dgX12_reckonAll_1 (78, (.iload 5, 2)) (List.mem_of_getElem? (i := 6) rfl)
theorem dX12_reckonAll_80 : decode cX12_reckonAll 80 = .ok (.ifCond .ne 9, 3) := dgX12_reckonAll_1 (80, (.ifCond .ne 9, 3)) (List.mem_of_getElem? (i := 7) rfl)
theorem dX12_reckonAll_83 : decode cX12_reckonAll 83 = .ok (.iload 6, 2) := dgX12_reckonAll_1 (83, (.iload 6, 2)) (List.mem_of_getElem? (i := 8) rfl)
theorem dX12_reckonAll_85 : decode cX12_reckonAll 85 = .ok (.i2l, 1) := dgX12_reckonAll_1 (85, (.i2l, 1)) (List.mem_of_getElem? (i := 9) rfl)
theorem dX12_reckonAll_86 : decode cX12_reckonAll 86 = .ok (.goto 10, 3) := dgX12_reckonAll_1 (86, (.goto 10, 3)) (List.mem_of_getElem? (i := 10) rfl)
theorem dX12_reckonAll_89 : decode cX12_reckonAll 89 = .ok (.aload_n 0, 1) := dgX12_reckonAll_1 (89, (.aload_n 0, 1)) (List.mem_of_getElem? (i := 11) rfl)
theorem dX12_reckonAll_90 : decode cX12_reckonAll 90 = .ok (.getfield 76, 3) := dgX12_reckonAll_1 (90, (.getfield 76, 3)) (List.mem_of_getElem? (i := 12) rfl)
theorem dX12_reckonAll_93 : decode cX12_reckonAll 93 = .ok (.iload 5, 2) := dgX12_reckonAll_1 (93, (.iload 5, 2)) (List.mem_of_getElem? (i := 13) rfl)
theorem dX12_reckonAll_95 : decode cX12_reckonAll 95 = .ok (.laload, 1) := dgX12_reckonAll_1 (95, (.laload, 1)) (List.mem_of_getElem? (i := 14) rfl)
theorem dX12_reckonAll_96 : decode cX12_reckonAll 96 = .ok (.lastore, 1) := dgX12_reckonAll_1 (96, (.lastore, 1)) (List.mem_of_getElem? (i := 15) rfl)
theorem dX12_reckonAll_97 : decode cX12_reckonAll 97 = .ok (.iinc 3 1, 3) := dgX12_reckonAll_1 (97, (.iinc 3 1, 3)) (List.mem_of_getElem? (i := 16) rfl)
theorem dX12_reckonAll_100 : decode cX12_reckonAll 100 = .ok (.goto 142, 3) := dgX12_reckonAll_1 (100, (.goto 142, 3)) (List.mem_of_getElem? (i := 17) rfl)
theorem dX12_reckonAll_103 : decode cX12_reckonAll 103 = .ok (.iload 5, 2) := dgX12_reckonAll_1 (103, (.iload 5, 2)) (List.mem_of_getElem? (i := 18) rfl)
theorem dX12_reckonAll_105 : decode cX12_reckonAll 105 = .ok (.bipush 27, 2) := dgX12_reckonAll_1 (105, (.bipush 27, 2)) (List.mem_of_getElem? (i := 19) rfl)
theorem dX12_reckonAll_107 : decode cX12_reckonAll 107 = .ok (.if_icmp .ge 73, 3) := dgX12_reckonAll_1 (107, (.if_icmp .ge 73, 3)) (List.mem_of_getElem? (i := 20) rfl)
theorem dX12_reckonAll_110 : decode cX12_reckonAll 110 = .ok (.iinc 3 (-1), 3) := dgX12_reckonAll_1 (110, (.iinc 3 (-1), 3)) (List.mem_of_getElem? (i := 21) rfl)
theorem dX12_reckonAll_113 : decode cX12_reckonAll 113 = .ok (.aload_n 0, 1) := dgX12_reckonAll_1 (113, (.aload_n 0, 1)) (List.mem_of_getElem? (i := 22) rfl)
theorem dX12_reckonAll_114 : decode cX12_reckonAll 114 = .ok (.getfield 79, 3) := dgX12_reckonAll_1 (114, (.getfield 79, 3)) (List.mem_of_getElem? (i := 23) rfl)
theorem dX12_reckonAll_117 : decode cX12_reckonAll 117 = .ok (.iload_n 3, 1) := dgX12_reckonAll_1 (117, (.iload_n 3, 1)) (List.mem_of_getElem? (i := 24) rfl)
theorem dX12_reckonAll_118 : decode cX12_reckonAll 118 = .ok (.iconst 1, 1) := dgX12_reckonAll_1 (118, (.iconst 1, 1)) (List.mem_of_getElem? (i := 25) rfl)
theorem dX12_reckonAll_119 : decode cX12_reckonAll 119 = .ok (.isub, 1) := dgX12_reckonAll_1 (119, (.isub, 1)) (List.mem_of_getElem? (i := 26) rfl)
theorem dX12_reckonAll_120 : decode cX12_reckonAll 120 = .ok (.aload_n 0, 1) := dgX12_reckonAll_1 (120, (.aload_n 0, 1)) (List.mem_of_getElem? (i := 27) rfl)
theorem dX12_reckonAll_121 : decode cX12_reckonAll 121 = .ok (.iload 5, 2) := dgX12_reckonAll_1 (121, (.iload 5, 2)) (List.mem_of_getElem? (i := 28) rfl)
theorem dX12_reckonAll_123 : decode cX12_reckonAll 123 = .ok (.aload_n 0, 1) := dgX12_reckonAll_1 (123, (.aload_n 0, 1)) (List.mem_of_getElem? (i := 29) rfl)
theorem dX12_reckonAll_124 : decode cX12_reckonAll 124 = .ok (.getfield 79, 3) := dgX12_reckonAll_1 (124, (.getfield 79, 3)) (List.mem_of_getElem? (i := 30) rfl)
theorem dX12_reckonAll_127 : decode cX12_reckonAll 127 = .ok (.iload_n 3, 1) := dgX12_reckonAll_1 (127, (.iload_n 3, 1)) (List.mem_of_getElem? (i := 31) rfl)
theorem dX12_reckonAll_128 : decode cX12_reckonAll 128 = .ok (.iconst 1, 1) := dgX12_reckonAll_1 (128, (.iconst 1, 1)) (List.mem_of_getElem? (i := 32) rfl)
theorem dX12_reckonAll_129 : decode cX12_reckonAll 129 = .ok (.isub, 1) := dgX12_reckonAll_1 (129, (.isub, 1)) (List.mem_of_getElem? (i := 33) rfl)
theorem dX12_reckonAll_130 : decode cX12_reckonAll 130 = .ok (.laload, 1) := dgX12_reckonAll_1 (130, (.laload, 1)) (List.mem_of_getElem? (i := 34) rfl)
theorem dX12_reckonAll_131 : decode cX12_reckonAll 131 = .ok (.aload_n 0, 1) := dgX12_reckonAll_1 (131, (.aload_n 0, 1)) (List.mem_of_getElem? (i := 35) rfl)
theorem dX12_reckonAll_132 : decode cX12_reckonAll 132 = .ok (.getfield 79, 3) := dgX12_reckonAll_1 (132, (.getfield 79, 3)) (List.mem_of_getElem? (i := 36) rfl)
theorem dX12_reckonAll_135 : decode cX12_reckonAll 135 = .ok (.iload_n 3, 1) := dgX12_reckonAll_1 (135, (.iload_n 3, 1)) (List.mem_of_getElem? (i := 37) rfl)
theorem dX12_reckonAll_136 : decode cX12_reckonAll 136 = .ok (.laload, 1) := dgX12_reckonAll_1 (136, (.laload, 1)) (List.mem_of_getElem? (i := 38) rfl)
theorem dX12_reckonAll_137 : decode cX12_reckonAll 137 = .ok (.invokevirtual 332, 3) := dgX12_reckonAll_1 (137, (.invokevirtual 332, 3)) (List.mem_of_getElem? (i := 39) rfl)
theorem dgX12_reckonAll_2 : ∀ r ∈ ([(140, (.lastore, 1)), (141, (.aload_n 0, 1)), (142, (.aload_n 0, 1)), (143, (.getfield 326, 3)), (146, (.ifCond .ne 23, 3)), (149, (.aload_n 0, 1)), (150, (.getfield 79, 3)), (153, (.iload_n 3, 1)), (154, (.iconst 1, 1)), (155, (.isub, 1)), (156, (.laload, 1)), (157, (.ldc2_w 336, 3)), (160, (.ldc2_w 338, 3)), (163, (.invokestatic 121, 3)), (166, (.ifCond .ne 7, 3)), (169, (.iconst 1, 1)), (170, (.goto 4, 3)), (173, (.iconst 0, 1)), (174, (.putfield 326, 3)), (177, (.goto 65, 3)), (180, (.iload 5, 2)), (182, (.bipush 27, 2)), (184, (.if_icmp .ne 24, 3)), (187, (.aload_n 0, 1)), (188, (.getfield 79, 3)), (191, (.iload_n 3, 1)), (192, (.iconst 1, 1)), (193, (.isub, 1)), (194, (.lconst 1, 1)), (195, (.aload_n 0, 1)), (196, (.getfield 79, 3)), (199, (.iload_n 3, 1)), (200, (.iconst 1, 1)), (201, (.isub, 1)), (202, (.laload, 1)), (203, (.lsub, 1)), (204, (.lastore, 1)), (205, (.goto 37, 3)), (208, (.aload_n 0, 1)), (209, (.getfield 79, 3))] : List (Nat × (Instr × Nat))), decode cX12_reckonAll r.1 = .ok r.2 := by decide +kernel
theorem dX12_reckonAll_140 : decode cX12_reckonAll 140 = .ok (.lastore, 1) := dgX12_reckonAll_2 (140, (.lastore, 1)) (List.mem_of_getElem? (i := 0) rfl)
theorem dX12_reckonAll_141 : decode cX12_reckonAll 141 = .ok (.aload_n 0, 1) := dgX12_reckonAll_2 (141, (.aload_n 0, 1)) (List.mem_of_getElem? (i := 1) rfl)
theorem dX12_reckonAll_142 : decode cX12_reckonAll 142 = .ok (.aload_n 0, 1) := dgX12_reckonAll_2 (142, (.aload_n 0, 1)) (List.mem_of_getElem? (i := 2) rfl)
theorem dX12_reckonAll_143 : decode cX12_reckonAll 143 = .ok (.getfield 326, 3) := dgX12_reckonAll_2 (143, (.getfield 326, 3)) (List.mem_of_getElem? (i := 3) rfl)
theorem dX12_reckonAll_146 : decode cX12_reckonAll 146 = .ok (.ifCond .ne 23, 3) := dgX12_reckonAll_2 (146, (.ifCond .ne 23, 3)) (List.mem_of_getElem? (i := 4) rfl)
theorem dX12_reckonAll_149 : decode cX12_reckonAll 149 = .ok (.aload_n 0, 1) := dgX12_reckonAll_2 (149, (.aload_n 0, 1)) (List.mem_of_getElem? (i := 5) rfl)
theorem dX12_reckonAll_150 : decode cX12_reckonAll 150 = .ok (.getfield 79, 3) := dgX12_reckonAll_2 (150, (.getfield 79, 3)) (List.mem_of_getElem? (i := 6) rfl)
theorem dX12_reckonAll_153 : decode cX12_reckonAll 153 = .ok (.iload_n 3, 1) := dgX12_reckonAll_2 (153, (.iload_n 3, 1)) (List.mem_of_getElem? (i := 7) rfl)
theorem dX12_reckonAll_154 : decode cX12_reckonAll 154 = .ok (.iconst 1, 1) := dgX12_reckonAll_2 (154, (.iconst 1, 1)) (List.mem_of_getElem? (i := 8) rfl)
theorem dX12_reckonAll_155 : decode cX12_reckonAll 155 = .ok (.isub, 1) := dgX12_reckonAll_2 (155, (.isub, 1)) (List.mem_of_getElem? (i := 9) rfl)
theorem dX12_reckonAll_156 : decode cX12_reckonAll 156 = .ok (.laload, 1) := dgX12_reckonAll_2 (156, (.laload, 1)) (List.mem_of_getElem? (i := 10) rfl)
theorem dX12_reckonAll_157 : decode cX12_reckonAll 157 = .ok (.ldc2_w 336, 3) := dgX12_reckonAll_2 (157, (.ldc2_w 336, 3)) (List.mem_of_getElem? (i := 11) rfl)
theorem dX12_reckonAll_160 : decode cX12_reckonAll 160 = .ok (.ldc2_w 338, 3) := dgX12_reckonAll_2 (160, (.ldc2_w 338, 3)) (List.mem_of_getElem? (i := 12) rfl)
theorem dX12_reckonAll_163 : decode cX12_reckonAll 163 = .ok (.invokestatic 121, 3) := dgX12_reckonAll_2 (163, (.invokestatic 121, 3)) (List.mem_of_getElem? (i := 13) rfl)
theorem dX12_reckonAll_166 : decode cX12_reckonAll 166 = .ok (.ifCond .ne 7, 3) := dgX12_reckonAll_2 (166, (.ifCond .ne 7, 3)) (List.mem_of_getElem? (i := 14) rfl)
theorem dX12_reckonAll_169 : decode cX12_reckonAll 169 = .ok (.iconst 1, 1) := dgX12_reckonAll_2 (169, (.iconst 1, 1)) (List.mem_of_getElem? (i := 15) rfl)
theorem dX12_reckonAll_170 : decode cX12_reckonAll 170 = .ok (.goto 4, 3) := dgX12_reckonAll_2 (170, (.goto 4, 3)) (List.mem_of_getElem? (i := 16) rfl)
theorem dX12_reckonAll_173 : decode cX12_reckonAll 173 = .ok (.iconst 0, 1) := dgX12_reckonAll_2 (173, (.iconst 0, 1)) (List.mem_of_getElem? (i := 17) rfl)
theorem dX12_reckonAll_174 : decode cX12_reckonAll 174 = .ok (.putfield 326, 3) := dgX12_reckonAll_2 (174, (.putfield 326, 3)) (List.mem_of_getElem? (i := 18) rfl)
theorem dX12_reckonAll_177 : decode cX12_reckonAll 177 = .ok (.goto 65, 3) := dgX12_reckonAll_2 (177, (.goto 65, 3)) (List.mem_of_getElem? (i := 19) rfl)
theorem dX12_reckonAll_180 : decode cX12_reckonAll 180 = .ok (.iload 5, 2) := dgX12_reckonAll_2 (180, (.iload 5, 2)) (List.mem_of_getElem? (i := 20) rfl)
theorem dX12_reckonAll_182 : decode cX12_reckonAll 182 = .ok (.bipush 27, 2) := dgX12_reckonAll_2 (182, (.bipush 27, 2)) (List.mem_of_getElem? (i := 21) rfl)
theorem dX12_reckonAll_184 : decode cX12_reckonAll 184 = .ok (.if_icmp .ne 24, 3) := dgX12_reckonAll_2 (184, (.if_icmp .ne 24, 3)) (List.mem_of_getElem? (i := 22) rfl)
theorem dX12_reckonAll_187 : decode cX12_reckonAll 187 = .ok (.aload_n 0, 1) := dgX12_reckonAll_2 (187, (.aload_n 0, 1)) (List.mem_of_getElem? (i := 23) rfl)
theorem dX12_reckonAll_188 : decode cX12_reckonAll 188 = .ok (.getfield 79, 3) := dgX12_reckonAll_2 (188, (.getfield 79, 3)) (List.mem_of_getElem? (i := 24) rfl)
theorem dX12_reckonAll_191 : decode cX12_reckonAll 191 = .ok (.iload_n 3, 1) := dgX12_reckonAll_2 (191, (.iload_n 3, 1)) (List.mem_of_getElem? (i := 25) rfl)
theorem dX12_reckonAll_192 : decode cX12_reckonAll 192 = .ok (.iconst 1, 1) := dgX12_reckonAll_2 (192, (.iconst 1, 1)) (List.mem_of_getElem? (i := 26) rfl)
theorem dX12_reckonAll_193 : decode cX12_reckonAll 193 = .ok (.isub, 1) := dgX12_reckonAll_2 (193, (.isub, 1)) (List.mem_of_getElem? (i := 27) rfl)
theorem dX12_reckonAll_194 : decode cX12_reckonAll 194 = .ok (.lconst 1, 1) := dgX12_reckonAll_2 (194, (.lconst 1, 1)) (List.mem_of_getElem? (i := 28) rfl)
theorem dX12_reckonAll_195 : decode cX12_reckonAll 195 = .ok (.aload_n 0, 1) := dgX12_reckonAll_2 (195, (.aload_n 0, 1)) (List.mem_of_getElem? (i := 29) rfl)
theorem dX12_reckonAll_196 : decode cX12_reckonAll 196 = .ok (.getfield 79, 3) := dgX12_reckonAll_2 (196, (.getfield 79, 3)) (List.mem_of_getElem? (i := 30) rfl)
theorem dX12_reckonAll_199 : decode cX12_reckonAll 199 = .ok (.iload_n 3, 1) := dgX12_reckonAll_2 (199, (.iload_n 3, 1)) (List.mem_of_getElem? (i := 31) rfl)
theorem dX12_reckonAll_200 : decode cX12_reckonAll 200 = .ok (.iconst 1, 1) := dgX12_reckonAll_2 (200, (.iconst 1, 1)) (List.mem_of_getElem? (i := 32) rfl)
theorem dX12_reckonAll_201 : decode cX12_reckonAll 201 = .ok (.isub, 1) := dgX12_reckonAll_2 (201, (.isub, 1)) (List.mem_of_getElem? (i := 33) rfl)
theorem dX12_reckonAll_202 : decode cX12_reckonAll 202 = .ok (.laload, 1) := dgX12_reckonAll_2 (202, (.laload, 1)) (List.mem_of_getElem? (i := 34) rfl)
theorem dX12_reckonAll_203 : decode cX12_reckonAll 203 = .ok (.lsub, 1) := dgX12_reckonAll_2 (203, (.lsub, 1)) (List.mem_of_getElem? (i := 35) rfl)
theorem dX12_reckonAll_204 : decode cX12_reckonAll 204 = .ok (.lastore, 1) := dgX12_reckonAll_2 (204, (.lastore, 1)) (List.mem_of_getElem? (i := 36) rfl)
theorem dX12_reckonAll_205 : decode cX12_reckonAll 205 = .ok (.goto 37, 3) := dgX12_reckonAll_2 (205, (.goto 37, 3)) (List.mem_of_getElem? (i := 37) rfl)
theorem dX12_reckonAll_208 : decode cX12_reckonAll 208 = .ok (.aload_n 0, 1) := dgX12_reckonAll_2 (208, (.aload_n 0, 1)) (List.mem_of_getElem? (i := 38) rfl)
theorem dX12_reckonAll_209 : decode cX12_reckonAll 209 = .ok (.getfield 79, 3) := dgX12_reckonAll_2 (209, (.getfield 79, 3)) (List.mem_of_getElem? (i := 39) rfl)
theorem dgX12_reckonAll_3 : ∀ r ∈ ([(212, (.iload_n 3, 1)), (213, (.iconst 1, 1)), (214, (.isub, 1)), (215, (.laload, 1)), (216, (.iload 5, 2)), (218, (.bipush 28, 2)), (220, (.if_icmp .ne 7, 3)), (223, (.lconst 0, 1)), (224, (.goto 4, 3)), (227, (.lconst 1, 1)), (228, (.lcmp, 1)), (229, (.ifCond .ne 10, 3)), (232, (.iload 6, 2)), (234, (.istore 4, 2)), (236, (.goto 6, 3)), (239, (.iinc 3 (-1), 3)), (242, (.goto (-232), 3)), (245, (.aload_n 0, 1)), (246, (.iload_n 3, 1)), (247, (.ifCond .le 12, 3)), (250, (.aload_n 0, 1)), (251, (.getfield 79, 3)), (254, (.iconst 0, 1)), (255, (.laload, 1)), (256, (.goto 4, 3)), (259, (.lconst 0, 1)), (260, (.putfield 340, 3)), (263, (.return_, 1))] : List (Nat × (Instr × Nat))), decode cX12_reckonAll r.1 = .ok r.2 := by decide +kernel
theorem dX12_reckonAll_212 : decode cX12_reckonAll 212 = .ok (.iload_n 3, 1) := dgX12_reckonAll_3 (212, (.iload_n 3, 1)) (List.mem_of_getElem? (i := 0) rfl)
theorem dX12_reckonAll_213 : decode cX12_reckonAll 213 = .ok (.iconst 1, 1) := dgX12_reckonAll_3 (213, (.iconst 1, 1)) (List.mem_of_getElem? (i := 1) rfl)
theorem dX12_reckonAll_214 : decode cX12_reckonAll 214 = .ok (.isub, 1) := dgX12_reckonAll_3 (214, (.isub, 1)) (List.mem_of_getElem? (i := 2) rfl)
theorem dX12_reckonAll_215 : decode cX12_reckonAll 215 = .ok (.laload, 1) := dgX12_reckonAll_3 (215, (.laload, 1)) (List.mem_of_getElem? (i := 3) rfl)
theorem dX12_reckonAll_216 : decode cX12_reckonAll 216 = .ok (.iload 5, 2) := dgX12_reckonAll_3 (216, (.iload 5, 2)) (List.mem_of_getElem? (i := 4) rfl)
theorem dX12_reckonAll_218 : decode cX12_reckonAll 218 = .ok (.bipush 28, 2) := dgX12_reckonAll_3 (218, (.bipush 28, 2)) (List.mem_of_getElem? (i := 5) rfl)
theorem dX12_reckonAll_220 : decode cX12_reckonAll 220 = .ok (.if_icmp .ne 7, 3) := dgX12_reckonAll_3 (220, (.if_icmp .ne 7, 3)) (List.mem_of_getElem? (i := 6) rfl)
theorem dX12_reckonAll_223 : decode cX12_reckonAll 223 = .ok (.lconst 0, 1) := dgX12_reckonAll_3 (223, (.lconst 0, 1)) (List.mem_of_getElem? (i := 7) rfl)
theorem dX12_reckonAll_224 : decode cX12_reckonAll 224 = .ok (.goto 4, 3) := dgX12_reckonAll_3 (224, (.goto 4, 3)) (List.mem_of_getElem? (i := 8) rfl)
theorem dX12_reckonAll_227 : decode cX12_reckonAll 227 = .ok (.lconst 1, 1) := dgX12_reckonAll_3 (227, (.lconst 1, 1)) (List.mem_of_getElem? (i := 9) rfl)
theorem dX12_reckonAll_228 : decode cX12_reckonAll 228 = .ok (.lcmp, 1) := dgX12_reckonAll_3 (228, (.lcmp, 1)) (List.mem_of_getElem? (i := 10) rfl)
theorem dX12_reckonAll_229 : decode cX12_reckonAll 229 = .ok (.ifCond .ne 10, 3) := dgX12_reckonAll_3 (229, (.ifCond .ne 10, 3)) (List.mem_of_getElem? (i := 11) rfl)
theorem dX12_reckonAll_232 : decode cX12_reckonAll 232 = .ok (.iload 6, 2) := dgX12_reckonAll_3 (232, (.iload 6, 2)) (List.mem_of_getElem? (i := 12) rfl)
theorem dX12_reckonAll_234 : decode cX12_reckonAll 234 = .ok (.istore 4, 2) := dgX12_reckonAll_3 (234, (.istore 4, 2)) (List.mem_of_getElem? (i := 13) rfl)
theorem dX12_reckonAll_236 : decode cX12_reckonAll 236 = .ok (.goto 6, 3) := dgX12_reckonAll_3 (236, (.goto 6, 3)) (List.mem_of_getElem? (i := 14) rfl)
theorem dX12_reckonAll_239 : decode cX12_reckonAll 239 = .ok (.iinc 3 (-1), 3) := dgX12_reckonAll_3 (239, (.iinc 3 (-1), 3)) (List.mem_of_getElem? (i := 15) rfl)
theorem dX12_reckonAll_242 : decode cX12_reckonAll 242 = .ok (.goto (-232), 3) := dgX12_reckonAll_3 (242, (.goto (-232), 3)) (List.mem_of_getElem? (i := 16) rfl)
theorem dX12_reckonAll_245 : decode cX12_reckonAll 245 = .ok (.aload_n 0, 1) := dgX12_reckonAll_3 (245, (.aload_n 0, 1)) (List.mem_of_getElem? (i := 17) rfl)
theorem dX12_reckonAll_246 : decode cX12_reckonAll 246 = .ok (.iload_n 3, 1) := dgX12_reckonAll_3 (246, (.iload_n 3, 1)) (List.mem_of_getElem? (i := 18) rfl)
theorem dX12_reckonAll_247 : decode cX12_reckonAll 247 = .ok (.ifCond .le 12, 3) := dgX12_reckonAll_3 (247, (.ifCond .le 12, 3)) (List.mem_of_getElem? (i := 19) rfl)
theorem dX12_reckonAll_250 : decode cX12_reckonAll 250 = .ok (.aload_n 0, 1) := dgX12_reckonAll_3 (250, (.aload_n 0, 1)) (List.mem_of_getElem? (i := 20) rfl)
theorem dX12_reckonAll_251 : decode cX12_reckonAll 251 = .ok (.getfield 79, 3) := dgX12_reckonAll_3 (251, (.getfield 79, 3)) (List.mem_of_getElem? (i := 21) rfl)
theorem dX12_reckonAll_254 : decode cX12_reckonAll 254 = .ok (.iconst 0, 1) := dgX12_reckonAll_3 (254, (.iconst 0, 1)) (List.mem_of_getElem? (i := 22) rfl)
theorem dX12_reckonAll_255 : decode cX12_reckonAll 255 = .ok (.laload, 1) := dgX12_reckonAll_3 (255, (.laload, 1)) (List.mem_of_getElem? (i := 23) rfl)
theorem dX12_reckonAll_256 : decode cX12_reckonAll 256 = .ok (.goto 4, 3) := dgX12_reckonAll_3 (256, (.goto 4, 3)) (List.mem_of_getElem? (i := 24) rfl)
theorem dX12_reckonAll_259 : decode cX12_reckonAll 259 = .ok (.lconst 0, 1) := dgX12_reckonAll_3 (259, (.lconst 0, 1)) (List.mem_of_getElem? (i := 25) rfl)
theorem dX12_reckonAll_260 : decode cX12_reckonAll 260 = .ok (.putfield 340, 3) := dgX12_reckonAll_3 (260, (.putfield 340, 3)) (List.mem_of_getElem? (i := 26) rfl)
theorem dX12_reckonAll_263 : decode cX12_reckonAll 263 = .ok (.return_, 1) := dgX12_reckonAll_3 (263, (.return_, 1)) (List.mem_of_getElem? (i := 27) rfl)
theorem fl_X12_340 : Cond.fieldLink RX12 340 "LateGlassModel" "value" "J" ∈ tblG := tg 1234 (by decide +kernel) (by decide +kernel)
theorem fl_X12_79 : Cond.fieldLink RX12 79 "LateGlassModel" "rest" "[J" ∈ tblG := tg 1232 (by decide +kernel) (by decide +kernel)
theorem fl_X12_329 : Cond.fieldLink RX12 329 "LateGlassModel" "law" "I" ∈ tblG := tg 1230 (by decide +kernel) (by decide +kernel)
theorem ml_X12_332 : Cond.methodLink RX12 332 yX12_reckon ∈ tblG := tg 1634 (by decide +kernel) (by decide +kernel)
theorem im_X12_reckon : Cond.instanceMethod yX12_reckon ∈ tblG := tg 1636 (by decide +kernel) (by decide +kernel)
theorem se_X12_reckon : Cond.selects RX12 yX12_reckon yX12_reckon ∈ tblG := tg 67 (by decide +kernel) (by decide +kernel)
theorem cd_X12_reckon : Cond.code yX12_reckon cX12_reckon 6 (some .long) ∈ tblG := tg 1637 (by decide +kernel) (by decide +kernel)
theorem gW_X12_reckon : GoodIn tblG (wsG yX12_reckon cX12_reckon 6 (some .long)) := tgi cd_X12_reckon
theorem gV_X12_332 : GoodIn tblG (wsV RX12 332 RX12 yX12_reckon (wsG yX12_reckon cX12_reckon 6 (some .long))) := tgV ml_X12_332 im_X12_reckon se_X12_reckon ini_X12 gW_X12_reckon
theorem hv_X12_reckon : yX12_reckon.cls = RX12 ∧ yX12_reckon.cls ≠ "java/lang/invoke/MethodHandle" ∧ yX12_reckon.cls ≠ "java/lang/invoke/VarHandle" ∧ (parseMethodDescriptor yX12_reckon.desc).map (fun d => d.parameters.length) = some 3 := by decide +kernel
theorem kl_X12_336 : Cond.constantLong RX12 336 (-1000000000) ∈ tblG := tg 1638 (by decide +kernel) (by decide +kernel)
theorem kl_X12_338 : Cond.constantLong RX12 338 1000000000 ∈ tblG := tg 1639 (by decide +kernel) (by decide +kernel)
theorem fl_X12_76 : Cond.fieldLink RX12 76 "LateGlassModel" "set" "[J" ∈ tblG := tg 1231 (by decide +kernel) (by decide +kernel)
