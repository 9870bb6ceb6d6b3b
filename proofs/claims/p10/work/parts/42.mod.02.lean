theorem dX12_spot_0 : decode cX12_spot 0 = .ok (.aload_n 0, 1) := by decide +kernel
theorem dX12_spot_1 : decode cX12_spot 1 = .ok (.iconst 0, 1) := by decide +kernel
theorem dX12_spot_2 : decode cX12_spot 2 = .ok (.putfield 107, 3) := by decide +kernel
theorem dX12_spot_5 : decode cX12_spot 5 = .ok (.iload_n 1, 1) := by decide +kernel
theorem dX12_spot_6 : decode cX12_spot 6 = .ok (.invokestatic 138, 3) := by decide +kernel
theorem dX12_spot_9 : decode cX12_spot 9 = .ok (.ifCond .eq 19, 3) := by decide +kernel
theorem dX12_spot_12 : decode cX12_spot 12 = .ok (.iconst 0, 1) := by decide +kernel
theorem dX12_spot_13 : decode cX12_spot 13 = .ok (.iload_n 2, 1) := by decide +kernel
theorem dX12_spot_14 : decode cX12_spot 14 = .ok (.invokestatic 163, 3) := by decide +kernel
theorem dX12_spot_17 : decode cX12_spot 17 = .ok (.ifCond .eq 11, 3) := by decide +kernel
theorem dX12_spot_20 : decode cX12_spot 20 = .ok (.iconst 1, 1) := by decide +kernel
theorem dX12_spot_21 : decode cX12_spot 21 = .ok (.iload_n 3, 1) := by decide +kernel
theorem dX12_spot_22 : decode cX12_spot 22 = .ok (.invokestatic 163, 3) := by decide +kernel
theorem dX12_spot_25 : decode cX12_spot 25 = .ok (.ifCond .ne 9, 3) := by decide +kernel
theorem dX12_spot_28 : decode cX12_spot 28 = .ok (.aload_n 0, 1) := by decide +kernel
theorem dX12_spot_29 : decode cX12_spot 29 = .ok (.iconst (-1), 1) := by decide +kernel
theorem dX12_spot_30 : decode cX12_spot 30 = .ok (.invokevirtual 125, 3) := by decide +kernel
theorem dX12_spot_33 : decode cX12_spot 33 = .ok (.ireturn, 1) := by decide +kernel
theorem dX12_spot_34 : decode cX12_spot 34 = .ok (.aload_n 0, 1) := by decide +kernel
theorem dX12_spot_35 : decode cX12_spot 35 = .ok (.iload_n 1, 1) := by decide +kernel
theorem dX12_spot_36 : decode cX12_spot 36 = .ok (.invokevirtual 167, 3) := by decide +kernel
theorem dX12_spot_39 : decode cX12_spot 39 = .ok (.ifCond .ne 10, 3) := by decide +kernel
theorem dX12_spot_42 : decode cX12_spot 42 = .ok (.aload_n 0, 1) := by decide +kernel
theorem dX12_spot_43 : decode cX12_spot 43 = .ok (.bipush (-3), 2) := by decide +kernel
theorem dX12_spot_45 : decode cX12_spot 45 = .ok (.invokevirtual 125, 3) := by decide +kernel
theorem dX12_spot_48 : decode cX12_spot 48 = .ok (.ireturn, 1) := by decide +kernel
theorem dX12_spot_49 : decode cX12_spot 49 = .ok (.aload_n 0, 1) := by decide +kernel
theorem dX12_spot_50 : decode cX12_spot 50 = .ok (.getfield 13, 3) := by decide +kernel
theorem dX12_spot_53 : decode cX12_spot 53 = .ok (.bipush 7, 2) := by decide +kernel
theorem dX12_spot_55 : decode cX12_spot 55 = .ok (.iaload, 1) := by decide +kernel
theorem dX12_spot_56 : decode cX12_spot 56 = .ok (.istore 4, 2) := by decide +kernel
theorem dX12_spot_58 : decode cX12_spot 58 = .ok (.iload 4, 2) := by decide +kernel
theorem dX12_spot_60 : decode cX12_spot 60 = .ok (.bipush 8, 2) := by decide +kernel
theorem dX12_spot_62 : decode cX12_spot 62 = .ok (.if_icmp .ne 10, 3) := by decide +kernel
theorem dX12_spot_65 : decode cX12_spot 65 = .ok (.aload_n 0, 1) := by decide +kernel
theorem dX12_spot_66 : decode cX12_spot 66 = .ok (.bipush (-5), 2) := by decide +kernel
theorem dX12_spot_68 : decode cX12_spot 68 = .ok (.invokevirtual 125, 3) := by decide +kernel
theorem dX12_spot_71 : decode cX12_spot 71 = .ok (.ireturn, 1) := by decide +kernel
theorem dX12_spot_72 : decode cX12_spot 72 = .ok (.aload_n 0, 1) := by decide +kernel
theorem dX12_spot_73 : decode cX12_spot 73 = .ok (.getfield 13, 3) := by decide +kernel
theorem dX12_spot_76 : decode cX12_spot 76 = .ok (.sipush 270, 3) := by decide +kernel
theorem dX12_spot_79 : decode cX12_spot 79 = .ok (.iconst 3, 1) := by decide +kernel
theorem dX12_spot_80 : decode cX12_spot 80 = .ok (.iload 4, 2) := by decide +kernel
theorem dX12_spot_82 : decode cX12_spot 82 = .ok (.imul, 1) := by decide +kernel
theorem dX12_spot_83 : decode cX12_spot 83 = .ok (.iadd, 1) := by decide +kernel
theorem dX12_spot_84 : decode cX12_spot 84 = .ok (.iload_n 1, 1) := by decide +kernel
theorem dX12_spot_85 : decode cX12_spot 85 = .ok (.iastore, 1) := by decide +kernel
theorem dX12_spot_86 : decode cX12_spot 86 = .ok (.aload_n 0, 1) := by decide +kernel
theorem dX12_spot_87 : decode cX12_spot 87 = .ok (.getfield 13, 3) := by decide +kernel
theorem dX12_spot_90 : decode cX12_spot 90 = .ok (.sipush 270, 3) := by decide +kernel
theorem dX12_spot_93 : decode cX12_spot 93 = .ok (.iconst 3, 1) := by decide +kernel
theorem dX12_spot_94 : decode cX12_spot 94 = .ok (.iload 4, 2) := by decide +kernel
theorem dX12_spot_96 : decode cX12_spot 96 = .ok (.imul, 1) := by decide +kernel
theorem dX12_spot_97 : decode cX12_spot 97 = .ok (.iadd, 1) := by decide +kernel
theorem dX12_spot_98 : decode cX12_spot 98 = .ok (.iconst 1, 1) := by decide +kernel
theorem dX12_spot_99 : decode cX12_spot 99 = .ok (.iadd, 1) := by decide +kernel
theorem dX12_spot_100 : decode cX12_spot 100 = .ok (.iload_n 2, 1) := by decide +kernel
theorem dX12_spot_101 : decode cX12_spot 101 = .ok (.iastore, 1) := by decide +kernel
theorem dX12_spot_102 : decode cX12_spot 102 = .ok (.aload_n 0, 1) := by decide +kernel
theorem dX12_spot_103 : decode cX12_spot 103 = .ok (.getfield 13, 3) := by decide +kernel
theorem dX12_spot_106 : decode cX12_spot 106 = .ok (.sipush 270, 3) := by decide +kernel
theorem dX12_spot_109 : decode cX12_spot 109 = .ok (.iconst 3, 1) := by decide +kernel
theorem dX12_spot_110 : decode cX12_spot 110 = .ok (.iload 4, 2) := by decide +kernel
theorem dX12_spot_112 : decode cX12_spot 112 = .ok (.imul, 1) := by decide +kernel
theorem dX12_spot_113 : decode cX12_spot 113 = .ok (.iadd, 1) := by decide +kernel
theorem dX12_spot_114 : decode cX12_spot 114 = .ok (.iconst 2, 1) := by decide +kernel
theorem dX12_spot_115 : decode cX12_spot 115 = .ok (.iadd, 1) := by decide +kernel
theorem dX12_spot_116 : decode cX12_spot 116 = .ok (.iload_n 3, 1) := by decide +kernel
theorem dX12_spot_117 : decode cX12_spot 117 = .ok (.iastore, 1) := by decide +kernel
theorem dX12_spot_118 : decode cX12_spot 118 = .ok (.aload_n 0, 1) := by decide +kernel
theorem dX12_spot_119 : decode cX12_spot 119 = .ok (.getfield 13, 3) := by decide +kernel
theorem dX12_spot_122 : decode cX12_spot 122 = .ok (.bipush 7, 2) := by decide +kernel
theorem dX12_spot_124 : decode cX12_spot 124 = .ok (.dup2, 1) := by decide +kernel
theorem dX12_spot_125 : decode cX12_spot 125 = .ok (.iaload, 1) := by decide +kernel
theorem dX12_spot_126 : decode cX12_spot 126 = .ok (.iconst 1, 1) := by decide +kernel
theorem dX12_spot_127 : decode cX12_spot 127 = .ok (.iadd, 1) := by decide +kernel
theorem dX12_spot_128 : decode cX12_spot 128 = .ok (.iastore, 1) := by decide +kernel
theorem dX12_spot_129 : decode cX12_spot 129 = .ok (.aload_n 0, 1) := by decide +kernel
theorem dX12_spot_130 : decode cX12_spot 130 = .ok (.iload 4, 2) := by decide +kernel
theorem dX12_spot_132 : decode cX12_spot 132 = .ok (.invokevirtual 125, 3) := by decide +kernel
theorem dX12_spot_135 : decode cX12_spot 135 = .ok (.ireturn, 1) := by decide +kernel
set_option maxHeartbeats 4000000 in
set_option maxRecDepth 100000 in
theorem n_spot (l : Launch) (G : g5_G) (b_o b_rf b_ro b_im b_ke b_tp b_nl b_op b_ar b_pi b_pa b_ws b_hw b_se b_re b_pt b_ip b_ah b_be b_me b_tr b_ld b_wn : Nat) (sz : Nat) (u_th : Int32) (u_sa : Int32) (u_fd : Int32) (u_td : Int32) (u_fr : Int32) (u_to : Int32) (u_so : Int32) (u_fa : Int32) (u_bd : Int32) (u_nc : Int32) (u_co : Int32) (u_le : Int32) (u_pd : Int32) (u_od : Int32) (u_la : Int32) (u_bk : Int32) (u_ce : Int32) (u_ho : Int32) (u_wy : Int32) (u_bt : Int32) (u_ps : Int32) (u_tg : Int32) (u_sn : Int32) (u_ic : Int32) (u_wd : Int32) (u_id : Int32) (p_1 : Int32) (p_2 : Int32) (p_3 : Int32) (u_wo : Int64) (u_va : Int64) (u_su : Int64) (u_st : Int64) (v_rf : Nat → Int32) (v_ro : Nat → Int32) (h_u_td : 0 ≤ u_td.toInt ∧ u_td.toInt ≤ 400) (h_u_fr : 0 ≤ u_fr.toInt ∧ u_fr.toInt ≤ 400) (h_u_to : 0 ≤ u_to.toInt ∧ u_to.toInt ≤ 400) (h_u_bd : 0 ≤ u_bd.toInt ∧ u_bd.toInt ≤ 1) (h_u_nc : 0 ≤ u_nc.toInt ∧ u_nc.toInt ≤ 12) (h_u_co : 0 ≤ u_co.toInt ∧ u_co.toInt ≤ 400) (h_u_pd : 0 ≤ u_pd.toInt ∧ u_pd.toInt ≤ 400) (h_u_la : 0 ≤ u_la.toInt ∧ u_la.toInt ≤ 4840) (h_u_bk : 0 ≤ u_bk.toInt ∧ u_bk.toInt ≤ 1) (h_u_ce : 0 ≤ u_ce.toInt ∧ u_ce.toInt ≤ 63) (h_u_ho : 0 ≤ u_ho.toInt ∧ u_ho.toInt ≤ 23) (h_u_wy : 0 ≤ u_wy.toInt ∧ u_wy.toInt ≤ 3) (h_u_bt : 0 ≤ u_bt.toInt ∧ u_bt.toInt ≤ 1000000) (h_u_ps : 0 ≤ u_ps.toInt ∧ u_ps.toInt ≤ 200) (h_u_ic : 0 ≤ u_ic.toInt ∧ u_ic.toInt ≤ 1) (h_u_id : 0 ≤ u_id.toInt ∧ u_id.toInt ≤ 1) (r_ro : MI v_ro) : Met l yX12_spot (wsG yX12_spot cX12_spot 5 (some .int)) ({ frames := 3, cells := 0, slots := 0, locals := 66 }) (va_Pc [.ref b_o, .int p_1, .int p_2, .int p_3] (g5_P G [(b_o, .inr (12, [.int u_th, .int u_sa, .ref b_rf, .ref b_ro, .ref b_im, .ref b_ke, .int u_fd, .ref b_tp, .int u_td, .int u_fr, .int u_to, .int u_so, .long u_wo, .int u_fa, .int u_bd, .int u_nc, .ref b_nl, .int u_co, .ref b_op, .ref b_ar, .int u_le, .ref b_pi, .ref b_pa, .int u_pd, .int u_od, .ref b_ws, .ref b_hw, .int u_la, .ref b_se, .ref b_re, .int u_bk, .long u_va, .long u_su, .int u_ce, .int u_ho, .int u_wy, .int u_bt, .int u_ps, .ref b_pt, .int u_tg, .int u_sn, .ref b_ip, .int u_ic, .ref b_ah, .ref b_be, .ref b_me, .int u_wd, .ref b_tr, .ref b_ld, .long u_st, .ref b_wn, .int u_id])), (b_rf, .inl (G.2 0, 7, .inl v_rf)), (b_ro, .inl (G.2 0, 5740, .inl v_ro))] sz)) (va_Qi (fun (r : Int32) (u : va_W) => (∃ (o_r : Int32) (o_th : Int32) (o_sa : Int32) (o_ic : Int32) (o_rf : Nat → Int32) (o_ro : Nat → Int32), (MI o_ro) ∧ (0 ≤ o_ic.toInt ∧ o_ic.toInt ≤ 1) ∧ (r = o_r) ∧ (u = [(b_o, .inr (12, [.int o_th, .int o_sa, .ref b_rf, .ref b_ro, .ref b_im, .ref b_ke, .int u_fd, .ref b_tp, .int u_td, .int u_fr, .int u_to, .int u_so, .long u_wo, .int u_fa, .int u_bd, .int u_nc, .ref b_nl, .int u_co, .ref b_op, .ref b_ar, .int u_le, .ref b_pi, .ref b_pa, .int u_pd, .int u_od, .ref b_ws, .ref b_hw, .int u_la, .ref b_se, .ref b_re, .int u_bk, .long u_va, .long u_su, .int u_ce, .int u_ho, .int u_wy, .int u_bt, .int u_ps, .ref b_pt, .int u_tg, .int u_sn, .ref b_ip, .int o_ic, .ref b_ah, .ref b_be, .ref b_me, .int u_wd, .ref b_tr, .ref b_ld, .long u_st, .ref b_wn, .int u_id])), (b_rf, .inl (G.2 0, 7, .inl o_rf)), (b_ro, .inl (G.2 0, 5740, .inl o_ro))]))) (g5_B G (va_A [(b_o, .inr (12, [.int u_th, .int u_sa, .ref b_rf, .ref b_ro, .ref b_im, .ref b_ke, .int u_fd, .ref b_tp, .int u_td, .int u_fr, .int u_to, .int u_so, .long u_wo, .int u_fa, .int u_bd, .int u_nc, .ref b_nl, .int u_co, .ref b_op, .ref b_ar, .int u_le, .ref b_pi, .ref b_pa, .int u_pd, .int u_od, .ref b_ws, .ref b_hw, .int u_la, .ref b_se, .ref b_re, .int u_bk, .long u_va, .long u_su, .int u_ce, .int u_ho, .int u_wy, .int u_bt, .int u_ps, .ref b_pt, .int u_tg, .int u_sn, .ref b_ip, .int u_ic, .ref b_ah, .ref b_be, .ref b_me, .int u_wd, .ref b_tr, .ref b_ld, .long u_st, .ref b_wn, .int u_id])), (b_rf, .inl (G.2 0, 7, .inl v_rf)), (b_ro, .inl (G.2 0, 5740, .inl v_ro))] sz)) (va_A [(b_o, .inr (12, [.int u_th, .int u_sa, .ref b_rf, .ref b_ro, .ref b_im, .ref b_ke, .int u_fd, .ref b_tp, .int u_td, .int u_fr, .int u_to, .int u_so, .long u_wo, .int u_fa, .int u_bd, .int u_nc, .ref b_nl, .int u_co, .ref b_op, .ref b_ar, .int u_le, .ref b_pi, .ref b_pa, .int u_pd, .int u_od, .ref b_ws, .ref b_hw, .int u_la, .ref b_se, .ref b_re, .int u_bk, .long u_va, .long u_su, .int u_ce, .int u_ho, .int u_wy, .int u_bt, .int u_ps, .ref b_pt, .int u_tg, .int u_sn, .ref b_ip, .int u_ic, .ref b_ah, .ref b_be, .ref b_me, .int u_wd, .ref b_tr, .ref b_ld, .long u_st, .ref b_wn, .int u_id])), (b_rf, .inl (G.2 0, 7, .inl v_rf)), (b_ro, .inl (G.2 0, 5740, .inl v_ro))] sz)) 0 0 (va_A [(b_o, .inr (12, [.int u_th, .int u_sa, .ref b_rf, .ref b_ro, .ref b_im, .ref b_ke, .int u_fd, .ref b_tp, .int u_td, .int u_fr, .int u_to, .int u_so, .long u_wo, .int u_fa, .int u_bd, .int u_nc, .ref b_nl, .int u_co, .ref b_op, .ref b_ar, .int u_le, .ref b_pi, .ref b_pa, .int u_pd, .int u_od, .ref b_ws, .ref b_hw, .int u_la, .ref b_se, .ref b_re, .int u_bk, .long u_va, .long u_su, .int u_ce, .int u_ho, .int u_wy, .int u_bt, .int u_ps, .ref b_pt, .int u_tg, .int u_sn, .ref b_ip, .int u_ic, .ref b_ah, .ref b_be, .ref b_me, .int u_wd, .ref b_tr, .ref b_ld, .long u_st, .ref b_wn, .int u_id])), (b_rf, .inl (G.2 0, 7, .inl v_rf)), (b_ro, .inl (G.2 0, 5740, .inl v_ro))] sz) := by
  refine Met.ofW (cc := cX12_spot) (maxL := 5) (ret := (some .int)) (by decide) rfl ?_
  intro p e s m args below meth c s₁ B hml hv
  obtain ⟨rfl, hsz, hP, hK, hD0, hN, hT⟩ := hv
  have hx := B.exec
  have hb := B.bytes
  have hr := B.returns
  have hts : ∀ w ∈ tblG, w.before _ s = true := fun w h => atoms_spec (ws := (wsG yX12_spot cX12_spot 5 (some .int))) B.pre w (List.mem_cons_of_mem _ h)
  have hown : s.vm.findClass RX12 = some m.cls := findClass_of_methodNamed B.named
  have hlocks := B.notSynchronized
  subst hsz
  have hD := hD0.self (sz := s.heap.size)
  generalize hAe : va_A [(b_o, .inr (12, [.int u_th, .int u_sa, .ref b_rf, .ref b_ro, .ref b_im, .ref b_ke, .int u_fd, .ref b_tp, .int u_td, .int u_fr, .int u_to, .int u_so, .long u_wo, .int u_fa, .int u_bd, .int u_nc, .ref b_nl, .int u_co, .ref b_op, .ref b_ar, .int u_le, .ref b_pi, .ref b_pa, .int u_pd, .int u_od, .ref b_ws, .ref b_hw, .int u_la, .ref b_se, .ref b_re, .int u_bk, .long u_va, .long u_su, .int u_ce, .int u_ho, .int u_wy, .int u_bt, .int u_ps, .ref b_pt, .int u_tg, .int u_sn, .ref b_ip, .int u_ic, .ref b_ah, .ref b_be, .ref b_me, .int u_wd, .ref b_tr, .ref b_ld, .long u_st, .ref b_wn, .int u_id])), (b_rf, .inl (G.2 0, 7, .inl v_rf)), (b_ro, .inl (G.2 0, 5740, .inl v_ro))] s.heap.size = A at hD hT ⊢
  have hA : ∀ q : Nat, s.heap.size ≤ q → A q := fun q h => by rw [← hAe]; exact Or.inr h
  have hS : va_S A s.heap s.heap [] := va_S.rf
  have hP : va_P G.1 vwCl [(b_o, .inr (12, [.int u_th, .int u_sa, .ref b_rf, .ref b_ro, .ref b_im, .ref b_ke, .int u_fd, .ref b_tp, .int u_td, .int u_fr, .int u_to, .int u_so, .long u_wo, .int u_fa, .int u_bd, .int u_nc, .ref b_nl, .int u_co, .ref b_op, .ref b_ar, .int u_le, .ref b_pi, .ref b_pa, .int u_pd, .int u_od, .ref b_ws, .ref b_hw, .int u_la, .ref b_se, .ref b_re, .int u_bk, .long u_va, .long u_su, .int u_ce, .int u_ho, .int u_wy, .int u_bt, .int u_ps, .ref b_pt, .int u_tg, .int u_sn, .ref b_ip, .int u_ic, .ref b_ah, .ref b_be, .ref b_me, .int u_wd, .ref b_tr, .ref b_ld, .long u_st, .ref b_wn, .int u_id])), (b_rf, .inl (G.2 0, 7, .inl v_rf)), (b_ro, .inl (G.2 0, 5740, .inl v_ro))] s.heap := hP
  have hl := lv_entry ([.ref b_o, .int p_1, .int p_2, .int p_3]) (n := 5) (Nat.le_of_ble_eq_true rfl)
  rw [lg_entry_eq]
  generalize (lg_sl ([.ref b_o, .int p_1, .int p_2, .int p_3]) ++ List.replicate (5 - (lg_sl ([.ref b_o, .int p_1, .int p_2, .int p_3])).length) Slot.unset).toArray = ls at hl ⊢
  have hl : lv_has ls 5 [(0, .ref b_o), (1, .int p_1), (2, .int p_2), (3, .int p_3)] := hl
  refine lv_aload_n hx hb dX12_spot_0 rfl (lv_at hl 0 rfl) ?_
  refine lv_iconst (v := 0) hx hb dX12_spot_1 (by decide) ?_
  refine va_put (D := G.1) (ci := 12) (v := .int 0) (ty := .int) (C := RX12) (T := TX12) (N := 52) hx hb hts inG_X12 tyX12 tyX12_ok nmX12 hown hK hP hD hS 0 rfl rfl 0 (by decide) (hts _ fl_X12_107) (fun _ h9 => h9) rfl (by decide +kernel) rfl rfl (Nat.le_of_ble_eq_true rfl) dX12_spot_2 (fun H locs hP hD hS => ?_)
  have hP : va_P G.1 vwCl [(b_o, .inr (12, [.int 0, .int u_sa, .ref b_rf, .ref b_ro, .ref b_im, .ref b_ke, .int u_fd, .ref b_tp, .int u_td, .int u_fr, .int u_to, .int u_so, .long u_wo, .int u_fa, .int u_bd, .int u_nc, .ref b_nl, .int u_co, .ref b_op, .ref b_ar, .int u_le, .ref b_pi, .ref b_pa, .int u_pd, .int u_od, .ref b_ws, .ref b_hw, .int u_la, .ref b_se, .ref b_re, .int u_bk, .long u_va, .long u_su, .int u_ce, .int u_ho, .int u_wy, .int u_bt, .int u_ps, .ref b_pt, .int u_tg, .int u_sn, .ref b_ip, .int u_ic, .ref b_ah, .ref b_be, .ref b_me, .int u_wd, .ref b_tr, .ref b_ld, .long u_st, .ref b_wn, .int u_id])), (b_rf, .inl (G.2 0, 7, .inl v_rf)), (b_ro, .inl (G.2 0, 5740, .inl v_ro))] H := hP
  have hD : va_D A [(b_o, .inr (12, [.int 0, .int u_sa, .ref b_rf, .ref b_ro, .ref b_im, .ref b_ke, .int u_fd, .ref b_tp, .int u_td, .int u_fr, .int u_to, .int u_so, .long u_wo, .int u_fa, .int u_bd, .int u_nc, .ref b_nl, .int u_co, .ref b_op, .ref b_ar, .int u_le, .ref b_pi, .ref b_pa, .int u_pd, .int u_od, .ref b_ws, .ref b_hw, .int u_la, .ref b_se, .ref b_re, .int u_bk, .long u_va, .long u_su, .int u_ce, .int u_ho, .int u_wy, .int u_bt, .int u_ps, .ref b_pt, .int u_tg, .int u_sn, .ref b_ip, .int u_ic, .ref b_ah, .ref b_be, .ref b_me, .int u_wd, .ref b_tr, .ref b_ld, .long u_st, .ref b_wn, .int u_id])), (b_rf, .inl (G.2 0, 7, .inl v_rf)), (b_ro, .inl (G.2 0, 5740, .inl v_ro))] := hD
  refine lv_iload_n hx hb dX12_spot_5 rfl (lv_at hl 1 rfl) ?_
  have hPc := hP.sub (ws' := []) [] rfl
  have hDc := hD.sub (ws' := []) [] (by decide) rfl
  have hFc := va_free (wc := []) hD hS hA [] rfl
  refine va_calli (va_runS (As := [.int p_1]) (rest := []) ⟨hx, hb, hml, hown, hts⟩ (n_isCell l G H.size p_1) (va_cwS 1 hts gS_X12_138 rfl rfl rfl hs_X12_isCell ⟨Nat.le_of_ble_eq_true rfl, Nat.le_of_ble_eq_true rfl⟩) (g5_preS hPc hK hDc hN hT hS hFc) rfl rfl hl.1 rfl (lv_room (Nat.le_of_ble_eq_true rfl)) dX12_spot_6 ⟨Nat.le_of_ble_eq_true rfl, Nat.le_of_ble_eq_true rfl⟩) hS (fun q _ h => hFc q h) hFc (fun r u t H1 locs ht hvm hw hB hz1 hk1 hS => ?_)
  obtain ⟨hP1, hD1⟩ := hB
  rw [ht] at hP1
  rcases hw with ⟨i_1, rfl, rfl⟩ | ⟨rfl, rfl⟩
  ·
    have i_1 : 0 ≤ p_1.toInt ∧ p_1.toInt ≤ 63 := i_1
    have hP := g5_same hP hk1
    generalize H1 = H at hP hS ⊢
    refine lv_if_eq (tgt := 28) hx hb dX12_spot_9 (by decide) (fun c_2 => ?_) (fun c_2 => ?_)
    ·
      exact absurd c_2 (by decide)
    ·
      refine lv_iconst (v := 0) hx hb dX12_spot_12 (by decide) ?_
      refine lv_iload_n hx hb dX12_spot_13 rfl (lv_at hl 2 rfl) ?_
      have hPc := hP.sub (ws' := []) [] rfl
      have hDc := hD.sub (ws' := []) [] (by decide) rfl
      have hFc := va_free (wc := []) hD hS hA [] rfl
      refine va_calli (va_runS (As := [.int 0, .int p_2]) (rest := []) ⟨hx, hb, hml, hown, hts⟩ (n_fits0 l G H.size p_2) (va_cwS 2 hts gS_X12_163 rfl rfl rfl hs_X12_fits ⟨Nat.le_of_ble_eq_true rfl, Nat.le_of_ble_eq_true rfl⟩) (g5_preS hPc hK hDc hN hT hS hFc) rfl rfl hl.1 rfl (lv_room (Nat.le_of_ble_eq_true rfl)) dX12_spot_14 ⟨Nat.le_of_ble_eq_true rfl, Nat.le_of_ble_eq_true rfl⟩) hS (fun q _ h => hFc q h) hFc (fun r u t H1 locs ht hvm hw hB hz1 hk1 hS => ?_)
      obtain ⟨hP1, hD1⟩ := hB
      rw [ht] at hP1
      rcases hw with ⟨i_3, rfl, rfl⟩ | ⟨rfl, rfl⟩
      ·
        have i_3 : 0 ≤ p_2.toInt ∧ p_2.toInt ≤ 5 := i_3
        have hP := g5_same hP hk1
        generalize H1 = H at hP hS ⊢
        refine lv_if_eq (tgt := 28) hx hb dX12_spot_17 (by decide) (fun c_4 => ?_) (fun c_4 => ?_)
        ·
          exact absurd c_4 (by decide)
        ·
          refine lv_iconst (v := 1) hx hb dX12_spot_20 (by decide) ?_
          refine lv_iload_n hx hb dX12_spot_21 rfl (lv_at hl 3 rfl) ?_
          have hPc := hP.sub (ws' := []) [] rfl
          have hDc := hD.sub (ws' := []) [] (by decide) rfl
          have hFc := va_free (wc := []) hD hS hA [] rfl
          refine va_calli (va_runS (As := [.int 1, .int p_3]) (rest := []) ⟨hx, hb, hml, hown, hts⟩ (n_fits1 l G H.size p_3) (va_cwS 2 hts gS_X12_163 rfl rfl rfl hs_X12_fits ⟨Nat.le_of_ble_eq_true rfl, Nat.le_of_ble_eq_true rfl⟩) (g5_preS hPc hK hDc hN hT hS hFc) rfl rfl hl.1 rfl (lv_room (Nat.le_of_ble_eq_true rfl)) dX12_spot_22 ⟨Nat.le_of_ble_eq_true rfl, Nat.le_of_ble_eq_true rfl⟩) hS (fun q _ h => hFc q h) hFc (fun r u t H1 locs ht hvm hw hB hz1 hk1 hS => ?_)
          obtain ⟨hP1, hD1⟩ := hB
          rw [ht] at hP1
          rcases hw with ⟨i_5, rfl, rfl⟩ | ⟨rfl, rfl⟩
          ·
            have i_5 : 0 ≤ p_3.toInt ∧ p_3.toInt ≤ 23 := i_5
            have hP := g5_same hP hk1
            generalize H1 = H at hP hS ⊢
            refine lv_if_ne (tgt := 34) hx hb dX12_spot_25 (by decide) (fun c_6 => ?_) (fun c_6 => ?_)
            ·
              refine lv_aload_n hx hb dX12_spot_34 rfl (lv_at hl 0 rfl) ?_
              refine lv_iload_n hx hb dX12_spot_35 rfl (lv_at hl 1 rfl) ?_
              have hPc := hP.sub (ws' := [(b_o, .inr (12, [.int 0, .int u_sa, .ref b_rf, .ref b_ro, .ref b_im, .ref b_ke, .int u_fd, .ref b_tp, .int u_td, .int u_fr, .int u_to, .int u_so, .long u_wo, .int u_fa, .int u_bd, .int u_nc, .ref b_nl, .int u_co, .ref b_op, .ref b_ar, .int u_le, .ref b_pi, .ref b_pa, .int u_pd, .int u_od, .ref b_ws, .ref b_hw, .int u_la, .ref b_se, .ref b_re, .int u_bk, .long u_va, .long u_su, .int u_ce, .int u_ho, .int u_wy, .int u_bt, .int u_ps, .ref b_pt, .int u_tg, .int u_sn, .ref b_ip, .int u_ic, .ref b_ah, .ref b_be, .ref b_me, .int u_wd, .ref b_tr, .ref b_ld, .long u_st, .ref b_wn, .int u_id])), (b_ro, .inl (G.2 0, 5740, .inl v_ro))]) [0, 2] rfl
              have hDc := hD.sub (ws' := [(b_o, .inr (12, [.int 0, .int u_sa, .ref b_rf, .ref b_ro, .ref b_im, .ref b_ke, .int u_fd, .ref b_tp, .int u_td, .int u_fr, .int u_to, .int u_so, .long u_wo, .int u_fa, .int u_bd, .int u_nc, .ref b_nl, .int u_co, .ref b_op, .ref b_ar, .int u_le, .ref b_pi, .ref b_pa, .int u_pd, .int u_od, .ref b_ws, .ref b_hw, .int u_la, .ref b_se, .ref b_re, .int u_bk, .long u_va, .long u_su, .int u_ce, .int u_ho, .int u_wy, .int u_bt, .int u_ps, .ref b_pt, .int u_tg, .int u_sn, .ref b_ip, .int u_ic, .ref b_ah, .ref b_be, .ref b_me, .int u_wd, .ref b_tr, .ref b_ld, .long u_st, .ref b_wn, .int u_id])), (b_ro, .inl (G.2 0, 5740, .inl v_ro))]) [0, 2] (by decide) rfl
              have hFc := va_free (wc := [(b_o, .inr (12, [.int 0, .int u_sa, .ref b_rf, .ref b_ro, .ref b_im, .ref b_ke, .int u_fd, .ref b_tp, .int u_td, .int u_fr, .int u_to, .int u_so, .long u_wo, .int u_fa, .int u_bd, .int u_nc, .ref b_nl, .int u_co, .ref b_op, .ref b_ar, .int u_le, .ref b_pi, .ref b_pa, .int u_pd, .int u_od, .ref b_ws, .ref b_hw, .int u_la, .ref b_se, .ref b_re, .int u_bk, .long u_va, .long u_su, .int u_ce, .int u_ho, .int u_wy, .int u_bt, .int u_ps, .ref b_pt, .int u_tg, .int u_sn, .ref b_ip, .int u_ic, .ref b_ah, .ref b_be, .ref b_me, .int u_wd, .ref b_tr, .ref b_ld, .long u_st, .ref b_wn, .int u_id])), (b_ro, .inl (G.2 0, 5740, .inl v_ro))]) hD hS hA [0, 2] rfl
              refine va_calli (va_runV (As := [.int p_1]) (rest := []) ⟨hx, hb, hml, hown, hts⟩ (n_canHang l G b_o b_ro b_rf b_im b_ke b_tp b_nl b_op b_ar b_pi b_pa b_ws b_hw b_se b_re b_pt b_ip b_ah b_be b_me b_tr b_ld b_wn H.size 0 u_sa u_fd u_td u_fr u_to u_so u_fa u_bd u_nc u_co u_le u_pd u_od u_la u_bk u_ce u_ho u_wy u_bt u_ps u_tg u_sn u_ic u_wd u_id p_1 u_wo u_va u_su u_st v_ro ⟨by omega, by omega⟩ ⟨by omega, by omega⟩ ⟨by omega, by omega⟩ ⟨by omega, by omega⟩ ⟨by omega, by omega⟩ ⟨by omega, by omega⟩ ⟨by omega, by omega⟩ ⟨by omega, by omega⟩ ⟨by omega, by omega⟩ ⟨by omega, by omega⟩ ⟨by omega, by omega⟩ ⟨by omega, by omega⟩ ⟨by omega, by omega⟩ ⟨by omega, by omega⟩ ⟨by omega, by omega⟩ ⟨by omega, by omega⟩ ⟨by omega, by omega⟩ (r_ro)) (cwV 1 hts gV_X12_167 rfl rfl rfl hv_X12_canHang ⟨Nat.le_of_ble_eq_true rfl, Nat.le_of_ble_eq_true rfl⟩) (g5_preV hPc hK hDc hN hT hS hFc (ci := 12) (q0 := 0) rfl rfl) rfl rfl hl.1 rfl (lv_room (Nat.le_of_ble_eq_true rfl)) dX12_spot_36 ⟨Nat.le_of_ble_eq_true rfl, Nat.le_of_ble_eq_true rfl⟩) hS (fun q _ h => hFc q h) hFc (fun r u t H1 locs ht hvm hw hB hz1 hk1 hS => ?_)
              obtain ⟨hP1, hD1⟩ := hB
              rw [ht] at hP1
              obtain ⟨z8, i_7, y9, rfl⟩ := hw
              have i_7 : 0 ≤ z8.toInt ∧ z8.toInt ≤ 1 := i_7
              obtain ⟨hP, hD⟩ := va_join (wr := [(b_rf, .inl (G.2 0, 7, .inl v_rf))]) (w1 := [(b_o, .inr (12, [.int 0, .int u_sa, .ref b_rf, .ref b_ro, .ref b_im, .ref b_ke, .int u_fd, .ref b_tp, .int u_td, .int u_fr, .int u_to, .int u_so, .long u_wo, .int u_fa, .int u_bd, .int u_nc, .ref b_nl, .int u_co, .ref b_op, .ref b_ar, .int u_le, .ref b_pi, .ref b_pa, .int u_pd, .int u_od, .ref b_ws, .ref b_hw, .int u_la, .ref b_se, .ref b_re, .int u_bk, .long u_va, .long u_su, .int u_ce, .int u_ho, .int u_wy, .int u_bt, .int u_ps, .ref b_pt, .int u_tg, .int u_sn, .ref b_ip, .int u_ic, .ref b_ah, .ref b_be, .ref b_me, .int u_wd, .ref b_tr, .ref b_ld, .long u_st, .ref b_wn, .int u_id])), (b_ro, .inl (G.2 0, 5740, .inl v_ro))]) hP hD [0, 2] [1] rfl rfl (by decide) (by decide) hk1 hFc hP1 hD1
              generalize H1 = H at hP hS ⊢
              have hP : va_P G.1 vwCl [(b_rf, .inl (G.2 0, 7, .inl v_rf)), (b_o, .inr (12, [.int 0, .int u_sa, .ref b_rf, .ref b_ro, .ref b_im, .ref b_ke, .int u_fd, .ref b_tp, .int u_td, .int u_fr, .int u_to, .int u_so, .long u_wo, .int u_fa, .int u_bd, .int u_nc, .ref b_nl, .int u_co, .ref b_op, .ref b_ar, .int u_le, .ref b_pi, .ref b_pa, .int u_pd, .int u_od, .ref b_ws, .ref b_hw, .int u_la, .ref b_se, .ref b_re, .int u_bk, .long u_va, .long u_su, .int u_ce, .int u_ho, .int u_wy, .int u_bt, .int u_ps, .ref b_pt, .int u_tg, .int u_sn, .ref b_ip, .int u_ic, .ref b_ah, .ref b_be, .ref b_me, .int u_wd, .ref b_tr, .ref b_ld, .long u_st, .ref b_wn, .int u_id])), (b_ro, .inl (G.2 0, 5740, .inl v_ro))] H := hP
              have hD : va_D A [(b_rf, .inl (G.2 0, 7, .inl v_rf)), (b_o, .inr (12, [.int 0, .int u_sa, .ref b_rf, .ref b_ro, .ref b_im, .ref b_ke, .int u_fd, .ref b_tp, .int u_td, .int u_fr, .int u_to, .int u_so, .long u_wo, .int u_fa, .int u_bd, .int u_nc, .ref b_nl, .int u_co, .ref b_op, .ref b_ar, .int u_le, .ref b_pi, .ref b_pa, .int u_pd, .int u_od, .ref b_ws, .ref b_hw, .int u_la, .ref b_se, .ref b_re, .int u_bk, .long u_va, .long u_su, .int u_ce, .int u_ho, .int u_wy, .int u_bt, .int u_ps, .ref b_pt, .int u_tg, .int u_sn, .ref b_ip, .int u_ic, .ref b_ah, .ref b_be, .ref b_me, .int u_wd, .ref b_tr, .ref b_ld, .long u_st, .ref b_wn, .int u_id])), (b_ro, .inl (G.2 0, 5740, .inl v_ro))] := hD
              refine g5_ti (v := z8) y9 ?_
              refine lv_if_ne (tgt := 49) hx hb dX12_spot_39 (by decide) (fun c_10 => ?_) (fun c_10 => ?_)
              ·
                have n_10 : gNe (z8.toInt) (0) := by have z := g5_ne (a := z8.toInt) (b := 0) (by rfl) (by decide) c_10; unfold gNe; omega
                have i_10 : z8.toInt ≥ 1 := by have z := g5_ne (a := z8.toInt) (b := 0) (by rfl) (by decide) c_10; omega
                refine lv_aload_n hx hb dX12_spot_49 rfl (lv_at hl 0 rfl) ?_
                refine va_get (D := G.1) (ci := 12) (v := .ref b_ro) (C := RX12) (T := TX12) (N := 52) hx hb hts inG_X12 hown hK hP 1 rfl rfl 3 (by decide) (hts _ fl_X12_13) (fun _ h9 => h9) rfl dX12_spot_50 ?_
                refine lv_bipush (v := 7) hx hb dX12_spot_53 (by decide) ?_
                refine va_iald hx hb hK hP 2 0 rfl rfl (i := 7) (by unfold vp_in; decide) dX12_spot_55 ?_
                refine g5_ti (v := (v_ro 7)) rfl ?_
                have hr_11 : 0 ≤ (v_ro 7).toInt ∧ (v_ro 7).toInt ≤ 8 := mi_7 r_ro
                refine lv_istore (lv' := [(4, .int (v_ro 7)), (0, .ref b_o), (1, .int p_1), (2, .int p_2), (3, .int p_3)]) hx hb dX12_spot_56 hl (by decide) rfl (fun ls hl => ?_)
                refine lv_iload hx hb dX12_spot_58 (lv_at hl 0 rfl) ?_
                refine lv_bipush (v := 8) hx hb dX12_spot_60 (by decide) ?_
                refine lv_icmp_ne (tgt := 72) hx hb dX12_spot_62 (by decide) (fun c_12 => ?_) (fun c_12 => ?_)
                ·
                  have n_12 : gNe ((v_ro 7).toInt) (8) := by have z := g5_ne (a := (v_ro 7).toInt) (b := 8) (by rfl) (by decide) c_12; unfold gNe; omega
                  have i_12 : (v_ro 7).toInt ≤ 7 := by have z := g5_ne (a := (v_ro 7).toInt) (b := 8) (by rfl) (by decide) c_12; omega
                  refine lv_aload_n hx hb dX12_spot_72 rfl (lv_at hl 1 rfl) ?_
                  refine va_get (D := G.1) (ci := 12) (v := .ref b_ro) (C := RX12) (T := TX12) (N := 52) hx hb hts inG_X12 hown hK hP 1 rfl rfl 3 (by decide) (hts _ fl_X12_13) (fun _ h9 => h9) rfl dX12_spot_73 ?_
                  refine lv_sipush (v := 270) hx hb dX12_spot_76 (by decide) ?_
                  refine lv_iconst (v := 3) hx hb dX12_spot_79 (by decide) ?_
                  refine lv_iload hx hb dX12_spot_80 (lv_at hl 0 rfl) ?_
                  refine lv_imul hx hb dX12_spot_82 ?_
                  have t_13 : (3 * (v_ro 7)).toInt = 3 * (v_ro 7).toInt := g5_imul (a := 3) (b := (v_ro 7).toInt) (by decide) (by rfl) (by omega) (by omega)
                  refine lv_iadd hx hb dX12_spot_83 ?_
                  have t_14 : (270 + (3 * (v_ro 7))).toInt = 270 + (3 * (v_ro 7)).toInt := g5_iadd (a := 270) (b := (3 * (v_ro 7)).toInt) (by decide) (by rfl) (by omega) (by omega)
                  refine lv_iload_n hx hb dX12_spot_84 rfl (lv_at hl 2 rfl) ?_
                  refine va_iast hx hb hK hP hD hS 2 0 rfl rfl (i := (270 + (3 * (v_ro 7)))) (x := p_1) (vp_in_iff.mpr ⟨by omega, by omega⟩) dX12_spot_85 (fun H locs hP hD hS => ?_)
                  have hP : va_P G.1 vwCl [(b_rf, .inl (G.2 0, 7, .inl v_rf)), (b_o, .inr (12, [.int 0, .int u_sa, .ref b_rf, .ref b_ro, .ref b_im, .ref b_ke, .int u_fd, .ref b_tp, .int u_td, .int u_fr, .int u_to, .int u_so, .long u_wo, .int u_fa, .int u_bd, .int u_nc, .ref b_nl, .int u_co, .ref b_op, .ref b_ar, .int u_le, .ref b_pi, .ref b_pa, .int u_pd, .int u_od, .ref b_ws, .ref b_hw, .int u_la, .ref b_se, .ref b_re, .int u_bk, .long u_va, .long u_su, .int u_ce, .int u_ho, .int u_wy, .int u_bt, .int u_ps, .ref b_pt, .int u_tg, .int u_sn, .ref b_ip, .int u_ic, .ref b_ah, .ref b_be, .ref b_me, .int u_wd, .ref b_tr, .ref b_ld, .long u_st, .ref b_wn, .int u_id])), (b_ro, .inl (G.2 0, 5740, .inl (upd v_ro (270 + (3 * (v_ro 7))).toNatClampNeg p_1)))] H := hP
                  have hD : va_D A [(b_rf, .inl (G.2 0, 7, .inl v_rf)), (b_o, .inr (12, [.int 0, .int u_sa, .ref b_rf, .ref b_ro, .ref b_im, .ref b_ke, .int u_fd, .ref b_tp, .int u_td, .int u_fr, .int u_to, .int u_so, .long u_wo, .int u_fa, .int u_bd, .int u_nc, .ref b_nl, .int u_co, .ref b_op, .ref b_ar, .int u_le, .ref b_pi, .ref b_pa, .int u_pd, .int u_od, .ref b_ws, .ref b_hw, .int u_la, .ref b_se, .ref b_re, .int u_bk, .long u_va, .long u_su, .int u_ce, .int u_ho, .int u_wy, .int u_bt, .int u_ps, .ref b_pt, .int u_tg, .int u_sn, .ref b_ip, .int u_ic, .ref b_ah, .ref b_be, .ref b_me, .int u_wd, .ref b_tr, .ref b_ld, .long u_st, .ref b_wn, .int u_id])), (b_ro, .inl (G.2 0, 5740, .inl (upd v_ro (270 + (3 * (v_ro 7))).toNatClampNeg p_1)))] := hD
                  refine lv_aload_n hx hb dX12_spot_86 rfl (lv_at hl 1 rfl) ?_
                  refine va_get (D := G.1) (ci := 12) (v := .ref b_ro) (C := RX12) (T := TX12) (N := 52) hx hb hts inG_X12 hown hK hP 1 rfl rfl 3 (by decide) (hts _ fl_X12_13) (fun _ h9 => h9) rfl dX12_spot_87 ?_
                  refine lv_sipush (v := 270) hx hb dX12_spot_90 (by decide) ?_
                  refine lv_iconst (v := 3) hx hb dX12_spot_93 (by decide) ?_
                  refine lv_iload hx hb dX12_spot_94 (lv_at hl 0 rfl) ?_
                  refine lv_imul hx hb dX12_spot_96 ?_
                  have t_15 : (3 * (v_ro 7)).toInt = 3 * (v_ro 7).toInt := g5_imul (a := 3) (b := (v_ro 7).toInt) (by decide) (by rfl) (by omega) (by omega)
                  refine lv_iadd hx hb dX12_spot_97 ?_
                  have t_16 : (270 + (3 * (v_ro 7))).toInt = 270 + (3 * (v_ro 7)).toInt := g5_iadd (a := 270) (b := (3 * (v_ro 7)).toInt) (by decide) (by rfl) (by omega) (by omega)
                  refine lv_iconst (v := 1) hx hb dX12_spot_98 (by decide) ?_
                  refine lv_iadd hx hb dX12_spot_99 ?_
                  have t_17 : ((270 + (3 * (v_ro 7))) + 1).toInt = (270 + (3 * (v_ro 7))).toInt + 1 := g5_iadd (a := (270 + (3 * (v_ro 7))).toInt) (b := 1) (by rfl) (by decide) (by omega) (by omega)
                  refine lv_iload_n hx hb dX12_spot_100 rfl (lv_at hl 3 rfl) ?_
                  refine va_iast hx hb hK hP hD hS 2 0 rfl rfl (i := ((270 + (3 * (v_ro 7))) + 1)) (x := p_2) (vp_in_iff.mpr ⟨by omega, by omega⟩) dX12_spot_101 (fun H locs hP hD hS => ?_)
                  have hP : va_P G.1 vwCl [(b_rf, .inl (G.2 0, 7, .inl v_rf)), (b_o, .inr (12, [.int 0, .int u_sa, .ref b_rf, .ref b_ro, .ref b_im, .ref b_ke, .int u_fd, .ref b_tp, .int u_td, .int u_fr, .int u_to, .int u_so, .long u_wo, .int u_fa, .int u_bd, .int u_nc, .ref b_nl, .int u_co, .ref b_op, .ref b_ar, .int u_le, .ref b_pi, .ref b_pa, .int u_pd, .int u_od, .ref b_ws, .ref b_hw, .int u_la, .ref b_se, .ref b_re, .int u_bk, .long u_va, .long u_su, .int u_ce, .int u_ho, .int u_wy, .int u_bt, .int u_ps, .ref b_pt, .int u_tg, .int u_sn, .ref b_ip, .int u_ic, .ref b_ah, .ref b_be, .ref b_me, .int u_wd, .ref b_tr, .ref b_ld, .long u_st, .ref b_wn, .int u_id])), (b_ro, .inl (G.2 0, 5740, .inl (upd (upd v_ro (270 + (3 * (v_ro 7))).toNatClampNeg p_1) ((270 + (3 * (v_ro 7))) + 1).toNatClampNeg p_2)))] H := hP
                  have hD : va_D A [(b_rf, .inl (G.2 0, 7, .inl v_rf)), (b_o, .inr (12, [.int 0, .int u_sa, .ref b_rf, .ref b_ro, .ref b_im, .ref b_ke, .int u_fd, .ref b_tp, .int u_td, .int u_fr, .int u_to, .int u_so, .long u_wo, .int u_fa, .int u_bd, .int u_nc, .ref b_nl, .int u_co, .ref b_op, .ref b_ar, .int u_le, .ref b_pi, .ref b_pa, .int u_pd, .int u_od, .ref b_ws, .ref b_hw, .int u_la, .ref b_se, .ref b_re, .int u_bk, .long u_va, .long u_su, .int u_ce, .int u_ho, .int u_wy, .int u_bt, .int u_ps, .ref b_pt, .int u_tg, .int u_sn, .ref b_ip, .int u_ic, .ref b_ah, .ref b_be, .ref b_me, .int u_wd, .ref b_tr, .ref b_ld, .long u_st, .ref b_wn, .int u_id])), (b_ro, .inl (G.2 0, 5740, .inl (upd (upd v_ro (270 + (3 * (v_ro 7))).toNatClampNeg p_1) ((270 + (3 * (v_ro 7))) + 1).toNatClampNeg p_2)))] := hD
                  refine lv_aload_n hx hb dX12_spot_102 rfl (lv_at hl 1 rfl) ?_
                  refine va_get (D := G.1) (ci := 12) (v := .ref b_ro) (C := RX12) (T := TX12) (N := 52) hx hb hts inG_X12 hown hK hP 1 rfl rfl 3 (by decide) (hts _ fl_X12_13) (fun _ h9 => h9) rfl dX12_spot_103 ?_
                  refine lv_sipush (v := 270) hx hb dX12_spot_106 (by decide) ?_
                  refine lv_iconst (v := 3) hx hb dX12_spot_109 (by decide) ?_
                  refine lv_iload hx hb dX12_spot_110 (lv_at hl 0 rfl) ?_
                  refine lv_imul hx hb dX12_spot_112 ?_
                  have t_18 : (3 * (v_ro 7)).toInt = 3 * (v_ro 7).toInt := g5_imul (a := 3) (b := (v_ro 7).toInt) (by decide) (by rfl) (by omega) (by omega)
                  refine lv_iadd hx hb dX12_spot_113 ?_
                  have t_19 : (270 + (3 * (v_ro 7))).toInt = 270 + (3 * (v_ro 7)).toInt := g5_iadd (a := 270) (b := (3 * (v_ro 7)).toInt) (by decide) (by rfl) (by omega) (by omega)
                  refine lv_iconst (v := 2) hx hb dX12_spot_114 (by decide) ?_
                  refine lv_iadd hx hb dX12_spot_115 ?_
                  have t_20 : ((270 + (3 * (v_ro 7))) + 2).toInt = (270 + (3 * (v_ro 7))).toInt + 2 := g5_iadd (a := (270 + (3 * (v_ro 7))).toInt) (b := 2) (by rfl) (by decide) (by omega) (by omega)
                  refine lv_iload_n hx hb dX12_spot_116 rfl (lv_at hl 4 rfl) ?_
                  refine va_iast hx hb hK hP hD hS 2 0 rfl rfl (i := ((270 + (3 * (v_ro 7))) + 2)) (x := p_3) (vp_in_iff.mpr ⟨by omega, by omega⟩) dX12_spot_117 (fun H locs hP hD hS => ?_)
                  have hP : va_P G.1 vwCl [(b_rf, .inl (G.2 0, 7, .inl v_rf)), (b_o, .inr (12, [.int 0, .int u_sa, .ref b_rf, .ref b_ro, .ref b_im, .ref b_ke, .int u_fd, .ref b_tp, .int u_td, .int u_fr, .int u_to, .int u_so, .long u_wo, .int u_fa, .int u_bd, .int u_nc, .ref b_nl, .int u_co, .ref b_op, .ref b_ar, .int u_le, .ref b_pi, .ref b_pa, .int u_pd, .int u_od, .ref b_ws, .ref b_hw, .int u_la, .ref b_se, .ref b_re, .int u_bk, .long u_va, .long u_su, .int u_ce, .int u_ho, .int u_wy, .int u_bt, .int u_ps, .ref b_pt, .int u_tg, .int u_sn, .ref b_ip, .int u_ic, .ref b_ah, .ref b_be, .ref b_me, .int u_wd, .ref b_tr, .ref b_ld, .long u_st, .ref b_wn, .int u_id])), (b_ro, .inl (G.2 0, 5740, .inl (upd (upd (upd v_ro (270 + (3 * (v_ro 7))).toNatClampNeg p_1) ((270 + (3 * (v_ro 7))) + 1).toNatClampNeg p_2) ((270 + (3 * (v_ro 7))) + 2).toNatClampNeg p_3)))] H := hP
                  have hD : va_D A [(b_rf, .inl (G.2 0, 7, .inl v_rf)), (b_o, .inr (12, [.int 0, .int u_sa, .ref b_rf, .ref b_ro, .ref b_im, .ref b_ke, .int u_fd, .ref b_tp, .int u_td, .int u_fr, .int u_to, .int u_so, .long u_wo, .int u_fa, .int u_bd, .int u_nc, .ref b_nl, .int u_co, .ref b_op, .ref b_ar, .int u_le, .ref b_pi, .ref b_pa, .int u_pd, .int u_od, .ref b_ws, .ref b_hw, .int u_la, .ref b_se, .ref b_re, .int u_bk, .long u_va, .long u_su, .int u_ce, .int u_ho, .int u_wy, .int u_bt, .int u_ps, .ref b_pt, .int u_tg, .int u_sn, .ref b_ip, .int u_ic, .ref b_ah, .ref b_be, .ref b_me, .int u_wd, .ref b_tr, .ref b_ld, .long u_st, .ref b_wn, .int u_id])), (b_ro, .inl (G.2 0, 5740, .inl (upd (upd (upd v_ro (270 + (3 * (v_ro 7))).toNatClampNeg p_1) ((270 + (3 * (v_ro 7))) + 1).toNatClampNeg p_2) ((270 + (3 * (v_ro 7))) + 2).toNatClampNeg p_3)))] := hD
                  refine lv_aload_n hx hb dX12_spot_118 rfl (lv_at hl 1 rfl) ?_
                  refine va_get (D := G.1) (ci := 12) (v := .ref b_ro) (C := RX12) (T := TX12) (N := 52) hx hb hts inG_X12 hown hK hP 1 rfl rfl 3 (by decide) (hts _ fl_X12_13) (fun _ h9 => h9) rfl dX12_spot_119 ?_
                  refine lv_bipush (v := 7) hx hb dX12_spot_122 (by decide) ?_
                  refine lv_dup2_11 hx hb dX12_spot_124 rfl rfl ?_
                  refine va_iald hx hb hK hP 2 0 rfl rfl (i := 7) (by unfold vp_in; decide) dX12_spot_125 ?_
                  refine g5_ti (v := ((upd (upd (upd v_ro (270 + (3 * (v_ro 7))).toNatClampNeg p_1) ((270 + (3 * (v_ro 7))) + 1).toNatClampNeg p_2) ((270 + (3 * (v_ro 7))) + 2).toNatClampNeg p_3) 7)) rfl ?_
                  have hu_21 : ((upd (upd (upd v_ro (270 + (3 * (v_ro 7))).toNatClampNeg p_1) ((270 + (3 * (v_ro 7))) + 1).toNatClampNeg p_2) ((270 + (3 * (v_ro 7))) + 2).toNatClampNeg p_3) 7) = (v_ro 7) := by unfold upd; rw [if_neg (by have zz := g5_clamp ((270 + (3 * (v_ro 7))) + 2); omega), if_neg (by have zz := g5_clamp ((270 + (3 * (v_ro 7))) + 1); omega), if_neg (by have zz := g5_clamp (270 + (3 * (v_ro 7))); omega)]
                  refine g5_ti (v := (v_ro 7)) hu_21 ?_
                  have hr_22 : 0 ≤ (v_ro 7).toInt ∧ (v_ro 7).toInt ≤ 8 := mi_7 r_ro
                  refine lv_iconst (v := 1) hx hb dX12_spot_126 (by decide) ?_
                  refine lv_iadd hx hb dX12_spot_127 ?_
                  have t_23 : ((v_ro 7) + 1).toInt = (v_ro 7).toInt + 1 := g5_iadd (a := (v_ro 7).toInt) (b := 1) (by rfl) (by decide) (by omega) (by omega)
                  refine va_iast hx hb hK hP hD hS 2 0 rfl rfl (i := 7) (x := ((v_ro 7) + 1)) (by unfold vp_in; decide) dX12_spot_128 (fun H locs hP hD hS => ?_)
                  have hP : va_P G.1 vwCl [(b_rf, .inl (G.2 0, 7, .inl v_rf)), (b_o, .inr (12, [.int 0, .int u_sa, .ref b_rf, .ref b_ro, .ref b_im, .ref b_ke, .int u_fd, .ref b_tp, .int u_td, .int u_fr, .int u_to, .int u_so, .long u_wo, .int u_fa, .int u_bd, .int u_nc, .ref b_nl, .int u_co, .ref b_op, .ref b_ar, .int u_le, .ref b_pi, .ref b_pa, .int u_pd, .int u_od, .ref b_ws, .ref b_hw, .int u_la, .ref b_se, .ref b_re, .int u_bk, .long u_va, .long u_su, .int u_ce, .int u_ho, .int u_wy, .int u_bt, .int u_ps, .ref b_pt, .int u_tg, .int u_sn, .ref b_ip, .int u_ic, .ref b_ah, .ref b_be, .ref b_me, .int u_wd, .ref b_tr, .ref b_ld, .long u_st, .ref b_wn, .int u_id])), (b_ro, .inl (G.2 0, 5740, .inl (upd (upd (upd (upd v_ro (270 + (3 * (v_ro 7))).toNatClampNeg p_1) ((270 + (3 * (v_ro 7))) + 1).toNatClampNeg p_2) ((270 + (3 * (v_ro 7))) + 2).toNatClampNeg p_3) 7 ((v_ro 7) + 1))))] H := hP
                  have hD : va_D A [(b_rf, .inl (G.2 0, 7, .inl v_rf)), (b_o, .inr (12, [.int 0, .int u_sa, .ref b_rf, .ref b_ro, .ref b_im, .ref b_ke, .int u_fd, .ref b_tp, .int u_td, .int u_fr, .int u_to, .int u_so, .long u_wo, .int u_fa, .int u_bd, .int u_nc, .ref b_nl, .int u_co, .ref b_op, .ref b_ar, .int u_le, .ref b_pi, .ref b_pa, .int u_pd, .int u_od, .ref b_ws, .ref b_hw, .int u_la, .ref b_se, .ref b_re, .int u_bk, .long u_va, .long u_su, .int u_ce, .int u_ho, .int u_wy, .int u_bt, .int u_ps, .ref b_pt, .int u_tg, .int u_sn, .ref b_ip, .int u_ic, .ref b_ah, .ref b_be, .ref b_me, .int u_wd, .ref b_tr, .ref b_ld, .long u_st, .ref b_wn, .int u_id])), (b_ro, .inl (G.2 0, 5740, .inl (upd (upd (upd (upd v_ro (270 + (3 * (v_ro 7))).toNatClampNeg p_1) ((270 + (3 * (v_ro 7))) + 1).toNatClampNeg p_2) ((270 + (3 * (v_ro 7))) + 2).toNatClampNeg p_3) 7 ((v_ro 7) + 1))))] := hD
                  refine lv_aload_n hx hb dX12_spot_129 rfl (lv_at hl 1 rfl) ?_
                  refine lv_iload hx hb dX12_spot_130 (lv_at hl 0 rfl) ?_
                  have hPc := hP.sub (ws' := [(b_o, .inr (12, [.int 0, .int u_sa, .ref b_rf, .ref b_ro, .ref b_im, .ref b_ke, .int u_fd, .ref b_tp, .int u_td, .int u_fr, .int u_to, .int u_so, .long u_wo, .int u_fa, .int u_bd, .int u_nc, .ref b_nl, .int u_co, .ref b_op, .ref b_ar, .int u_le, .ref b_pi, .ref b_pa, .int u_pd, .int u_od, .ref b_ws, .ref b_hw, .int u_la, .ref b_se, .ref b_re, .int u_bk, .long u_va, .long u_su, .int u_ce, .int u_ho, .int u_wy, .int u_bt, .int u_ps, .ref b_pt, .int u_tg, .int u_sn, .ref b_ip, .int u_ic, .ref b_ah, .ref b_be, .ref b_me, .int u_wd, .ref b_tr, .ref b_ld, .long u_st, .ref b_wn, .int u_id])), (b_rf, .inl (G.2 0, 7, .inl v_rf))]) [1, 0] rfl
                  have hDc := hD.sub (ws' := [(b_o, .inr (12, [.int 0, .int u_sa, .ref b_rf, .ref b_ro, .ref b_im, .ref b_ke, .int u_fd, .ref b_tp, .int u_td, .int u_fr, .int u_to, .int u_so, .long u_wo, .int u_fa, .int u_bd, .int u_nc, .ref b_nl, .int u_co, .ref b_op, .ref b_ar, .int u_le, .ref b_pi, .ref b_pa, .int u_pd, .int u_od, .ref b_ws, .ref b_hw, .int u_la, .ref b_se, .ref b_re, .int u_bk, .long u_va, .long u_su, .int u_ce, .int u_ho, .int u_wy, .int u_bt, .int u_ps, .ref b_pt, .int u_tg, .int u_sn, .ref b_ip, .int u_ic, .ref b_ah, .ref b_be, .ref b_me, .int u_wd, .ref b_tr, .ref b_ld, .long u_st, .ref b_wn, .int u_id])), (b_rf, .inl (G.2 0, 7, .inl v_rf))]) [1, 0] (by decide) rfl
                  have hFc := va_free (wc := [(b_o, .inr (12, [.int 0, .int u_sa, .ref b_rf, .ref b_ro, .ref b_im, .ref b_ke, .int u_fd, .ref b_tp, .int u_td, .int u_fr, .int u_to, .int u_so, .long u_wo, .int u_fa, .int u_bd, .int u_nc, .ref b_nl, .int u_co, .ref b_op, .ref b_ar, .int u_le, .ref b_pi, .ref b_pa, .int u_pd, .int u_od, .ref b_ws, .ref b_hw, .int u_la, .ref b_se, .ref b_re, .int u_bk, .long u_va, .long u_su, .int u_ce, .int u_ho, .int u_wy, .int u_bt, .int u_ps, .ref b_pt, .int u_tg, .int u_sn, .ref b_ip, .int u_ic, .ref b_ah, .ref b_be, .ref b_me, .int u_wd, .ref b_tr, .ref b_ld, .long u_st, .ref b_wn, .int u_id])), (b_rf, .inl (G.2 0, 7, .inl v_rf))]) hD hS hA [1, 0] rfl
                  refine va_calli (va_runV (As := [.int (v_ro 7)]) (rest := []) ⟨hx, hb, hml, hown, hts⟩ (n_tell l G b_o b_rf b_ro b_im b_ke b_tp b_nl b_op b_ar b_pi b_pa b_ws b_hw b_se b_re b_pt b_ip b_ah b_be b_me b_tr b_ld b_wn H.size 0 u_sa u_fd u_td u_fr u_to u_so u_fa u_bd u_nc u_co u_le u_pd u_od u_la u_bk u_ce u_ho u_wy u_bt u_ps u_tg u_sn u_ic u_wd u_id (v_ro 7) u_wo u_va u_su u_st v_rf ⟨by omega, by omega⟩ ⟨by omega, by omega⟩ ⟨by omega, by omega⟩ ⟨by omega, by omega⟩ ⟨by omega, by omega⟩ ⟨by omega, by omega⟩ ⟨by omega, by omega⟩ ⟨by omega, by omega⟩ ⟨by omega, by omega⟩ ⟨by omega, by omega⟩ ⟨by omega, by omega⟩ ⟨by omega, by omega⟩ ⟨by omega, by omega⟩ ⟨by omega, by omega⟩ ⟨by omega, by omega⟩ ⟨by omega, by omega⟩ ⟨by omega, by omega⟩) (cwV 1 hts gV_X12_125 rfl rfl rfl hv_X12_tell ⟨Nat.le_of_ble_eq_true rfl, Nat.le_of_ble_eq_true rfl⟩) (g5_preV hPc hK hDc hN hT hS hFc (ci := 12) (q0 := 0) rfl rfl) rfl rfl hl.1 rfl (lv_room (Nat.le_of_ble_eq_true rfl)) dX12_spot_132 ⟨Nat.le_of_ble_eq_true rfl, Nat.le_of_ble_eq_true rfl⟩) hS (fun q _ h => hFc q h) hFc (fun r u t H1 locs ht hvm hw hB hz1 hk1 hS => ?_)
                  obtain ⟨hP1, hD1⟩ := hB
                  rw [ht] at hP1
                  obtain ⟨z25, z26, z27, i_24, rfl, rfl⟩ := hw
                  have i_24 : 0 ≤ z26.toInt ∧ z26.toInt ≤ 1 := i_24
                  obtain ⟨hP, hD⟩ := va_join (wr := [(b_ro, .inl (G.2 0, 5740, .inl (upd (upd (upd (upd v_ro (270 + (3 * (v_ro 7))).toNatClampNeg p_1) ((270 + (3 * (v_ro 7))) + 1).toNatClampNeg p_2) ((270 + (3 * (v_ro 7))) + 2).toNatClampNeg p_3) 7 ((v_ro 7) + 1))))]) (w1 := [(b_o, .inr (12, [.int 0, .int z25, .ref b_rf, .ref b_ro, .ref b_im, .ref b_ke, .int u_fd, .ref b_tp, .int u_td, .int u_fr, .int u_to, .int u_so, .long u_wo, .int u_fa, .int u_bd, .int u_nc, .ref b_nl, .int u_co, .ref b_op, .ref b_ar, .int u_le, .ref b_pi, .ref b_pa, .int u_pd, .int u_od, .ref b_ws, .ref b_hw, .int u_la, .ref b_se, .ref b_re, .int u_bk, .long u_va, .long u_su, .int u_ce, .int u_ho, .int u_wy, .int u_bt, .int u_ps, .ref b_pt, .int u_tg, .int u_sn, .ref b_ip, .int z26, .ref b_ah, .ref b_be, .ref b_me, .int u_wd, .ref b_tr, .ref b_ld, .long u_st, .ref b_wn, .int u_id])), (b_rf, .inl (G.2 0, 7, .inl z27))]) hP hD [1, 0] [2] rfl rfl (by decide) (by decide) hk1 hFc hP1 hD1
                  generalize H1 = H at hP hS ⊢
                  have hP : va_P G.1 vwCl [(b_ro, .inl (G.2 0, 5740, .inl (upd (upd (upd (upd v_ro (270 + (3 * (v_ro 7))).toNatClampNeg p_1) ((270 + (3 * (v_ro 7))) + 1).toNatClampNeg p_2) ((270 + (3 * (v_ro 7))) + 2).toNatClampNeg p_3) 7 ((v_ro 7) + 1)))), (b_o, .inr (12, [.int 0, .int z25, .ref b_rf, .ref b_ro, .ref b_im, .ref b_ke, .int u_fd, .ref b_tp, .int u_td, .int u_fr, .int u_to, .int u_so, .long u_wo, .int u_fa, .int u_bd, .int u_nc, .ref b_nl, .int u_co, .ref b_op, .ref b_ar, .int u_le, .ref b_pi, .ref b_pa, .int u_pd, .int u_od, .ref b_ws, .ref b_hw, .int u_la, .ref b_se, .ref b_re, .int u_bk, .long u_va, .long u_su, .int u_ce, .int u_ho, .int u_wy, .int u_bt, .int u_ps, .ref b_pt, .int u_tg, .int u_sn, .ref b_ip, .int z26, .ref b_ah, .ref b_be, .ref b_me, .int u_wd, .ref b_tr, .ref b_ld, .long u_st, .ref b_wn, .int u_id])), (b_rf, .inl (G.2 0, 7, .inl z27))] H := hP
                  have hD : va_D A [(b_ro, .inl (G.2 0, 5740, .inl (upd (upd (upd (upd v_ro (270 + (3 * (v_ro 7))).toNatClampNeg p_1) ((270 + (3 * (v_ro 7))) + 1).toNatClampNeg p_2) ((270 + (3 * (v_ro 7))) + 2).toNatClampNeg p_3) 7 ((v_ro 7) + 1)))), (b_o, .inr (12, [.int 0, .int z25, .ref b_rf, .ref b_ro, .ref b_im, .ref b_ke, .int u_fd, .ref b_tp, .int u_td, .int u_fr, .int u_to, .int u_so, .long u_wo, .int u_fa, .int u_bd, .int u_nc, .ref b_nl, .int u_co, .ref b_op, .ref b_ar, .int u_le, .ref b_pi, .ref b_pa, .int u_pd, .int u_od, .ref b_ws, .ref b_hw, .int u_la, .ref b_se, .ref b_re, .int u_bk, .long u_va, .long u_su, .int u_ce, .int u_ho, .int u_wy, .int u_bt, .int u_ps, .ref b_pt, .int u_tg, .int u_sn, .ref b_ip, .int z26, .ref b_ah, .ref b_be, .ref b_me, .int u_wd, .ref b_tr, .ref b_ld, .long u_st, .ref b_wn, .int u_id])), (b_rf, .inl (G.2 0, 7, .inl z27))] := hD
                  exact W.iret (v := (v_ro 7)) hx hb hr (fun t ht hW => ⟨⟨(v_ro 7), [(b_o, .inr (12, [.int 0, .int z25, .ref b_rf, .ref b_ro, .ref b_im, .ref b_ke, .int u_fd, .ref b_tp, .int u_td, .int u_fr, .int u_to, .int u_so, .long u_wo, .int u_fa, .int u_bd, .int u_nc, .ref b_nl, .int u_co, .ref b_op, .ref b_ar, .int u_le, .ref b_pi, .ref b_pa, .int u_pd, .int u_od, .ref b_ws, .ref b_hw, .int u_la, .ref b_se, .ref b_re, .int u_bk, .long u_va, .long u_su, .int u_ce, .int u_ho, .int u_wy, .int u_bt, .int u_ps, .ref b_pt, .int u_tg, .int u_sn, .ref b_ip, .int z26, .ref b_ah, .ref b_be, .ref b_me, .int u_wd, .ref b_tr, .ref b_ld, .long u_st, .ref b_wn, .int u_id])), (b_rf, .inl (G.2 0, 7, .inl z27)), (b_ro, .inl (G.2 0, 5740, .inl (upd (upd (upd (upd v_ro (270 + (3 * (v_ro 7))).toNatClampNeg p_1) ((270 + (3 * (v_ro 7))) + 1).toNatClampNeg p_2) ((270 + (3 * (v_ro 7))) + 2).toNatClampNeg p_3) 7 ((v_ro 7) + 1))))], rfl, ⟨(v_ro 7), 0, z25, z26, z27, (upd (upd (upd (upd v_ro (270 + (3 * (v_ro 7))).toNatClampNeg p_1) ((270 + (3 * (v_ro 7))) + 1).toNatClampNeg p_2) ((270 + (3 * (v_ro 7))) + 2).toNatClampNeg p_3) 7 ((v_ro 7) + 1)), mi_upd (mi_upd (mi_upd (mi_upd r_ro (by have zz := g5_clamp (270 + (3 * (v_ro 7))); unfold rOK; refine ⟨?_, ?_, ?_, ?_, ?_, ?_, ?_, ?_, ?_, ?_, ?_, ?_, ?_, ?_, ?_, ?_, ?_, ?_, ?_, ?_, ?_, ?_, ?_⟩ <;> (intros; omega)) (by have zz := g5_clamp (270 + (3 * (v_ro 7))); omega) (by have zz := g5_clamp (270 + (3 * (v_ro 7))); omega) (by have zz := g5_clamp (270 + (3 * (v_ro 7))); omega) (by have zz := g5_clamp (270 + (3 * (v_ro 7))); omega) (by have zz := g5_clamp (270 + (3 * (v_ro 7))); omega)) (by have zz := g5_clamp ((270 + (3 * (v_ro 7))) + 1); unfold rOK; refine ⟨?_, ?_, ?_, ?_, ?_, ?_, ?_, ?_, ?_, ?_, ?_, ?_, ?_, ?_, ?_, ?_, ?_, ?_, ?_, ?_, ?_, ?_, ?_⟩ <;> (intros; omega)) (by have zz := g5_clamp ((270 + (3 * (v_ro 7))) + 1); omega) (by have zz := g5_clamp ((270 + (3 * (v_ro 7))) + 1); omega) (by have zz := g5_clamp ((270 + (3 * (v_ro 7))) + 1); omega) (by have zz := g5_clamp ((270 + (3 * (v_ro 7))) + 1); omega) (by have zz := g5_clamp ((270 + (3 * (v_ro 7))) + 1); omega)) (by have zz := g5_clamp ((270 + (3 * (v_ro 7))) + 2); unfold rOK; refine ⟨?_, ?_, ?_, ?_, ?_, ?_, ?_, ?_, ?_, ?_, ?_, ?_, ?_, ?_, ?_, ?_, ?_, ?_, ?_, ?_, ?_, ?_, ?_⟩ <;> (intros; omega)) (by have zz := g5_clamp ((270 + (3 * (v_ro 7))) + 2); omega) (by have zz := g5_clamp ((270 + (3 * (v_ro 7))) + 2); omega) (by have zz := g5_clamp ((270 + (3 * (v_ro 7))) + 2); omega) (by have zz := g5_clamp ((270 + (3 * (v_ro 7))) + 2); omega) (by have zz := g5_clamp ((270 + (3 * (v_ro 7))) + 2); omega)) (by unfold rOK; refine ⟨?_, ?_, ?_, ?_, ?_, ?_, ?_, ?_, ?_, ?_, ?_, ?_, ?_, ?_, ?_, ?_, ?_, ?_, ?_, ?_, ?_, ?_, ?_⟩ <;> (intros; omega)) (by omega) (by omega) (by omega) (by omega) (by omega), ⟨by omega, by omega⟩, rfl, rfl⟩, by rw [ht]; exact hP.sub [1, 2, 0] rfl, hD.sub [1, 2, 0] (by decide) rfl⟩, hS.F ht⟩) hS.2.2 dX12_spot_135
                ·
                  have i_12 : (v_ro 7).toInt = 8 := by have z := g5_neN (a := (v_ro 7).toInt) (b := 8) (by rfl) (by decide) c_12; omega
                  refine lv_aload_n hx hb dX12_spot_65 rfl (lv_at hl 1 rfl) ?_
                  refine lv_bipush (v := (-5)) hx hb dX12_spot_66 (by decide) ?_
                  have hPc := hP.sub (ws' := [(b_o, .inr (12, [.int 0, .int u_sa, .ref b_rf, .ref b_ro, .ref b_im, .ref b_ke, .int u_fd, .ref b_tp, .int u_td, .int u_fr, .int u_to, .int u_so, .long u_wo, .int u_fa, .int u_bd, .int u_nc, .ref b_nl, .int u_co, .ref b_op, .ref b_ar, .int u_le, .ref b_pi, .ref b_pa, .int u_pd, .int u_od, .ref b_ws, .ref b_hw, .int u_la, .ref b_se, .ref b_re, .int u_bk, .long u_va, .long u_su, .int u_ce, .int u_ho, .int u_wy, .int u_bt, .int u_ps, .ref b_pt, .int u_tg, .int u_sn, .ref b_ip, .int u_ic, .ref b_ah, .ref b_be, .ref b_me, .int u_wd, .ref b_tr, .ref b_ld, .long u_st, .ref b_wn, .int u_id])), (b_rf, .inl (G.2 0, 7, .inl v_rf))]) [1, 0] rfl
                  have hDc := hD.sub (ws' := [(b_o, .inr (12, [.int 0, .int u_sa, .ref b_rf, .ref b_ro, .ref b_im, .ref b_ke, .int u_fd, .ref b_tp, .int u_td, .int u_fr, .int u_to, .int u_so, .long u_wo, .int u_fa, .int u_bd, .int u_nc, .ref b_nl, .int u_co, .ref b_op, .ref b_ar, .int u_le, .ref b_pi, .ref b_pa, .int u_pd, .int u_od, .ref b_ws, .ref b_hw, .int u_la, .ref b_se, .ref b_re, .int u_bk, .long u_va, .long u_su, .int u_ce, .int u_ho, .int u_wy, .int u_bt, .int u_ps, .ref b_pt, .int u_tg, .int u_sn, .ref b_ip, .int u_ic, .ref b_ah, .ref b_be, .ref b_me, .int u_wd, .ref b_tr, .ref b_ld, .long u_st, .ref b_wn, .int u_id])), (b_rf, .inl (G.2 0, 7, .inl v_rf))]) [1, 0] (by decide) rfl
                  have hFc := va_free (wc := [(b_o, .inr (12, [.int 0, .int u_sa, .ref b_rf, .ref b_ro, .ref b_im, .ref b_ke, .int u_fd, .ref b_tp, .int u_td, .int u_fr, .int u_to, .int u_so, .long u_wo, .int u_fa, .int u_bd, .int u_nc, .ref b_nl, .int u_co, .ref b_op, .ref b_ar, .int u_le, .ref b_pi, .ref b_pa, .int u_pd, .int u_od, .ref b_ws, .ref b_hw, .int u_la, .ref b_se, .ref b_re, .int u_bk, .long u_va, .long u_su, .int u_ce, .int u_ho, .int u_wy, .int u_bt, .int u_ps, .ref b_pt, .int u_tg, .int u_sn, .ref b_ip, .int u_ic, .ref b_ah, .ref b_be, .ref b_me, .int u_wd, .ref b_tr, .ref b_ld, .long u_st, .ref b_wn, .int u_id])), (b_rf, .inl (G.2 0, 7, .inl v_rf))]) hD hS hA [1, 0] rfl
                  refine va_calli (va_runV (As := [.int (-5)]) (rest := []) ⟨hx, hb, hml, hown, hts⟩ (n_tell5 l G b_o b_rf b_ro b_im b_ke b_tp b_nl b_op b_ar b_pi b_pa b_ws b_hw b_se b_re b_pt b_ip b_ah b_be b_me b_tr b_ld b_wn H.size 0 u_sa u_fd u_td u_fr u_to u_so u_fa u_bd u_nc u_co u_le u_pd u_od u_la u_bk u_ce u_ho u_wy u_bt u_ps u_tg u_sn u_ic u_wd u_id u_wo u_va u_su u_st v_rf ⟨by omega, by omega⟩ ⟨by omega, by omega⟩ ⟨by omega, by omega⟩ ⟨by omega, by omega⟩ ⟨by omega, by omega⟩ ⟨by omega, by omega⟩ ⟨by omega, by omega⟩ ⟨by omega, by omega⟩ ⟨by omega, by omega⟩ ⟨by omega, by omega⟩ ⟨by omega, by omega⟩ ⟨by omega, by omega⟩ ⟨by omega, by omega⟩ ⟨by omega, by omega⟩ ⟨by omega, by omega⟩ ⟨by omega, by omega⟩) (cwV 1 hts gV_X12_125 rfl rfl rfl hv_X12_tell ⟨Nat.le_of_ble_eq_true rfl, Nat.le_of_ble_eq_true rfl⟩) (g5_preV hPc hK hDc hN hT hS hFc (ci := 12) (q0 := 0) rfl rfl) rfl rfl hl.1 rfl (lv_room (Nat.le_of_ble_eq_true rfl)) dX12_spot_68 ⟨Nat.le_of_ble_eq_true rfl, Nat.le_of_ble_eq_true rfl⟩) hS (fun q _ h => hFc q h) hFc (fun r u t H1 locs ht hvm hw hB hz1 hk1 hS => ?_)
                  obtain ⟨hP1, hD1⟩ := hB
                  rw [ht] at hP1
                  obtain ⟨z29, z30, z31, i_28, rfl, rfl⟩ := hw
                  have i_28 : 0 ≤ z30.toInt ∧ z30.toInt ≤ 1 := i_28
                  obtain ⟨hP, hD⟩ := va_join (wr := [(b_ro, .inl (G.2 0, 5740, .inl v_ro))]) (w1 := [(b_o, .inr (12, [.int 0, .int z29, .ref b_rf, .ref b_ro, .ref b_im, .ref b_ke, .int u_fd, .ref b_tp, .int u_td, .int u_fr, .int u_to, .int u_so, .long u_wo, .int u_fa, .int u_bd, .int u_nc, .ref b_nl, .int u_co, .ref b_op, .ref b_ar, .int u_le, .ref b_pi, .ref b_pa, .int u_pd, .int u_od, .ref b_ws, .ref b_hw, .int u_la, .ref b_se, .ref b_re, .int u_bk, .long u_va, .long u_su, .int u_ce, .int u_ho, .int u_wy, .int u_bt, .int u_ps, .ref b_pt, .int u_tg, .int u_sn, .ref b_ip, .int z30, .ref b_ah, .ref b_be, .ref b_me, .int u_wd, .ref b_tr, .ref b_ld, .long u_st, .ref b_wn, .int u_id])), (b_rf, .inl (G.2 0, 7, .inl z31))]) hP hD [1, 0] [2] rfl rfl (by decide) (by decide) hk1 hFc hP1 hD1
                  generalize H1 = H at hP hS ⊢
                  have hP : va_P G.1 vwCl [(b_ro, .inl (G.2 0, 5740, .inl v_ro)), (b_o, .inr (12, [.int 0, .int z29, .ref b_rf, .ref b_ro, .ref b_im, .ref b_ke, .int u_fd, .ref b_tp, .int u_td, .int u_fr, .int u_to, .int u_so, .long u_wo, .int u_fa, .int u_bd, .int u_nc, .ref b_nl, .int u_co, .ref b_op, .ref b_ar, .int u_le, .ref b_pi, .ref b_pa, .int u_pd, .int u_od, .ref b_ws, .ref b_hw, .int u_la, .ref b_se, .ref b_re, .int u_bk, .long u_va, .long u_su, .int u_ce, .int u_ho, .int u_wy, .int u_bt, .int u_ps, .ref b_pt, .int u_tg, .int u_sn, .ref b_ip, .int z30, .ref b_ah, .ref b_be, .ref b_me, .int u_wd, .ref b_tr, .ref b_ld, .long u_st, .ref b_wn, .int u_id])), (b_rf, .inl (G.2 0, 7, .inl z31))] H := hP
                  have hD : va_D A [(b_ro, .inl (G.2 0, 5740, .inl v_ro)), (b_o, .inr (12, [.int 0, .int z29, .ref b_rf, .ref b_ro, .ref b_im, .ref b_ke, .int u_fd, .ref b_tp, .int u_td, .int u_fr, .int u_to, .int u_so, .long u_wo, .int u_fa, .int u_bd, .int u_nc, .ref b_nl, .int u_co, .ref b_op, .ref b_ar, .int u_le, .ref b_pi, .ref b_pa, .int u_pd, .int u_od, .ref b_ws, .ref b_hw, .int u_la, .ref b_se, .ref b_re, .int u_bk, .long u_va, .long u_su, .int u_ce, .int u_ho, .int u_wy, .int u_bt, .int u_ps, .ref b_pt, .int u_tg, .int u_sn, .ref b_ip, .int z30, .ref b_ah, .ref b_be, .ref b_me, .int u_wd, .ref b_tr, .ref b_ld, .long u_st, .ref b_wn, .int u_id])), (b_rf, .inl (G.2 0, 7, .inl z31))] := hD
                  exact W.iret (v := (-5)) hx hb hr (fun t ht hW => ⟨⟨(-5), [(b_o, .inr (12, [.int 0, .int z29, .ref b_rf, .ref b_ro, .ref b_im, .ref b_ke, .int u_fd, .ref b_tp, .int u_td, .int u_fr, .int u_to, .int u_so, .long u_wo, .int u_fa, .int u_bd, .int u_nc, .ref b_nl, .int u_co, .ref b_op, .ref b_ar, .int u_le, .ref b_pi, .ref b_pa, .int u_pd, .int u_od, .ref b_ws, .ref b_hw, .int u_la, .ref b_se, .ref b_re, .int u_bk, .long u_va, .long u_su, .int u_ce, .int u_ho, .int u_wy, .int u_bt, .int u_ps, .ref b_pt, .int u_tg, .int u_sn, .ref b_ip, .int z30, .ref b_ah, .ref b_be, .ref b_me, .int u_wd, .ref b_tr, .ref b_ld, .long u_st, .ref b_wn, .int u_id])), (b_rf, .inl (G.2 0, 7, .inl z31)), (b_ro, .inl (G.2 0, 5740, .inl v_ro))], rfl, ⟨(-5), 0, z29, z30, z31, v_ro, r_ro, ⟨by omega, by omega⟩, rfl, rfl⟩, by rw [ht]; exact hP.sub [1, 2, 0] rfl, hD.sub [1, 2, 0] (by decide) rfl⟩, hS.F ht⟩) hS.2.2 dX12_spot_71
              ·
                have i_10 : z8.toInt = 0 := by have z := g5_neN (a := z8.toInt) (b := 0) (by rfl) (by decide) c_10; omega
                refine lv_aload_n hx hb dX12_spot_42 rfl (lv_at hl 0 rfl) ?_
                refine lv_bipush (v := (-3)) hx hb dX12_spot_43 (by decide) ?_
                have hPc := hP.sub (ws' := [(b_o, .inr (12, [.int 0, .int u_sa, .ref b_rf, .ref b_ro, .ref b_im, .ref b_ke, .int u_fd, .ref b_tp, .int u_td, .int u_fr, .int u_to, .int u_so, .long u_wo, .int u_fa, .int u_bd, .int u_nc, .ref b_nl, .int u_co, .ref b_op, .ref b_ar, .int u_le, .ref b_pi, .ref b_pa, .int u_pd, .int u_od, .ref b_ws, .ref b_hw, .int u_la, .ref b_se, .ref b_re, .int u_bk, .long u_va, .long u_su, .int u_ce, .int u_ho, .int u_wy, .int u_bt, .int u_ps, .ref b_pt, .int u_tg, .int u_sn, .ref b_ip, .int u_ic, .ref b_ah, .ref b_be, .ref b_me, .int u_wd, .ref b_tr, .ref b_ld, .long u_st, .ref b_wn, .int u_id])), (b_rf, .inl (G.2 0, 7, .inl v_rf))]) [1, 0] rfl
                have hDc := hD.sub (ws' := [(b_o, .inr (12, [.int 0, .int u_sa, .ref b_rf, .ref b_ro, .ref b_im, .ref b_ke, .int u_fd, .ref b_tp, .int u_td, .int u_fr, .int u_to, .int u_so, .long u_wo, .int u_fa, .int u_bd, .int u_nc, .ref b_nl, .int u_co, .ref b_op, .ref b_ar, .int u_le, .ref b_pi, .ref b_pa, .int u_pd, .int u_od, .ref b_ws, .ref b_hw, .int u_la, .ref b_se, .ref b_re, .int u_bk, .long u_va, .long u_su, .int u_ce, .int u_ho, .int u_wy, .int u_bt, .int u_ps, .ref b_pt, .int u_tg, .int u_sn, .ref b_ip, .int u_ic, .ref b_ah, .ref b_be, .ref b_me, .int u_wd, .ref b_tr, .ref b_ld, .long u_st, .ref b_wn, .int u_id])), (b_rf, .inl (G.2 0, 7, .inl v_rf))]) [1, 0] (by decide) rfl
                have hFc := va_free (wc := [(b_o, .inr (12, [.int 0, .int u_sa, .ref b_rf, .ref b_ro, .ref b_im, .ref b_ke, .int u_fd, .ref b_tp, .int u_td, .int u_fr, .int u_to, .int u_so, .long u_wo, .int u_fa, .int u_bd, .int u_nc, .ref b_nl, .int u_co, .ref b_op, .ref b_ar, .int u_le, .ref b_pi, .ref b_pa, .int u_pd, .int u_od, .ref b_ws, .ref b_hw, .int u_la, .ref b_se, .ref b_re, .int u_bk, .long u_va, .long u_su, .int u_ce, .int u_ho, .int u_wy, .int u_bt, .int u_ps, .ref b_pt, .int u_tg, .int u_sn, .ref b_ip, .int u_ic, .ref b_ah, .ref b_be, .ref b_me, .int u_wd, .ref b_tr, .ref b_ld, .long u_st, .ref b_wn, .int u_id])), (b_rf, .inl (G.2 0, 7, .inl v_rf))]) hD hS hA [1, 0] rfl
                refine va_calli (va_runV (As := [.int (-3)]) (rest := []) ⟨hx, hb, hml, hown, hts⟩ (n_tell3 l G b_o b_rf b_ro b_im b_ke b_tp b_nl b_op b_ar b_pi b_pa b_ws b_hw b_se b_re b_pt b_ip b_ah b_be b_me b_tr b_ld b_wn H.size 0 u_sa u_fd u_td u_fr u_to u_so u_fa u_bd u_nc u_co u_le u_pd u_od u_la u_bk u_ce u_ho u_wy u_bt u_ps u_tg u_sn u_ic u_wd u_id u_wo u_va u_su u_st v_rf ⟨by omega, by omega⟩ ⟨by omega, by omega⟩ ⟨by omega, by omega⟩ ⟨by omega, by omega⟩ ⟨by omega, by omega⟩ ⟨by omega, by omega⟩ ⟨by omega, by omega⟩ ⟨by omega, by omega⟩ ⟨by omega, by omega⟩ ⟨by omega, by omega⟩ ⟨by omega, by omega⟩ ⟨by omega, by omega⟩ ⟨by omega, by omega⟩ ⟨by omega, by omega⟩ ⟨by omega, by omega⟩ ⟨by omega, by omega⟩) (cwV 1 hts gV_X12_125 rfl rfl rfl hv_X12_tell ⟨Nat.le_of_ble_eq_true rfl, Nat.le_of_ble_eq_true rfl⟩) (g5_preV hPc hK hDc hN hT hS hFc (ci := 12) (q0 := 0) rfl rfl) rfl rfl hl.1 rfl (lv_room (Nat.le_of_ble_eq_true rfl)) dX12_spot_45 ⟨Nat.le_of_ble_eq_true rfl, Nat.le_of_ble_eq_true rfl⟩) hS (fun q _ h => hFc q h) hFc (fun r u t H1 locs ht hvm hw hB hz1 hk1 hS => ?_)
                obtain ⟨hP1, hD1⟩ := hB
                rw [ht] at hP1
                obtain ⟨z33, z34, z35, i_32, rfl, rfl⟩ := hw
                have i_32 : 0 ≤ z34.toInt ∧ z34.toInt ≤ 1 := i_32
                obtain ⟨hP, hD⟩ := va_join (wr := [(b_ro, .inl (G.2 0, 5740, .inl v_ro))]) (w1 := [(b_o, .inr (12, [.int 0, .int z33, .ref b_rf, .ref b_ro, .ref b_im, .ref b_ke, .int u_fd, .ref b_tp, .int u_td, .int u_fr, .int u_to, .int u_so, .long u_wo, .int u_fa, .int u_bd, .int u_nc, .ref b_nl, .int u_co, .ref b_op, .ref b_ar, .int u_le, .ref b_pi, .ref b_pa, .int u_pd, .int u_od, .ref b_ws, .ref b_hw, .int u_la, .ref b_se, .ref b_re, .int u_bk, .long u_va, .long u_su, .int u_ce, .int u_ho, .int u_wy, .int u_bt, .int u_ps, .ref b_pt, .int u_tg, .int u_sn, .ref b_ip, .int z34, .ref b_ah, .ref b_be, .ref b_me, .int u_wd, .ref b_tr, .ref b_ld, .long u_st, .ref b_wn, .int u_id])), (b_rf, .inl (G.2 0, 7, .inl z35))]) hP hD [1, 0] [2] rfl rfl (by decide) (by decide) hk1 hFc hP1 hD1
                generalize H1 = H at hP hS ⊢
                have hP : va_P G.1 vwCl [(b_ro, .inl (G.2 0, 5740, .inl v_ro)), (b_o, .inr (12, [.int 0, .int z33, .ref b_rf, .ref b_ro, .ref b_im, .ref b_ke, .int u_fd, .ref b_tp, .int u_td, .int u_fr, .int u_to, .int u_so, .long u_wo, .int u_fa, .int u_bd, .int u_nc, .ref b_nl, .int u_co, .ref b_op, .ref b_ar, .int u_le, .ref b_pi, .ref b_pa, .int u_pd, .int u_od, .ref b_ws, .ref b_hw, .int u_la, .ref b_se, .ref b_re, .int u_bk, .long u_va, .long u_su, .int u_ce, .int u_ho, .int u_wy, .int u_bt, .int u_ps, .ref b_pt, .int u_tg, .int u_sn, .ref b_ip, .int z34, .ref b_ah, .ref b_be, .ref b_me, .int u_wd, .ref b_tr, .ref b_ld, .long u_st, .ref b_wn, .int u_id])), (b_rf, .inl (G.2 0, 7, .inl z35))] H := hP
                have hD : va_D A [(b_ro, .inl (G.2 0, 5740, .inl v_ro)), (b_o, .inr (12, [.int 0, .int z33, .ref b_rf, .ref b_ro, .ref b_im, .ref b_ke, .int u_fd, .ref b_tp, .int u_td, .int u_fr, .int u_to, .int u_so, .long u_wo, .int u_fa, .int u_bd, .int u_nc, .ref b_nl, .int u_co, .ref b_op, .ref b_ar, .int u_le, .ref b_pi, .ref b_pa, .int u_pd, .int u_od, .ref b_ws, .ref b_hw, .int u_la, .ref b_se, .ref b_re, .int u_bk, .long u_va, .long u_su, .int u_ce, .int u_ho, .int u_wy, .int u_bt, .int u_ps, .ref b_pt, .int u_tg, .int u_sn, .ref b_ip, .int z34, .ref b_ah, .ref b_be, .ref b_me, .int u_wd, .ref b_tr, .ref b_ld, .long u_st, .ref b_wn, .int u_id])), (b_rf, .inl (G.2 0, 7, .inl z35))] := hD
                exact W.iret (v := (-3)) hx hb hr (fun t ht hW => ⟨⟨(-3), [(b_o, .inr (12, [.int 0, .int z33, .ref b_rf, .ref b_ro, .ref b_im, .ref b_ke, .int u_fd, .ref b_tp, .int u_td, .int u_fr, .int u_to, .int u_so, .long u_wo, .int u_fa, .int u_bd, .int u_nc, .ref b_nl, .int u_co, .ref b_op, .ref b_ar, .int u_le, .ref b_pi, .ref b_pa, .int u_pd, .int u_od, .ref b_ws, .ref b_hw, .int u_la, .ref b_se, .ref b_re, .int u_bk, .long u_va, .long u_su, .int u_ce, .int u_ho, .int u_wy, .int u_bt, .int u_ps, .ref b_pt, .int u_tg, .int u_sn, .ref b_ip, .int z34, .ref b_ah, .ref b_be, .ref b_me, .int u_wd, .ref b_tr, .ref b_ld, .long u_st, .ref b_wn, .int u_id])), (b_rf, .inl (G.2 0, 7, .inl z35)), (b_ro, .inl (G.2 0, 5740, .inl v_ro))], rfl, ⟨(-3), 0, z33, z34, z35, v_ro, r_ro, ⟨by omega, by omega⟩, rfl, rfl⟩, by rw [ht]; exact hP.sub [1, 2, 0] rfl, hD.sub [1, 2, 0] (by decide) rfl⟩, hS.F ht⟩) hS.2.2 dX12_spot_48
            ·
              exact absurd c_6 (by decide)
          ·
            have hP := g5_same hP hk1
            generalize H1 = H at hP hS ⊢
            refine lv_if_ne (tgt := 34) hx hb dX12_spot_25 (by decide) (fun c_36 => ?_) (fun c_36 => ?_)
            ·
              exact absurd c_36 (by decide)
            ·
              refine lv_aload_n hx hb dX12_spot_28 rfl (lv_at hl 0 rfl) ?_
              refine lv_iconst (v := (-1)) hx hb dX12_spot_29 (by decide) ?_
              have hPc := hP.sub (ws' := [(b_o, .inr (12, [.int 0, .int u_sa, .ref b_rf, .ref b_ro, .ref b_im, .ref b_ke, .int u_fd, .ref b_tp, .int u_td, .int u_fr, .int u_to, .int u_so, .long u_wo, .int u_fa, .int u_bd, .int u_nc, .ref b_nl, .int u_co, .ref b_op, .ref b_ar, .int u_le, .ref b_pi, .ref b_pa, .int u_pd, .int u_od, .ref b_ws, .ref b_hw, .int u_la, .ref b_se, .ref b_re, .int u_bk, .long u_va, .long u_su, .int u_ce, .int u_ho, .int u_wy, .int u_bt, .int u_ps, .ref b_pt, .int u_tg, .int u_sn, .ref b_ip, .int u_ic, .ref b_ah, .ref b_be, .ref b_me, .int u_wd, .ref b_tr, .ref b_ld, .long u_st, .ref b_wn, .int u_id])), (b_rf, .inl (G.2 0, 7, .inl v_rf))]) [0, 1] rfl
              have hDc := hD.sub (ws' := [(b_o, .inr (12, [.int 0, .int u_sa, .ref b_rf, .ref b_ro, .ref b_im, .ref b_ke, .int u_fd, .ref b_tp, .int u_td, .int u_fr, .int u_to, .int u_so, .long u_wo, .int u_fa, .int u_bd, .int u_nc, .ref b_nl, .int u_co, .ref b_op, .ref b_ar, .int u_le, .ref b_pi, .ref b_pa, .int u_pd, .int u_od, .ref b_ws, .ref b_hw, .int u_la, .ref b_se, .ref b_re, .int u_bk, .long u_va, .long u_su, .int u_ce, .int u_ho, .int u_wy, .int u_bt, .int u_ps, .ref b_pt, .int u_tg, .int u_sn, .ref b_ip, .int u_ic, .ref b_ah, .ref b_be, .ref b_me, .int u_wd, .ref b_tr, .ref b_ld, .long u_st, .ref b_wn, .int u_id])), (b_rf, .inl (G.2 0, 7, .inl v_rf))]) [0, 1] (by decide) rfl
              have hFc := va_free (wc := [(b_o, .inr (12, [.int 0, .int u_sa, .ref b_rf, .ref b_ro, .ref b_im, .ref b_ke, .int u_fd, .ref b_tp, .int u_td, .int u_fr, .int u_to, .int u_so, .long u_wo, .int u_fa, .int u_bd, .int u_nc, .ref b_nl, .int u_co, .ref b_op, .ref b_ar, .int u_le, .ref b_pi, .ref b_pa, .int u_pd, .int u_od, .ref b_ws, .ref b_hw, .int u_la, .ref b_se, .ref b_re, .int u_bk, .long u_va, .long u_su, .int u_ce, .int u_ho, .int u_wy, .int u_bt, .int u_ps, .ref b_pt, .int u_tg, .int u_sn, .ref b_ip, .int u_ic, .ref b_ah, .ref b_be, .ref b_me, .int u_wd, .ref b_tr, .ref b_ld, .long u_st, .ref b_wn, .int u_id])), (b_rf, .inl (G.2 0, 7, .inl v_rf))]) hD hS hA [0, 1] rfl
              refine va_calli (va_runV (As := [.int (-1)]) (rest := []) ⟨hx, hb, hml, hown, hts⟩ (n_tell1 l G b_o b_rf b_ro b_im b_ke b_tp b_nl b_op b_ar b_pi b_pa b_ws b_hw b_se b_re b_pt b_ip b_ah b_be b_me b_tr b_ld b_wn H.size 0 u_sa u_fd u_td u_fr u_to u_so u_fa u_bd u_nc u_co u_le u_pd u_od u_la u_bk u_ce u_ho u_wy u_bt u_ps u_tg u_sn u_ic u_wd u_id u_wo u_va u_su u_st v_rf ⟨by omega, by omega⟩ ⟨by omega, by omega⟩ ⟨by omega, by omega⟩ ⟨by omega, by omega⟩ ⟨by omega, by omega⟩ ⟨by omega, by omega⟩ ⟨by omega, by omega⟩ ⟨by omega, by omega⟩ ⟨by omega, by omega⟩ ⟨by omega, by omega⟩ ⟨by omega, by omega⟩ ⟨by omega, by omega⟩ ⟨by omega, by omega⟩ ⟨by omega, by omega⟩ ⟨by omega, by omega⟩ ⟨by omega, by omega⟩) (cwV 1 hts gV_X12_125 rfl rfl rfl hv_X12_tell ⟨Nat.le_of_ble_eq_true rfl, Nat.le_of_ble_eq_true rfl⟩) (g5_preV hPc hK hDc hN hT hS hFc (ci := 12) (q0 := 0) rfl rfl) rfl rfl hl.1 rfl (lv_room (Nat.le_of_ble_eq_true rfl)) dX12_spot_30 ⟨Nat.le_of_ble_eq_true rfl, Nat.le_of_ble_eq_true rfl⟩) hS (fun q _ h => hFc q h) hFc (fun r u t H1 locs ht hvm hw hB hz1 hk1 hS => ?_)
              obtain ⟨hP1, hD1⟩ := hB
              rw [ht] at hP1
              obtain ⟨z38, z39, z40, i_37, rfl, rfl⟩ := hw
              have i_37 : 0 ≤ z39.toInt ∧ z39.toInt ≤ 1 := i_37
              obtain ⟨hP, hD⟩ := va_join (wr := [(b_ro, .inl (G.2 0, 5740, .inl v_ro))]) (w1 := [(b_o, .inr (12, [.int 0, .int z38, .ref b_rf, .ref b_ro, .ref b_im, .ref b_ke, .int u_fd, .ref b_tp, .int u_td, .int u_fr, .int u_to, .int u_so, .long u_wo, .int u_fa, .int u_bd, .int u_nc, .ref b_nl, .int u_co, .ref b_op, .ref b_ar, .int u_le, .ref b_pi, .ref b_pa, .int u_pd, .int u_od, .ref b_ws, .ref b_hw, .int u_la, .ref b_se, .ref b_re, .int u_bk, .long u_va, .long u_su, .int u_ce, .int u_ho, .int u_wy, .int u_bt, .int u_ps, .ref b_pt, .int u_tg, .int u_sn, .ref b_ip, .int z39, .ref b_ah, .ref b_be, .ref b_me, .int u_wd, .ref b_tr, .ref b_ld, .long u_st, .ref b_wn, .int u_id])), (b_rf, .inl (G.2 0, 7, .inl z40))]) hP hD [0, 1] [2] rfl rfl (by decide) (by decide) hk1 hFc hP1 hD1
              generalize H1 = H at hP hS ⊢
              have hP : va_P G.1 vwCl [(b_ro, .inl (G.2 0, 5740, .inl v_ro)), (b_o, .inr (12, [.int 0, .int z38, .ref b_rf, .ref b_ro, .ref b_im, .ref b_ke, .int u_fd, .ref b_tp, .int u_td, .int u_fr, .int u_to, .int u_so, .long u_wo, .int u_fa, .int u_bd, .int u_nc, .ref b_nl, .int u_co, .ref b_op, .ref b_ar, .int u_le, .ref b_pi, .ref b_pa, .int u_pd, .int u_od, .ref b_ws, .ref b_hw, .int u_la, .ref b_se, .ref b_re, .int u_bk, .long u_va, .long u_su, .int u_ce, .int u_ho, .int u_wy, .int u_bt, .int u_ps, .ref b_pt, .int u_tg, .int u_sn, .ref b_ip, .int z39, .ref b_ah, .ref b_be, .ref b_me, .int u_wd, .ref b_tr, .ref b_ld, .long u_st, .ref b_wn, .int u_id])), (b_rf, .inl (G.2 0, 7, .inl z40))] H := hP
              have hD : va_D A [(b_ro, .inl (G.2 0, 5740, .inl v_ro)), (b_o, .inr (12, [.int 0, .int z38, .ref b_rf, .ref b_ro, .ref b_im, .ref b_ke, .int u_fd, .ref b_tp, .int u_td, .int u_fr, .int u_to, .int u_so, .long u_wo, .int u_fa, .int u_bd, .int u_nc, .ref b_nl, .int u_co, .ref b_op, .ref b_ar, .int u_le, .ref b_pi, .ref b_pa, .int u_pd, .int u_od, .ref b_ws, .ref b_hw, .int u_la, .ref b_se, .ref b_re, .int u_bk, .long u_va, .long u_su, .int u_ce, .int u_ho, .int u_wy, .int u_bt, .int u_ps, .ref b_pt, .int u_tg, .int u_sn, .ref b_ip, .int z39, .ref b_ah, .ref b_be, .ref b_me, .int u_wd, .ref b_tr, .ref b_ld, .long u_st, .ref b_wn, .int u_id])), (b_rf, .inl (G.2 0, 7, .inl z40))] := hD
              exact W.iret (v := (-1)) hx hb hr (fun t ht hW => ⟨⟨(-1), [(b_o, .inr (12, [.int 0, .int z38, .ref b_rf, .ref b_ro, .ref b_im, .ref b_ke, .int u_fd, .ref b_tp, .int u_td, .int u_fr, .int u_to, .int u_so, .long u_wo, .int u_fa, .int u_bd, .int u_nc, .ref b_nl, .int u_co, .ref b_op, .ref b_ar, .int u_le, .ref b_pi, .ref b_pa, .int u_pd, .int u_od, .ref b_ws, .ref b_hw, .int u_la, .ref b_se, .ref b_re, .int u_bk, .long u_va, .long u_su, .int u_ce, .int u_ho, .int u_wy, .int u_bt, .int u_ps, .ref b_pt, .int u_tg, .int u_sn, .ref b_ip, .int z39, .ref b_ah, .ref b_be, .ref b_me, .int u_wd, .ref b_tr, .ref b_ld, .long u_st, .ref b_wn, .int u_id])), (b_rf, .inl (G.2 0, 7, .inl z40)), (b_ro, .inl (G.2 0, 5740, .inl v_ro))], rfl, ⟨(-1), 0, z38, z39, z40, v_ro, r_ro, ⟨by omega, by omega⟩, rfl, rfl⟩, by rw [ht]; exact hP.sub [1, 2, 0] rfl, hD.sub [1, 2, 0] (by decide) rfl⟩, hS.F ht⟩) hS.2.2 dX12_spot_33
      ·
        have hP := g5_same hP hk1
        generalize H1 = H at hP hS ⊢
        refine lv_if_eq (tgt := 28) hx hb dX12_spot_17 (by decide) (fun c_41 => ?_) (fun c_41 => ?_)
        ·
          refine lv_aload_n hx hb dX12_spot_28 rfl (lv_at hl 0 rfl) ?_
          refine lv_iconst (v := (-1)) hx hb dX12_spot_29 (by decide) ?_
          have hPc := hP.sub (ws' := [(b_o, .inr (12, [.int 0, .int u_sa, .ref b_rf, .ref b_ro, .ref b_im, .ref b_ke, .int u_fd, .ref b_tp, .int u_td, .int u_fr, .int u_to, .int u_so, .long u_wo, .int u_fa, .int u_bd, .int u_nc, .ref b_nl, .int u_co, .ref b_op, .ref b_ar, .int u_le, .ref b_pi, .ref b_pa, .int u_pd, .int u_od, .ref b_ws, .ref b_hw, .int u_la, .ref b_se, .ref b_re, .int u_bk, .long u_va, .long u_su, .int u_ce, .int u_ho, .int u_wy, .int u_bt, .int u_ps, .ref b_pt, .int u_tg, .int u_sn, .ref b_ip, .int u_ic, .ref b_ah, .ref b_be, .ref b_me, .int u_wd, .ref b_tr, .ref b_ld, .long u_st, .ref b_wn, .int u_id])), (b_rf, .inl (G.2 0, 7, .inl v_rf))]) [0, 1] rfl
          have hDc := hD.sub (ws' := [(b_o, .inr (12, [.int 0, .int u_sa, .ref b_rf, .ref b_ro, .ref b_im, .ref b_ke, .int u_fd, .ref b_tp, .int u_td, .int u_fr, .int u_to, .int u_so, .long u_wo, .int u_fa, .int u_bd, .int u_nc, .ref b_nl, .int u_co, .ref b_op, .ref b_ar, .int u_le, .ref b_pi, .ref b_pa, .int u_pd, .int u_od, .ref b_ws, .ref b_hw, .int u_la, .ref b_se, .ref b_re, .int u_bk, .long u_va, .long u_su, .int u_ce, .int u_ho, .int u_wy, .int u_bt, .int u_ps, .ref b_pt, .int u_tg, .int u_sn, .ref b_ip, .int u_ic, .ref b_ah, .ref b_be, .ref b_me, .int u_wd, .ref b_tr, .ref b_ld, .long u_st, .ref b_wn, .int u_id])), (b_rf, .inl (G.2 0, 7, .inl v_rf))]) [0, 1] (by decide) rfl
          have hFc := va_free (wc := [(b_o, .inr (12, [.int 0, .int u_sa, .ref b_rf, .ref b_ro, .ref b_im, .ref b_ke, .int u_fd, .ref b_tp, .int u_td, .int u_fr, .int u_to, .int u_so, .long u_wo, .int u_fa, .int u_bd, .int u_nc, .ref b_nl, .int u_co, .ref b_op, .ref b_ar, .int u_le, .ref b_pi, .ref b_pa, .int u_pd, .int u_od, .ref b_ws, .ref b_hw, .int u_la, .ref b_se, .ref b_re, .int u_bk, .long u_va, .long u_su, .int u_ce, .int u_ho, .int u_wy, .int u_bt, .int u_ps, .ref b_pt, .int u_tg, .int u_sn, .ref b_ip, .int u_ic, .ref b_ah, .ref b_be, .ref b_me, .int u_wd, .ref b_tr, .ref b_ld, .long u_st, .ref b_wn, .int u_id])), (b_rf, .inl (G.2 0, 7, .inl v_rf))]) hD hS hA [0, 1] rfl
          refine va_calli (va_runV (As := [.int (-1)]) (rest := []) ⟨hx, hb, hml, hown, hts⟩ (n_tell1 l G b_o b_rf b_ro b_im b_ke b_tp b_nl b_op b_ar b_pi b_pa b_ws b_hw b_se b_re b_pt b_ip b_ah b_be b_me b_tr b_ld b_wn H.size 0 u_sa u_fd u_td u_fr u_to u_so u_fa u_bd u_nc u_co u_le u_pd u_od u_la u_bk u_ce u_ho u_wy u_bt u_ps u_tg u_sn u_ic u_wd u_id u_wo u_va u_su u_st v_rf ⟨by omega, by omega⟩ ⟨by omega, by omega⟩ ⟨by omega, by omega⟩ ⟨by omega, by omega⟩ ⟨by omega, by omega⟩ ⟨by omega, by omega⟩ ⟨by omega, by omega⟩ ⟨by omega, by omega⟩ ⟨by omega, by omega⟩ ⟨by omega, by omega⟩ ⟨by omega, by omega⟩ ⟨by omega, by omega⟩ ⟨by omega, by omega⟩ ⟨by omega, by omega⟩ ⟨by omega, by omega⟩ ⟨by omega, by omega⟩) (cwV 1 hts gV_X12_125 rfl rfl rfl hv_X12_tell ⟨Nat.le_of_ble_eq_true rfl, Nat.le_of_ble_eq_true rfl⟩) (g5_preV hPc hK hDc hN hT hS hFc (ci := 12) (q0 := 0) rfl rfl) rfl rfl hl.1 rfl (lv_room (Nat.le_of_ble_eq_true rfl)) dX12_spot_30 ⟨Nat.le_of_ble_eq_true rfl, Nat.le_of_ble_eq_true rfl⟩) hS (fun q _ h => hFc q h) hFc (fun r u t H1 locs ht hvm hw hB hz1 hk1 hS => ?_)
          obtain ⟨hP1, hD1⟩ := hB
          rw [ht] at hP1
          obtain ⟨z43, z44, z45, i_42, rfl, rfl⟩ := hw
          have i_42 : 0 ≤ z44.toInt ∧ z44.toInt ≤ 1 := i_42
          obtain ⟨hP, hD⟩ := va_join (wr := [(b_ro, .inl (G.2 0, 5740, .inl v_ro))]) (w1 := [(b_o, .inr (12, [.int 0, .int z43, .ref b_rf, .ref b_ro, .ref b_im, .ref b_ke, .int u_fd, .ref b_tp, .int u_td, .int u_fr, .int u_to, .int u_so, .long u_wo, .int u_fa, .int u_bd, .int u_nc, .ref b_nl, .int u_co, .ref b_op, .ref b_ar, .int u_le, .ref b_pi, .ref b_pa, .int u_pd, .int u_od, .ref b_ws, .ref b_hw, .int u_la, .ref b_se, .ref b_re, .int u_bk, .long u_va, .long u_su, .int u_ce, .int u_ho, .int u_wy, .int u_bt, .int u_ps, .ref b_pt, .int u_tg, .int u_sn, .ref b_ip, .int z44, .ref b_ah, .ref b_be, .ref b_me, .int u_wd, .ref b_tr, .ref b_ld, .long u_st, .ref b_wn, .int u_id])), (b_rf, .inl (G.2 0, 7, .inl z45))]) hP hD [0, 1] [2] rfl rfl (by decide) (by decide) hk1 hFc hP1 hD1
          generalize H1 = H at hP hS ⊢
          have hP : va_P G.1 vwCl [(b_ro, .inl (G.2 0, 5740, .inl v_ro)), (b_o, .inr (12, [.int 0, .int z43, .ref b_rf, .ref b_ro, .ref b_im, .ref b_ke, .int u_fd, .ref b_tp, .int u_td, .int u_fr, .int u_to, .int u_so, .long u_wo, .int u_fa, .int u_bd, .int u_nc, .ref b_nl, .int u_co, .ref b_op, .ref b_ar, .int u_le, .ref b_pi, .ref b_pa, .int u_pd, .int u_od, .ref b_ws, .ref b_hw, .int u_la, .ref b_se, .ref b_re, .int u_bk, .long u_va, .long u_su, .int u_ce, .int u_ho, .int u_wy, .int u_bt, .int u_ps, .ref b_pt, .int u_tg, .int u_sn, .ref b_ip, .int z44, .ref b_ah, .ref b_be, .ref b_me, .int u_wd, .ref b_tr, .ref b_ld, .long u_st, .ref b_wn, .int u_id])), (b_rf, .inl (G.2 0, 7, .inl z45))] H := hP
          have hD : va_D A [(b_ro, .inl (G.2 0, 5740, .inl v_ro)), (b_o, .inr (12, [.int 0, .int z43, .ref b_rf, .ref b_ro, .ref b_im, .ref b_ke, .int u_fd, .ref b_tp, .int u_td, .int u_fr, .int u_to, .int u_so, .long u_wo, .int u_fa, .int u_bd, .int u_nc, .ref b_nl, .int u_co, .ref b_op, .ref b_ar, .int u_le, .ref b_pi, .ref b_pa, .int u_pd, .int u_od, .ref b_ws, .ref b_hw, .int u_la, .ref b_se, .ref b_re, .int u_bk, .long u_va, .long u_su, .int u_ce, .int u_ho, .int u_wy, .int u_bt, .int u_ps, .ref b_pt, .int u_tg, .int u_sn, .ref b_ip, .int z44, .ref b_ah, .ref b_be, .ref b_me, .int u_wd, .ref b_tr, .ref b_ld, .long u_st, .ref b_wn, .int u_id])), (b_rf, .inl (G.2 0, 7, .inl z45))] := hD
          exact W.iret (v := (-1)) hx hb hr (fun t ht hW => ⟨⟨(-1), [(b_o, .inr (12, [.int 0, .int z43, .ref b_rf, .ref b_ro, .ref b_im, .ref b_ke, .int u_fd, .ref b_tp, .int u_td, .int u_fr, .int u_to, .int u_so, .long u_wo, .int u_fa, .int u_bd, .int u_nc, .ref b_nl, .int u_co, .ref b_op, .ref b_ar, .int u_le, .ref b_pi, .ref b_pa, .int u_pd, .int u_od, .ref b_ws, .ref b_hw, .int u_la, .ref b_se, .ref b_re, .int u_bk, .long u_va, .long u_su, .int u_ce, .int u_ho, .int u_wy, .int u_bt, .int u_ps, .ref b_pt, .int u_tg, .int u_sn, .ref b_ip, .int z44, .ref b_ah, .ref b_be, .ref b_me, .int u_wd, .ref b_tr, .ref b_ld, .long u_st, .ref b_wn, .int u_id])), (b_rf, .inl (G.2 0, 7, .inl z45)), (b_ro, .inl (G.2 0, 5740, .inl v_ro))], rfl, ⟨(-1), 0, z43, z44, z45, v_ro, r_ro, ⟨by omega, by omega⟩, rfl, rfl⟩, by rw [ht]; exact hP.sub [1, 2, 0] rfl, hD.sub [1, 2, 0] (by decide) rfl⟩, hS.F ht⟩) hS.2.2 dX12_spot_33
        ·
          exact absurd c_41 (by decide)
  ·
    have hP := g5_same hP hk1
    generalize H1 = H at hP hS ⊢
    refine lv_if_eq (tgt := 28) hx hb dX12_spot_9 (by decide) (fun c_46 => ?_) (fun c_46 => ?_)
    ·
      refine lv_aload_n hx hb dX12_spot_28 rfl (lv_at hl 0 rfl) ?_
      refine lv_iconst (v := (-1)) hx hb dX12_spot_29 (by decide) ?_
      have hPc := hP.sub (ws' := [(b_o, .inr (12, [.int 0, .int u_sa, .ref b_rf, .ref b_ro, .ref b_im, .ref b_ke, .int u_fd, .ref b_tp, .int u_td, .int u_fr, .int u_to, .int u_so, .long u_wo, .int u_fa, .int u_bd, .int u_nc, .ref b_nl, .int u_co, .ref b_op, .ref b_ar, .int u_le, .ref b_pi, .ref b_pa, .int u_pd, .int u_od, .ref b_ws, .ref b_hw, .int u_la, .ref b_se, .ref b_re, .int u_bk, .long u_va, .long u_su, .int u_ce, .int u_ho, .int u_wy, .int u_bt, .int u_ps, .ref b_pt, .int u_tg, .int u_sn, .ref b_ip, .int u_ic, .ref b_ah, .ref b_be, .ref b_me, .int u_wd, .ref b_tr, .ref b_ld, .long u_st, .ref b_wn, .int u_id])), (b_rf, .inl (G.2 0, 7, .inl v_rf))]) [0, 1] rfl
      have hDc := hD.sub (ws' := [(b_o, .inr (12, [.int 0, .int u_sa, .ref b_rf, .ref b_ro, .ref b_im, .ref b_ke, .int u_fd, .ref b_tp, .int u_td, .int u_fr, .int u_to, .int u_so, .long u_wo, .int u_fa, .int u_bd, .int u_nc, .ref b_nl, .int u_co, .ref b_op, .ref b_ar, .int u_le, .ref b_pi, .ref b_pa, .int u_pd, .int u_od, .ref b_ws, .ref b_hw, .int u_la, .ref b_se, .ref b_re, .int u_bk, .long u_va, .long u_su, .int u_ce, .int u_ho, .int u_wy, .int u_bt, .int u_ps, .ref b_pt, .int u_tg, .int u_sn, .ref b_ip, .int u_ic, .ref b_ah, .ref b_be, .ref b_me, .int u_wd, .ref b_tr, .ref b_ld, .long u_st, .ref b_wn, .int u_id])), (b_rf, .inl (G.2 0, 7, .inl v_rf))]) [0, 1] (by decide) rfl
      have hFc := va_free (wc := [(b_o, .inr (12, [.int 0, .int u_sa, .ref b_rf, .ref b_ro, .ref b_im, .ref b_ke, .int u_fd, .ref b_tp, .int u_td, .int u_fr, .int u_to, .int u_so, .long u_wo, .int u_fa, .int u_bd, .int u_nc, .ref b_nl, .int u_co, .ref b_op, .ref b_ar, .int u_le, .ref b_pi, .ref b_pa, .int u_pd, .int u_od, .ref b_ws, .ref b_hw, .int u_la, .ref b_se, .ref b_re, .int u_bk, .long u_va, .long u_su, .int u_ce, .int u_ho, .int u_wy, .int u_bt, .int u_ps, .ref b_pt, .int u_tg, .int u_sn, .ref b_ip, .int u_ic, .ref b_ah, .ref b_be, .ref b_me, .int u_wd, .ref b_tr, .ref b_ld, .long u_st, .ref b_wn, .int u_id])), (b_rf, .inl (G.2 0, 7, .inl v_rf))]) hD hS hA [0, 1] rfl
      refine va_calli (va_runV (As := [.int (-1)]) (rest := []) ⟨hx, hb, hml, hown, hts⟩ (n_tell1 l G b_o b_rf b_ro b_im b_ke b_tp b_nl b_op b_ar b_pi b_pa b_ws b_hw b_se b_re b_pt b_ip b_ah b_be b_me b_tr b_ld b_wn H.size 0 u_sa u_fd u_td u_fr u_to u_so u_fa u_bd u_nc u_co u_le u_pd u_od u_la u_bk u_ce u_ho u_wy u_bt u_ps u_tg u_sn u_ic u_wd u_id u_wo u_va u_su u_st v_rf ⟨by omega, by omega⟩ ⟨by omega, by omega⟩ ⟨by omega, by omega⟩ ⟨by omega, by omega⟩ ⟨by omega, by omega⟩ ⟨by omega, by omega⟩ ⟨by omega, by omega⟩ ⟨by omega, by omega⟩ ⟨by omega, by omega⟩ ⟨by omega, by omega⟩ ⟨by omega, by omega⟩ ⟨by omega, by omega⟩ ⟨by omega, by omega⟩ ⟨by omega, by omega⟩ ⟨by omega, by omega⟩ ⟨by omega, by omega⟩) (cwV 1 hts gV_X12_125 rfl rfl rfl hv_X12_tell ⟨Nat.le_of_ble_eq_true rfl, Nat.le_of_ble_eq_true rfl⟩) (g5_preV hPc hK hDc hN hT hS hFc (ci := 12) (q0 := 0) rfl rfl) rfl rfl hl.1 rfl (lv_room (Nat.le_of_ble_eq_true rfl)) dX12_spot_30 ⟨Nat.le_of_ble_eq_true rfl, Nat.le_of_ble_eq_true rfl⟩) hS (fun q _ h => hFc q h) hFc (fun r u t H1 locs ht hvm hw hB hz1 hk1 hS => ?_)
      obtain ⟨hP1, hD1⟩ := hB
      rw [ht] at hP1
      obtain ⟨z48, z49, z50, i_47, rfl, rfl⟩ := hw
      have i_47 : 0 ≤ z49.toInt ∧ z49.toInt ≤ 1 := i_47
      obtain ⟨hP, hD⟩ := va_join (wr := [(b_ro, .inl (G.2 0, 5740, .inl v_ro))]) (w1 := [(b_o, .inr (12, [.int 0, .int z48, .ref b_rf, .ref b_ro, .ref b_im, .ref b_ke, .int u_fd, .ref b_tp, .int u_td, .int u_fr, .int u_to, .int u_so, .long u_wo, .int u_fa, .int u_bd, .int u_nc, .ref b_nl, .int u_co, .ref b_op, .ref b_ar, .int u_le, .ref b_pi, .ref b_pa, .int u_pd, .int u_od, .ref b_ws, .ref b_hw, .int u_la, .ref b_se, .ref b_re, .int u_bk, .long u_va, .long u_su, .int u_ce, .int u_ho, .int u_wy, .int u_bt, .int u_ps, .ref b_pt, .int u_tg, .int u_sn, .ref b_ip, .int z49, .ref b_ah, .ref b_be, .ref b_me, .int u_wd, .ref b_tr, .ref b_ld, .long u_st, .ref b_wn, .int u_id])), (b_rf, .inl (G.2 0, 7, .inl z50))]) hP hD [0, 1] [2] rfl rfl (by decide) (by decide) hk1 hFc hP1 hD1
      generalize H1 = H at hP hS ⊢
      have hP : va_P G.1 vwCl [(b_ro, .inl (G.2 0, 5740, .inl v_ro)), (b_o, .inr (12, [.int 0, .int z48, .ref b_rf, .ref b_ro, .ref b_im, .ref b_ke, .int u_fd, .ref b_tp, .int u_td, .int u_fr, .int u_to, .int u_so, .long u_wo, .int u_fa, .int u_bd, .int u_nc, .ref b_nl, .int u_co, .ref b_op, .ref b_ar, .int u_le, .ref b_pi, .ref b_pa, .int u_pd, .int u_od, .ref b_ws, .ref b_hw, .int u_la, .ref b_se, .ref b_re, .int u_bk, .long u_va, .long u_su, .int u_ce, .int u_ho, .int u_wy, .int u_bt, .int u_ps, .ref b_pt, .int u_tg, .int u_sn, .ref b_ip, .int z49, .ref b_ah, .ref b_be, .ref b_me, .int u_wd, .ref b_tr, .ref b_ld, .long u_st, .ref b_wn, .int u_id])), (b_rf, .inl (G.2 0, 7, .inl z50))] H := hP
      have hD : va_D A [(b_ro, .inl (G.2 0, 5740, .inl v_ro)), (b_o, .inr (12, [.int 0, .int z48, .ref b_rf, .ref b_ro, .ref b_im, .ref b_ke, .int u_fd, .ref b_tp, .int u_td, .int u_fr, .int u_to, .int u_so, .long u_wo, .int u_fa, .int u_bd, .int u_nc, .ref b_nl, .int u_co, .ref b_op, .ref b_ar, .int u_le, .ref b_pi, .ref b_pa, .int u_pd, .int u_od, .ref b_ws, .ref b_hw, .int u_la, .ref b_se, .ref b_re, .int u_bk, .long u_va, .long u_su, .int u_ce, .int u_ho, .int u_wy, .int u_bt, .int u_ps, .ref b_pt, .int u_tg, .int u_sn, .ref b_ip, .int z49, .ref b_ah, .ref b_be, .ref b_me, .int u_wd, .ref b_tr, .ref b_ld, .long u_st, .ref b_wn, .int u_id])), (b_rf, .inl (G.2 0, 7, .inl z50))] := hD
      exact W.iret (v := (-1)) hx hb hr (fun t ht hW => ⟨⟨(-1), [(b_o, .inr (12, [.int 0, .int z48, .ref b_rf, .ref b_ro, .ref b_im, .ref b_ke, .int u_fd, .ref b_tp, .int u_td, .int u_fr, .int u_to, .int u_so, .long u_wo, .int u_fa, .int u_bd, .int u_nc, .ref b_nl, .int u_co, .ref b_op, .ref b_ar, .int u_le, .ref b_pi, .ref b_pa, .int u_pd, .int u_od, .ref b_ws, .ref b_hw, .int u_la, .ref b_se, .ref b_re, .int u_bk, .long u_va, .long u_su, .int u_ce, .int u_ho, .int u_wy, .int u_bt, .int u_ps, .ref b_pt, .int u_tg, .int u_sn, .ref b_ip, .int z49, .ref b_ah, .ref b_be, .ref b_me, .int u_wd, .ref b_tr, .ref b_ld, .long u_st, .ref b_wn, .int u_id])), (b_rf, .inl (G.2 0, 7, .inl z50)), (b_ro, .inl (G.2 0, 5740, .inl v_ro))], rfl, ⟨(-1), 0, z48, z49, z50, v_ro, r_ro, ⟨by omega, by omega⟩, rfl, rfl⟩, by rw [ht]; exact hP.sub [1, 2, 0] rfl, hD.sub [1, 2, 0] (by decide) rfl⟩, hS.F ht⟩) hS.2.2 dX12_spot_33
    ·
      exact absurd c_46 (by decide)
theorem dX12_wish_0 : decode cX12_wish 0 = .ok (.aload_n 0, 1) := by decide +kernel
theorem dX12_wish_1 : decode cX12_wish 1 = .ok (.iconst 0, 1) := by decide +kernel
theorem dX12_wish_2 : decode cX12_wish 2 = .ok (.putfield 107, 3) := by decide +kernel
theorem dX12_wish_5 : decode cX12_wish 5 = .ok (.iload_n 1, 1) := by decide +kernel
theorem dX12_wish_6 : decode cX12_wish 6 = .ok (.iload_n 2, 1) := by decide +kernel
theorem dX12_wish_7 : decode cX12_wish 7 = .ok (.iload_n 3, 1) := by decide +kernel
theorem dX12_wish_8 : decode cX12_wish 8 = .ok (.invokestatic 397, 3) := by decide +kernel
theorem dX12_wish_11 : decode cX12_wish 11 = .ok (.ifCond .eq 30, 3) := by decide +kernel
theorem dX12_wish_14 : decode cX12_wish 14 = .ok (.iload 4, 2) := by decide +kernel
theorem dX12_wish_16 : decode cX12_wish 16 = .ok (.invokestatic 138, 3) := by decide +kernel
theorem dX12_wish_19 : decode cX12_wish 19 = .ok (.ifCond .eq 22, 3) := by decide +kernel
theorem dX12_wish_22 : decode cX12_wish 22 = .ok (.iload 5, 2) := by decide +kernel
theorem dX12_wish_24 : decode cX12_wish 24 = .ok (.invokestatic 175, 3) := by decide +kernel
theorem dX12_wish_27 : decode cX12_wish 27 = .ok (.ifCond .eq 14, 3) := by decide +kernel
theorem dX12_wish_30 : decode cX12_wish 30 = .ok (.iload 6, 2) := by decide +kernel
theorem dX12_wish_32 : decode cX12_wish 32 = .ok (.i2l, 1) := by decide +kernel
theorem dX12_wish_33 : decode cX12_wish 33 = .ok (.lconst 0, 1) := by decide +kernel
theorem dX12_wish_34 : decode cX12_wish 34 = .ok (.lconst 1, 1) := by decide +kernel
theorem dX12_wish_35 : decode cX12_wish 35 = .ok (.invokestatic 121, 3) := by decide +kernel
theorem dX12_wish_38 : decode cX12_wish 38 = .ok (.ifCond .ne 9, 3) := by decide +kernel
theorem dX12_wish_41 : decode cX12_wish 41 = .ok (.aload_n 0, 1) := by decide +kernel
theorem dX12_wish_42 : decode cX12_wish 42 = .ok (.iconst (-1), 1) := by decide +kernel
theorem dX12_wish_43 : decode cX12_wish 43 = .ok (.invokevirtual 125, 3) := by decide +kernel
theorem dX12_wish_46 : decode cX12_wish 46 = .ok (.ireturn, 1) := by decide +kernel
theorem dX12_wish_47 : decode cX12_wish 47 = .ok (.aload_n 0, 1) := by decide +kernel
theorem dX12_wish_48 : decode cX12_wish 48 = .ok (.getfield 13, 3) := by decide +kernel
theorem dX12_wish_51 : decode cX12_wish 51 = .ok (.bipush 8, 2) := by decide +kernel
theorem dX12_wish_53 : decode cX12_wish 53 = .ok (.iaload, 1) := by decide +kernel
theorem dX12_wish_54 : decode cX12_wish 54 = .ok (.istore 7, 2) := by decide +kernel
theorem dX12_wish_56 : decode cX12_wish 56 = .ok (.iload 7, 2) := by decide +kernel
theorem dX12_wish_58 : decode cX12_wish 58 = .ok (.bipush 6, 2) := by decide +kernel
theorem dX12_wish_60 : decode cX12_wish 60 = .ok (.if_icmp .ne 10, 3) := by decide +kernel
theorem dX12_wish_63 : decode cX12_wish 63 = .ok (.aload_n 0, 1) := by decide +kernel
theorem dX12_wish_64 : decode cX12_wish 64 = .ok (.bipush (-5), 2) := by decide +kernel
theorem dX12_wish_66 : decode cX12_wish 66 = .ok (.invokevirtual 125, 3) := by decide +kernel
theorem dX12_wish_69 : decode cX12_wish 69 = .ok (.ireturn, 1) := by decide +kernel
theorem dX12_wish_70 : decode cX12_wish 70 = .ok (.sipush 300, 3) := by decide +kernel
theorem dX12_wish_73 : decode cX12_wish 73 = .ok (.bipush 6, 2) := by decide +kernel
theorem dX12_wish_75 : decode cX12_wish 75 = .ok (.iload 7, 2) := by decide +kernel
theorem dX12_wish_77 : decode cX12_wish 77 = .ok (.imul, 1) := by decide +kernel
theorem dX12_wish_78 : decode cX12_wish 78 = .ok (.iadd, 1) := by decide +kernel
theorem dX12_wish_79 : decode cX12_wish 79 = .ok (.istore 8, 2) := by decide +kernel
theorem dX12_wish_81 : decode cX12_wish 81 = .ok (.aload_n 0, 1) := by decide +kernel
theorem dX12_wish_82 : decode cX12_wish 82 = .ok (.getfield 13, 3) := by decide +kernel
theorem dX12_wish_85 : decode cX12_wish 85 = .ok (.iload 8, 2) := by decide +kernel
theorem dX12_wish_87 : decode cX12_wish 87 = .ok (.iload_n 1, 1) := by decide +kernel
theorem dX12_wish_88 : decode cX12_wish 88 = .ok (.iastore, 1) := by decide +kernel
theorem dX12_wish_89 : decode cX12_wish 89 = .ok (.aload_n 0, 1) := by decide +kernel
theorem dX12_wish_90 : decode cX12_wish 90 = .ok (.getfield 13, 3) := by decide +kernel
theorem dX12_wish_93 : decode cX12_wish 93 = .ok (.iload 8, 2) := by decide +kernel
theorem dX12_wish_95 : decode cX12_wish 95 = .ok (.iconst 1, 1) := by decide +kernel
theorem dX12_wish_96 : decode cX12_wish 96 = .ok (.iadd, 1) := by decide +kernel
theorem dX12_wish_97 : decode cX12_wish 97 = .ok (.iload_n 2, 1) := by decide +kernel
theorem dX12_wish_98 : decode cX12_wish 98 = .ok (.iastore, 1) := by decide +kernel
theorem dX12_wish_99 : decode cX12_wish 99 = .ok (.aload_n 0, 1) := by decide +kernel
theorem dX12_wish_100 : decode cX12_wish 100 = .ok (.getfield 13, 3) := by decide +kernel
theorem dX12_wish_103 : decode cX12_wish 103 = .ok (.iload 8, 2) := by decide +kernel
theorem dX12_wish_105 : decode cX12_wish 105 = .ok (.iconst 2, 1) := by decide +kernel
theorem dX12_wish_106 : decode cX12_wish 106 = .ok (.iadd, 1) := by decide +kernel
theorem dX12_wish_107 : decode cX12_wish 107 = .ok (.iload_n 3, 1) := by decide +kernel
theorem dX12_wish_108 : decode cX12_wish 108 = .ok (.iastore, 1) := by decide +kernel
theorem dX12_wish_109 : decode cX12_wish 109 = .ok (.aload_n 0, 1) := by decide +kernel
theorem dX12_wish_110 : decode cX12_wish 110 = .ok (.getfield 13, 3) := by decide +kernel
theorem dX12_wish_113 : decode cX12_wish 113 = .ok (.iload 8, 2) := by decide +kernel
theorem dX12_wish_115 : decode cX12_wish 115 = .ok (.iconst 3, 1) := by decide +kernel
theorem dX12_wish_116 : decode cX12_wish 116 = .ok (.iadd, 1) := by decide +kernel
theorem dX12_wish_117 : decode cX12_wish 117 = .ok (.iload 4, 2) := by decide +kernel
theorem dX12_wish_119 : decode cX12_wish 119 = .ok (.iastore, 1) := by decide +kernel
theorem dX12_wish_120 : decode cX12_wish 120 = .ok (.aload_n 0, 1) := by decide +kernel
theorem dX12_wish_121 : decode cX12_wish 121 = .ok (.getfield 13, 3) := by decide +kernel
theorem dX12_wish_124 : decode cX12_wish 124 = .ok (.iload 8, 2) := by decide +kernel
theorem dX12_wish_126 : decode cX12_wish 126 = .ok (.iconst 4, 1) := by decide +kernel
theorem dX12_wish_127 : decode cX12_wish 127 = .ok (.iadd, 1) := by decide +kernel
theorem dX12_wish_128 : decode cX12_wish 128 = .ok (.iload 5, 2) := by decide +kernel
theorem dX12_wish_130 : decode cX12_wish 130 = .ok (.iastore, 1) := by decide +kernel
theorem dX12_wish_131 : decode cX12_wish 131 = .ok (.aload_n 0, 1) := by decide +kernel
theorem dX12_wish_132 : decode cX12_wish 132 = .ok (.getfield 13, 3) := by decide +kernel
theorem dX12_wish_135 : decode cX12_wish 135 = .ok (.iload 8, 2) := by decide +kernel
theorem dX12_wish_137 : decode cX12_wish 137 = .ok (.iconst 5, 1) := by decide +kernel
theorem dX12_wish_138 : decode cX12_wish 138 = .ok (.iadd, 1) := by decide +kernel
theorem dX12_wish_139 : decode cX12_wish 139 = .ok (.iload 6, 2) := by decide +kernel
theorem dX12_wish_141 : decode cX12_wish 141 = .ok (.iastore, 1) := by decide +kernel
theorem dX12_wish_142 : decode cX12_wish 142 = .ok (.aload_n 0, 1) := by decide +kernel
theorem dX12_wish_143 : decode cX12_wish 143 = .ok (.getfield 13, 3) := by decide +kernel
theorem dX12_wish_146 : decode cX12_wish 146 = .ok (.bipush 8, 2) := by decide +kernel
theorem dX12_wish_148 : decode cX12_wish 148 = .ok (.dup2, 1) := by decide +kernel
theorem dX12_wish_149 : decode cX12_wish 149 = .ok (.iaload, 1) := by decide +kernel
theorem dX12_wish_150 : decode cX12_wish 150 = .ok (.iconst 1, 1) := by decide +kernel
theorem dX12_wish_151 : decode cX12_wish 151 = .ok (.iadd, 1) := by decide +kernel
theorem dX12_wish_152 : decode cX12_wish 152 = .ok (.iastore, 1) := by decide +kernel
theorem dX12_wish_153 : decode cX12_wish 153 = .ok (.aload_n 0, 1) := by decide +kernel
theorem dX12_wish_154 : decode cX12_wish 154 = .ok (.iload 7, 2) := by decide +kernel
theorem dX12_wish_156 : decode cX12_wish 156 = .ok (.iconst 1, 1) := by decide +kernel
theorem dX12_wish_157 : decode cX12_wish 157 = .ok (.iadd, 1) := by decide +kernel
theorem dX12_wish_158 : decode cX12_wish 158 = .ok (.invokevirtual 125, 3) := by decide +kernel
theorem dX12_wish_161 : decode cX12_wish 161 = .ok (.ireturn, 1) := by decide +kernel
theorem ml_X12_397 : Cond.methodLink RX12 397 yX12_isLook ∈ tblG := tg 1603 (by decide +kernel) (by decide +kernel)
theorem st_X12_isLook : Cond.static yX12_isLook ∈ tblG := tg 1604 (by decide +kernel) (by decide +kernel)
theorem cd_X12_isLook : Cond.code yX12_isLook cX12_isLook 3 (some .boolean) ∈ tblG := tg 1605 (by decide +kernel) (by decide +kernel)
theorem gW_X12_isLook : GoodIn tblG (wsG yX12_isLook cX12_isLook 3 (some .boolean)) := tgi cd_X12_isLook
theorem gS_X12_397 : GoodIn tblG (va_wsS RX12 397 yX12_isLook (wsG yX12_isLook cX12_isLook 3 (some .boolean))) := tgS ml_X12_397 st_X12_isLook ini_X12 gW_X12_isLook
theorem hs_X12_isLook : yX12_isLook.cls ≠ "java/lang/invoke/MethodHandle" ∧ yX12_isLook.cls ≠ "java/lang/invoke/VarHandle" ∧ (parseMethodDescriptor yX12_isLook.desc).map (fun d => d.parameters.length) = some 3 := by decide +kernel
