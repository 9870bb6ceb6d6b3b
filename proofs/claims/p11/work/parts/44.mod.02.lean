theorem dX12_turns_0 : decode cX12_turns 0 = .ok (.iload 5, 2) := by decide +kernel
theorem dX12_turns_2 : decode cX12_turns 2 = .ok (.ifCond .ne 31, 3) := by decide +kernel
theorem dX12_turns_5 : decode cX12_turns 5 = .ok (.aload_n 0, 1) := by decide +kernel
theorem dX12_turns_6 : decode cX12_turns 6 = .ok (.iconst 2, 1) := by decide +kernel
theorem dX12_turns_7 : decode cX12_turns 7 = .ok (.iload_n 1, 1) := by decide +kernel
theorem dX12_turns_8 : decode cX12_turns 8 = .ok (.iconst (-1), 1) := by decide +kernel
theorem dX12_turns_9 : decode cX12_turns 9 = .ok (.iconst 0, 1) := by decide +kernel
theorem dX12_turns_10 : decode cX12_turns 10 = .ok (.iconst 1, 1) := by decide +kernel
theorem dX12_turns_11 : decode cX12_turns 11 = .ok (.invokevirtual 383, 3) := by decide +kernel
theorem dX12_turns_14 : decode cX12_turns 14 = .ok (.iconst 1, 1) := by decide +kernel
theorem dX12_turns_15 : decode cX12_turns 15 = .ok (.if_icmp .eq 18, 3) := by decide +kernel
theorem dX12_turns_18 : decode cX12_turns 18 = .ok (.iload_n 2, 1) := by decide +kernel
theorem dX12_turns_19 : decode cX12_turns 19 = .ok (.iconst 1, 1) := by decide +kernel
theorem dX12_turns_20 : decode cX12_turns 20 = .ok (.if_icmp .le 15, 3) := by decide +kernel
theorem dX12_turns_23 : decode cX12_turns 23 = .ok (.aload_n 0, 1) := by decide +kernel
theorem dX12_turns_24 : decode cX12_turns 24 = .ok (.getfield 355, 3) := by decide +kernel
theorem dX12_turns_27 : decode cX12_turns 27 = .ok (.iload_n 2, 1) := by decide +kernel
theorem dX12_turns_28 : decode cX12_turns 28 = .ok (.iconst 4, 1) := by decide +kernel
theorem dX12_turns_29 : decode cX12_turns 29 = .ok (.irem, 1) := by decide +kernel
theorem dX12_turns_30 : decode cX12_turns 30 = .ok (.if_icmp .eq 5, 3) := by decide +kernel
theorem dX12_turns_33 : decode cX12_turns 33 = .ok (.iconst 0, 1) := by decide +kernel
theorem dX12_turns_34 : decode cX12_turns 34 = .ok (.ireturn, 1) := by decide +kernel
theorem dX12_turns_35 : decode cX12_turns 35 = .ok (.aload_n 0, 1) := by decide +kernel
theorem dX12_turns_36 : decode cX12_turns 36 = .ok (.iconst 0, 1) := by decide +kernel
theorem dX12_turns_37 : decode cX12_turns 37 = .ok (.iload_n 1, 1) := by decide +kernel
theorem dX12_turns_38 : decode cX12_turns 38 = .ok (.iconst (-1), 1) := by decide +kernel
theorem dX12_turns_39 : decode cX12_turns 39 = .ok (.iload_n 3, 1) := by decide +kernel
theorem dX12_turns_40 : decode cX12_turns 40 = .ok (.bipush 23, 2) := by decide +kernel
theorem dX12_turns_42 : decode cX12_turns 42 = .ok (.invokevirtual 383, 3) := by decide +kernel
theorem dX12_turns_45 : decode cX12_turns 45 = .ok (.istore 6, 2) := by decide +kernel
theorem dX12_turns_47 : decode cX12_turns 47 = .ok (.aload_n 0, 1) := by decide +kernel
theorem dX12_turns_48 : decode cX12_turns 48 = .ok (.iconst 1, 1) := by decide +kernel
theorem dX12_turns_49 : decode cX12_turns 49 = .ok (.iload_n 1, 1) := by decide +kernel
theorem dX12_turns_50 : decode cX12_turns 50 = .ok (.iconst (-1), 1) := by decide +kernel
theorem dX12_turns_51 : decode cX12_turns 51 = .ok (.iload 4, 2) := by decide +kernel
theorem dX12_turns_53 : decode cX12_turns 53 = .ok (.bipush 10, 2) := by decide +kernel
theorem dX12_turns_55 : decode cX12_turns 55 = .ok (.invokevirtual 383, 3) := by decide +kernel
theorem dX12_turns_58 : decode cX12_turns 58 = .ok (.istore 7, 2) := by decide +kernel
theorem dX12_turns_60 : decode cX12_turns 60 = .ok (.aload_n 0, 1) := by decide +kernel
theorem dX12_turns_61 : decode cX12_turns 61 = .ok (.getfield 352, 3) := by decide +kernel
theorem dX12_turns_64 : decode cX12_turns 64 = .ok (.iload 6, 2) := by decide +kernel
theorem dX12_turns_66 : decode cX12_turns 66 = .ok (.if_icmp .ge 5, 3) := by decide +kernel
theorem dX12_turns_69 : decode cX12_turns 69 = .ok (.iconst 0, 1) := by decide +kernel
theorem dX12_turns_70 : decode cX12_turns 70 = .ok (.ireturn, 1) := by decide +kernel
theorem dX12_turns_71 : decode cX12_turns 71 = .ok (.aload_n 0, 1) := by decide +kernel
theorem dX12_turns_72 : decode cX12_turns 72 = .ok (.dup, 1) := by decide +kernel
theorem dX12_turns_73 : decode cX12_turns 73 = .ok (.getfield 352, 3) := by decide +kernel
theorem dX12_turns_76 : decode cX12_turns 76 = .ok (.iload 6, 2) := by decide +kernel
theorem dX12_turns_78 : decode cX12_turns 78 = .ok (.isub, 1) := by decide +kernel
theorem dX12_turns_79 : decode cX12_turns 79 = .ok (.putfield 352, 3) := by decide +kernel
theorem dX12_turns_82 : decode cX12_turns 82 = .ok (.aload_n 0, 1) := by decide +kernel
theorem dX12_turns_83 : decode cX12_turns 83 = .ok (.aload_n 0, 1) := by decide +kernel
theorem dX12_turns_84 : decode cX12_turns 84 = .ok (.getfield 361, 3) := by decide +kernel
theorem dX12_turns_87 : decode cX12_turns 87 = .ok (.bipush 10, 2) := by decide +kernel
theorem dX12_turns_89 : decode cX12_turns 89 = .ok (.iload 7, 2) := by decide +kernel
theorem dX12_turns_91 : decode cX12_turns 91 = .ok (.isub, 1) := by decide +kernel
theorem dX12_turns_92 : decode cX12_turns 92 = .ok (.imul, 1) := by decide +kernel
theorem dX12_turns_93 : decode cX12_turns 93 = .ok (.bipush 10, 2) := by decide +kernel
theorem dX12_turns_95 : decode cX12_turns 95 = .ok (.idiv, 1) := by decide +kernel
theorem dX12_turns_96 : decode cX12_turns 96 = .ok (.putfield 361, 3) := by decide +kernel
theorem dX12_turns_99 : decode cX12_turns 99 = .ok (.aload_n 0, 1) := by decide +kernel
theorem dX12_turns_100 : decode cX12_turns 100 = .ok (.getfield 361, 3) := by decide +kernel
theorem dX12_turns_103 : decode cX12_turns 103 = .ok (.aload_n 0, 1) := by decide +kernel
theorem dX12_turns_104 : decode cX12_turns 104 = .ok (.getfield 13, 3) := by decide +kernel
theorem dX12_turns_107 : decode cX12_turns 107 = .ok (.iconst 4, 1) := by decide +kernel
theorem dX12_turns_108 : decode cX12_turns 108 = .ok (.iaload, 1) := by decide +kernel
theorem dX12_turns_109 : decode cX12_turns 109 = .ok (.if_icmp .ge 5, 3) := by decide +kernel
theorem dX12_turns_112 : decode cX12_turns 112 = .ok (.iconst 0, 1) := by decide +kernel
theorem dX12_turns_113 : decode cX12_turns 113 = .ok (.ireturn, 1) := by decide +kernel
theorem dX12_turns_114 : decode cX12_turns 114 = .ok (.aload_n 0, 1) := by decide +kernel
theorem dX12_turns_115 : decode cX12_turns 115 = .ok (.iload_n 2, 1) := by decide +kernel
theorem dX12_turns_116 : decode cX12_turns 116 = .ok (.ifCond .ne 12, 3) := by decide +kernel
theorem dX12_turns_119 : decode cX12_turns 119 = .ok (.aload_n 0, 1) := by decide +kernel
theorem dX12_turns_120 : decode cX12_turns 120 = .ok (.getfield 355, 3) := by decide +kernel
theorem dX12_turns_123 : decode cX12_turns 123 = .ok (.iconst 1, 1) := by decide +kernel
theorem dX12_turns_124 : decode cX12_turns 124 = .ok (.ixor, 1) := by decide +kernel
theorem dX12_turns_125 : decode cX12_turns 125 = .ok (.goto 25, 3) := by decide +kernel
theorem dX12_turns_128 : decode cX12_turns 128 = .ok (.iload_n 2, 1) := by decide +kernel
theorem dX12_turns_129 : decode cX12_turns 129 = .ok (.iconst 1, 1) := by decide +kernel
theorem dX12_turns_130 : decode cX12_turns 130 = .ok (.if_icmp .ne 12, 3) := by decide +kernel
theorem dX12_turns_133 : decode cX12_turns 133 = .ok (.iconst 3, 1) := by decide +kernel
theorem dX12_turns_134 : decode cX12_turns 134 = .ok (.aload_n 0, 1) := by decide +kernel
theorem dX12_turns_135 : decode cX12_turns 135 = .ok (.getfield 355, 3) := by decide +kernel
theorem dX12_turns_138 : decode cX12_turns 138 = .ok (.isub, 1) := by decide +kernel
theorem dX12_turns_139 : decode cX12_turns 139 = .ok (.goto 11, 3) := by decide +kernel
theorem dX12_turns_142 : decode cX12_turns 142 = .ok (.aload_n 0, 1) := by decide +kernel
theorem dX12_turns_143 : decode cX12_turns 143 = .ok (.getfield 355, 3) := by decide +kernel
theorem dX12_turns_146 : decode cX12_turns 146 = .ok (.iconst 2, 1) := by decide +kernel
theorem dX12_turns_147 : decode cX12_turns 147 = .ok (.iadd, 1) := by decide +kernel
theorem dX12_turns_148 : decode cX12_turns 148 = .ok (.iconst 4, 1) := by decide +kernel
theorem dX12_turns_149 : decode cX12_turns 149 = .ok (.irem, 1) := by decide +kernel
theorem dX12_turns_150 : decode cX12_turns 150 = .ok (.putfield 355, 3) := by decide +kernel
theorem dX12_turns_153 : decode cX12_turns 153 = .ok (.aload_n 0, 1) := by decide +kernel
theorem dX12_turns_154 : decode cX12_turns 154 = .ok (.dup, 1) := by decide +kernel
theorem dX12_turns_155 : decode cX12_turns 155 = .ok (.getfield 368, 3) := by decide +kernel
theorem dX12_turns_158 : decode cX12_turns 158 = .ok (.iconst 1, 1) := by decide +kernel
theorem dX12_turns_159 : decode cX12_turns 159 = .ok (.iload_n 1, 1) := by decide +kernel
theorem dX12_turns_160 : decode cX12_turns 160 = .ok (.ishl, 1) := by decide +kernel
theorem dX12_turns_161 : decode cX12_turns 161 = .ok (.ior, 1) := by decide +kernel
theorem dX12_turns_162 : decode cX12_turns 162 = .ok (.putfield 368, 3) := by decide +kernel
theorem dX12_turns_165 : decode cX12_turns 165 = .ok (.iconst 1, 1) := by decide +kernel
theorem dX12_turns_166 : decode cX12_turns 166 = .ok (.ireturn, 1) := by decide +kernel
theorem fl_X12_368 : Cond.fieldLink RX12 368 "LateGlassModel" "through" "I" ∈ tblG := tg 1242 (by decide +kernel) (by decide +kernel)
set_option maxHeartbeats 4000000 in
set_option maxRecDepth 100000 in
theorem n_turns (l : Launch) (G : g5_G) (b_o b_ro b_se b_re b_rf b_im b_ke b_tp b_nl b_op b_ar b_pi b_pa b_ws b_hw b_pt b_ip b_ah b_be b_me b_tr b_ld b_wn : Nat) (sz : Nat) (u_th : Int32) (u_sa : Int32) (u_fd : Int32) (u_td : Int32) (u_fr : Int32) (u_to : Int32) (u_so : Int32) (u_fa : Int32) (u_bd : Int32) (u_nc : Int32) (u_co : Int32) (u_le : Int32) (u_pd : Int32) (u_od : Int32) (u_la : Int32) (u_bk : Int32) (u_ce : Int32) (u_ho : Int32) (u_wy : Int32) (u_bt : Int32) (u_ps : Int32) (u_tg : Int32) (u_sn : Int32) (u_ic : Int32) (u_wd : Int32) (u_id : Int32) (p_1 : Int32) (p_2 : Int32) (p_3 : Int32) (p_4 : Int32) (p_5 : Int32) (u_wo : Int64) (u_va : Int64) (u_su : Int64) (u_st : Int64) (v_ro : Nat → Int32) (v_se : Nat → Int64) (v_re : Nat → Int64) (h_u_td : 0 ≤ u_td.toInt ∧ u_td.toInt ≤ 400) (h_u_fr : 0 ≤ u_fr.toInt ∧ u_fr.toInt ≤ 400) (h_u_to : 0 ≤ u_to.toInt ∧ u_to.toInt ≤ 400) (h_u_bd : 0 ≤ u_bd.toInt ∧ u_bd.toInt ≤ 1) (h_u_nc : 0 ≤ u_nc.toInt ∧ u_nc.toInt ≤ 12) (h_u_co : 0 ≤ u_co.toInt ∧ u_co.toInt ≤ 400) (h_u_pd : 0 ≤ u_pd.toInt ∧ u_pd.toInt ≤ 400) (h_u_la : 0 ≤ u_la.toInt ∧ u_la.toInt ≤ 4840) (h_u_bk : 0 ≤ u_bk.toInt ∧ u_bk.toInt ≤ 1) (h_u_ce : 0 ≤ u_ce.toInt ∧ u_ce.toInt ≤ 63) (h_u_ho : 0 ≤ u_ho.toInt ∧ u_ho.toInt ≤ 23) (h_u_wy : 0 ≤ u_wy.toInt ∧ u_wy.toInt ≤ 3) (h_u_bt : 0 ≤ u_bt.toInt ∧ u_bt.toInt ≤ 1000000) (h_u_ps : 0 ≤ u_ps.toInt ∧ u_ps.toInt ≤ 200) (h_u_ic : 0 ≤ u_ic.toInt ∧ u_ic.toInt ≤ 1) (h_u_id : 0 ≤ u_id.toInt ∧ u_id.toInt ≤ 1) (h_p_2 : 0 ≤ p_2.toInt ∧ p_2.toInt ≤ 5) (h_p_3 : 0 ≤ p_3.toInt ∧ p_3.toInt ≤ 23) (h_p_4 : 0 ≤ p_4.toInt ∧ p_4.toInt ≤ 10) (h_p_5 : 0 ≤ p_5.toInt ∧ p_5.toInt ≤ 1) (r_ro : MI v_ro) : Met l yX12_turns (wsG yX12_turns cX12_turns 8 (some .boolean)) ({ frames := 4, cells := 0, slots := 0, locals := 101 }) (va_Pc [.ref b_o, .int p_1, .int p_2, .int p_3, .int p_4, .int p_5] (g5_P G [(b_o, .inr (12, [.int u_th, .int u_sa, .ref b_rf, .ref b_ro, .ref b_im, .ref b_ke, .int u_fd, .ref b_tp, .int u_td, .int u_fr, .int u_to, .int u_so, .long u_wo, .int u_fa, .int u_bd, .int u_nc, .ref b_nl, .int u_co, .ref b_op, .ref b_ar, .int u_le, .ref b_pi, .ref b_pa, .int u_pd, .int u_od, .ref b_ws, .ref b_hw, .int u_la, .ref b_se, .ref b_re, .int u_bk, .long u_va, .long u_su, .int u_ce, .int u_ho, .int u_wy, .int u_bt, .int u_ps, .ref b_pt, .int u_tg, .int u_sn, .ref b_ip, .int u_ic, .ref b_ah, .ref b_be, .ref b_me, .int u_wd, .ref b_tr, .ref b_ld, .long u_st, .ref b_wn, .int u_id])), (b_ro, .inl (G.2 0, 5740, .inl v_ro)), (b_se, .inl (G.2 1, 13, .inr (.inl v_se))), (b_re, .inl (G.2 1, 400, .inr (.inl v_re)))] sz)) (va_Qi (fun (r : Int32) (u : va_W) => (∃ (o_r : Int32) (o_la : Int32) (o_bk : Int32) (o_va : Int64) (o_su : Int64) (o_ho : Int32) (o_wy : Int32) (o_bt : Int32) (o_tg : Int32) (o_se : Nat → Int64) (o_re : Nat → Int64), (0 ≤ o_r.toInt ∧ o_r.toInt ≤ 1) ∧ (0 ≤ o_la.toInt ∧ o_la.toInt ≤ 4840) ∧ (0 ≤ o_bk.toInt ∧ o_bk.toInt ≤ 1) ∧ (0 ≤ o_ho.toInt ∧ o_ho.toInt ≤ 23) ∧ (0 ≤ o_wy.toInt ∧ o_wy.toInt ≤ 3) ∧ (0 ≤ o_bt.toInt ∧ o_bt.toInt ≤ 1000000) ∧ (r = o_r) ∧ (u = [(b_o, .inr (12, [.int u_th, .int u_sa, .ref b_rf, .ref b_ro, .ref b_im, .ref b_ke, .int u_fd, .ref b_tp, .int u_td, .int u_fr, .int u_to, .int u_so, .long u_wo, .int u_fa, .int u_bd, .int u_nc, .ref b_nl, .int u_co, .ref b_op, .ref b_ar, .int u_le, .ref b_pi, .ref b_pa, .int u_pd, .int u_od, .ref b_ws, .ref b_hw, .int o_la, .ref b_se, .ref b_re, .int o_bk, .long o_va, .long o_su, .int u_ce, .int o_ho, .int o_wy, .int o_bt, .int u_ps, .ref b_pt, .int o_tg, .int u_sn, .ref b_ip, .int u_ic, .ref b_ah, .ref b_be, .ref b_me, .int u_wd, .ref b_tr, .ref b_ld, .long u_st, .ref b_wn, .int u_id])), (b_ro, .inl (G.2 0, 5740, .inl v_ro)), (b_se, .inl (G.2 1, 13, .inr (.inl o_se))), (b_re, .inl (G.2 1, 400, .inr (.inl o_re)))]))) (g5_B G (va_A [(b_o, .inr (12, [.int u_th, .int u_sa, .ref b_rf, .ref b_ro, .ref b_im, .ref b_ke, .int u_fd, .ref b_tp, .int u_td, .int u_fr, .int u_to, .int u_so, .long u_wo, .int u_fa, .int u_bd, .int u_nc, .ref b_nl, .int u_co, .ref b_op, .ref b_ar, .int u_le, .ref b_pi, .ref b_pa, .int u_pd, .int u_od, .ref b_ws, .ref b_hw, .int u_la, .ref b_se, .ref b_re, .int u_bk, .long u_va, .long u_su, .int u_ce, .int u_ho, .int u_wy, .int u_bt, .int u_ps, .ref b_pt, .int u_tg, .int u_sn, .ref b_ip, .int u_ic, .ref b_ah, .ref b_be, .ref b_me, .int u_wd, .ref b_tr, .ref b_ld, .long u_st, .ref b_wn, .int u_id])), (b_ro, .inl (G.2 0, 5740, .inl v_ro)), (b_se, .inl (G.2 1, 13, .inr (.inl v_se))), (b_re, .inl (G.2 1, 400, .inr (.inl v_re)))] sz)) (va_A [(b_o, .inr (12, [.int u_th, .int u_sa, .ref b_rf, .ref b_ro, .ref b_im, .ref b_ke, .int u_fd, .ref b_tp, .int u_td, .int u_fr, .int u_to, .int u_so, .long u_wo, .int u_fa, .int u_bd, .int u_nc, .ref b_nl, .int u_co, .ref b_op, .ref b_ar, .int u_le, .ref b_pi, .ref b_pa, .int u_pd, .int u_od, .ref b_ws, .ref b_hw, .int u_la, .ref b_se, .ref b_re, .int u_bk, .long u_va, .long u_su, .int u_ce, .int u_ho, .int u_wy, .int u_bt, .int u_ps, .ref b_pt, .int u_tg, .int u_sn, .ref b_ip, .int u_ic, .ref b_ah, .ref b_be, .ref b_me, .int u_wd, .ref b_tr, .ref b_ld, .long u_st, .ref b_wn, .int u_id])), (b_ro, .inl (G.2 0, 5740, .inl v_ro)), (b_se, .inl (G.2 1, 13, .inr (.inl v_se))), (b_re, .inl (G.2 1, 400, .inr (.inl v_re)))] sz)) 0 0 (va_A [(b_o, .inr (12, [.int u_th, .int u_sa, .ref b_rf, .ref b_ro, .ref b_im, .ref b_ke, .int u_fd, .ref b_tp, .int u_td, .int u_fr, .int u_to, .int u_so, .long u_wo, .int u_fa, .int u_bd, .int u_nc, .ref b_nl, .int u_co, .ref b_op, .ref b_ar, .int u_le, .ref b_pi, .ref b_pa, .int u_pd, .int u_od, .ref b_ws, .ref b_hw, .int u_la, .ref b_se, .ref b_re, .int u_bk, .long u_va, .long u_su, .int u_ce, .int u_ho, .int u_wy, .int u_bt, .int u_ps, .ref b_pt, .int u_tg, .int u_sn, .ref b_ip, .int u_ic, .ref b_ah, .ref b_be, .ref b_me, .int u_wd, .ref b_tr, .ref b_ld, .long u_st, .ref b_wn, .int u_id])), (b_ro, .inl (G.2 0, 5740, .inl v_ro)), (b_se, .inl (G.2 1, 13, .inr (.inl v_se))), (b_re, .inl (G.2 1, 400, .inr (.inl v_re)))] sz) := by
  refine Met.ofW (cc := cX12_turns) (maxL := 8) (ret := (some .boolean)) (by decide) rfl ?_
  intro p e s m args below meth c s₁ B hml hv
  obtain ⟨rfl, hsz, hP, hK, hD0, hN, hT⟩ := hv
  have hx := B.exec
  have hb := B.bytes
  have hr := B.returns
  have hts : ∀ w ∈ tblG, w.before _ s = true := fun w h => atoms_spec (ws := (wsG yX12_turns cX12_turns 8 (some .boolean))) B.pre w (List.mem_cons_of_mem _ h)
  have hown : s.vm.findClass RX12 = some m.cls := findClass_of_methodNamed B.named
  have hlocks := B.notSynchronized
  subst hsz
  have hD := hD0.self (sz := s.heap.size)
  generalize hAe : va_A [(b_o, .inr (12, [.int u_th, .int u_sa, .ref b_rf, .ref b_ro, .ref b_im, .ref b_ke, .int u_fd, .ref b_tp, .int u_td, .int u_fr, .int u_to, .int u_so, .long u_wo, .int u_fa, .int u_bd, .int u_nc, .ref b_nl, .int u_co, .ref b_op, .ref b_ar, .int u_le, .ref b_pi, .ref b_pa, .int u_pd, .int u_od, .ref b_ws, .ref b_hw, .int u_la, .ref b_se, .ref b_re, .int u_bk, .long u_va, .long u_su, .int u_ce, .int u_ho, .int u_wy, .int u_bt, .int u_ps, .ref b_pt, .int u_tg, .int u_sn, .ref b_ip, .int u_ic, .ref b_ah, .ref b_be, .ref b_me, .int u_wd, .ref b_tr, .ref b_ld, .long u_st, .ref b_wn, .int u_id])), (b_ro, .inl (G.2 0, 5740, .inl v_ro)), (b_se, .inl (G.2 1, 13, .inr (.inl v_se))), (b_re, .inl (G.2 1, 400, .inr (.inl v_re)))] s.heap.size = A at hD hT ⊢
  have hA : ∀ q : Nat, s.heap.size ≤ q → A q := fun q h => by rw [← hAe]; exact Or.inr h
  have hS : va_S A s.heap s.heap [] := va_S.rf
  have hP : va_P G.1 vwCl [(b_o, .inr (12, [.int u_th, .int u_sa, .ref b_rf, .ref b_ro, .ref b_im, .ref b_ke, .int u_fd, .ref b_tp, .int u_td, .int u_fr, .int u_to, .int u_so, .long u_wo, .int u_fa, .int u_bd, .int u_nc, .ref b_nl, .int u_co, .ref b_op, .ref b_ar, .int u_le, .ref b_pi, .ref b_pa, .int u_pd, .int u_od, .ref b_ws, .ref b_hw, .int u_la, .ref b_se, .ref b_re, .int u_bk, .long u_va, .long u_su, .int u_ce, .int u_ho, .int u_wy, .int u_bt, .int u_ps, .ref b_pt, .int u_tg, .int u_sn, .ref b_ip, .int u_ic, .ref b_ah, .ref b_be, .ref b_me, .int u_wd, .ref b_tr, .ref b_ld, .long u_st, .ref b_wn, .int u_id])), (b_ro, .inl (G.2 0, 5740, .inl v_ro)), (b_se, .inl (G.2 1, 13, .inr (.inl v_se))), (b_re, .inl (G.2 1, 400, .inr (.inl v_re)))] s.heap := hP
  have hl := lv_entry ([.ref b_o, .int p_1, .int p_2, .int p_3, .int p_4, .int p_5]) (n := 8) (Nat.le_of_ble_eq_true rfl)
  rw [lg_entry_eq]
  generalize (lg_sl ([.ref b_o, .int p_1, .int p_2, .int p_3, .int p_4, .int p_5]) ++ List.replicate (8 - (lg_sl ([.ref b_o, .int p_1, .int p_2, .int p_3, .int p_4, .int p_5])).length) Slot.unset).toArray = ls at hl ⊢
  have hl : lv_has ls 8 [(0, .ref b_o), (1, .int p_1), (2, .int p_2), (3, .int p_3), (4, .int p_4), (5, .int p_5)] := hl
  refine lv_iload hx hb dX12_turns_0 (lv_at hl 5 rfl) ?_
  refine lv_if_ne (tgt := 33) hx hb dX12_turns_2 (by decide) (fun c_1 => ?_) (fun c_1 => ?_)
  ·
    have n_1 : gNe (p_5.toInt) (0) := by have z := g5_ne (a := p_5.toInt) (b := 0) (by rfl) (by decide) c_1; unfold gNe; omega
    have i_1 : p_5.toInt ≥ 1 := by have z := g5_ne (a := p_5.toInt) (b := 0) (by rfl) (by decide) c_1; omega
    refine lv_iconst (v := 0) hx hb dX12_turns_33 (by decide) ?_
    exact W.zret (v := 0) hx hb hr rfl (fun t ht hW => ⟨⟨0, [(b_o, .inr (12, [.int u_th, .int u_sa, .ref b_rf, .ref b_ro, .ref b_im, .ref b_ke, .int u_fd, .ref b_tp, .int u_td, .int u_fr, .int u_to, .int u_so, .long u_wo, .int u_fa, .int u_bd, .int u_nc, .ref b_nl, .int u_co, .ref b_op, .ref b_ar, .int u_le, .ref b_pi, .ref b_pa, .int u_pd, .int u_od, .ref b_ws, .ref b_hw, .int u_la, .ref b_se, .ref b_re, .int u_bk, .long u_va, .long u_su, .int u_ce, .int u_ho, .int u_wy, .int u_bt, .int u_ps, .ref b_pt, .int u_tg, .int u_sn, .ref b_ip, .int u_ic, .ref b_ah, .ref b_be, .ref b_me, .int u_wd, .ref b_tr, .ref b_ld, .long u_st, .ref b_wn, .int u_id])), (b_ro, .inl (G.2 0, 5740, .inl v_ro)), (b_se, .inl (G.2 1, 13, .inr (.inl v_se))), (b_re, .inl (G.2 1, 400, .inr (.inl v_re)))], rfl, ⟨0, u_la, u_bk, u_va, u_su, u_ho, u_wy, u_bt, u_tg, v_se, v_re, ⟨by have zc_o_r : (0 : Int32).toInt = 0 := (by decide); omega, by have zc_o_r : (0 : Int32).toInt = 0 := (by decide); omega⟩, ⟨by omega, by omega⟩, ⟨by omega, by omega⟩, ⟨by omega, by omega⟩, ⟨by omega, by omega⟩, ⟨by omega, by omega⟩, rfl, rfl⟩, by rw [ht]; exact hP.sub [0, 1, 2, 3] rfl, hD.sub [0, 1, 2, 3] (by decide) rfl⟩, hS.F ht⟩) hS.2.2 dX12_turns_34
  ·
    have i_1 : p_5.toInt = 0 := by have z := g5_neN (a := p_5.toInt) (b := 0) (by rfl) (by decide) c_1; omega
    refine lv_aload_n hx hb dX12_turns_5 rfl (lv_at hl 0 rfl) ?_
    refine lv_iconst (v := 2) hx hb dX12_turns_6 (by decide) ?_
    refine lv_iload_n hx hb dX12_turns_7 rfl (lv_at hl 1 rfl) ?_
    refine lv_iconst (v := (-1)) hx hb dX12_turns_8 (by decide) ?_
    refine lv_iconst (v := 0) hx hb dX12_turns_9 (by decide) ?_
    refine lv_iconst (v := 1) hx hb dX12_turns_10 (by decide) ?_
    have hPc := hP.sub (ws' := [(b_o, .inr (12, [.int u_th, .int u_sa, .ref b_rf, .ref b_ro, .ref b_im, .ref b_ke, .int u_fd, .ref b_tp, .int u_td, .int u_fr, .int u_to, .int u_so, .long u_wo, .int u_fa, .int u_bd, .int u_nc, .ref b_nl, .int u_co, .ref b_op, .ref b_ar, .int u_le, .ref b_pi, .ref b_pa, .int u_pd, .int u_od, .ref b_ws, .ref b_hw, .int u_la, .ref b_se, .ref b_re, .int u_bk, .long u_va, .long u_su, .int u_ce, .int u_ho, .int u_wy, .int u_bt, .int u_ps, .ref b_pt, .int u_tg, .int u_sn, .ref b_ip, .int u_ic, .ref b_ah, .ref b_be, .ref b_me, .int u_wd, .ref b_tr, .ref b_ld, .long u_st, .ref b_wn, .int u_id])), (b_ro, .inl (G.2 0, 5740, .inl v_ro)), (b_se, .inl (G.2 1, 13, .inr (.inl v_se))), (b_re, .inl (G.2 1, 400, .inr (.inl v_re)))]) [0, 1, 2, 3] rfl
    have hDc := hD.sub (ws' := [(b_o, .inr (12, [.int u_th, .int u_sa, .ref b_rf, .ref b_ro, .ref b_im, .ref b_ke, .int u_fd, .ref b_tp, .int u_td, .int u_fr, .int u_to, .int u_so, .long u_wo, .int u_fa, .int u_bd, .int u_nc, .ref b_nl, .int u_co, .ref b_op, .ref b_ar, .int u_le, .ref b_pi, .ref b_pa, .int u_pd, .int u_od, .ref b_ws, .ref b_hw, .int u_la, .ref b_se, .ref b_re, .int u_bk, .long u_va, .long u_su, .int u_ce, .int u_ho, .int u_wy, .int u_bt, .int u_ps, .ref b_pt, .int u_tg, .int u_sn, .ref b_ip, .int u_ic, .ref b_ah, .ref b_be, .ref b_me, .int u_wd, .ref b_tr, .ref b_ld, .long u_st, .ref b_wn, .int u_id])), (b_ro, .inl (G.2 0, 5740, .inl v_ro)), (b_se, .inl (G.2 1, 13, .inr (.inl v_se))), (b_re, .inl (G.2 1, 400, .inr (.inl v_re)))]) [0, 1, 2, 3] (by decide) rfl
    have hFc := va_free (wc := [(b_o, .inr (12, [.int u_th, .int u_sa, .ref b_rf, .ref b_ro, .ref b_im, .ref b_ke, .int u_fd, .ref b_tp, .int u_td, .int u_fr, .int u_to, .int u_so, .long u_wo, .int u_fa, .int u_bd, .int u_nc, .ref b_nl, .int u_co, .ref b_op, .ref b_ar, .int u_le, .ref b_pi, .ref b_pa, .int u_pd, .int u_od, .ref b_ws, .ref b_hw, .int u_la, .ref b_se, .ref b_re, .int u_bk, .long u_va, .long u_su, .int u_ce, .int u_ho, .int u_wy, .int u_bt, .int u_ps, .ref b_pt, .int u_tg, .int u_sn, .ref b_ip, .int u_ic, .ref b_ah, .ref b_be, .ref b_me, .int u_wd, .ref b_tr, .ref b_ld, .long u_st, .ref b_wn, .int u_id])), (b_ro, .inl (G.2 0, 5740, .inl v_ro)), (b_se, .inl (G.2 1, 13, .inr (.inl v_se))), (b_re, .inl (G.2 1, 400, .inr (.inl v_re)))]) hD hS hA [0, 1, 2, 3] rfl
    refine va_calli (va_runV (As := [.int 2, .int p_1, .int (-1), .int 0, .int 1]) (rest := []) ⟨hx, hb, hml, hown, hts⟩ (n_asks l G b_o b_ro b_se b_re b_rf b_im b_ke b_tp b_nl b_op b_ar b_pi b_pa b_ws b_hw b_pt b_ip b_ah b_be b_me b_tr b_ld b_wn s.heap.size u_th u_sa u_fd u_td u_fr u_to u_so u_fa u_bd u_nc u_co u_le u_pd u_od u_la u_bk u_ce u_ho u_wy u_bt u_ps u_tg u_sn u_ic u_wd u_id 2 p_1 (-1) 0 1 u_wo u_va u_su u_st v_ro v_se v_re ⟨by omega, by omega⟩ ⟨by omega, by omega⟩ ⟨by omega, by omega⟩ ⟨by omega, by omega⟩ ⟨by omega, by omega⟩ ⟨by omega, by omega⟩ ⟨by omega, by omega⟩ ⟨by omega, by omega⟩ ⟨by omega, by omega⟩ ⟨by omega, by omega⟩ ⟨by omega, by omega⟩ ⟨by omega, by omega⟩ ⟨by omega, by omega⟩ ⟨by omega, by omega⟩ ⟨by omega, by omega⟩ ⟨by omega, by omega⟩ ⟨by decide, by decide⟩ ⟨by decide, by decide⟩ (r_ro) (by decide)) (cwV 5 hts gV_X12_383 rfl rfl rfl hv_X12_asks ⟨Nat.le_of_ble_eq_true rfl, Nat.le_of_ble_eq_true rfl⟩) (g5_preV hPc hK hDc hN hT hS hFc (ci := 12) (q0 := 0) rfl rfl) rfl rfl hl.1 rfl (lv_room (Nat.le_of_ble_eq_true rfl)) dX12_turns_11 ⟨Nat.le_of_ble_eq_true rfl, Nat.le_of_ble_eq_true rfl⟩) hS (fun q _ h => hFc q h) hFc (fun r u t H1 locs ht hvm hw hB hz1 hk1 hS => ?_)
    obtain ⟨hP1, hD1⟩ := hB
    rw [ht] at hP1
    obtain ⟨z5, z6, z7, z8, z9, z10, z11, i_2, i_3, i_4, y12, rfl⟩ := hw
    have i_2 : 0 ≤ z6.toInt ∧ z6.toInt ≤ 4840 := i_2
    have i_3 : 0 ≤ z7.toInt ∧ z7.toInt ≤ 1 := i_3
    have i_4 : 0 ≤ z5.toInt ∧ z5.toInt ≤ (1 : Int32).toInt := i_4
    obtain ⟨hP, hD⟩ := va_join (wr := []) (w1 := [(b_o, .inr (12, [.int u_th, .int u_sa, .ref b_rf, .ref b_ro, .ref b_im, .ref b_ke, .int u_fd, .ref b_tp, .int u_td, .int u_fr, .int u_to, .int u_so, .long u_wo, .int u_fa, .int u_bd, .int u_nc, .ref b_nl, .int u_co, .ref b_op, .ref b_ar, .int u_le, .ref b_pi, .ref b_pa, .int u_pd, .int u_od, .ref b_ws, .ref b_hw, .int z6, .ref b_se, .ref b_re, .int z7, .long z8, .long z9, .int u_ce, .int u_ho, .int u_wy, .int u_bt, .int u_ps, .ref b_pt, .int u_tg, .int u_sn, .ref b_ip, .int u_ic, .ref b_ah, .ref b_be, .ref b_me, .int u_wd, .ref b_tr, .ref b_ld, .long u_st, .ref b_wn, .int u_id])), (b_ro, .inl (G.2 0, 5740, .inl v_ro)), (b_se, .inl (G.2 1, 13, .inr (.inl z10))), (b_re, .inl (G.2 1, 400, .inr (.inl z11)))]) hP hD [0, 1, 2, 3] [] rfl rfl (by decide) (by decide) hk1 hFc hP1 hD1
    generalize H1 = H at hP hS ⊢
    have hP : va_P G.1 vwCl [(b_o, .inr (12, [.int u_th, .int u_sa, .ref b_rf, .ref b_ro, .ref b_im, .ref b_ke, .int u_fd, .ref b_tp, .int u_td, .int u_fr, .int u_to, .int u_so, .long u_wo, .int u_fa, .int u_bd, .int u_nc, .ref b_nl, .int u_co, .ref b_op, .ref b_ar, .int u_le, .ref b_pi, .ref b_pa, .int u_pd, .int u_od, .ref b_ws, .ref b_hw, .int z6, .ref b_se, .ref b_re, .int z7, .long z8, .long z9, .int u_ce, .int u_ho, .int u_wy, .int u_bt, .int u_ps, .ref b_pt, .int u_tg, .int u_sn, .ref b_ip, .int u_ic, .ref b_ah, .ref b_be, .ref b_me, .int u_wd, .ref b_tr, .ref b_ld, .long u_st, .ref b_wn, .int u_id])), (b_ro, .inl (G.2 0, 5740, .inl v_ro)), (b_se, .inl (G.2 1, 13, .inr (.inl z10))), (b_re, .inl (G.2 1, 400, .inr (.inl z11)))] H := hP
    have hD : va_D A [(b_o, .inr (12, [.int u_th, .int u_sa, .ref b_rf, .ref b_ro, .ref b_im, .ref b_ke, .int u_fd, .ref b_tp, .int u_td, .int u_fr, .int u_to, .int u_so, .long u_wo, .int u_fa, .int u_bd, .int u_nc, .ref b_nl, .int u_co, .ref b_op, .ref b_ar, .int u_le, .ref b_pi, .ref b_pa, .int u_pd, .int u_od, .ref b_ws, .ref b_hw, .int z6, .ref b_se, .ref b_re, .int z7, .long z8, .long z9, .int u_ce, .int u_ho, .int u_wy, .int u_bt, .int u_ps, .ref b_pt, .int u_tg, .int u_sn, .ref b_ip, .int u_ic, .ref b_ah, .ref b_be, .ref b_me, .int u_wd, .ref b_tr, .ref b_ld, .long u_st, .ref b_wn, .int u_id])), (b_ro, .inl (G.2 0, 5740, .inl v_ro)), (b_se, .inl (G.2 1, 13, .inr (.inl z10))), (b_re, .inl (G.2 1, 400, .inr (.inl z11)))] := hD
    refine g5_ti (v := z5) y12 ?_
    refine lv_iconst (v := 1) hx hb dX12_turns_14 (by decide) ?_
    refine lv_icmp_eq (tgt := 33) hx hb dX12_turns_15 (by decide) (fun c_13 => ?_) (fun c_13 => ?_)
    ·
      have i_13 : z5.toInt = 1 := by have z := g5_eq (a := z5.toInt) (b := 1) (by rfl) (by decide) c_13; omega
      refine lv_iconst (v := 0) hx hb dX12_turns_33 (by decide) ?_
      exact W.zret (v := 0) hx hb hr rfl (fun t ht hW => ⟨⟨0, [(b_o, .inr (12, [.int u_th, .int u_sa, .ref b_rf, .ref b_ro, .ref b_im, .ref b_ke, .int u_fd, .ref b_tp, .int u_td, .int u_fr, .int u_to, .int u_so, .long u_wo, .int u_fa, .int u_bd, .int u_nc, .ref b_nl, .int u_co, .ref b_op, .ref b_ar, .int u_le, .ref b_pi, .ref b_pa, .int u_pd, .int u_od, .ref b_ws, .ref b_hw, .int z6, .ref b_se, .ref b_re, .int z7, .long z8, .long z9, .int u_ce, .int u_ho, .int u_wy, .int u_bt, .int u_ps, .ref b_pt, .int u_tg, .int u_sn, .ref b_ip, .int u_ic, .ref b_ah, .ref b_be, .ref b_me, .int u_wd, .ref b_tr, .ref b_ld, .long u_st, .ref b_wn, .int u_id])), (b_ro, .inl (G.2 0, 5740, .inl v_ro)), (b_se, .inl (G.2 1, 13, .inr (.inl z10))), (b_re, .inl (G.2 1, 400, .inr (.inl z11)))], rfl, ⟨0, z6, z7, z8, z9, u_ho, u_wy, u_bt, u_tg, z10, z11, ⟨by have zc_o_r : (0 : Int32).toInt = 0 := (by decide); omega, by have zc_o_r : (0 : Int32).toInt = 0 := (by decide); omega⟩, ⟨by omega, by omega⟩, ⟨by omega, by omega⟩, ⟨by omega, by omega⟩, ⟨by omega, by omega⟩, ⟨by omega, by omega⟩, rfl, rfl⟩, by rw [ht]; exact hP.sub [0, 1, 2, 3] rfl, hD.sub [0, 1, 2, 3] (by decide) rfl⟩, hS.F ht⟩) hS.2.2 dX12_turns_34
    ·
      have n_13 : gNe (z5.toInt) (1) := by have z := g5_eqN (a := z5.toInt) (b := 1) (by rfl) (by decide) c_13; unfold gNe; omega
      refine lv_iload_n hx hb dX12_turns_18 rfl (lv_at hl 2 rfl) ?_
      refine lv_iconst (v := 1) hx hb dX12_turns_19 (by decide) ?_
      refine lv_icmp_le (tgt := 35) hx hb dX12_turns_20 (by decide) (fun c_14 => ?_) (fun c_14 => ?_)
      ·
        have i_14 : p_2.toInt ≤ 1 := by have z := g5_le (a := p_2.toInt) (b := 1) (by rfl) (by decide) c_14; omega
        refine lv_aload_n hx hb dX12_turns_35 rfl (lv_at hl 0 rfl) ?_
        refine lv_iconst (v := 0) hx hb dX12_turns_36 (by decide) ?_
        refine lv_iload_n hx hb dX12_turns_37 rfl (lv_at hl 1 rfl) ?_
        refine lv_iconst (v := (-1)) hx hb dX12_turns_38 (by decide) ?_
        refine lv_iload_n hx hb dX12_turns_39 rfl (lv_at hl 3 rfl) ?_
        refine lv_bipush (v := 23) hx hb dX12_turns_40 (by decide) ?_
        have hPc := hP.sub (ws' := [(b_o, .inr (12, [.int u_th, .int u_sa, .ref b_rf, .ref b_ro, .ref b_im, .ref b_ke, .int u_fd, .ref b_tp, .int u_td, .int u_fr, .int u_to, .int u_so, .long u_wo, .int u_fa, .int u_bd, .int u_nc, .ref b_nl, .int u_co, .ref b_op, .ref b_ar, .int u_le, .ref b_pi, .ref b_pa, .int u_pd, .int u_od, .ref b_ws, .ref b_hw, .int z6, .ref b_se, .ref b_re, .int z7, .long z8, .long z9, .int u_ce, .int u_ho, .int u_wy, .int u_bt, .int u_ps, .ref b_pt, .int u_tg, .int u_sn, .ref b_ip, .int u_ic, .ref b_ah, .ref b_be, .ref b_me, .int u_wd, .ref b_tr, .ref b_ld, .long u_st, .ref b_wn, .int u_id])), (b_ro, .inl (G.2 0, 5740, .inl v_ro)), (b_se, .inl (G.2 1, 13, .inr (.inl z10))), (b_re, .inl (G.2 1, 400, .inr (.inl z11)))]) [0, 1, 2, 3] rfl
        have hDc := hD.sub (ws' := [(b_o, .inr (12, [.int u_th, .int u_sa, .ref b_rf, .ref b_ro, .ref b_im, .ref b_ke, .int u_fd, .ref b_tp, .int u_td, .int u_fr, .int u_to, .int u_so, .long u_wo, .int u_fa, .int u_bd, .int u_nc, .ref b_nl, .int u_co, .ref b_op, .ref b_ar, .int u_le, .ref b_pi, .ref b_pa, .int u_pd, .int u_od, .ref b_ws, .ref b_hw, .int z6, .ref b_se, .ref b_re, .int z7, .long z8, .long z9, .int u_ce, .int u_ho, .int u_wy, .int u_bt, .int u_ps, .ref b_pt, .int u_tg, .int u_sn, .ref b_ip, .int u_ic, .ref b_ah, .ref b_be, .ref b_me, .int u_wd, .ref b_tr, .ref b_ld, .long u_st, .ref b_wn, .int u_id])), (b_ro, .inl (G.2 0, 5740, .inl v_ro)), (b_se, .inl (G.2 1, 13, .inr (.inl z10))), (b_re, .inl (G.2 1, 400, .inr (.inl z11)))]) [0, 1, 2, 3] (by decide) rfl
        have hFc := va_free (wc := [(b_o, .inr (12, [.int u_th, .int u_sa, .ref b_rf, .ref b_ro, .ref b_im, .ref b_ke, .int u_fd, .ref b_tp, .int u_td, .int u_fr, .int u_to, .int u_so, .long u_wo, .int u_fa, .int u_bd, .int u_nc, .ref b_nl, .int u_co, .ref b_op, .ref b_ar, .int u_le, .ref b_pi, .ref b_pa, .int u_pd, .int u_od, .ref b_ws, .ref b_hw, .int z6, .ref b_se, .ref b_re, .int z7, .long z8, .long z9, .int u_ce, .int u_ho, .int u_wy, .int u_bt, .int u_ps, .ref b_pt, .int u_tg, .int u_sn, .ref b_ip, .int u_ic, .ref b_ah, .ref b_be, .ref b_me, .int u_wd, .ref b_tr, .ref b_ld, .long u_st, .ref b_wn, .int u_id])), (b_ro, .inl (G.2 0, 5740, .inl v_ro)), (b_se, .inl (G.2 1, 13, .inr (.inl z10))), (b_re, .inl (G.2 1, 400, .inr (.inl z11)))]) hD hS hA [0, 1, 2, 3] rfl
        refine va_calli (va_runV (As := [.int 0, .int p_1, .int (-1), .int p_3, .int 23]) (rest := []) ⟨hx, hb, hml, hown, hts⟩ (n_asks l G b_o b_ro b_se b_re b_rf b_im b_ke b_tp b_nl b_op b_ar b_pi b_pa b_ws b_hw b_pt b_ip b_ah b_be b_me b_tr b_ld b_wn H.size u_th u_sa u_fd u_td u_fr u_to u_so u_fa u_bd u_nc u_co u_le u_pd u_od z6 z7 u_ce u_ho u_wy u_bt u_ps u_tg u_sn u_ic u_wd u_id 0 p_1 (-1) p_3 23 u_wo z8 z9 u_st v_ro z10 z11 ⟨by omega, by omega⟩ ⟨by omega, by omega⟩ ⟨by omega, by omega⟩ ⟨by omega, by omega⟩ ⟨by omega, by omega⟩ ⟨by omega, by omega⟩ ⟨by omega, by omega⟩ ⟨by omega, by omega⟩ ⟨by omega, by omega⟩ ⟨by omega, by omega⟩ ⟨by omega, by omega⟩ ⟨by omega, by omega⟩ ⟨by omega, by omega⟩ ⟨by omega, by omega⟩ ⟨by omega, by omega⟩ ⟨by omega, by omega⟩ ⟨by omega, by omega⟩ ⟨by decide, by decide⟩ (r_ro) (by have zk : (23 : Int32).toInt = 23 := (by decide); omega)) (cwV 5 hts gV_X12_383 rfl rfl rfl hv_X12_asks ⟨Nat.le_of_ble_eq_true rfl, Nat.le_of_ble_eq_true rfl⟩) (g5_preV hPc hK hDc hN hT hS hFc (ci := 12) (q0 := 0) rfl rfl) rfl rfl hl.1 rfl (lv_room (Nat.le_of_ble_eq_true rfl)) dX12_turns_42 ⟨Nat.le_of_ble_eq_true rfl, Nat.le_of_ble_eq_true rfl⟩) hS (fun q _ h => hFc q h) hFc (fun r u t H1 locs ht hvm hw hB hz1 hk1 hS => ?_)
        obtain ⟨hP1, hD1⟩ := hB
        rw [ht] at hP1
        obtain ⟨z18, z19, z20, z21, z22, z23, z24, i_15, i_16, i_17, y25, rfl⟩ := hw
        have i_15 : 0 ≤ z19.toInt ∧ z19.toInt ≤ 4840 := i_15
        have i_16 : 0 ≤ z20.toInt ∧ z20.toInt ≤ 1 := i_16
        have i_17 : 0 ≤ z18.toInt ∧ z18.toInt ≤ (23 : Int32).toInt := i_17
        obtain ⟨hP, hD⟩ := va_join (wr := []) (w1 := [(b_o, .inr (12, [.int u_th, .int u_sa, .ref b_rf, .ref b_ro, .ref b_im, .ref b_ke, .int u_fd, .ref b_tp, .int u_td, .int u_fr, .int u_to, .int u_so, .long u_wo, .int u_fa, .int u_bd, .int u_nc, .ref b_nl, .int u_co, .ref b_op, .ref b_ar, .int u_le, .ref b_pi, .ref b_pa, .int u_pd, .int u_od, .ref b_ws, .ref b_hw, .int z19, .ref b_se, .ref b_re, .int z20, .long z21, .long z22, .int u_ce, .int u_ho, .int u_wy, .int u_bt, .int u_ps, .ref b_pt, .int u_tg, .int u_sn, .ref b_ip, .int u_ic, .ref b_ah, .ref b_be, .ref b_me, .int u_wd, .ref b_tr, .ref b_ld, .long u_st, .ref b_wn, .int u_id])), (b_ro, .inl (G.2 0, 5740, .inl v_ro)), (b_se, .inl (G.2 1, 13, .inr (.inl z23))), (b_re, .inl (G.2 1, 400, .inr (.inl z24)))]) hP hD [0, 1, 2, 3] [] rfl rfl (by decide) (by decide) hk1 hFc hP1 hD1
        generalize H1 = H at hP hS ⊢
        have hP : va_P G.1 vwCl [(b_o, .inr (12, [.int u_th, .int u_sa, .ref b_rf, .ref b_ro, .ref b_im, .ref b_ke, .int u_fd, .ref b_tp, .int u_td, .int u_fr, .int u_to, .int u_so, .long u_wo, .int u_fa, .int u_bd, .int u_nc, .ref b_nl, .int u_co, .ref b_op, .ref b_ar, .int u_le, .ref b_pi, .ref b_pa, .int u_pd, .int u_od, .ref b_ws, .ref b_hw, .int z19, .ref b_se, .ref b_re, .int z20, .long z21, .long z22, .int u_ce, .int u_ho, .int u_wy, .int u_bt, .int u_ps, .ref b_pt, .int u_tg, .int u_sn, .ref b_ip, .int u_ic, .ref b_ah, .ref b_be, .ref b_me, .int u_wd, .ref b_tr, .ref b_ld, .long u_st, .ref b_wn, .int u_id])), (b_ro, .inl (G.2 0, 5740, .inl v_ro)), (b_se, .inl (G.2 1, 13, .inr (.inl z23))), (b_re, .inl (G.2 1, 400, .inr (.inl z24)))] H := hP
        have hD : va_D A [(b_o, .inr (12, [.int u_th, .int u_sa, .ref b_rf, .ref b_ro, .ref b_im, .ref b_ke, .int u_fd, .ref b_tp, .int u_td, .int u_fr, .int u_to, .int u_so, .long u_wo, .int u_fa, .int u_bd, .int u_nc, .ref b_nl, .int u_co, .ref b_op, .ref b_ar, .int u_le, .ref b_pi, .ref b_pa, .int u_pd, .int u_od, .ref b_ws, .ref b_hw, .int z19, .ref b_se, .ref b_re, .int z20, .long z21, .long z22, .int u_ce, .int u_ho, .int u_wy, .int u_bt, .int u_ps, .ref b_pt, .int u_tg, .int u_sn, .ref b_ip, .int u_ic, .ref b_ah, .ref b_be, .ref b_me, .int u_wd, .ref b_tr, .ref b_ld, .long u_st, .ref b_wn, .int u_id])), (b_ro, .inl (G.2 0, 5740, .inl v_ro)), (b_se, .inl (G.2 1, 13, .inr (.inl z23))), (b_re, .inl (G.2 1, 400, .inr (.inl z24)))] := hD
        refine g5_ti (v := z18) y25 ?_
        refine lv_istore (lv' := [(6, .int z18), (0, .ref b_o), (1, .int p_1), (2, .int p_2), (3, .int p_3), (4, .int p_4), (5, .int p_5)]) hx hb dX12_turns_45 hl (by decide) rfl (fun ls hl => ?_)
        refine lv_aload_n hx hb dX12_turns_47 rfl (lv_at hl 1 rfl) ?_
        refine lv_iconst (v := 1) hx hb dX12_turns_48 (by decide) ?_
        refine lv_iload_n hx hb dX12_turns_49 rfl (lv_at hl 2 rfl) ?_
        refine lv_iconst (v := (-1)) hx hb dX12_turns_50 (by decide) ?_
        refine lv_iload hx hb dX12_turns_51 (lv_at hl 5 rfl) ?_
        refine lv_bipush (v := 10) hx hb dX12_turns_53 (by decide) ?_
        have hPc := hP.sub (ws' := [(b_o, .inr (12, [.int u_th, .int u_sa, .ref b_rf, .ref b_ro, .ref b_im, .ref b_ke, .int u_fd, .ref b_tp, .int u_td, .int u_fr, .int u_to, .int u_so, .long u_wo, .int u_fa, .int u_bd, .int u_nc, .ref b_nl, .int u_co, .ref b_op, .ref b_ar, .int u_le, .ref b_pi, .ref b_pa, .int u_pd, .int u_od, .ref b_ws, .ref b_hw, .int z19, .ref b_se, .ref b_re, .int z20, .long z21, .long z22, .int u_ce, .int u_ho, .int u_wy, .int u_bt, .int u_ps, .ref b_pt, .int u_tg, .int u_sn, .ref b_ip, .int u_ic, .ref b_ah, .ref b_be, .ref b_me, .int u_wd, .ref b_tr, .ref b_ld, .long u_st, .ref b_wn, .int u_id])), (b_ro, .inl (G.2 0, 5740, .inl v_ro)), (b_se, .inl (G.2 1, 13, .inr (.inl z23))), (b_re, .inl (G.2 1, 400, .inr (.inl z24)))]) [0, 1, 2, 3] rfl
        have hDc := hD.sub (ws' := [(b_o, .inr (12, [.int u_th, .int u_sa, .ref b_rf, .ref b_ro, .ref b_im, .ref b_ke, .int u_fd, .ref b_tp, .int u_td, .int u_fr, .int u_to, .int u_so, .long u_wo, .int u_fa, .int u_bd, .int u_nc, .ref b_nl, .int u_co, .ref b_op, .ref b_ar, .int u_le, .ref b_pi, .ref b_pa, .int u_pd, .int u_od, .ref b_ws, .ref b_hw, .int z19, .ref b_se, .ref b_re, .int z20, .long z21, .long z22, .int u_ce, .int u_ho, .int u_wy, .int u_bt, .int u_ps, .ref b_pt, .int u_tg, .int u_sn, .ref b_ip, .int u_ic, .ref b_ah, .ref b_be, .ref b_me, .int u_wd, .ref b_tr, .ref b_ld, .long u_st, .ref b_wn, .int u_id])), (b_ro, .inl (G.2 0, 5740, .inl v_ro)), (b_se, .inl (G.2 1, 13, .inr (.inl z23))), (b_re, .inl (G.2 1, 400, .inr (.inl z24)))]) [0, 1, 2, 3] (by decide) rfl
        have hFc := va_free (wc := [(b_o, .inr (12, [.int u_th, .int u_sa, .ref b_rf, .ref b_ro, .ref b_im, .ref b_ke, .int u_fd, .ref b_tp, .int u_td, .int u_fr, .int u_to, .int u_so, .long u_wo, .int u_fa, .int u_bd, .int u_nc, .ref b_nl, .int u_co, .ref b_op, .ref b_ar, .int u_le, .ref b_pi, .ref b_pa, .int u_pd, .int u_od, .ref b_ws, .ref b_hw, .int z19, .ref b_se, .ref b_re, .int z20, .long z21, .long z22, .int u_ce, .int u_ho, .int u_wy, .int u_bt, .int u_ps, .ref b_pt, .int u_tg, .int u_sn, .ref b_ip, .int u_ic, .ref b_ah, .ref b_be, .ref b_me, .int u_wd, .ref b_tr, .ref b_ld, .long u_st, .ref b_wn, .int u_id])), (b_ro, .inl (G.2 0, 5740, .inl v_ro)), (b_se, .inl (G.2 1, 13, .inr (.inl z23))), (b_re, .inl (G.2 1, 400, .inr (.inl z24)))]) hD hS hA [0, 1, 2, 3] rfl
        refine va_calli (va_runV (As := [.int 1, .int p_1, .int (-1), .int p_4, .int 10]) (rest := []) ⟨hx, hb, hml, hown, hts⟩ (n_asks l G b_o b_ro b_se b_re b_rf b_im b_ke b_tp b_nl b_op b_ar b_pi b_pa b_ws b_hw b_pt b_ip b_ah b_be b_me b_tr b_ld b_wn H.size u_th u_sa u_fd u_td u_fr u_to u_so u_fa u_bd u_nc u_co u_le u_pd u_od z19 z20 u_ce u_ho u_wy u_bt u_ps u_tg u_sn u_ic u_wd u_id 1 p_1 (-1) p_4 10 u_wo z21 z22 u_st v_ro z23 z24 ⟨by omega, by omega⟩ ⟨by omega, by omega⟩ ⟨by omega, by omega⟩ ⟨by omega, by omega⟩ ⟨by omega, by omega⟩ ⟨by omega, by omega⟩ ⟨by omega, by omega⟩ ⟨by omega, by omega⟩ ⟨by omega, by omega⟩ ⟨by omega, by omega⟩ ⟨by omega, by omega⟩ ⟨by omega, by omega⟩ ⟨by omega, by omega⟩ ⟨by omega, by omega⟩ ⟨by omega, by omega⟩ ⟨by omega, by omega⟩ ⟨by omega, by omega⟩ ⟨by decide, by decide⟩ (r_ro) (by have zk : (10 : Int32).toInt = 10 := (by decide); omega)) (cwV 5 hts gV_X12_383 rfl rfl rfl hv_X12_asks ⟨Nat.le_of_ble_eq_true rfl, Nat.le_of_ble_eq_true rfl⟩) (g5_preV hPc hK hDc hN hT hS hFc (ci := 12) (q0 := 0) rfl rfl) rfl rfl hl.1 rfl (lv_room (Nat.le_of_ble_eq_true rfl)) dX12_turns_55 ⟨Nat.le_of_ble_eq_true rfl, Nat.le_of_ble_eq_true rfl⟩) hS (fun q _ h => hFc q h) hFc (fun r u t H1 locs ht hvm hw hB hz1 hk1 hS => ?_)
        obtain ⟨hP1, hD1⟩ := hB
        rw [ht] at hP1
        obtain ⟨z29, z30, z31, z32, z33, z34, z35, i_26, i_27, i_28, y36, rfl⟩ := hw
        have i_26 : 0 ≤ z30.toInt ∧ z30.toInt ≤ 4840 := i_26
        have i_27 : 0 ≤ z31.toInt ∧ z31.toInt ≤ 1 := i_27
        have i_28 : 0 ≤ z29.toInt ∧ z29.toInt ≤ (10 : Int32).toInt := i_28
        obtain ⟨hP, hD⟩ := va_join (wr := []) (w1 := [(b_o, .inr (12, [.int u_th, .int u_sa, .ref b_rf, .ref b_ro, .ref b_im, .ref b_ke, .int u_fd, .ref b_tp, .int u_td, .int u_fr, .int u_to, .int u_so, .long u_wo, .int u_fa, .int u_bd, .int u_nc, .ref b_nl, .int u_co, .ref b_op, .ref b_ar, .int u_le, .ref b_pi, .ref b_pa, .int u_pd, .int u_od, .ref b_ws, .ref b_hw, .int z30, .ref b_se, .ref b_re, .int z31, .long z32, .long z33, .int u_ce, .int u_ho, .int u_wy, .int u_bt, .int u_ps, .ref b_pt, .int u_tg, .int u_sn, .ref b_ip, .int u_ic, .ref b_ah, .ref b_be, .ref b_me, .int u_wd, .ref b_tr, .ref b_ld, .long u_st, .ref b_wn, .int u_id])), (b_ro, .inl (G.2 0, 5740, .inl v_ro)), (b_se, .inl (G.2 1, 13, .inr (.inl z34))), (b_re, .inl (G.2 1, 400, .inr (.inl z35)))]) hP hD [0, 1, 2, 3] [] rfl rfl (by decide) (by decide) hk1 hFc hP1 hD1
        generalize H1 = H at hP hS ⊢
        have hP : va_P G.1 vwCl [(b_o, .inr (12, [.int u_th, .int u_sa, .ref b_rf, .ref b_ro, .ref b_im, .ref b_ke, .int u_fd, .ref b_tp, .int u_td, .int u_fr, .int u_to, .int u_so, .long u_wo, .int u_fa, .int u_bd, .int u_nc, .ref b_nl, .int u_co, .ref b_op, .ref b_ar, .int u_le, .ref b_pi, .ref b_pa, .int u_pd, .int u_od, .ref b_ws, .ref b_hw, .int z30, .ref b_se, .ref b_re, .int z31, .long z32, .long z33, .int u_ce, .int u_ho, .int u_wy, .int u_bt, .int u_ps, .ref b_pt, .int u_tg, .int u_sn, .ref b_ip, .int u_ic, .ref b_ah, .ref b_be, .ref b_me, .int u_wd, .ref b_tr, .ref b_ld, .long u_st, .ref b_wn, .int u_id])), (b_ro, .inl (G.2 0, 5740, .inl v_ro)), (b_se, .inl (G.2 1, 13, .inr (.inl z34))), (b_re, .inl (G.2 1, 400, .inr (.inl z35)))] H := hP
        have hD : va_D A [(b_o, .inr (12, [.int u_th, .int u_sa, .ref b_rf, .ref b_ro, .ref b_im, .ref b_ke, .int u_fd, .ref b_tp, .int u_td, .int u_fr, .int u_to, .int u_so, .long u_wo, .int u_fa, .int u_bd, .int u_nc, .ref b_nl, .int u_co, .ref b_op, .ref b_ar, .int u_le, .ref b_pi, .ref b_pa, .int u_pd, .int u_od, .ref b_ws, .ref b_hw, .int z30, .ref b_se, .ref b_re, .int z31, .long z32, .long z33, .int u_ce, .int u_ho, .int u_wy, .int u_bt, .int u_ps, .ref b_pt, .int u_tg, .int u_sn, .ref b_ip, .int u_ic, .ref b_ah, .ref b_be, .ref b_me, .int u_wd, .ref b_tr, .ref b_ld, .long u_st, .ref b_wn, .int u_id])), (b_ro, .inl (G.2 0, 5740, .inl v_ro)), (b_se, .inl (G.2 1, 13, .inr (.inl z34))), (b_re, .inl (G.2 1, 400, .inr (.inl z35)))] := hD
        refine g5_ti (v := z29) y36 ?_
        refine lv_istore (lv' := [(7, .int z29), (6, .int z18), (0, .ref b_o), (1, .int p_1), (2, .int p_2), (3, .int p_3), (4, .int p_4), (5, .int p_5)]) hx hb dX12_turns_58 hl (by decide) rfl (fun ls hl => ?_)
        refine lv_aload_n hx hb dX12_turns_60 rfl (lv_at hl 2 rfl) ?_
        refine va_get (D := G.1) (ci := 12) (v := .int u_ho) (C := RX12) (T := TX12) (N := 52) hx hb hts inG_X12 hown hK hP 0 rfl rfl 34 (by decide) (hts _ fl_X12_352) (fun _ h9 => h9) rfl dX12_turns_61 ?_
        refine lv_iload hx hb dX12_turns_64 (lv_at hl 1 rfl) ?_
        refine lv_icmp_ge (tgt := 71) hx hb dX12_turns_66 (by decide) (fun c_37 => ?_) (fun c_37 => ?_)
        ·
          have i_37 : u_ho.toInt ≥ z18.toInt := by have z := g5_ge (a := u_ho.toInt) (b := z18.toInt) (by rfl) (by rfl) c_37; omega
          refine lv_aload_n hx hb dX12_turns_71 rfl (lv_at hl 2 rfl) ?_
          refine lv_dup hx hb dX12_turns_72 rfl ?_
          refine va_get (D := G.1) (ci := 12) (v := .int u_ho) (C := RX12) (T := TX12) (N := 52) hx hb hts inG_X12 hown hK hP 0 rfl rfl 34 (by decide) (hts _ fl_X12_352) (fun _ h9 => h9) rfl dX12_turns_73 ?_
          refine lv_iload hx hb dX12_turns_76 (lv_at hl 1 rfl) ?_
          refine lv_isub hx hb dX12_turns_78 ?_
          refine va_put (D := G.1) (ci := 12) (v := .int (u_ho - z18)) (ty := .int) (C := RX12) (T := TX12) (N := 52) hx hb hts inG_X12 tyX12 tyX12_ok nmX12 hown hK hP hD hS 0 rfl rfl 34 (by decide) (hts _ fl_X12_352) (fun _ h9 => h9) rfl (by decide +kernel) rfl rfl (Nat.le_of_ble_eq_true rfl) dX12_turns_79 (fun H locs hP hD hS => ?_)
          have hP : va_P G.1 vwCl [(b_o, .inr (12, [.int u_th, .int u_sa, .ref b_rf, .ref b_ro, .ref b_im, .ref b_ke, .int u_fd, .ref b_tp, .int u_td, .int u_fr, .int u_to, .int u_so, .long u_wo, .int u_fa, .int u_bd, .int u_nc, .ref b_nl, .int u_co, .ref b_op, .ref b_ar, .int u_le, .ref b_pi, .ref b_pa, .int u_pd, .int u_od, .ref b_ws, .ref b_hw, .int z30, .ref b_se, .ref b_re, .int z31, .long z32, .long z33, .int u_ce, .int (u_ho - z18), .int u_wy, .int u_bt, .int u_ps, .ref b_pt, .int u_tg, .int u_sn, .ref b_ip, .int u_ic, .ref b_ah, .ref b_be, .ref b_me, .int u_wd, .ref b_tr, .ref b_ld, .long u_st, .ref b_wn, .int u_id])), (b_ro, .inl (G.2 0, 5740, .inl v_ro)), (b_se, .inl (G.2 1, 13, .inr (.inl z34))), (b_re, .inl (G.2 1, 400, .inr (.inl z35)))] H := hP
          have hD : va_D A [(b_o, .inr (12, [.int u_th, .int u_sa, .ref b_rf, .ref b_ro, .ref b_im, .ref b_ke, .int u_fd, .ref b_tp, .int u_td, .int u_fr, .int u_to, .int u_so, .long u_wo, .int u_fa, .int u_bd, .int u_nc, .ref b_nl, .int u_co, .ref b_op, .ref b_ar, .int u_le, .ref b_pi, .ref b_pa, .int u_pd, .int u_od, .ref b_ws, .ref b_hw, .int z30, .ref b_se, .ref b_re, .int z31, .long z32, .long z33, .int u_ce, .int (u_ho - z18), .int u_wy, .int u_bt, .int u_ps, .ref b_pt, .int u_tg, .int u_sn, .ref b_ip, .int u_ic, .ref b_ah, .ref b_be, .ref b_me, .int u_wd, .ref b_tr, .ref b_ld, .long u_st, .ref b_wn, .int u_id])), (b_ro, .inl (G.2 0, 5740, .inl v_ro)), (b_se, .inl (G.2 1, 13, .inr (.inl z34))), (b_re, .inl (G.2 1, 400, .inr (.inl z35)))] := hD
          refine lv_aload_n hx hb dX12_turns_82 rfl (lv_at hl 2 rfl) ?_
          refine lv_aload_n hx hb dX12_turns_83 rfl (lv_at hl 2 rfl) ?_
          refine va_get (D := G.1) (ci := 12) (v := .int u_bt) (C := RX12) (T := TX12) (N := 52) hx hb hts inG_X12 hown hK hP 0 rfl rfl 36 (by decide) (hts _ fl_X12_361) (fun _ h9 => h9) rfl dX12_turns_84 ?_
          refine lv_bipush (v := 10) hx hb dX12_turns_87 (by decide) ?_
          refine lv_iload hx hb dX12_turns_89 (lv_at hl 0 rfl) ?_
          refine lv_isub hx hb dX12_turns_91 ?_
          refine lv_imul hx hb dX12_turns_92 ?_
          refine lv_bipush (v := 10) hx hb dX12_turns_93 (by decide) ?_
          refine lv_idiv hx hb dX12_turns_95 (by decide) ?_
          have hb_38 : 0 ≤ ((u_bt * (10 - z29)) / 10).toInt ∧ ((u_bt * (10 - z29)) / 10).toInt ≤ 1000000 := g_dust (by omega) (by omega)
          refine va_put (D := G.1) (ci := 12) (v := .int ((u_bt * (10 - z29)) / 10)) (ty := .int) (C := RX12) (T := TX12) (N := 52) hx hb hts inG_X12 tyX12 tyX12_ok nmX12 hown hK hP hD hS 0 rfl rfl 36 (by decide) (hts _ fl_X12_361) (fun _ h9 => h9) rfl (by decide +kernel) rfl rfl (Nat.le_of_ble_eq_true rfl) dX12_turns_96 (fun H locs hP hD hS => ?_)
          have hP : va_P G.1 vwCl [(b_o, .inr (12, [.int u_th, .int u_sa, .ref b_rf, .ref b_ro, .ref b_im, .ref b_ke, .int u_fd, .ref b_tp, .int u_td, .int u_fr, .int u_to, .int u_so, .long u_wo, .int u_fa, .int u_bd, .int u_nc, .ref b_nl, .int u_co, .ref b_op, .ref b_ar, .int u_le, .ref b_pi, .ref b_pa, .int u_pd, .int u_od, .ref b_ws, .ref b_hw, .int z30, .ref b_se, .ref b_re, .int z31, .long z32, .long z33, .int u_ce, .int (u_ho - z18), .int u_wy, .int ((u_bt * (10 - z29)) / 10), .int u_ps, .ref b_pt, .int u_tg, .int u_sn, .ref b_ip, .int u_ic, .ref b_ah, .ref b_be, .ref b_me, .int u_wd, .ref b_tr, .ref b_ld, .long u_st, .ref b_wn, .int u_id])), (b_ro, .inl (G.2 0, 5740, .inl v_ro)), (b_se, .inl (G.2 1, 13, .inr (.inl z34))), (b_re, .inl (G.2 1, 400, .inr (.inl z35)))] H := hP
          have hD : va_D A [(b_o, .inr (12, [.int u_th, .int u_sa, .ref b_rf, .ref b_ro, .ref b_im, .ref b_ke, .int u_fd, .ref b_tp, .int u_td, .int u_fr, .int u_to, .int u_so, .long u_wo, .int u_fa, .int u_bd, .int u_nc, .ref b_nl, .int u_co, .ref b_op, .ref b_ar, .int u_le, .ref b_pi, .ref b_pa, .int u_pd, .int u_od, .ref b_ws, .ref b_hw, .int z30, .ref b_se, .ref b_re, .int z31, .long z32, .long z33, .int u_ce, .int (u_ho - z18), .int u_wy, .int ((u_bt * (10 - z29)) / 10), .int u_ps, .ref b_pt, .int u_tg, .int u_sn, .ref b_ip, .int u_ic, .ref b_ah, .ref b_be, .ref b_me, .int u_wd, .ref b_tr, .ref b_ld, .long u_st, .ref b_wn, .int u_id])), (b_ro, .inl (G.2 0, 5740, .inl v_ro)), (b_se, .inl (G.2 1, 13, .inr (.inl z34))), (b_re, .inl (G.2 1, 400, .inr (.inl z35)))] := hD
          refine lv_aload_n hx hb dX12_turns_99 rfl (lv_at hl 2 rfl) ?_
          refine va_get (D := G.1) (ci := 12) (v := .int ((u_bt * (10 - z29)) / 10)) (C := RX12) (T := TX12) (N := 52) hx hb hts inG_X12 hown hK hP 0 rfl rfl 36 (by decide) (hts _ fl_X12_361) (fun _ h9 => h9) rfl dX12_turns_100 ?_
          refine lv_aload_n hx hb dX12_turns_103 rfl (lv_at hl 2 rfl) ?_
          refine va_get (D := G.1) (ci := 12) (v := .ref b_ro) (C := RX12) (T := TX12) (N := 52) hx hb hts inG_X12 hown hK hP 0 rfl rfl 3 (by decide) (hts _ fl_X12_13) (fun _ h9 => h9) rfl dX12_turns_104 ?_
          refine lv_iconst (v := 4) hx hb dX12_turns_107 (by decide) ?_
          refine va_iald hx hb hK hP 1 0 rfl rfl (i := 4) (by unfold vp_in; decide) dX12_turns_108 ?_
          refine g5_ti (v := (v_ro 4)) rfl ?_
          refine lv_icmp_ge (tgt := 114) hx hb dX12_turns_109 (by decide) (fun c_39 => ?_) (fun c_39 => ?_)
          ·
            have i_39 : ((u_bt * (10 - z29)) / 10).toInt ≥ (v_ro 4).toInt := by have z := g5_ge (a := ((u_bt * (10 - z29)) / 10).toInt) (b := (v_ro 4).toInt) (by rfl) (by rfl) c_39; omega
            refine lv_aload_n hx hb dX12_turns_114 rfl (lv_at hl 2 rfl) ?_
            refine lv_iload_n hx hb dX12_turns_115 rfl (lv_at hl 4 rfl) ?_
            refine lv_if_ne (tgt := 128) hx hb dX12_turns_116 (by decide) (fun c_40 => ?_) (fun c_40 => ?_)
            ·
              have n_40 : gNe (p_2.toInt) (0) := by have z := g5_ne (a := p_2.toInt) (b := 0) (by rfl) (by decide) c_40; unfold gNe; omega
              have i_40 : p_2.toInt ≥ 1 := by have z := g5_ne (a := p_2.toInt) (b := 0) (by rfl) (by decide) c_40; omega
              refine lv_iload_n hx hb dX12_turns_128 rfl (lv_at hl 4 rfl) ?_
              refine lv_iconst (v := 1) hx hb dX12_turns_129 (by decide) ?_
              refine lv_icmp_ne (tgt := 142) hx hb dX12_turns_130 (by decide) (fun c_41 => ?_) (fun c_41 => ?_)
              ·
                have i_41 : p_2.toInt ≠ 1 := by have z := g5_ne (a := p_2.toInt) (b := 1) (by rfl) (by decide) c_41; omega
                omega
              ·
                have i_41 : p_2.toInt = 1 := by have z := g5_neN (a := p_2.toInt) (b := 1) (by rfl) (by decide) c_41; omega
                refine lv_iconst (v := 3) hx hb dX12_turns_133 (by decide) ?_
                refine lv_aload_n hx hb dX12_turns_134 rfl (lv_at hl 2 rfl) ?_
                refine va_get (D := G.1) (ci := 12) (v := .int u_wy) (C := RX12) (T := TX12) (N := 52) hx hb hts inG_X12 hown hK hP 0 rfl rfl 35 (by decide) (hts _ fl_X12_355) (fun _ h9 => h9) rfl dX12_turns_135 ?_
                refine lv_isub hx hb dX12_turns_138 ?_
                have t_42 : (3 - u_wy).toInt = 3 - u_wy.toInt := g5_isub (a := 3) (b := u_wy.toInt) (by decide) (by rfl) (by omega) (by omega)
                refine lv_goto (tgt := 150) hx hb dX12_turns_139 (by decide) ?_
                refine va_put (D := G.1) (ci := 12) (v := .int (3 - u_wy)) (ty := .int) (C := RX12) (T := TX12) (N := 52) hx hb hts inG_X12 tyX12 tyX12_ok nmX12 hown hK hP hD hS 0 rfl rfl 35 (by decide) (hts _ fl_X12_355) (fun _ h9 => h9) rfl (by decide +kernel) rfl rfl (Nat.le_of_ble_eq_true rfl) dX12_turns_150 (fun H locs hP hD hS => ?_)
                have hP : va_P G.1 vwCl [(b_o, .inr (12, [.int u_th, .int u_sa, .ref b_rf, .ref b_ro, .ref b_im, .ref b_ke, .int u_fd, .ref b_tp, .int u_td, .int u_fr, .int u_to, .int u_so, .long u_wo, .int u_fa, .int u_bd, .int u_nc, .ref b_nl, .int u_co, .ref b_op, .ref b_ar, .int u_le, .ref b_pi, .ref b_pa, .int u_pd, .int u_od, .ref b_ws, .ref b_hw, .int z30, .ref b_se, .ref b_re, .int z31, .long z32, .long z33, .int u_ce, .int (u_ho - z18), .int (3 - u_wy), .int ((u_bt * (10 - z29)) / 10), .int u_ps, .ref b_pt, .int u_tg, .int u_sn, .ref b_ip, .int u_ic, .ref b_ah, .ref b_be, .ref b_me, .int u_wd, .ref b_tr, .ref b_ld, .long u_st, .ref b_wn, .int u_id])), (b_ro, .inl (G.2 0, 5740, .inl v_ro)), (b_se, .inl (G.2 1, 13, .inr (.inl z34))), (b_re, .inl (G.2 1, 400, .inr (.inl z35)))] H := hP
                have hD : va_D A [(b_o, .inr (12, [.int u_th, .int u_sa, .ref b_rf, .ref b_ro, .ref b_im, .ref b_ke, .int u_fd, .ref b_tp, .int u_td, .int u_fr, .int u_to, .int u_so, .long u_wo, .int u_fa, .int u_bd, .int u_nc, .ref b_nl, .int u_co, .ref b_op, .ref b_ar, .int u_le, .ref b_pi, .ref b_pa, .int u_pd, .int u_od, .ref b_ws, .ref b_hw, .int z30, .ref b_se, .ref b_re, .int z31, .long z32, .long z33, .int u_ce, .int (u_ho - z18), .int (3 - u_wy), .int ((u_bt * (10 - z29)) / 10), .int u_ps, .ref b_pt, .int u_tg, .int u_sn, .ref b_ip, .int u_ic, .ref b_ah, .ref b_be, .ref b_me, .int u_wd, .ref b_tr, .ref b_ld, .long u_st, .ref b_wn, .int u_id])), (b_ro, .inl (G.2 0, 5740, .inl v_ro)), (b_se, .inl (G.2 1, 13, .inr (.inl z34))), (b_re, .inl (G.2 1, 400, .inr (.inl z35)))] := hD
                refine lv_aload_n hx hb dX12_turns_153 rfl (lv_at hl 2 rfl) ?_
                refine lv_dup hx hb dX12_turns_154 rfl ?_
                refine va_get (D := G.1) (ci := 12) (v := .int u_tg) (C := RX12) (T := TX12) (N := 52) hx hb hts inG_X12 hown hK hP 0 rfl rfl 39 (by decide) (hts _ fl_X12_368) (fun _ h9 => h9) rfl dX12_turns_155 ?_
                refine lv_iconst (v := 1) hx hb dX12_turns_158 (by decide) ?_
                refine lv_iload_n hx hb dX12_turns_159 rfl (lv_at hl 3 rfl) ?_
                refine lv_ishl hx hb dX12_turns_160 ?_
                refine lv_ior hx hb dX12_turns_161 ?_
                refine va_put (D := G.1) (ci := 12) (v := .int (u_tg ||| (1 <<< (p_1 &&& 31)))) (ty := .int) (C := RX12) (T := TX12) (N := 52) hx hb hts inG_X12 tyX12 tyX12_ok nmX12 hown hK hP hD hS 0 rfl rfl 39 (by decide) (hts _ fl_X12_368) (fun _ h9 => h9) rfl (by decide +kernel) rfl rfl (Nat.le_of_ble_eq_true rfl) dX12_turns_162 (fun H locs hP hD hS => ?_)
                have hP : va_P G.1 vwCl [(b_o, .inr (12, [.int u_th, .int u_sa, .ref b_rf, .ref b_ro, .ref b_im, .ref b_ke, .int u_fd, .ref b_tp, .int u_td, .int u_fr, .int u_to, .int u_so, .long u_wo, .int u_fa, .int u_bd, .int u_nc, .ref b_nl, .int u_co, .ref b_op, .ref b_ar, .int u_le, .ref b_pi, .ref b_pa, .int u_pd, .int u_od, .ref b_ws, .ref b_hw, .int z30, .ref b_se, .ref b_re, .int z31, .long z32, .long z33, .int u_ce, .int (u_ho - z18), .int (3 - u_wy), .int ((u_bt * (10 - z29)) / 10), .int u_ps, .ref b_pt, .int (u_tg ||| (1 <<< (p_1 &&& 31))), .int u_sn, .ref b_ip, .int u_ic, .ref b_ah, .ref b_be, .ref b_me, .int u_wd, .ref b_tr, .ref b_ld, .long u_st, .ref b_wn, .int u_id])), (b_ro, .inl (G.2 0, 5740, .inl v_ro)), (b_se, .inl (G.2 1, 13, .inr (.inl z34))), (b_re, .inl (G.2 1, 400, .inr (.inl z35)))] H := hP
                have hD : va_D A [(b_o, .inr (12, [.int u_th, .int u_sa, .ref b_rf, .ref b_ro, .ref b_im, .ref b_ke, .int u_fd, .ref b_tp, .int u_td, .int u_fr, .int u_to, .int u_so, .long u_wo, .int u_fa, .int u_bd, .int u_nc, .ref b_nl, .int u_co, .ref b_op, .ref b_ar, .int u_le, .ref b_pi, .ref b_pa, .int u_pd, .int u_od, .ref b_ws, .ref b_hw, .int z30, .ref b_se, .ref b_re, .int z31, .long z32, .long z33, .int u_ce, .int (u_ho - z18), .int (3 - u_wy), .int ((u_bt * (10 - z29)) / 10), .int u_ps, .ref b_pt, .int (u_tg ||| (1 <<< (p_1 &&& 31))), .int u_sn, .ref b_ip, .int u_ic, .ref b_ah, .ref b_be, .ref b_me, .int u_wd, .ref b_tr, .ref b_ld, .long u_st, .ref b_wn, .int u_id])), (b_ro, .inl (G.2 0, 5740, .inl v_ro)), (b_se, .inl (G.2 1, 13, .inr (.inl z34))), (b_re, .inl (G.2 1, 400, .inr (.inl z35)))] := hD
                refine lv_iconst (v := 1) hx hb dX12_turns_165 (by decide) ?_
                exact W.zret (v := 1) hx hb hr rfl (fun t ht hW => ⟨⟨1, [(b_o, .inr (12, [.int u_th, .int u_sa, .ref b_rf, .ref b_ro, .ref b_im, .ref b_ke, .int u_fd, .ref b_tp, .int u_td, .int u_fr, .int u_to, .int u_so, .long u_wo, .int u_fa, .int u_bd, .int u_nc, .ref b_nl, .int u_co, .ref b_op, .ref b_ar, .int u_le, .ref b_pi, .ref b_pa, .int u_pd, .int u_od, .ref b_ws, .ref b_hw, .int z30, .ref b_se, .ref b_re, .int z31, .long z32, .long z33, .int u_ce, .int (u_ho - z18), .int (3 - u_wy), .int ((u_bt * (10 - z29)) / 10), .int u_ps, .ref b_pt, .int (u_tg ||| (1 <<< (p_1 &&& 31))), .int u_sn, .ref b_ip, .int u_ic, .ref b_ah, .ref b_be, .ref b_me, .int u_wd, .ref b_tr, .ref b_ld, .long u_st, .ref b_wn, .int u_id])), (b_ro, .inl (G.2 0, 5740, .inl v_ro)), (b_se, .inl (G.2 1, 13, .inr (.inl z34))), (b_re, .inl (G.2 1, 400, .inr (.inl z35)))], rfl, ⟨1, z30, z31, z32, z33, (u_ho - z18), (3 - u_wy), ((u_bt * (10 - z29)) / 10), (u_tg ||| (1 <<< (p_1 &&& 31))), z34, z35, ⟨by have zc_o_r : (1 : Int32).toInt = 1 := (by decide); omega, by have zc_o_r : (1 : Int32).toInt = 1 := (by decide); omega⟩, ⟨by omega, by omega⟩, ⟨by omega, by omega⟩, ⟨by omega, by omega⟩, ⟨by omega, by omega⟩, ⟨by omega, by omega⟩, rfl, rfl⟩, by rw [ht]; exact hP.sub [0, 1, 2, 3] rfl, hD.sub [0, 1, 2, 3] (by decide) rfl⟩, hS.F ht⟩) hS.2.2 dX12_turns_166
            ·
              have i_40 : p_2.toInt = 0 := by have z := g5_neN (a := p_2.toInt) (b := 0) (by rfl) (by decide) c_40; omega
              refine lv_aload_n hx hb dX12_turns_119 rfl (lv_at hl 2 rfl) ?_
              refine va_get (D := G.1) (ci := 12) (v := .int u_wy) (C := RX12) (T := TX12) (N := 52) hx hb hts inG_X12 hown hK hP 0 rfl rfl 35 (by decide) (hts _ fl_X12_355) (fun _ h9 => h9) rfl dX12_turns_120 ?_
              refine lv_iconst (v := 1) hx hb dX12_turns_123 (by decide) ?_
              refine lv_ixor hx hb dX12_turns_124 ?_
              have hx_43 := (g_xor (w := u_wy) (by omega) (by omega)).1
              refine lv_goto (tgt := 150) hx hb dX12_turns_125 (by decide) ?_
              refine va_put (D := G.1) (ci := 12) (v := .int (u_wy ^^^ 1)) (ty := .int) (C := RX12) (T := TX12) (N := 52) hx hb hts inG_X12 tyX12 tyX12_ok nmX12 hown hK hP hD hS 0 rfl rfl 35 (by decide) (hts _ fl_X12_355) (fun _ h9 => h9) rfl (by decide +kernel) rfl rfl (Nat.le_of_ble_eq_true rfl) dX12_turns_150 (fun H locs hP hD hS => ?_)
              have hP : va_P G.1 vwCl [(b_o, .inr (12, [.int u_th, .int u_sa, .ref b_rf, .ref b_ro, .ref b_im, .ref b_ke, .int u_fd, .ref b_tp, .int u_td, .int u_fr, .int u_to, .int u_so, .long u_wo, .int u_fa, .int u_bd, .int u_nc, .ref b_nl, .int u_co, .ref b_op, .ref b_ar, .int u_le, .ref b_pi, .ref b_pa, .int u_pd, .int u_od, .ref b_ws, .ref b_hw, .int z30, .ref b_se, .ref b_re, .int z31, .long z32, .long z33, .int u_ce, .int (u_ho - z18), .int (u_wy ^^^ 1), .int ((u_bt * (10 - z29)) / 10), .int u_ps, .ref b_pt, .int u_tg, .int u_sn, .ref b_ip, .int u_ic, .ref b_ah, .ref b_be, .ref b_me, .int u_wd, .ref b_tr, .ref b_ld, .long u_st, .ref b_wn, .int u_id])), (b_ro, .inl (G.2 0, 5740, .inl v_ro)), (b_se, .inl (G.2 1, 13, .inr (.inl z34))), (b_re, .inl (G.2 1, 400, .inr (.inl z35)))] H := hP
              have hD : va_D A [(b_o, .inr (12, [.int u_th, .int u_sa, .ref b_rf, .ref b_ro, .ref b_im, .ref b_ke, .int u_fd, .ref b_tp, .int u_td, .int u_fr, .int u_to, .int u_so, .long u_wo, .int u_fa, .int u_bd, .int u_nc, .ref b_nl, .int u_co, .ref b_op, .ref b_ar, .int u_le, .ref b_pi, .ref b_pa, .int u_pd, .int u_od, .ref b_ws, .ref b_hw, .int z30, .ref b_se, .ref b_re, .int z31, .long z32, .long z33, .int u_ce, .int (u_ho - z18), .int (u_wy ^^^ 1), .int ((u_bt * (10 - z29)) / 10), .int u_ps, .ref b_pt, .int u_tg, .int u_sn, .ref b_ip, .int u_ic, .ref b_ah, .ref b_be, .ref b_me, .int u_wd, .ref b_tr, .ref b_ld, .long u_st, .ref b_wn, .int u_id])), (b_ro, .inl (G.2 0, 5740, .inl v_ro)), (b_se, .inl (G.2 1, 13, .inr (.inl z34))), (b_re, .inl (G.2 1, 400, .inr (.inl z35)))] := hD
              refine lv_aload_n hx hb dX12_turns_153 rfl (lv_at hl 2 rfl) ?_
              refine lv_dup hx hb dX12_turns_154 rfl ?_
              refine va_get (D := G.1) (ci := 12) (v := .int u_tg) (C := RX12) (T := TX12) (N := 52) hx hb hts inG_X12 hown hK hP 0 rfl rfl 39 (by decide) (hts _ fl_X12_368) (fun _ h9 => h9) rfl dX12_turns_155 ?_
              refine lv_iconst (v := 1) hx hb dX12_turns_158 (by decide) ?_
              refine lv_iload_n hx hb dX12_turns_159 rfl (lv_at hl 3 rfl) ?_
              refine lv_ishl hx hb dX12_turns_160 ?_
              refine lv_ior hx hb dX12_turns_161 ?_
              refine va_put (D := G.1) (ci := 12) (v := .int (u_tg ||| (1 <<< (p_1 &&& 31)))) (ty := .int) (C := RX12) (T := TX12) (N := 52) hx hb hts inG_X12 tyX12 tyX12_ok nmX12 hown hK hP hD hS 0 rfl rfl 39 (by decide) (hts _ fl_X12_368) (fun _ h9 => h9) rfl (by decide +kernel) rfl rfl (Nat.le_of_ble_eq_true rfl) dX12_turns_162 (fun H locs hP hD hS => ?_)
              have hP : va_P G.1 vwCl [(b_o, .inr (12, [.int u_th, .int u_sa, .ref b_rf, .ref b_ro, .ref b_im, .ref b_ke, .int u_fd, .ref b_tp, .int u_td, .int u_fr, .int u_to, .int u_so, .long u_wo, .int u_fa, .int u_bd, .int u_nc, .ref b_nl, .int u_co, .ref b_op, .ref b_ar, .int u_le, .ref b_pi, .ref b_pa, .int u_pd, .int u_od, .ref b_ws, .ref b_hw, .int z30, .ref b_se, .ref b_re, .int z31, .long z32, .long z33, .int u_ce, .int (u_ho - z18), .int (u_wy ^^^ 1), .int ((u_bt * (10 - z29)) / 10), .int u_ps, .ref b_pt, .int (u_tg ||| (1 <<< (p_1 &&& 31))), .int u_sn, .ref b_ip, .int u_ic, .ref b_ah, .ref b_be, .ref b_me, .int u_wd, .ref b_tr, .ref b_ld, .long u_st, .ref b_wn, .int u_id])), (b_ro, .inl (G.2 0, 5740, .inl v_ro)), (b_se, .inl (G.2 1, 13, .inr (.inl z34))), (b_re, .inl (G.2 1, 400, .inr (.inl z35)))] H := hP
              have hD : va_D A [(b_o, .inr (12, [.int u_th, .int u_sa, .ref b_rf, .ref b_ro, .ref b_im, .ref b_ke, .int u_fd, .ref b_tp, .int u_td, .int u_fr, .int u_to, .int u_so, .long u_wo, .int u_fa, .int u_bd, .int u_nc, .ref b_nl, .int u_co, .ref b_op, .ref b_ar, .int u_le, .ref b_pi, .ref b_pa, .int u_pd, .int u_od, .ref b_ws, .ref b_hw, .int z30, .ref b_se, .ref b_re, .int z31, .long z32, .long z33, .int u_ce, .int (u_ho - z18), .int (u_wy ^^^ 1), .int ((u_bt * (10 - z29)) / 10), .int u_ps, .ref b_pt, .int (u_tg ||| (1 <<< (p_1 &&& 31))), .int u_sn, .ref b_ip, .int u_ic, .ref b_ah, .ref b_be, .ref b_me, .int u_wd, .ref b_tr, .ref b_ld, .long u_st, .ref b_wn, .int u_id])), (b_ro, .inl (G.2 0, 5740, .inl v_ro)), (b_se, .inl (G.2 1, 13, .inr (.inl z34))), (b_re, .inl (G.2 1, 400, .inr (.inl z35)))] := hD
              refine lv_iconst (v := 1) hx hb dX12_turns_165 (by decide) ?_
              exact W.zret (v := 1) hx hb hr rfl (fun t ht hW => ⟨⟨1, [(b_o, .inr (12, [.int u_th, .int u_sa, .ref b_rf, .ref b_ro, .ref b_im, .ref b_ke, .int u_fd, .ref b_tp, .int u_td, .int u_fr, .int u_to, .int u_so, .long u_wo, .int u_fa, .int u_bd, .int u_nc, .ref b_nl, .int u_co, .ref b_op, .ref b_ar, .int u_le, .ref b_pi, .ref b_pa, .int u_pd, .int u_od, .ref b_ws, .ref b_hw, .int z30, .ref b_se, .ref b_re, .int z31, .long z32, .long z33, .int u_ce, .int (u_ho - z18), .int (u_wy ^^^ 1), .int ((u_bt * (10 - z29)) / 10), .int u_ps, .ref b_pt, .int (u_tg ||| (1 <<< (p_1 &&& 31))), .int u_sn, .ref b_ip, .int u_ic, .ref b_ah, .ref b_be, .ref b_me, .int u_wd, .ref b_tr, .ref b_ld, .long u_st, .ref b_wn, .int u_id])), (b_ro, .inl (G.2 0, 5740, .inl v_ro)), (b_se, .inl (G.2 1, 13, .inr (.inl z34))), (b_re, .inl (G.2 1, 400, .inr (.inl z35)))], rfl, ⟨1, z30, z31, z32, z33, (u_ho - z18), (u_wy ^^^ 1), ((u_bt * (10 - z29)) / 10), (u_tg ||| (1 <<< (p_1 &&& 31))), z34, z35, ⟨by have zc_o_r : (1 : Int32).toInt = 1 := (by decide); omega, by have zc_o_r : (1 : Int32).toInt = 1 := (by decide); omega⟩, ⟨by omega, by omega⟩, ⟨by omega, by omega⟩, ⟨by omega, by omega⟩, ⟨by omega, by omega⟩, ⟨by omega, by omega⟩, rfl, rfl⟩, by rw [ht]; exact hP.sub [0, 1, 2, 3] rfl, hD.sub [0, 1, 2, 3] (by decide) rfl⟩, hS.F ht⟩) hS.2.2 dX12_turns_166
          ·
            have i_39 : ((u_bt * (10 - z29)) / 10).toInt < (v_ro 4).toInt := by have z := g5_geN (a := ((u_bt * (10 - z29)) / 10).toInt) (b := (v_ro 4).toInt) (by rfl) (by rfl) c_39; omega
            refine lv_iconst (v := 0) hx hb dX12_turns_112 (by decide) ?_
            exact W.zret (v := 0) hx hb hr rfl (fun t ht hW => ⟨⟨0, [(b_o, .inr (12, [.int u_th, .int u_sa, .ref b_rf, .ref b_ro, .ref b_im, .ref b_ke, .int u_fd, .ref b_tp, .int u_td, .int u_fr, .int u_to, .int u_so, .long u_wo, .int u_fa, .int u_bd, .int u_nc, .ref b_nl, .int u_co, .ref b_op, .ref b_ar, .int u_le, .ref b_pi, .ref b_pa, .int u_pd, .int u_od, .ref b_ws, .ref b_hw, .int z30, .ref b_se, .ref b_re, .int z31, .long z32, .long z33, .int u_ce, .int (u_ho - z18), .int u_wy, .int ((u_bt * (10 - z29)) / 10), .int u_ps, .ref b_pt, .int u_tg, .int u_sn, .ref b_ip, .int u_ic, .ref b_ah, .ref b_be, .ref b_me, .int u_wd, .ref b_tr, .ref b_ld, .long u_st, .ref b_wn, .int u_id])), (b_ro, .inl (G.2 0, 5740, .inl v_ro)), (b_se, .inl (G.2 1, 13, .inr (.inl z34))), (b_re, .inl (G.2 1, 400, .inr (.inl z35)))], rfl, ⟨0, z30, z31, z32, z33, (u_ho - z18), u_wy, ((u_bt * (10 - z29)) / 10), u_tg, z34, z35, ⟨by have zc_o_r : (0 : Int32).toInt = 0 := (by decide); omega, by have zc_o_r : (0 : Int32).toInt = 0 := (by decide); omega⟩, ⟨by omega, by omega⟩, ⟨by omega, by omega⟩, ⟨by omega, by omega⟩, ⟨by omega, by omega⟩, ⟨by omega, by omega⟩, rfl, rfl⟩, by rw [ht]; exact hP.sub [0, 1, 2, 3] rfl, hD.sub [0, 1, 2, 3] (by decide) rfl⟩, hS.F ht⟩) hS.2.2 dX12_turns_113
        ·
          have i_37 : u_ho.toInt < z18.toInt := by have z := g5_geN (a := u_ho.toInt) (b := z18.toInt) (by rfl) (by rfl) c_37; omega
          refine lv_iconst (v := 0) hx hb dX12_turns_69 (by decide) ?_
          exact W.zret (v := 0) hx hb hr rfl (fun t ht hW => ⟨⟨0, [(b_o, .inr (12, [.int u_th, .int u_sa, .ref b_rf, .ref b_ro, .ref b_im, .ref b_ke, .int u_fd, .ref b_tp, .int u_td, .int u_fr, .int u_to, .int u_so, .long u_wo, .int u_fa, .int u_bd, .int u_nc, .ref b_nl, .int u_co, .ref b_op, .ref b_ar, .int u_le, .ref b_pi, .ref b_pa, .int u_pd, .int u_od, .ref b_ws, .ref b_hw, .int z30, .ref b_se, .ref b_re, .int z31, .long z32, .long z33, .int u_ce, .int u_ho, .int u_wy, .int u_bt, .int u_ps, .ref b_pt, .int u_tg, .int u_sn, .ref b_ip, .int u_ic, .ref b_ah, .ref b_be, .ref b_me, .int u_wd, .ref b_tr, .ref b_ld, .long u_st, .ref b_wn, .int u_id])), (b_ro, .inl (G.2 0, 5740, .inl v_ro)), (b_se, .inl (G.2 1, 13, .inr (.inl z34))), (b_re, .inl (G.2 1, 400, .inr (.inl z35)))], rfl, ⟨0, z30, z31, z32, z33, u_ho, u_wy, u_bt, u_tg, z34, z35, ⟨by have zc_o_r : (0 : Int32).toInt = 0 := (by decide); omega, by have zc_o_r : (0 : Int32).toInt = 0 := (by decide); omega⟩, ⟨by omega, by omega⟩, ⟨by omega, by omega⟩, ⟨by omega, by omega⟩, ⟨by omega, by omega⟩, ⟨by omega, by omega⟩, rfl, rfl⟩, by rw [ht]; exact hP.sub [0, 1, 2, 3] rfl, hD.sub [0, 1, 2, 3] (by decide) rfl⟩, hS.F ht⟩) hS.2.2 dX12_turns_70
      ·
        have i_14 : p_2.toInt > 1 := by have z := g5_leN (a := p_2.toInt) (b := 1) (by rfl) (by decide) c_14; omega
        refine lv_aload_n hx hb dX12_turns_23 rfl (lv_at hl 0 rfl) ?_
        refine va_get (D := G.1) (ci := 12) (v := .int u_wy) (C := RX12) (T := TX12) (N := 52) hx hb hts inG_X12 hown hK hP 0 rfl rfl 35 (by decide) (hts _ fl_X12_355) (fun _ h9 => h9) rfl dX12_turns_24 ?_
        refine lv_iload_n hx hb dX12_turns_27 rfl (lv_at hl 2 rfl) ?_
        refine lv_iconst (v := 4) hx hb dX12_turns_28 (by decide) ?_
        refine lv_irem hx hb dX12_turns_29 (by decide) ?_
        have t_44 : (p_2 - p_2 / 4 * 4).toInt = p_2.toInt % 4 := g5_irem (a := p_2.toInt) (b := 4) rfl (by decide) (by omega) (by decide)
        refine lv_icmp_eq (tgt := 35) hx hb dX12_turns_30 (by decide) (fun c_45 => ?_) (fun c_45 => ?_)
        ·
          have i_45 : u_wy.toInt = (p_2.toInt % 4) := by have z := g5_eq (a := u_wy.toInt) (b := (p_2 - p_2 / 4 * 4).toInt) (by rfl) (by rfl) c_45; omega
          refine lv_aload_n hx hb dX12_turns_35 rfl (lv_at hl 0 rfl) ?_
          refine lv_iconst (v := 0) hx hb dX12_turns_36 (by decide) ?_
          refine lv_iload_n hx hb dX12_turns_37 rfl (lv_at hl 1 rfl) ?_
          refine lv_iconst (v := (-1)) hx hb dX12_turns_38 (by decide) ?_
          refine lv_iload_n hx hb dX12_turns_39 rfl (lv_at hl 3 rfl) ?_
          refine lv_bipush (v := 23) hx hb dX12_turns_40 (by decide) ?_
          have hPc := hP.sub (ws' := [(b_o, .inr (12, [.int u_th, .int u_sa, .ref b_rf, .ref b_ro, .ref b_im, .ref b_ke, .int u_fd, .ref b_tp, .int u_td, .int u_fr, .int u_to, .int u_so, .long u_wo, .int u_fa, .int u_bd, .int u_nc, .ref b_nl, .int u_co, .ref b_op, .ref b_ar, .int u_le, .ref b_pi, .ref b_pa, .int u_pd, .int u_od, .ref b_ws, .ref b_hw, .int z6, .ref b_se, .ref b_re, .int z7, .long z8, .long z9, .int u_ce, .int u_ho, .int u_wy, .int u_bt, .int u_ps, .ref b_pt, .int u_tg, .int u_sn, .ref b_ip, .int u_ic, .ref b_ah, .ref b_be, .ref b_me, .int u_wd, .ref b_tr, .ref b_ld, .long u_st, .ref b_wn, .int u_id])), (b_ro, .inl (G.2 0, 5740, .inl v_ro)), (b_se, .inl (G.2 1, 13, .inr (.inl z10))), (b_re, .inl (G.2 1, 400, .inr (.inl z11)))]) [0, 1, 2, 3] rfl
          have hDc := hD.sub (ws' := [(b_o, .inr (12, [.int u_th, .int u_sa, .ref b_rf, .ref b_ro, .ref b_im, .ref b_ke, .int u_fd, .ref b_tp, .int u_td, .int u_fr, .int u_to, .int u_so, .long u_wo, .int u_fa, .int u_bd, .int u_nc, .ref b_nl, .int u_co, .ref b_op, .ref b_ar, .int u_le, .ref b_pi, .ref b_pa, .int u_pd, .int u_od, .ref b_ws, .ref b_hw, .int z6, .ref b_se, .ref b_re, .int z7, .long z8, .long z9, .int u_ce, .int u_ho, .int u_wy, .int u_bt, .int u_ps, .ref b_pt, .int u_tg, .int u_sn, .ref b_ip, .int u_ic, .ref b_ah, .ref b_be, .ref b_me, .int u_wd, .ref b_tr, .ref b_ld, .long u_st, .ref b_wn, .int u_id])), (b_ro, .inl (G.2 0, 5740, .inl v_ro)), (b_se, .inl (G.2 1, 13, .inr (.inl z10))), (b_re, .inl (G.2 1, 400, .inr (.inl z11)))]) [0, 1, 2, 3] (by decide) rfl
          have hFc := va_free (wc := [(b_o, .inr (12, [.int u_th, .int u_sa, .ref b_rf, .ref b_ro, .ref b_im, .ref b_ke, .int u_fd, .ref b_tp, .int u_td, .int u_fr, .int u_to, .int u_so, .long u_wo, .int u_fa, .int u_bd, .int u_nc, .ref b_nl, .int u_co, .ref b_op, .ref b_ar, .int u_le, .ref b_pi, .ref b_pa, .int u_pd, .int u_od, .ref b_ws, .ref b_hw, .int z6, .ref b_se, .ref b_re, .int z7, .long z8, .long z9, .int u_ce, .int u_ho, .int u_wy, .int u_bt, .int u_ps, .ref b_pt, .int u_tg, .int u_sn, .ref b_ip, .int u_ic, .ref b_ah, .ref b_be, .ref b_me, .int u_wd, .ref b_tr, .ref b_ld, .long u_st, .ref b_wn, .int u_id])), (b_ro, .inl (G.2 0, 5740, .inl v_ro)), (b_se, .inl (G.2 1, 13, .inr (.inl z10))), (b_re, .inl (G.2 1, 400, .inr (.inl z11)))]) hD hS hA [0, 1, 2, 3] rfl
          refine va_calli (va_runV (As := [.int 0, .int p_1, .int (-1), .int p_3, .int 23]) (rest := []) ⟨hx, hb, hml, hown, hts⟩ (n_asks l G b_o b_ro b_se b_re b_rf b_im b_ke b_tp b_nl b_op b_ar b_pi b_pa b_ws b_hw b_pt b_ip b_ah b_be b_me b_tr b_ld b_wn H.size u_th u_sa u_fd u_td u_fr u_to u_so u_fa u_bd u_nc u_co u_le u_pd u_od z6 z7 u_ce u_ho u_wy u_bt u_ps u_tg u_sn u_ic u_wd u_id 0 p_1 (-1) p_3 23 u_wo z8 z9 u_st v_ro z10 z11 ⟨by omega, by omega⟩ ⟨by omega, by omega⟩ ⟨by omega, by omega⟩ ⟨by omega, by omega⟩ ⟨by omega, by omega⟩ ⟨by omega, by omega⟩ ⟨by omega, by omega⟩ ⟨by omega, by omega⟩ ⟨by omega, by omega⟩ ⟨by omega, by omega⟩ ⟨by omega, by omega⟩ ⟨by omega, by omega⟩ ⟨by omega, by omega⟩ ⟨by omega, by omega⟩ ⟨by omega, by omega⟩ ⟨by omega, by omega⟩ ⟨by omega, by omega⟩ ⟨by decide, by decide⟩ (r_ro) (by have zk : (23 : Int32).toInt = 23 := (by decide); omega)) (cwV 5 hts gV_X12_383 rfl rfl rfl hv_X12_asks ⟨Nat.le_of_ble_eq_true rfl, Nat.le_of_ble_eq_true rfl⟩) (g5_preV hPc hK hDc hN hT hS hFc (ci := 12) (q0 := 0) rfl rfl) rfl rfl hl.1 rfl (lv_room (Nat.le_of_ble_eq_true rfl)) dX12_turns_42 ⟨Nat.le_of_ble_eq_true rfl, Nat.le_of_ble_eq_true rfl⟩) hS (fun q _ h => hFc q h) hFc (fun r u t H1 locs ht hvm hw hB hz1 hk1 hS => ?_)
          obtain ⟨hP1, hD1⟩ := hB
          rw [ht] at hP1
          obtain ⟨z49, z50, z51, z52, z53, z54, z55, i_46, i_47, i_48, y56, rfl⟩ := hw
          have i_46 : 0 ≤ z50.toInt ∧ z50.toInt ≤ 4840 := i_46
          have i_47 : 0 ≤ z51.toInt ∧ z51.toInt ≤ 1 := i_47
          have i_48 : 0 ≤ z49.toInt ∧ z49.toInt ≤ (23 : Int32).toInt := i_48
          obtain ⟨hP, hD⟩ := va_join (wr := []) (w1 := [(b_o, .inr (12, [.int u_th, .int u_sa, .ref b_rf, .ref b_ro, .ref b_im, .ref b_ke, .int u_fd, .ref b_tp, .int u_td, .int u_fr, .int u_to, .int u_so, .long u_wo, .int u_fa, .int u_bd, .int u_nc, .ref b_nl, .int u_co, .ref b_op, .ref b_ar, .int u_le, .ref b_pi, .ref b_pa, .int u_pd, .int u_od, .ref b_ws, .ref b_hw, .int z50, .ref b_se, .ref b_re, .int z51, .long z52, .long z53, .int u_ce, .int u_ho, .int u_wy, .int u_bt, .int u_ps, .ref b_pt, .int u_tg, .int u_sn, .ref b_ip, .int u_ic, .ref b_ah, .ref b_be, .ref b_me, .int u_wd, .ref b_tr, .ref b_ld, .long u_st, .ref b_wn, .int u_id])), (b_ro, .inl (G.2 0, 5740, .inl v_ro)), (b_se, .inl (G.2 1, 13, .inr (.inl z54))), (b_re, .inl (G.2 1, 400, .inr (.inl z55)))]) hP hD [0, 1, 2, 3] [] rfl rfl (by decide) (by decide) hk1 hFc hP1 hD1
          generalize H1 = H at hP hS ⊢
          have hP : va_P G.1 vwCl [(b_o, .inr (12, [.int u_th, .int u_sa, .ref b_rf, .ref b_ro, .ref b_im, .ref b_ke, .int u_fd, .ref b_tp, .int u_td, .int u_fr, .int u_to, .int u_so, .long u_wo, .int u_fa, .int u_bd, .int u_nc, .ref b_nl, .int u_co, .ref b_op, .ref b_ar, .int u_le, .ref b_pi, .ref b_pa, .int u_pd, .int u_od, .ref b_ws, .ref b_hw, .int z50, .ref b_se, .ref b_re, .int z51, .long z52, .long z53, .int u_ce, .int u_ho, .int u_wy, .int u_bt, .int u_ps, .ref b_pt, .int u_tg, .int u_sn, .ref b_ip, .int u_ic, .ref b_ah, .ref b_be, .ref b_me, .int u_wd, .ref b_tr, .ref b_ld, .long u_st, .ref b_wn, .int u_id])), (b_ro, .inl (G.2 0, 5740, .inl v_ro)), (b_se, .inl (G.2 1, 13, .inr (.inl z54))), (b_re, .inl (G.2 1, 400, .inr (.inl z55)))] H := hP
          have hD : va_D A [(b_o, .inr (12, [.int u_th, .int u_sa, .ref b_rf, .ref b_ro, .ref b_im, .ref b_ke, .int u_fd, .ref b_tp, .int u_td, .int u_fr, .int u_to, .int u_so, .long u_wo, .int u_fa, .int u_bd, .int u_nc, .ref b_nl, .int u_co, .ref b_op, .ref b_ar, .int u_le, .ref b_pi, .ref b_pa, .int u_pd, .int u_od, .ref b_ws, .ref b_hw, .int z50, .ref b_se, .ref b_re, .int z51, .long z52, .long z53, .int u_ce, .int u_ho, .int u_wy, .int u_bt, .int u_ps, .ref b_pt, .int u_tg, .int u_sn, .ref b_ip, .int u_ic, .ref b_ah, .ref b_be, .ref b_me, .int u_wd, .ref b_tr, .ref b_ld, .long u_st, .ref b_wn, .int u_id])), (b_ro, .inl (G.2 0, 5740, .inl v_ro)), (b_se, .inl (G.2 1, 13, .inr (.inl z54))), (b_re, .inl (G.2 1, 400, .inr (.inl z55)))] := hD
          refine g5_ti (v := z49) y56 ?_
          refine lv_istore (lv' := [(6, .int z49), (0, .ref b_o), (1, .int p_1), (2, .int p_2), (3, .int p_3), (4, .int p_4), (5, .int p_5)]) hx hb dX12_turns_45 hl (by decide) rfl (fun ls hl => ?_)
          refine lv_aload_n hx hb dX12_turns_47 rfl (lv_at hl 1 rfl) ?_
          refine lv_iconst (v := 1) hx hb dX12_turns_48 (by decide) ?_
          refine lv_iload_n hx hb dX12_turns_49 rfl (lv_at hl 2 rfl) ?_
          refine lv_iconst (v := (-1)) hx hb dX12_turns_50 (by decide) ?_
          refine lv_iload hx hb dX12_turns_51 (lv_at hl 5 rfl) ?_
          refine lv_bipush (v := 10) hx hb dX12_turns_53 (by decide) ?_
          have hPc := hP.sub (ws' := [(b_o, .inr (12, [.int u_th, .int u_sa, .ref b_rf, .ref b_ro, .ref b_im, .ref b_ke, .int u_fd, .ref b_tp, .int u_td, .int u_fr, .int u_to, .int u_so, .long u_wo, .int u_fa, .int u_bd, .int u_nc, .ref b_nl, .int u_co, .ref b_op, .ref b_ar, .int u_le, .ref b_pi, .ref b_pa, .int u_pd, .int u_od, .ref b_ws, .ref b_hw, .int z50, .ref b_se, .ref b_re, .int z51, .long z52, .long z53, .int u_ce, .int u_ho, .int u_wy, .int u_bt, .int u_ps, .ref b_pt, .int u_tg, .int u_sn, .ref b_ip, .int u_ic, .ref b_ah, .ref b_be, .ref b_me, .int u_wd, .ref b_tr, .ref b_ld, .long u_st, .ref b_wn, .int u_id])), (b_ro, .inl (G.2 0, 5740, .inl v_ro)), (b_se, .inl (G.2 1, 13, .inr (.inl z54))), (b_re, .inl (G.2 1, 400, .inr (.inl z55)))]) [0, 1, 2, 3] rfl
          have hDc := hD.sub (ws' := [(b_o, .inr (12, [.int u_th, .int u_sa, .ref b_rf, .ref b_ro, .ref b_im, .ref b_ke, .int u_fd, .ref b_tp, .int u_td, .int u_fr, .int u_to, .int u_so, .long u_wo, .int u_fa, .int u_bd, .int u_nc, .ref b_nl, .int u_co, .ref b_op, .ref b_ar, .int u_le, .ref b_pi, .ref b_pa, .int u_pd, .int u_od, .ref b_ws, .ref b_hw, .int z50, .ref b_se, .ref b_re, .int z51, .long z52, .long z53, .int u_ce, .int u_ho, .int u_wy, .int u_bt, .int u_ps, .ref b_pt, .int u_tg, .int u_sn, .ref b_ip, .int u_ic, .ref b_ah, .ref b_be, .ref b_me, .int u_wd, .ref b_tr, .ref b_ld, .long u_st, .ref b_wn, .int u_id])), (b_ro, .inl (G.2 0, 5740, .inl v_ro)), (b_se, .inl (G.2 1, 13, .inr (.inl z54))), (b_re, .inl (G.2 1, 400, .inr (.inl z55)))]) [0, 1, 2, 3] (by decide) rfl
          have hFc := va_free (wc := [(b_o, .inr (12, [.int u_th, .int u_sa, .ref b_rf, .ref b_ro, .ref b_im, .ref b_ke, .int u_fd, .ref b_tp, .int u_td, .int u_fr, .int u_to, .int u_so, .long u_wo, .int u_fa, .int u_bd, .int u_nc, .ref b_nl, .int u_co, .ref b_op, .ref b_ar, .int u_le, .ref b_pi, .ref b_pa, .int u_pd, .int u_od, .ref b_ws, .ref b_hw, .int z50, .ref b_se, .ref b_re, .int z51, .long z52, .long z53, .int u_ce, .int u_ho, .int u_wy, .int u_bt, .int u_ps, .ref b_pt, .int u_tg, .int u_sn, .ref b_ip, .int u_ic, .ref b_ah, .ref b_be, .ref b_me, .int u_wd, .ref b_tr, .ref b_ld, .long u_st, .ref b_wn, .int u_id])), (b_ro, .inl (G.2 0, 5740, .inl v_ro)), (b_se, .inl (G.2 1, 13, .inr (.inl z54))), (b_re, .inl (G.2 1, 400, .inr (.inl z55)))]) hD hS hA [0, 1, 2, 3] rfl
          refine va_calli (va_runV (As := [.int 1, .int p_1, .int (-1), .int p_4, .int 10]) (rest := []) ⟨hx, hb, hml, hown, hts⟩ (n_asks l G b_o b_ro b_se b_re b_rf b_im b_ke b_tp b_nl b_op b_ar b_pi b_pa b_ws b_hw b_pt b_ip b_ah b_be b_me b_tr b_ld b_wn H.size u_th u_sa u_fd u_td u_fr u_to u_so u_fa u_bd u_nc u_co u_le u_pd u_od z50 z51 u_ce u_ho u_wy u_bt u_ps u_tg u_sn u_ic u_wd u_id 1 p_1 (-1) p_4 10 u_wo z52 z53 u_st v_ro z54 z55 ⟨by omega, by omega⟩ ⟨by omega, by omega⟩ ⟨by omega, by omega⟩ ⟨by omega, by omega⟩ ⟨by omega, by omega⟩ ⟨by omega, by omega⟩ ⟨by omega, by omega⟩ ⟨by omega, by omega⟩ ⟨by omega, by omega⟩ ⟨by omega, by omega⟩ ⟨by omega, by omega⟩ ⟨by omega, by omega⟩ ⟨by omega, by omega⟩ ⟨by omega, by omega⟩ ⟨by omega, by omega⟩ ⟨by omega, by omega⟩ ⟨by omega, by omega⟩ ⟨by decide, by decide⟩ (r_ro) (by have zk : (10 : Int32).toInt = 10 := (by decide); omega)) (cwV 5 hts gV_X12_383 rfl rfl rfl hv_X12_asks ⟨Nat.le_of_ble_eq_true rfl, Nat.le_of_ble_eq_true rfl⟩) (g5_preV hPc hK hDc hN hT hS hFc (ci := 12) (q0 := 0) rfl rfl) rfl rfl hl.1 rfl (lv_room (Nat.le_of_ble_eq_true rfl)) dX12_turns_55 ⟨Nat.le_of_ble_eq_true rfl, Nat.le_of_ble_eq_true rfl⟩) hS (fun q _ h => hFc q h) hFc (fun r u t H1 locs ht hvm hw hB hz1 hk1 hS => ?_)
          obtain ⟨hP1, hD1⟩ := hB
          rw [ht] at hP1
          obtain ⟨z60, z61, z62, z63, z64, z65, z66, i_57, i_58, i_59, y67, rfl⟩ := hw
          have i_57 : 0 ≤ z61.toInt ∧ z61.toInt ≤ 4840 := i_57
          have i_58 : 0 ≤ z62.toInt ∧ z62.toInt ≤ 1 := i_58
          have i_59 : 0 ≤ z60.toInt ∧ z60.toInt ≤ (10 : Int32).toInt := i_59
          obtain ⟨hP, hD⟩ := va_join (wr := []) (w1 := [(b_o, .inr (12, [.int u_th, .int u_sa, .ref b_rf, .ref b_ro, .ref b_im, .ref b_ke, .int u_fd, .ref b_tp, .int u_td, .int u_fr, .int u_to, .int u_so, .long u_wo, .int u_fa, .int u_bd, .int u_nc, .ref b_nl, .int u_co, .ref b_op, .ref b_ar, .int u_le, .ref b_pi, .ref b_pa, .int u_pd, .int u_od, .ref b_ws, .ref b_hw, .int z61, .ref b_se, .ref b_re, .int z62, .long z63, .long z64, .int u_ce, .int u_ho, .int u_wy, .int u_bt, .int u_ps, .ref b_pt, .int u_tg, .int u_sn, .ref b_ip, .int u_ic, .ref b_ah, .ref b_be, .ref b_me, .int u_wd, .ref b_tr, .ref b_ld, .long u_st, .ref b_wn, .int u_id])), (b_ro, .inl (G.2 0, 5740, .inl v_ro)), (b_se, .inl (G.2 1, 13, .inr (.inl z65))), (b_re, .inl (G.2 1, 400, .inr (.inl z66)))]) hP hD [0, 1, 2, 3] [] rfl rfl (by decide) (by decide) hk1 hFc hP1 hD1
          generalize H1 = H at hP hS ⊢
          have hP : va_P G.1 vwCl [(b_o, .inr (12, [.int u_th, .int u_sa, .ref b_rf, .ref b_ro, .ref b_im, .ref b_ke, .int u_fd, .ref b_tp, .int u_td, .int u_fr, .int u_to, .int u_so, .long u_wo, .int u_fa, .int u_bd, .int u_nc, .ref b_nl, .int u_co, .ref b_op, .ref b_ar, .int u_le, .ref b_pi, .ref b_pa, .int u_pd, .int u_od, .ref b_ws, .ref b_hw, .int z61, .ref b_se, .ref b_re, .int z62, .long z63, .long z64, .int u_ce, .int u_ho, .int u_wy, .int u_bt, .int u_ps, .ref b_pt, .int u_tg, .int u_sn, .ref b_ip, .int u_ic, .ref b_ah, .ref b_be, .ref b_me, .int u_wd, .ref b_tr, .ref b_ld, .long u_st, .ref b_wn, .int u_id])), (b_ro, .inl (G.2 0, 5740, .inl v_ro)), (b_se, .inl (G.2 1, 13, .inr (.inl z65))), (b_re, .inl (G.2 1, 400, .inr (.inl z66)))] H := hP
          have hD : va_D A [(b_o, .inr (12, [.int u_th, .int u_sa, .ref b_rf, .ref b_ro, .ref b_im, .ref b_ke, .int u_fd, .ref b_tp, .int u_td, .int u_fr, .int u_to, .int u_so, .long u_wo, .int u_fa, .int u_bd, .int u_nc, .ref b_nl, .int u_co, .ref b_op, .ref b_ar, .int u_le, .ref b_pi, .ref b_pa, .int u_pd, .int u_od, .ref b_ws, .ref b_hw, .int z61, .ref b_se, .ref b_re, .int z62, .long z63, .long z64, .int u_ce, .int u_ho, .int u_wy, .int u_bt, .int u_ps, .ref b_pt, .int u_tg, .int u_sn, .ref b_ip, .int u_ic, .ref b_ah, .ref b_be, .ref b_me, .int u_wd, .ref b_tr, .ref b_ld, .long u_st, .ref b_wn, .int u_id])), (b_ro, .inl (G.2 0, 5740, .inl v_ro)), (b_se, .inl (G.2 1, 13, .inr (.inl z65))), (b_re, .inl (G.2 1, 400, .inr (.inl z66)))] := hD
          refine g5_ti (v := z60) y67 ?_
          refine lv_istore (lv' := [(7, .int z60), (6, .int z49), (0, .ref b_o), (1, .int p_1), (2, .int p_2), (3, .int p_3), (4, .int p_4), (5, .int p_5)]) hx hb dX12_turns_58 hl (by decide) rfl (fun ls hl => ?_)
          refine lv_aload_n hx hb dX12_turns_60 rfl (lv_at hl 2 rfl) ?_
          refine va_get (D := G.1) (ci := 12) (v := .int u_ho) (C := RX12) (T := TX12) (N := 52) hx hb hts inG_X12 hown hK hP 0 rfl rfl 34 (by decide) (hts _ fl_X12_352) (fun _ h9 => h9) rfl dX12_turns_61 ?_
          refine lv_iload hx hb dX12_turns_64 (lv_at hl 1 rfl) ?_
          refine lv_icmp_ge (tgt := 71) hx hb dX12_turns_66 (by decide) (fun c_68 => ?_) (fun c_68 => ?_)
          ·
            have i_68 : u_ho.toInt ≥ z49.toInt := by have z := g5_ge (a := u_ho.toInt) (b := z49.toInt) (by rfl) (by rfl) c_68; omega
            refine lv_aload_n hx hb dX12_turns_71 rfl (lv_at hl 2 rfl) ?_
            refine lv_dup hx hb dX12_turns_72 rfl ?_
            refine va_get (D := G.1) (ci := 12) (v := .int u_ho) (C := RX12) (T := TX12) (N := 52) hx hb hts inG_X12 hown hK hP 0 rfl rfl 34 (by decide) (hts _ fl_X12_352) (fun _ h9 => h9) rfl dX12_turns_73 ?_
            refine lv_iload hx hb dX12_turns_76 (lv_at hl 1 rfl) ?_
            refine lv_isub hx hb dX12_turns_78 ?_
            refine va_put (D := G.1) (ci := 12) (v := .int (u_ho - z49)) (ty := .int) (C := RX12) (T := TX12) (N := 52) hx hb hts inG_X12 tyX12 tyX12_ok nmX12 hown hK hP hD hS 0 rfl rfl 34 (by decide) (hts _ fl_X12_352) (fun _ h9 => h9) rfl (by decide +kernel) rfl rfl (Nat.le_of_ble_eq_true rfl) dX12_turns_79 (fun H locs hP hD hS => ?_)
            have hP : va_P G.1 vwCl [(b_o, .inr (12, [.int u_th, .int u_sa, .ref b_rf, .ref b_ro, .ref b_im, .ref b_ke, .int u_fd, .ref b_tp, .int u_td, .int u_fr, .int u_to, .int u_so, .long u_wo, .int u_fa, .int u_bd, .int u_nc, .ref b_nl, .int u_co, .ref b_op, .ref b_ar, .int u_le, .ref b_pi, .ref b_pa, .int u_pd, .int u_od, .ref b_ws, .ref b_hw, .int z61, .ref b_se, .ref b_re, .int z62, .long z63, .long z64, .int u_ce, .int (u_ho - z49), .int u_wy, .int u_bt, .int u_ps, .ref b_pt, .int u_tg, .int u_sn, .ref b_ip, .int u_ic, .ref b_ah, .ref b_be, .ref b_me, .int u_wd, .ref b_tr, .ref b_ld, .long u_st, .ref b_wn, .int u_id])), (b_ro, .inl (G.2 0, 5740, .inl v_ro)), (b_se, .inl (G.2 1, 13, .inr (.inl z65))), (b_re, .inl (G.2 1, 400, .inr (.inl z66)))] H := hP
            have hD : va_D A [(b_o, .inr (12, [.int u_th, .int u_sa, .ref b_rf, .ref b_ro, .ref b_im, .ref b_ke, .int u_fd, .ref b_tp, .int u_td, .int u_fr, .int u_to, .int u_so, .long u_wo, .int u_fa, .int u_bd, .int u_nc, .ref b_nl, .int u_co, .ref b_op, .ref b_ar, .int u_le, .ref b_pi, .ref b_pa, .int u_pd, .int u_od, .ref b_ws, .ref b_hw, .int z61, .ref b_se, .ref b_re, .int z62, .long z63, .long z64, .int u_ce, .int (u_ho - z49), .int u_wy, .int u_bt, .int u_ps, .ref b_pt, .int u_tg, .int u_sn, .ref b_ip, .int u_ic, .ref b_ah, .ref b_be, .ref b_me, .int u_wd, .ref b_tr, .ref b_ld, .long u_st, .ref b_wn, .int u_id])), (b_ro, .inl (G.2 0, 5740, .inl v_ro)), (b_se, .inl (G.2 1, 13, .inr (.inl z65))), (b_re, .inl (G.2 1, 400, .inr (.inl z66)))] := hD
            refine lv_aload_n hx hb dX12_turns_82 rfl (lv_at hl 2 rfl) ?_
            refine lv_aload_n hx hb dX12_turns_83 rfl (lv_at hl 2 rfl) ?_
            refine va_get (D := G.1) (ci := 12) (v := .int u_bt) (C := RX12) (T := TX12) (N := 52) hx hb hts inG_X12 hown hK hP 0 rfl rfl 36 (by decide) (hts _ fl_X12_361) (fun _ h9 => h9) rfl dX12_turns_84 ?_
            refine lv_bipush (v := 10) hx hb dX12_turns_87 (by decide) ?_
            refine lv_iload hx hb dX12_turns_89 (lv_at hl 0 rfl) ?_
            refine lv_isub hx hb dX12_turns_91 ?_
            refine lv_imul hx hb dX12_turns_92 ?_
            refine lv_bipush (v := 10) hx hb dX12_turns_93 (by decide) ?_
            refine lv_idiv hx hb dX12_turns_95 (by decide) ?_
            have hb_69 : 0 ≤ ((u_bt * (10 - z60)) / 10).toInt ∧ ((u_bt * (10 - z60)) / 10).toInt ≤ 1000000 := g_dust (by omega) (by omega)
            refine va_put (D := G.1) (ci := 12) (v := .int ((u_bt * (10 - z60)) / 10)) (ty := .int) (C := RX12) (T := TX12) (N := 52) hx hb hts inG_X12 tyX12 tyX12_ok nmX12 hown hK hP hD hS 0 rfl rfl 36 (by decide) (hts _ fl_X12_361) (fun _ h9 => h9) rfl (by decide +kernel) rfl rfl (Nat.le_of_ble_eq_true rfl) dX12_turns_96 (fun H locs hP hD hS => ?_)
            have hP : va_P G.1 vwCl [(b_o, .inr (12, [.int u_th, .int u_sa, .ref b_rf, .ref b_ro, .ref b_im, .ref b_ke, .int u_fd, .ref b_tp, .int u_td, .int u_fr, .int u_to, .int u_so, .long u_wo, .int u_fa, .int u_bd, .int u_nc, .ref b_nl, .int u_co, .ref b_op, .ref b_ar, .int u_le, .ref b_pi, .ref b_pa, .int u_pd, .int u_od, .ref b_ws, .ref b_hw, .int z61, .ref b_se, .ref b_re, .int z62, .long z63, .long z64, .int u_ce, .int (u_ho - z49), .int u_wy, .int ((u_bt * (10 - z60)) / 10), .int u_ps, .ref b_pt, .int u_tg, .int u_sn, .ref b_ip, .int u_ic, .ref b_ah, .ref b_be, .ref b_me, .int u_wd, .ref b_tr, .ref b_ld, .long u_st, .ref b_wn, .int u_id])), (b_ro, .inl (G.2 0, 5740, .inl v_ro)), (b_se, .inl (G.2 1, 13, .inr (.inl z65))), (b_re, .inl (G.2 1, 400, .inr (.inl z66)))] H := hP
            have hD : va_D A [(b_o, .inr (12, [.int u_th, .int u_sa, .ref b_rf, .ref b_ro, .ref b_im, .ref b_ke, .int u_fd, .ref b_tp, .int u_td, .int u_fr, .int u_to, .int u_so, .long u_wo, .int u_fa, .int u_bd, .int u_nc, .ref b_nl, .int u_co, .ref b_op, .ref b_ar, .int u_le, .ref b_pi, .ref b_pa, .int u_pd, .int u_od, .ref b_ws, .ref b_hw, .int z61, .ref b_se, .ref b_re, .int z62, .long z63, .long z64, .int u_ce, .int (u_ho - z49), .int u_wy, .int ((u_bt * (10 - z60)) / 10), .int u_ps, .ref b_pt, .int u_tg, .int u_sn, .ref b_ip, .int u_ic, .ref b_ah, .ref b_be, .ref b_me, .int u_wd, .ref b_tr, .ref b_ld, .long u_st, .ref b_wn, .int u_id])), (b_ro, .inl (G.2 0, 5740, .inl v_ro)), (b_se, .inl (G.2 1, 13, .inr (.inl z65))), (b_re, .inl (G.2 1, 400, .inr (.inl z66)))] := hD
            refine lv_aload_n hx hb dX12_turns_99 rfl (lv_at hl 2 rfl) ?_
            refine va_get (D := G.1) (ci := 12) (v := .int ((u_bt * (10 - z60)) / 10)) (C := RX12) (T := TX12) (N := 52) hx hb hts inG_X12 hown hK hP 0 rfl rfl 36 (by decide) (hts _ fl_X12_361) (fun _ h9 => h9) rfl dX12_turns_100 ?_
            refine lv_aload_n hx hb dX12_turns_103 rfl (lv_at hl 2 rfl) ?_
            refine va_get (D := G.1) (ci := 12) (v := .ref b_ro) (C := RX12) (T := TX12) (N := 52) hx hb hts inG_X12 hown hK hP 0 rfl rfl 3 (by decide) (hts _ fl_X12_13) (fun _ h9 => h9) rfl dX12_turns_104 ?_
            refine lv_iconst (v := 4) hx hb dX12_turns_107 (by decide) ?_
            refine va_iald hx hb hK hP 1 0 rfl rfl (i := 4) (by unfold vp_in; decide) dX12_turns_108 ?_
            refine g5_ti (v := (v_ro 4)) rfl ?_
            refine lv_icmp_ge (tgt := 114) hx hb dX12_turns_109 (by decide) (fun c_70 => ?_) (fun c_70 => ?_)
            ·
              have i_70 : ((u_bt * (10 - z60)) / 10).toInt ≥ (v_ro 4).toInt := by have z := g5_ge (a := ((u_bt * (10 - z60)) / 10).toInt) (b := (v_ro 4).toInt) (by rfl) (by rfl) c_70; omega
              refine lv_aload_n hx hb dX12_turns_114 rfl (lv_at hl 2 rfl) ?_
              refine lv_iload_n hx hb dX12_turns_115 rfl (lv_at hl 4 rfl) ?_
              refine lv_if_ne (tgt := 128) hx hb dX12_turns_116 (by decide) (fun c_71 => ?_) (fun c_71 => ?_)
              ·
                have n_71 : gNe (p_2.toInt) (0) := by have z := g5_ne (a := p_2.toInt) (b := 0) (by rfl) (by decide) c_71; unfold gNe; omega
                refine lv_iload_n hx hb dX12_turns_128 rfl (lv_at hl 4 rfl) ?_
                refine lv_iconst (v := 1) hx hb dX12_turns_129 (by decide) ?_
                refine lv_icmp_ne (tgt := 142) hx hb dX12_turns_130 (by decide) (fun c_72 => ?_) (fun c_72 => ?_)
                ·
                  have n_72 : gNe (p_2.toInt) (1) := by have z := g5_ne (a := p_2.toInt) (b := 1) (by rfl) (by decide) c_72; unfold gNe; omega
                  refine lv_aload_n hx hb dX12_turns_142 rfl (lv_at hl 2 rfl) ?_
                  refine va_get (D := G.1) (ci := 12) (v := .int u_wy) (C := RX12) (T := TX12) (N := 52) hx hb hts inG_X12 hown hK hP 0 rfl rfl 35 (by decide) (hts _ fl_X12_355) (fun _ h9 => h9) rfl dX12_turns_143 ?_
                  refine lv_iconst (v := 2) hx hb dX12_turns_146 (by decide) ?_
                  refine lv_iadd hx hb dX12_turns_147 ?_
                  have t_73 : (u_wy + 2).toInt = u_wy.toInt + 2 := g5_iadd (a := u_wy.toInt) (b := 2) (by rfl) (by decide) (by omega) (by omega)
                  refine lv_iconst (v := 4) hx hb dX12_turns_148 (by decide) ?_
                  refine lv_irem hx hb dX12_turns_149 (by decide) ?_
                  have t_74 : ((u_wy + 2) - (u_wy + 2) / 4 * 4).toInt = (u_wy + 2).toInt % 4 := g5_irem (a := (u_wy + 2).toInt) (b := 4) rfl (by decide) (by omega) (by decide)
                  refine va_put (D := G.1) (ci := 12) (v := .int ((u_wy + 2) - (u_wy + 2) / 4 * 4)) (ty := .int) (C := RX12) (T := TX12) (N := 52) hx hb hts inG_X12 tyX12 tyX12_ok nmX12 hown hK hP hD hS 0 rfl rfl 35 (by decide) (hts _ fl_X12_355) (fun _ h9 => h9) rfl (by decide +kernel) rfl rfl (Nat.le_of_ble_eq_true rfl) dX12_turns_150 (fun H locs hP hD hS => ?_)
                  have hP : va_P G.1 vwCl [(b_o, .inr (12, [.int u_th, .int u_sa, .ref b_rf, .ref b_ro, .ref b_im, .ref b_ke, .int u_fd, .ref b_tp, .int u_td, .int u_fr, .int u_to, .int u_so, .long u_wo, .int u_fa, .int u_bd, .int u_nc, .ref b_nl, .int u_co, .ref b_op, .ref b_ar, .int u_le, .ref b_pi, .ref b_pa, .int u_pd, .int u_od, .ref b_ws, .ref b_hw, .int z61, .ref b_se, .ref b_re, .int z62, .long z63, .long z64, .int u_ce, .int (u_ho - z49), .int ((u_wy + 2) - (u_wy + 2) / 4 * 4), .int ((u_bt * (10 - z60)) / 10), .int u_ps, .ref b_pt, .int u_tg, .int u_sn, .ref b_ip, .int u_ic, .ref b_ah, .ref b_be, .ref b_me, .int u_wd, .ref b_tr, .ref b_ld, .long u_st, .ref b_wn, .int u_id])), (b_ro, .inl (G.2 0, 5740, .inl v_ro)), (b_se, .inl (G.2 1, 13, .inr (.inl z65))), (b_re, .inl (G.2 1, 400, .inr (.inl z66)))] H := hP
                  have hD : va_D A [(b_o, .inr (12, [.int u_th, .int u_sa, .ref b_rf, .ref b_ro, .ref b_im, .ref b_ke, .int u_fd, .ref b_tp, .int u_td, .int u_fr, .int u_to, .int u_so, .long u_wo, .int u_fa, .int u_bd, .int u_nc, .ref b_nl, .int u_co, .ref b_op, .ref b_ar, .int u_le, .ref b_pi, .ref b_pa, .int u_pd, .int u_od, .ref b_ws, .ref b_hw, .int z61, .ref b_se, .ref b_re, .int z62, .long z63, .long z64, .int u_ce, .int (u_ho - z49), .int ((u_wy + 2) - (u_wy + 2) / 4 * 4), .int ((u_bt * (10 - z60)) / 10), .int u_ps, .ref b_pt, .int u_tg, .int u_sn, .ref b_ip, .int u_ic, .ref b_ah, .ref b_be, .ref b_me, .int u_wd, .ref b_tr, .ref b_ld, .long u_st, .ref b_wn, .int u_id])), (b_ro, .inl (G.2 0, 5740, .inl v_ro)), (b_se, .inl (G.2 1, 13, .inr (.inl z65))), (b_re, .inl (G.2 1, 400, .inr (.inl z66)))] := hD
                  refine lv_aload_n hx hb dX12_turns_153 rfl (lv_at hl 2 rfl) ?_
                  refine lv_dup hx hb dX12_turns_154 rfl ?_
                  refine va_get (D := G.1) (ci := 12) (v := .int u_tg) (C := RX12) (T := TX12) (N := 52) hx hb hts inG_X12 hown hK hP 0 rfl rfl 39 (by decide) (hts _ fl_X12_368) (fun _ h9 => h9) rfl dX12_turns_155 ?_
                  refine lv_iconst (v := 1) hx hb dX12_turns_158 (by decide) ?_
                  refine lv_iload_n hx hb dX12_turns_159 rfl (lv_at hl 3 rfl) ?_
                  refine lv_ishl hx hb dX12_turns_160 ?_
                  refine lv_ior hx hb dX12_turns_161 ?_
                  refine va_put (D := G.1) (ci := 12) (v := .int (u_tg ||| (1 <<< (p_1 &&& 31)))) (ty := .int) (C := RX12) (T := TX12) (N := 52) hx hb hts inG_X12 tyX12 tyX12_ok nmX12 hown hK hP hD hS 0 rfl rfl 39 (by decide) (hts _ fl_X12_368) (fun _ h9 => h9) rfl (by decide +kernel) rfl rfl (Nat.le_of_ble_eq_true rfl) dX12_turns_162 (fun H locs hP hD hS => ?_)
                  have hP : va_P G.1 vwCl [(b_o, .inr (12, [.int u_th, .int u_sa, .ref b_rf, .ref b_ro, .ref b_im, .ref b_ke, .int u_fd, .ref b_tp, .int u_td, .int u_fr, .int u_to, .int u_so, .long u_wo, .int u_fa, .int u_bd, .int u_nc, .ref b_nl, .int u_co, .ref b_op, .ref b_ar, .int u_le, .ref b_pi, .ref b_pa, .int u_pd, .int u_od, .ref b_ws, .ref b_hw, .int z61, .ref b_se, .ref b_re, .int z62, .long z63, .long z64, .int u_ce, .int (u_ho - z49), .int ((u_wy + 2) - (u_wy + 2) / 4 * 4), .int ((u_bt * (10 - z60)) / 10), .int u_ps, .ref b_pt, .int (u_tg ||| (1 <<< (p_1 &&& 31))), .int u_sn, .ref b_ip, .int u_ic, .ref b_ah, .ref b_be, .ref b_me, .int u_wd, .ref b_tr, .ref b_ld, .long u_st, .ref b_wn, .int u_id])), (b_ro, .inl (G.2 0, 5740, .inl v_ro)), (b_se, .inl (G.2 1, 13, .inr (.inl z65))), (b_re, .inl (G.2 1, 400, .inr (.inl z66)))] H := hP
                  have hD : va_D A [(b_o, .inr (12, [.int u_th, .int u_sa, .ref b_rf, .ref b_ro, .ref b_im, .ref b_ke, .int u_fd, .ref b_tp, .int u_td, .int u_fr, .int u_to, .int u_so, .long u_wo, .int u_fa, .int u_bd, .int u_nc, .ref b_nl, .int u_co, .ref b_op, .ref b_ar, .int u_le, .ref b_pi, .ref b_pa, .int u_pd, .int u_od, .ref b_ws, .ref b_hw, .int z61, .ref b_se, .ref b_re, .int z62, .long z63, .long z64, .int u_ce, .int (u_ho - z49), .int ((u_wy + 2) - (u_wy + 2) / 4 * 4), .int ((u_bt * (10 - z60)) / 10), .int u_ps, .ref b_pt, .int (u_tg ||| (1 <<< (p_1 &&& 31))), .int u_sn, .ref b_ip, .int u_ic, .ref b_ah, .ref b_be, .ref b_me, .int u_wd, .ref b_tr, .ref b_ld, .long u_st, .ref b_wn, .int u_id])), (b_ro, .inl (G.2 0, 5740, .inl v_ro)), (b_se, .inl (G.2 1, 13, .inr (.inl z65))), (b_re, .inl (G.2 1, 400, .inr (.inl z66)))] := hD
                  refine lv_iconst (v := 1) hx hb dX12_turns_165 (by decide) ?_
                  exact W.zret (v := 1) hx hb hr rfl (fun t ht hW => ⟨⟨1, [(b_o, .inr (12, [.int u_th, .int u_sa, .ref b_rf, .ref b_ro, .ref b_im, .ref b_ke, .int u_fd, .ref b_tp, .int u_td, .int u_fr, .int u_to, .int u_so, .long u_wo, .int u_fa, .int u_bd, .int u_nc, .ref b_nl, .int u_co, .ref b_op, .ref b_ar, .int u_le, .ref b_pi, .ref b_pa, .int u_pd, .int u_od, .ref b_ws, .ref b_hw, .int z61, .ref b_se, .ref b_re, .int z62, .long z63, .long z64, .int u_ce, .int (u_ho - z49), .int ((u_wy + 2) - (u_wy + 2) / 4 * 4), .int ((u_bt * (10 - z60)) / 10), .int u_ps, .ref b_pt, .int (u_tg ||| (1 <<< (p_1 &&& 31))), .int u_sn, .ref b_ip, .int u_ic, .ref b_ah, .ref b_be, .ref b_me, .int u_wd, .ref b_tr, .ref b_ld, .long u_st, .ref b_wn, .int u_id])), (b_ro, .inl (G.2 0, 5740, .inl v_ro)), (b_se, .inl (G.2 1, 13, .inr (.inl z65))), (b_re, .inl (G.2 1, 400, .inr (.inl z66)))], rfl, ⟨1, z61, z62, z63, z64, (u_ho - z49), ((u_wy + 2) - (u_wy + 2) / 4 * 4), ((u_bt * (10 - z60)) / 10), (u_tg ||| (1 <<< (p_1 &&& 31))), z65, z66, ⟨by have zc_o_r : (1 : Int32).toInt = 1 := (by decide); omega, by have zc_o_r : (1 : Int32).toInt = 1 := (by decide); omega⟩, ⟨by omega, by omega⟩, ⟨by omega, by omega⟩, ⟨by omega, by omega⟩, ⟨by omega, by omega⟩, ⟨by omega, by omega⟩, rfl, rfl⟩, by rw [ht]; exact hP.sub [0, 1, 2, 3] rfl, hD.sub [0, 1, 2, 3] (by decide) rfl⟩, hS.F ht⟩) hS.2.2 dX12_turns_166
                ·
                  have i_72 : p_2.toInt = 1 := by have z := g5_neN (a := p_2.toInt) (b := 1) (by rfl) (by decide) c_72; omega
                  omega
              ·
                have i_71 : p_2.toInt = 0 := by have z := g5_neN (a := p_2.toInt) (b := 0) (by rfl) (by decide) c_71; omega
                omega
            ·
              have i_70 : ((u_bt * (10 - z60)) / 10).toInt < (v_ro 4).toInt := by have z := g5_geN (a := ((u_bt * (10 - z60)) / 10).toInt) (b := (v_ro 4).toInt) (by rfl) (by rfl) c_70; omega
              refine lv_iconst (v := 0) hx hb dX12_turns_112 (by decide) ?_
              exact W.zret (v := 0) hx hb hr rfl (fun t ht hW => ⟨⟨0, [(b_o, .inr (12, [.int u_th, .int u_sa, .ref b_rf, .ref b_ro, .ref b_im, .ref b_ke, .int u_fd, .ref b_tp, .int u_td, .int u_fr, .int u_to, .int u_so, .long u_wo, .int u_fa, .int u_bd, .int u_nc, .ref b_nl, .int u_co, .ref b_op, .ref b_ar, .int u_le, .ref b_pi, .ref b_pa, .int u_pd, .int u_od, .ref b_ws, .ref b_hw, .int z61, .ref b_se, .ref b_re, .int z62, .long z63, .long z64, .int u_ce, .int (u_ho - z49), .int u_wy, .int ((u_bt * (10 - z60)) / 10), .int u_ps, .ref b_pt, .int u_tg, .int u_sn, .ref b_ip, .int u_ic, .ref b_ah, .ref b_be, .ref b_me, .int u_wd, .ref b_tr, .ref b_ld, .long u_st, .ref b_wn, .int u_id])), (b_ro, .inl (G.2 0, 5740, .inl v_ro)), (b_se, .inl (G.2 1, 13, .inr (.inl z65))), (b_re, .inl (G.2 1, 400, .inr (.inl z66)))], rfl, ⟨0, z61, z62, z63, z64, (u_ho - z49), u_wy, ((u_bt * (10 - z60)) / 10), u_tg, z65, z66, ⟨by have zc_o_r : (0 : Int32).toInt = 0 := (by decide); omega, by have zc_o_r : (0 : Int32).toInt = 0 := (by decide); omega⟩, ⟨by omega, by omega⟩, ⟨by omega, by omega⟩, ⟨by omega, by omega⟩, ⟨by omega, by omega⟩, ⟨by omega, by omega⟩, rfl, rfl⟩, by rw [ht]; exact hP.sub [0, 1, 2, 3] rfl, hD.sub [0, 1, 2, 3] (by decide) rfl⟩, hS.F ht⟩) hS.2.2 dX12_turns_113
          ·
            have i_68 : u_ho.toInt < z49.toInt := by have z := g5_geN (a := u_ho.toInt) (b := z49.toInt) (by rfl) (by rfl) c_68; omega
            refine lv_iconst (v := 0) hx hb dX12_turns_69 (by decide) ?_
            exact W.zret (v := 0) hx hb hr rfl (fun t ht hW => ⟨⟨0, [(b_o, .inr (12, [.int u_th, .int u_sa, .ref b_rf, .ref b_ro, .ref b_im, .ref b_ke, .int u_fd, .ref b_tp, .int u_td, .int u_fr, .int u_to, .int u_so, .long u_wo, .int u_fa, .int u_bd, .int u_nc, .ref b_nl, .int u_co, .ref b_op, .ref b_ar, .int u_le, .ref b_pi, .ref b_pa, .int u_pd, .int u_od, .ref b_ws, .ref b_hw, .int z61, .ref b_se, .ref b_re, .int z62, .long z63, .long z64, .int u_ce, .int u_ho, .int u_wy, .int u_bt, .int u_ps, .ref b_pt, .int u_tg, .int u_sn, .ref b_ip, .int u_ic, .ref b_ah, .ref b_be, .ref b_me, .int u_wd, .ref b_tr, .ref b_ld, .long u_st, .ref b_wn, .int u_id])), (b_ro, .inl (G.2 0, 5740, .inl v_ro)), (b_se, .inl (G.2 1, 13, .inr (.inl z65))), (b_re, .inl (G.2 1, 400, .inr (.inl z66)))], rfl, ⟨0, z61, z62, z63, z64, u_ho, u_wy, u_bt, u_tg, z65, z66, ⟨by have zc_o_r : (0 : Int32).toInt = 0 := (by decide); omega, by have zc_o_r : (0 : Int32).toInt = 0 := (by decide); omega⟩, ⟨by omega, by omega⟩, ⟨by omega, by omega⟩, ⟨by omega, by omega⟩, ⟨by omega, by omega⟩, ⟨by omega, by omega⟩, rfl, rfl⟩, by rw [ht]; exact hP.sub [0, 1, 2, 3] rfl, hD.sub [0, 1, 2, 3] (by decide) rfl⟩, hS.F ht⟩) hS.2.2 dX12_turns_70
        ·
          have n_45 : gNe (u_wy.toInt) ((p_2.toInt % 4)) := by have z := g5_eqN (a := u_wy.toInt) (b := (p_2 - p_2 / 4 * 4).toInt) (by rfl) (by rfl) c_45; unfold gNe; omega
          refine lv_iconst (v := 0) hx hb dX12_turns_33 (by decide) ?_
          exact W.zret (v := 0) hx hb hr rfl (fun t ht hW => ⟨⟨0, [(b_o, .inr (12, [.int u_th, .int u_sa, .ref b_rf, .ref b_ro, .ref b_im, .ref b_ke, .int u_fd, .ref b_tp, .int u_td, .int u_fr, .int u_to, .int u_so, .long u_wo, .int u_fa, .int u_bd, .int u_nc, .ref b_nl, .int u_co, .ref b_op, .ref b_ar, .int u_le, .ref b_pi, .ref b_pa, .int u_pd, .int u_od, .ref b_ws, .ref b_hw, .int z6, .ref b_se, .ref b_re, .int z7, .long z8, .long z9, .int u_ce, .int u_ho, .int u_wy, .int u_bt, .int u_ps, .ref b_pt, .int u_tg, .int u_sn, .ref b_ip, .int u_ic, .ref b_ah, .ref b_be, .ref b_me, .int u_wd, .ref b_tr, .ref b_ld, .long u_st, .ref b_wn, .int u_id])), (b_ro, .inl (G.2 0, 5740, .inl v_ro)), (b_se, .inl (G.2 1, 13, .inr (.inl z10))), (b_re, .inl (G.2 1, 400, .inr (.inl z11)))], rfl, ⟨0, z6, z7, z8, z9, u_ho, u_wy, u_bt, u_tg, z10, z11, ⟨by have zc_o_r : (0 : Int32).toInt = 0 := (by decide); omega, by have zc_o_r : (0 : Int32).toInt = 0 := (by decide); omega⟩, ⟨by omega, by omega⟩, ⟨by omega, by omega⟩, ⟨by omega, by omega⟩, ⟨by omega, by omega⟩, ⟨by omega, by omega⟩, rfl, rfl⟩, by rw [ht]; exact hP.sub [0, 1, 2, 3] rfl, hD.sub [0, 1, 2, 3] (by decide) rfl⟩, hS.F ht⟩) hS.2.2 dX12_turns_34
theorem dX12_passes_0 : decode cX12_passes 0 = .ok (.iconst 0, 1) := by decide +kernel
theorem dX12_passes_1 : decode cX12_passes 1 = .ok (.istore_n 2, 1) := by decide +kernel
theorem dX12_passes_2 : decode cX12_passes 2 = .ok (.iload_n 2, 1) := by decide +kernel
theorem dX12_passes_3 : decode cX12_passes 3 = .ok (.aload_n 0, 1) := by decide +kernel
theorem dX12_passes_4 : decode cX12_passes 4 = .ok (.getfield 13, 3) := by decide +kernel
theorem dX12_passes_7 : decode cX12_passes 7 = .ok (.iconst 0, 1) := by decide +kernel
theorem dX12_passes_8 : decode cX12_passes 8 = .ok (.iaload, 1) := by decide +kernel
theorem dX12_passes_9 : decode cX12_passes 9 = .ok (.if_icmp .ge 59, 3) := by decide +kernel
theorem dX12_passes_12 : decode cX12_passes 12 = .ok (.aload_n 0, 1) := by decide +kernel
theorem dX12_passes_13 : decode cX12_passes 13 = .ok (.iload_n 2, 1) := by decide +kernel
theorem dX12_passes_14 : decode cX12_passes 14 = .ok (.iconst 0, 1) := by decide +kernel
theorem dX12_passes_15 : decode cX12_passes 15 = .ok (.invokevirtual 134, 3) := by decide +kernel
theorem dX12_passes_18 : decode cX12_passes 18 = .ok (.aload_n 0, 1) := by decide +kernel
theorem dX12_passes_19 : decode cX12_passes 19 = .ok (.getfield 349, 3) := by decide +kernel
theorem dX12_passes_22 : decode cX12_passes 22 = .ok (.if_icmp .ne 40, 3) := by decide +kernel
theorem dX12_passes_25 : decode cX12_passes 25 = .ok (.aload_n 0, 1) := by decide +kernel
theorem dX12_passes_26 : decode cX12_passes 26 = .ok (.iload_n 2, 1) := by decide +kernel
theorem dX12_passes_27 : decode cX12_passes 27 = .ok (.aload_n 0, 1) := by decide +kernel
theorem dX12_passes_28 : decode cX12_passes 28 = .ok (.iload_n 2, 1) := by decide +kernel
theorem dX12_passes_29 : decode cX12_passes 29 = .ok (.iconst 1, 1) := by decide +kernel
theorem dX12_passes_30 : decode cX12_passes 30 = .ok (.invokevirtual 134, 3) := by decide +kernel
theorem dX12_passes_33 : decode cX12_passes 33 = .ok (.aload_n 0, 1) := by decide +kernel
theorem dX12_passes_34 : decode cX12_passes 34 = .ok (.iload_n 2, 1) := by decide +kernel
theorem dX12_passes_35 : decode cX12_passes 35 = .ok (.iconst 2, 1) := by decide +kernel
theorem dX12_passes_36 : decode cX12_passes 36 = .ok (.invokevirtual 134, 3) := by decide +kernel
theorem dX12_passes_39 : decode cX12_passes 39 = .ok (.aload_n 0, 1) := by decide +kernel
theorem dX12_passes_40 : decode cX12_passes 40 = .ok (.iload_n 2, 1) := by decide +kernel
theorem dX12_passes_41 : decode cX12_passes 41 = .ok (.iconst 3, 1) := by decide +kernel
theorem dX12_passes_42 : decode cX12_passes 42 = .ok (.invokevirtual 134, 3) := by decide +kernel
theorem dX12_passes_45 : decode cX12_passes 45 = .ok (.aload_n 0, 1) := by decide +kernel
theorem dX12_passes_46 : decode cX12_passes 46 = .ok (.iload_n 2, 1) := by decide +kernel
theorem dX12_passes_47 : decode cX12_passes 47 = .ok (.iconst 4, 1) := by decide +kernel
theorem dX12_passes_48 : decode cX12_passes 48 = .ok (.invokevirtual 134, 3) := by decide +kernel
theorem dX12_passes_51 : decode cX12_passes 51 = .ok (.aload_n 0, 1) := by decide +kernel
theorem dX12_passes_52 : decode cX12_passes 52 = .ok (.getfield 352, 3) := by decide +kernel
theorem dX12_passes_55 : decode cX12_passes 55 = .ok (.invokestatic 387, 3) := by decide +kernel
theorem dX12_passes_58 : decode cX12_passes 58 = .ok (.invokevirtual 390, 3) := by decide +kernel
theorem dX12_passes_61 : decode cX12_passes 61 = .ok (.ireturn, 1) := by decide +kernel
theorem dX12_passes_62 : decode cX12_passes 62 = .ok (.iinc 2 1, 3) := by decide +kernel
theorem dX12_passes_65 : decode cX12_passes 65 = .ok (.goto (-63), 3) := by decide +kernel
theorem dX12_passes_68 : decode cX12_passes 68 = .ok (.iconst 0, 1) := by decide +kernel
theorem dX12_passes_69 : decode cX12_passes 69 = .ok (.istore_n 2, 1) := by decide +kernel
theorem dX12_passes_70 : decode cX12_passes 70 = .ok (.iload_n 2, 1) := by decide +kernel
theorem dX12_passes_71 : decode cX12_passes 71 = .ok (.aload_n 0, 1) := by decide +kernel
theorem dX12_passes_72 : decode cX12_passes 72 = .ok (.getfield 13, 3) := by decide +kernel
theorem dX12_passes_75 : decode cX12_passes 75 = .ok (.bipush 7, 2) := by decide +kernel
theorem dX12_passes_77 : decode cX12_passes 77 = .ok (.iaload, 1) := by decide +kernel
theorem dX12_passes_78 : decode cX12_passes 78 = .ok (.if_icmp .ge 75, 3) := by decide +kernel
theorem dX12_passes_81 : decode cX12_passes 81 = .ok (.iload_n 1, 1) := by decide +kernel
theorem dX12_passes_82 : decode cX12_passes 82 = .ok (.iload_n 2, 1) := by decide +kernel
theorem dX12_passes_83 : decode cX12_passes 83 = .ok (.invokestatic 387, 3) := by decide +kernel
theorem dX12_passes_86 : decode cX12_passes 86 = .ok (.ifCond .eq 61, 3) := by decide +kernel
theorem dX12_passes_89 : decode cX12_passes 89 = .ok (.aload_n 0, 1) := by decide +kernel
theorem dX12_passes_90 : decode cX12_passes 90 = .ok (.getfield 13, 3) := by decide +kernel
theorem dX12_passes_93 : decode cX12_passes 93 = .ok (.sipush 270, 3) := by decide +kernel
theorem dX12_passes_96 : decode cX12_passes 96 = .ok (.iconst 3, 1) := by decide +kernel
theorem dX12_passes_97 : decode cX12_passes 97 = .ok (.iload_n 2, 1) := by decide +kernel
theorem dX12_passes_98 : decode cX12_passes 98 = .ok (.imul, 1) := by decide +kernel
theorem dX12_passes_99 : decode cX12_passes 99 = .ok (.iadd, 1) := by decide +kernel
theorem dX12_passes_100 : decode cX12_passes 100 = .ok (.iaload, 1) := by decide +kernel
theorem dX12_passes_101 : decode cX12_passes 101 = .ok (.aload_n 0, 1) := by decide +kernel
theorem dX12_passes_102 : decode cX12_passes 102 = .ok (.getfield 349, 3) := by decide +kernel
theorem dX12_passes_105 : decode cX12_passes 105 = .ok (.if_icmp .ne 42, 3) := by decide +kernel
theorem dX12_passes_108 : decode cX12_passes 108 = .ok (.aload_n 0, 1) := by decide +kernel
theorem dX12_passes_109 : decode cX12_passes 109 = .ok (.bipush 6, 2) := by decide +kernel
theorem dX12_passes_111 : decode cX12_passes 111 = .ok (.iload_n 2, 1) := by decide +kernel
theorem dX12_passes_112 : decode cX12_passes 112 = .ok (.iadd, 1) := by decide +kernel
theorem dX12_passes_113 : decode cX12_passes 113 = .ok (.aload_n 0, 1) := by decide +kernel
theorem dX12_passes_114 : decode cX12_passes 114 = .ok (.getfield 13, 3) := by decide +kernel
theorem dX12_passes_117 : decode cX12_passes 117 = .ok (.sipush 270, 3) := by decide +kernel
theorem dX12_passes_120 : decode cX12_passes 120 = .ok (.iconst 3, 1) := by decide +kernel
theorem dX12_passes_121 : decode cX12_passes 121 = .ok (.iload_n 2, 1) := by decide +kernel
theorem dX12_passes_122 : decode cX12_passes 122 = .ok (.imul, 1) := by decide +kernel
theorem dX12_passes_123 : decode cX12_passes 123 = .ok (.iadd, 1) := by decide +kernel
theorem dX12_passes_124 : decode cX12_passes 124 = .ok (.iconst 1, 1) := by decide +kernel
theorem dX12_passes_125 : decode cX12_passes 125 = .ok (.iadd, 1) := by decide +kernel
theorem dX12_passes_126 : decode cX12_passes 126 = .ok (.iaload, 1) := by decide +kernel
theorem dX12_passes_127 : decode cX12_passes 127 = .ok (.aload_n 0, 1) := by decide +kernel
theorem dX12_passes_128 : decode cX12_passes 128 = .ok (.getfield 13, 3) := by decide +kernel
theorem dX12_passes_131 : decode cX12_passes 131 = .ok (.sipush 270, 3) := by decide +kernel
theorem dX12_passes_134 : decode cX12_passes 134 = .ok (.iconst 3, 1) := by decide +kernel
theorem dX12_passes_135 : decode cX12_passes 135 = .ok (.iload_n 2, 1) := by decide +kernel
theorem dX12_passes_136 : decode cX12_passes 136 = .ok (.imul, 1) := by decide +kernel
theorem dX12_passes_137 : decode cX12_passes 137 = .ok (.iadd, 1) := by decide +kernel
theorem dX12_passes_138 : decode cX12_passes 138 = .ok (.iconst 2, 1) := by decide +kernel
theorem dX12_passes_139 : decode cX12_passes 139 = .ok (.iadd, 1) := by decide +kernel
theorem dX12_passes_140 : decode cX12_passes 140 = .ok (.iaload, 1) := by decide +kernel
theorem dX12_passes_141 : decode cX12_passes 141 = .ok (.iconst 0, 1) := by decide +kernel
theorem dX12_passes_142 : decode cX12_passes 142 = .ok (.iconst 0, 1) := by decide +kernel
theorem dX12_passes_143 : decode cX12_passes 143 = .ok (.invokevirtual 390, 3) := by decide +kernel
theorem dX12_passes_146 : decode cX12_passes 146 = .ok (.ireturn, 1) := by decide +kernel
theorem dX12_passes_147 : decode cX12_passes 147 = .ok (.iinc 2 1, 3) := by decide +kernel
theorem dX12_passes_150 : decode cX12_passes 150 = .ok (.goto (-80), 3) := by decide +kernel
theorem dX12_passes_153 : decode cX12_passes 153 = .ok (.iconst 1, 1) := by decide +kernel
theorem dX12_passes_154 : decode cX12_passes 154 = .ok (.ireturn, 1) := by decide +kernel
theorem ml_X12_387 : Cond.methodLink RX12 387 yX12_is ∈ tblG := tg 1644 (by decide +kernel) (by decide +kernel)
theorem st_X12_is : Cond.static yX12_is ∈ tblG := tg 1645 (by decide +kernel) (by decide +kernel)
