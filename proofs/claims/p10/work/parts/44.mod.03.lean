theorem dX12_passes_0 : decode cX12_passes 0 = .ok (.iconst 0, 1) := by decide +kernel
theorem dX12_passes_1 : decode cX12_passes 1 = .ok (.istore_n 2, 1) := by decide +kernel
theorem dX12_passes_2 : decode cX12_passes 2 = .ok (.iload_n 2, 1) := by decide +kernel
theorem dX12_passes_3 : decode cX12_passes 3 = .ok (.aload_n 0, 1) := by decide +kernel
theorem dX12_passes_4 : decode cX12_passes 4 = .ok (.getfield 13, 3) := by decide +kernel
theorem dX12_passes_7 : decode cX12_passes 7 = .ok (.iconst 0, 1) := by decide +kernel
theorem dX12_passes_8 : decode cX12_passes 8 = .ok (.iaload, 1) := by decide +kernel
theorem dX12_passes_9 : decode cX12_passes 9 = .ok (.if_icmp .ge 59, 3) := by decide +kernel
theorem dX12_passes_12 : decode cX12_passes 12 = .ok (.aload_n 0, 1) := by decide +kernel
theorem dX12_passes_13 : decode cX12_passes 13 = .ok (.iload_n 2, 1) := by decide +kernel
theorem dX12_passes_14 : decode cX12_passes 14 = .ok (.iconst 0, 1) := by decide +kernel
theorem dX12_passes_15 : decode cX12_passes 15 = .ok (.invokevirtual 134, 3) := by decide +kernel
theorem dX12_passes_18 : decode cX12_passes 18 = .ok (.aload_n 0, 1) := by decide +kernel
theorem dX12_passes_19 : decode cX12_passes 19 = .ok (.getfield 349, 3) := by decide +kernel
theorem dX12_passes_22 : decode cX12_passes 22 = .ok (.if_icmp .ne 40, 3) := by decide +kernel
theorem dX12_passes_25 : decode cX12_passes 25 = .ok (.aload_n 0, 1) := by decide +kernel
theorem dX12_passes_26 : decode cX12_passes 26 = .ok (.iload_n 2, 1) := by decide +kernel
theorem dX12_passes_27 : decode cX12_passes 27 = .ok (.aload_n 0, 1) := by decide +kernel
theorem dX12_passes_28 : decode cX12_passes 28 = .ok (.iload_n 2, 1) := by decide +kernel
theorem dX12_passes_29 : decode cX12_passes 29 = .ok (.iconst 1, 1) := by decide +kernel
theorem dX12_passes_30 : decode cX12_passes 30 = .ok (.invokevirtual 134, 3) := by decide +kernel
theorem dX12_passes_33 : decode cX12_passes 33 = .ok (.aload_n 0, 1) := by decide +kernel
theorem dX12_passes_34 : decode cX12_passes 34 = .ok (.iload_n 2, 1) := by decide +kernel
theorem dX12_passes_35 : decode cX12_passes 35 = .ok (.iconst 2, 1) := by decide +kernel
theorem dX12_passes_36 : decode cX12_passes 36 = .ok (.invokevirtual 134, 3) := by decide +kernel
theorem dX12_passes_39 : decode cX12_passes 39 = .ok (.aload_n 0, 1) := by decide +kernel
theorem dX12_passes_40 : decode cX12_passes 40 = .ok (.iload_n 2, 1) := by decide +kernel
theorem dX12_passes_41 : decode cX12_passes 41 = .ok (.iconst 3, 1) := by decide +kernel
theorem dX12_passes_42 : decode cX12_passes 42 = .ok (.invokevirtual 134, 3) := by decide +kernel
theorem dX12_passes_45 : decode cX12_passes 45 = .ok (.aload_n 0, 1) := by decide +kernel
theorem dX12_passes_46 : decode cX12_passes 46 = .ok (.iload_n 2, 1) := by decide +kernel
theorem dX12_passes_47 : decode cX12_passes 47 = .ok (.iconst 4, 1) := by decide +kernel
theorem dX12_passes_48 : decode cX12_passes 48 = .ok (.invokevirtual 134, 3) := by decide +kernel
theorem dX12_passes_51 : decode cX12_passes 51 = .ok (.aload_n 0, 1) := by decide +kernel
theorem dX12_passes_52 : decode cX12_passes 52 = .ok (.getfield 352, 3) := by decide +kernel
theorem dX12_passes_55 : decode cX12_passes 55 = .ok (.invokestatic 387, 3) := by decide +kernel
theorem dX12_passes_58 : decode cX12_passes 58 = .ok (.invokevirtual 390, 3) := by decide +kernel
theorem dX12_passes_61 : decode cX12_passes 61 = .ok (.ireturn, 1) := by decide +kernel
theorem dX12_passes_62 : decode cX12_passes 62 = .ok (.iinc 2 1, 3) := by decide +kernel
theorem dX12_passes_65 : decode cX12_passes 65 = .ok (.goto (-63), 3) := by decide +kernel
theorem dX12_passes_68 : decode cX12_passes 68 = .ok (.iconst 0, 1) := by decide +kernel
theorem dX12_passes_69 : decode cX12_passes 69 = .ok (.istore_n 2, 1) := by decide +kernel
theorem dX12_passes_70 : decode cX12_passes 70 = .ok (.iload_n 2, 1) := by decide +kernel
theorem dX12_passes_71 : decode cX12_passes 71 = .ok (.aload_n 0, 1) := by decide +kernel
theorem dX12_passes_72 : decode cX12_passes 72 = .ok (.getfield 13, 3) := by decide +kernel
theorem dX12_passes_75 : decode cX12_passes 75 = .ok (.bipush 7, 2) := by decide +kernel
theorem dX12_passes_77 : decode cX12_passes 77 = .ok (.iaload, 1) := by decide +kernel
theorem dX12_passes_78 : decode cX12_passes 78 = .ok (.if_icmp .ge 75, 3) := by decide +kernel
theorem dX12_passes_81 : decode cX12_passes 81 = .ok (.iload_n 1, 1) := by decide +kernel
theorem dX12_passes_82 : decode cX12_passes 82 = .ok (.iload_n 2, 1) := by decide +kernel
theorem dX12_passes_83 : decode cX12_passes 83 = .ok (.invokestatic 387, 3) := by decide +kernel
theorem dX12_passes_86 : decode cX12_passes 86 = .ok (.ifCond .eq 61, 3) := by decide +kernel
theorem dX12_passes_89 : decode cX12_passes 89 = .ok (.aload_n 0, 1) := by decide +kernel
theorem dX12_passes_90 : decode cX12_passes 90 = .ok (.getfield 13, 3) := by decide +kernel
theorem dX12_passes_93 : decode cX12_passes 93 = .ok (.sipush 270, 3) := by decide +kernel
theorem dX12_passes_96 : decode cX12_passes 96 = .ok (.iconst 3, 1) := by decide +kernel
theorem dX12_passes_97 : decode cX12_passes 97 = .ok (.iload_n 2, 1) := by decide +kernel
theorem dX12_passes_98 : decode cX12_passes 98 = .ok (.imul, 1) := by decide +kernel
theorem dX12_passes_99 : decode cX12_passes 99 = .ok (.iadd, 1) := by decide +kernel
theorem dX12_passes_100 : decode cX12_passes 100 = .ok (.iaload, 1) := by decide +kernel
theorem dX12_passes_101 : decode cX12_passes 101 = .ok (.aload_n 0, 1) := by decide +kernel
theorem dX12_passes_102 : decode cX12_passes 102 = .ok (.getfield 349, 3) := by decide +kernel
theorem dX12_passes_105 : decode cX12_passes 105 = .ok (.if_icmp .ne 42, 3) := by decide +kernel
theorem dX12_passes_108 : decode cX12_passes 108 = .ok (.aload_n 0, 1) := by decide +kernel
theorem dX12_passes_109 : decode cX12_passes 109 = .ok (.bipush 6, 2) := by decide +kernel
theorem dX12_passes_111 : decode cX12_passes 111 = .ok (.iload_n 2, 1) := by decide +kernel
theorem dX12_passes_112 : decode cX12_passes 112 = .ok (.iadd, 1) := by decide +kernel
theorem dX12_passes_113 : decode cX12_passes 113 = .ok (.aload_n 0, 1) := by decide +kernel
theorem dX12_passes_114 : decode cX12_passes 114 = .ok (.getfield 13, 3) := by decide +kernel
theorem dX12_passes_117 : decode cX12_passes 117 = .ok (.sipush 270, 3) := by decide +kernel
theorem dX12_passes_120 : decode cX12_passes 120 = .ok (.iconst 3, 1) := by decide +kernel
theorem dX12_passes_121 : decode cX12_passes 121 = .ok (.iload_n 2, 1) := by decide +kernel
theorem dX12_passes_122 : decode cX12_passes 122 = .ok (.imul, 1) := by decide +kernel
theorem dX12_passes_123 : decode cX12_passes 123 = .ok (.iadd, 1) := by decide +kernel
theorem dX12_passes_124 : decode cX12_passes 124 = .ok (.iconst 1, 1) := by decide +kernel
theorem dX12_passes_125 : decode cX12_passes 125 = .ok (.iadd, 1) := by decide +kernel
theorem dX12_passes_126 : decode cX12_passes 126 = .ok (.iaload, 1) := by decide +kernel
theorem dX12_passes_127 : decode cX12_passes 127 = .ok (.aload_n 0, 1) := by decide +kernel
theorem dX12_passes_128 : decode cX12_passes 128 = .ok (.getfield 13, 3) := by decide +kernel
theorem dX12_passes_131 : decode cX12_passes 131 = .ok (.sipush 270, 3) := by decide +kernel
theorem dX12_passes_134 : decode cX12_passes 134 = .ok (.iconst 3, 1) := by decide +kernel
theorem dX12_passes_135 : decode cX12_passes 135 = .ok (.iload_n 2, 1) := by decide +kernel
theorem dX12_passes_136 : decode cX12_passes 136 = .ok (.imul, 1) := by decide +kernel
theorem dX12_passes_137 : decode cX12_passes 137 = .ok (.iadd, 1) := by decide +kernel
theorem dX12_passes_138 : decode cX12_passes 138 = .ok (.iconst 2, 1) := by decide +kernel
theorem dX12_passes_139 : decode cX12_passes 139 = .ok (.iadd, 1) := by decide +kernel
theorem dX12_passes_140 : decode cX12_passes 140 = .ok (.iaload, 1) := by decide +kernel
theorem dX12_passes_141 : decode cX12_passes 141 = .ok (.iconst 0, 1) := by decide +kernel
theorem dX12_passes_142 : decode cX12_passes 142 = .ok (.iconst 0, 1) := by decide +kernel
theorem dX12_passes_143 : decode cX12_passes 143 = .ok (.invokevirtual 390, 3) := by decide +kernel
theorem dX12_passes_146 : decode cX12_passes 146 = .ok (.ireturn, 1) := by decide +kernel
theorem dX12_passes_147 : decode cX12_passes 147 = .ok (.iinc 2 1, 3) := by decide +kernel
theorem dX12_passes_150 : decode cX12_passes 150 = .ok (.goto (-80), 3) := by decide +kernel
theorem dX12_passes_153 : decode cX12_passes 153 = .ok (.iconst 1, 1) := by decide +kernel
theorem dX12_passes_154 : decode cX12_passes 154 = .ok (.ireturn, 1) := by decide +kernel
theorem ml_X12_387 : Cond.methodLink RX12 387 yX12_is ∈ tblG := tg 1644 (by decide +kernel) (by decide +kernel)
theorem st_X12_is : Cond.static yX12_is ∈ tblG := tg 1645 (by decide +kernel) (by decide +kernel)
theorem cd_X12_is : Cond.code yX12_is cX12_is 2 (some .boolean) ∈ tblG := tg 1646 (by decide +kernel) (by decide +kernel)
theorem gW_X12_is : GoodIn tblG (wsG yX12_is cX12_is 2 (some .boolean)) := tgi cd_X12_is
theorem gS_X12_387 : GoodIn tblG (va_wsS RX12 387 yX12_is (wsG yX12_is cX12_is 2 (some .boolean))) := tgS ml_X12_387 st_X12_is ini_X12 gW_X12_is
theorem hs_X12_is : yX12_is.cls ≠ "java/lang/invoke/MethodHandle" ∧ yX12_is.cls ≠ "java/lang/invoke/VarHandle" ∧ (parseMethodDescriptor yX12_is.desc).map (fun d => d.parameters.length) = some 2 := by decide +kernel
theorem ml_X12_390 : Cond.methodLink RX12 390 yX12_turns ∈ tblG := tg 1647 (by decide +kernel) (by decide +kernel)
theorem im_X12_turns : Cond.instanceMethod yX12_turns ∈ tblG := tg 1649 (by decide +kernel) (by decide +kernel)
theorem se_X12_turns : Cond.selects RX12 yX12_turns yX12_turns ∈ tblG := tg 69 (by decide +kernel) (by decide +kernel)
theorem cd_X12_turns : Cond.code yX12_turns cX12_turns 8 (some .boolean) ∈ tblG := tg 1650 (by decide +kernel) (by decide +kernel)
theorem gW_X12_turns : GoodIn tblG (wsG yX12_turns cX12_turns 8 (some .boolean)) := tgi cd_X12_turns
theorem gV_X12_390 : GoodIn tblG (wsV RX12 390 RX12 yX12_turns (wsG yX12_turns cX12_turns 8 (some .boolean))) := tgV ml_X12_390 im_X12_turns se_X12_turns ini_X12 gW_X12_turns
theorem hv_X12_turns : yX12_turns.cls = RX12 ∧ yX12_turns.cls ≠ "java/lang/invoke/MethodHandle" ∧ yX12_turns.cls ≠ "java/lang/invoke/VarHandle" ∧ (parseMethodDescriptor yX12_turns.desc).map (fun d => d.parameters.length) = some 5 := by decide +kernel
set_option maxHeartbeats 4000000 in
set_option maxRecDepth 100000 in
theorem n_passes (l : Launch) (G : g5_G) (b_o b_ro b_se b_re b_rf b_im b_ke b_tp b_nl b_op b_ar b_pi b_pa b_ws b_hw b_pt b_ip b_ah b_be b_me b_tr b_ld b_wn : Nat) (sz : Nat) (u_th : Int32) (u_sa : Int32) (u_fd : Int32) (u_td : Int32) (u_fr : Int32) (u_to : Int32) (u_so : Int32) (u_fa : Int32) (u_bd : Int32) (u_nc : Int32) (u_co : Int32) (u_le : Int32) (u_pd : Int32) (u_od : Int32) (u_la : Int32) (u_bk : Int32) (u_ce : Int32) (u_ho : Int32) (u_wy : Int32) (u_bt : Int32) (u_ps : Int32) (u_tg : Int32) (u_sn : Int32) (u_ic : Int32) (u_wd : Int32) (u_id : Int32) (p_1 : Int32) (u_wo : Int64) (u_va : Int64) (u_su : Int64) (u_st : Int64) (v_ro : Nat → Int32) (v_se : Nat → Int64) (v_re : Nat → Int64) (h_u_td : 0 ≤ u_td.toInt ∧ u_td.toInt ≤ 400) (h_u_fr : 0 ≤ u_fr.toInt ∧ u_fr.toInt ≤ 400) (h_u_to : 0 ≤ u_to.toInt ∧ u_to.toInt ≤ 400) (h_u_bd : 0 ≤ u_bd.toInt ∧ u_bd.toInt ≤ 1) (h_u_nc : 0 ≤ u_nc.toInt ∧ u_nc.toInt ≤ 12) (h_u_co : 0 ≤ u_co.toInt ∧ u_co.toInt ≤ 400) (h_u_pd : 0 ≤ u_pd.toInt ∧ u_pd.toInt ≤ 400) (h_u_la : 0 ≤ u_la.toInt ∧ u_la.toInt ≤ 4840) (h_u_bk : 0 ≤ u_bk.toInt ∧ u_bk.toInt ≤ 1) (h_u_ce : 0 ≤ u_ce.toInt ∧ u_ce.toInt ≤ 63) (h_u_ho : 0 ≤ u_ho.toInt ∧ u_ho.toInt ≤ 23) (h_u_wy : 0 ≤ u_wy.toInt ∧ u_wy.toInt ≤ 3) (h_u_bt : 0 ≤ u_bt.toInt ∧ u_bt.toInt ≤ 1000000) (h_u_ps : 0 ≤ u_ps.toInt ∧ u_ps.toInt ≤ 200) (h_u_ic : 0 ≤ u_ic.toInt ∧ u_ic.toInt ≤ 1) (h_u_id : 0 ≤ u_id.toInt ∧ u_id.toInt ≤ 1) (r_ro : MI v_ro) : Met l yX12_passes (wsG yX12_passes cX12_passes 3 (some .boolean)) ({ frames := 5, cells := 0, slots := 0, locals := 128 }) (va_Pc [.ref b_o, .int p_1] (g5_P G [(b_o, .inr (12, [.int u_th, .int u_sa, .ref b_rf, .ref b_ro, .ref b_im, .ref b_ke, .int u_fd, .ref b_tp, .int u_td, .int u_fr, .int u_to, .int u_so, .long u_wo, .int u_fa, .int u_bd, .int u_nc, .ref b_nl, .int u_co, .ref b_op, .ref b_ar, .int u_le, .ref b_pi, .ref b_pa, .int u_pd, .int u_od, .ref b_ws, .ref b_hw, .int u_la, .ref b_se, .ref b_re, .int u_bk, .long u_va, .long u_su, .int u_ce, .int u_ho, .int u_wy, .int u_bt, .int u_ps, .ref b_pt, .int u_tg, .int u_sn, .ref b_ip, .int u_ic, .ref b_ah, .ref b_be, .ref b_me, .int u_wd, .ref b_tr, .ref b_ld, .long u_st, .ref b_wn, .int u_id])), (b_ro, .inl (G.2 0, 5740, .inl v_ro)), (b_se, .inl (G.2 1, 13, .inr (.inl v_se))), (b_re, .inl (G.2 1, 400, .inr (.inl v_re)))] sz)) (va_Qi (fun (r : Int32) (u : va_W) => (∃ (o_r : Int32) (o_la : Int32) (o_bk : Int32) (o_va : Int64) (o_su : Int64) (o_ho : Int32) (o_wy : Int32) (o_bt : Int32) (o_tg : Int32) (o_se : Nat → Int64) (o_re : Nat → Int64), (0 ≤ o_r.toInt ∧ o_r.toInt ≤ 1) ∧ (0 ≤ o_la.toInt ∧ o_la.toInt ≤ 4840) ∧ (0 ≤ o_bk.toInt ∧ o_bk.toInt ≤ 1) ∧ (0 ≤ o_ho.toInt ∧ o_ho.toInt ≤ 23) ∧ (0 ≤ o_wy.toInt ∧ o_wy.toInt ≤ 3) ∧ (0 ≤ o_bt.toInt ∧ o_bt.toInt ≤ 1000000) ∧ (r = o_r) ∧ (u = [(b_o, .inr (12, [.int u_th, .int u_sa, .ref b_rf, .ref b_ro, .ref b_im, .ref b_ke, .int u_fd, .ref b_tp, .int u_td, .int u_fr, .int u_to, .int u_so, .long u_wo, .int u_fa, .int u_bd, .int u_nc, .ref b_nl, .int u_co, .ref b_op, .ref b_ar, .int u_le, .ref b_pi, .ref b_pa, .int u_pd, .int u_od, .ref b_ws, .ref b_hw, .int o_la, .ref b_se, .ref b_re, .int o_bk, .long o_va, .long o_su, .int u_ce, .int o_ho, .int o_wy, .int o_bt, .int u_ps, .ref b_pt, .int o_tg, .int u_sn, .ref b_ip, .int u_ic, .ref b_ah, .ref b_be, .ref b_me, .int u_wd, .ref b_tr, .ref b_ld, .long u_st, .ref b_wn, .int u_id])), (b_ro, .inl (G.2 0, 5740, .inl v_ro)), (b_se, .inl (G.2 1, 13, .inr (.inl o_se))), (b_re, .inl (G.2 1, 400, .inr (.inl o_re)))]))) (g5_B G (va_A [(b_o, .inr (12, [.int u_th, .int u_sa, .ref b_rf, .ref b_ro, .ref b_im, .ref b_ke, .int u_fd, .ref b_tp, .int u_td, .int u_fr, .int u_to, .int u_so, .long u_wo, .int u_fa, .int u_bd, .int u_nc, .ref b_nl, .int u_co, .ref b_op, .ref b_ar, .int u_le, .ref b_pi, .ref b_pa, .int u_pd, .int u_od, .ref b_ws, .ref b_hw, .int u_la, .ref b_se, .ref b_re, .int u_bk, .long u_va, .long u_su, .int u_ce, .int u_ho, .int u_wy, .int u_bt, .int u_ps, .ref b_pt, .int u_tg, .int u_sn, .ref b_ip, .int u_ic, .ref b_ah, .ref b_be, .ref b_me, .int u_wd, .ref b_tr, .ref b_ld, .long u_st, .ref b_wn, .int u_id])), (b_ro, .inl (G.2 0, 5740, .inl v_ro)), (b_se, .inl (G.2 1, 13, .inr (.inl v_se))), (b_re, .inl (G.2 1, 400, .inr (.inl v_re)))] sz)) (va_A [(b_o, .inr (12, [.int u_th, .int u_sa, .ref b_rf, .ref b_ro, .ref b_im, .ref b_ke, .int u_fd, .ref b_tp, .int u_td, .int u_fr, .int u_to, .int u_so, .long u_wo, .int u_fa, .int u_bd, .int u_nc, .ref b_nl, .int u_co, .ref b_op, .ref b_ar, .int u_le, .ref b_pi, .ref b_pa, .int u_pd, .int u_od, .ref b_ws, .ref b_hw, .int u_la, .ref b_se, .ref b_re, .int u_bk, .long u_va, .long u_su, .int u_ce, .int u_ho, .int u_wy, .int u_bt, .int u_ps, .ref b_pt, .int u_tg, .int u_sn, .ref b_ip, .int u_ic, .ref b_ah, .ref b_be, .ref b_me, .int u_wd, .ref b_tr, .ref b_ld, .long u_st, .ref b_wn, .int u_id])), (b_ro, .inl (G.2 0, 5740, .inl v_ro)), (b_se, .inl (G.2 1, 13, .inr (.inl v_se))), (b_re, .inl (G.2 1, 400, .inr (.inl v_re)))] sz)) 0 0 (va_A [(b_o, .inr (12, [.int u_th, .int u_sa, .ref b_rf, .ref b_ro, .ref b_im, .ref b_ke, .int u_fd, .ref b_tp, .int u_td, .int u_fr, .int u_to, .int u_so, .long u_wo, .int u_fa, .int u_bd, .int u_nc, .ref b_nl, .int u_co, .ref b_op, .ref b_ar, .int u_le, .ref b_pi, .ref b_pa, .int u_pd, .int u_od, .ref b_ws, .ref b_hw, .int u_la, .ref b_se, .ref b_re, .int u_bk, .long u_va, .long u_su, .int u_ce, .int u_ho, .int u_wy, .int u_bt, .int u_ps, .ref b_pt, .int u_tg, .int u_sn, .ref b_ip, .int u_ic, .ref b_ah, .ref b_be, .ref b_me, .int u_wd, .ref b_tr, .ref b_ld, .long u_st, .ref b_wn, .int u_id])), (b_ro, .inl (G.2 0, 5740, .inl v_ro)), (b_se, .inl (G.2 1, 13, .inr (.inl v_se))), (b_re, .inl (G.2 1, 400, .inr (.inl v_re)))] sz) := by
  refine Met.ofW (cc := cX12_passes) (maxL := 3) (ret := (some .boolean)) (by decide) rfl ?_
  intro p e s m args below meth c s₁ B hml hv
  obtain ⟨rfl, hsz, hP, hK, hD0, hN, hT⟩ := hv
  have hx := B.exec
  have hb := B.bytes
  have hr := B.returns
  have hts : ∀ w ∈ tblG, w.before _ s = true := fun w h => atoms_spec (ws := (wsG yX12_passes cX12_passes 3 (some .boolean))) B.pre w (List.mem_cons_of_mem _ h)
  have hown : s.vm.findClass RX12 = some m.cls := findClass_of_methodNamed B.named
  have hlocks := B.notSynchronized
  subst hsz
  have hD := hD0.self (sz := s.heap.size)
  generalize hAe : va_A [(b_o, .inr (12, [.int u_th, .int u_sa, .ref b_rf, .ref b_ro, .ref b_im, .ref b_ke, .int u_fd, .ref b_tp, .int u_td, .int u_fr, .int u_to, .int u_so, .long u_wo, .int u_fa, .int u_bd, .int u_nc, .ref b_nl, .int u_co, .ref b_op, .ref b_ar, .int u_le, .ref b_pi, .ref b_pa, .int u_pd, .int u_od, .ref b_ws, .ref b_hw, .int u_la, .ref b_se, .ref b_re, .int u_bk, .long u_va, .long u_su, .int u_ce, .int u_ho, .int u_wy, .int u_bt, .int u_ps, .ref b_pt, .int u_tg, .int u_sn, .ref b_ip, .int u_ic, .ref b_ah, .ref b_be, .ref b_me, .int u_wd, .ref b_tr, .ref b_ld, .long u_st, .ref b_wn, .int u_id])), (b_ro, .inl (G.2 0, 5740, .inl v_ro)), (b_se, .inl (G.2 1, 13, .inr (.inl v_se))), (b_re, .inl (G.2 1, 400, .inr (.inl v_re)))] s.heap.size = A at hD hT ⊢
  have hA : ∀ q : Nat, s.heap.size ≤ q → A q := fun q h => by rw [← hAe]; exact Or.inr h
  have hS : va_S A s.heap s.heap [] := va_S.rf
  have hP : va_P G.1 vwCl [(b_o, .inr (12, [.int u_th, .int u_sa, .ref b_rf, .ref b_ro, .ref b_im, .ref b_ke, .int u_fd, .ref b_tp, .int u_td, .int u_fr, .int u_to, .int u_so, .long u_wo, .int u_fa, .int u_bd, .int u_nc, .ref b_nl, .int u_co, .ref b_op, .ref b_ar, .int u_le, .ref b_pi, .ref b_pa, .int u_pd, .int u_od, .ref b_ws, .ref b_hw, .int u_la, .ref b_se, .ref b_re, .int u_bk, .long u_va, .long u_su, .int u_ce, .int u_ho, .int u_wy, .int u_bt, .int u_ps, .ref b_pt, .int u_tg, .int u_sn, .ref b_ip, .int u_ic, .ref b_ah, .ref b_be, .ref b_me, .int u_wd, .ref b_tr, .ref b_ld, .long u_st, .ref b_wn, .int u_id])), (b_ro, .inl (G.2 0, 5740, .inl v_ro)), (b_se, .inl (G.2 1, 13, .inr (.inl v_se))), (b_re, .inl (G.2 1, 400, .inr (.inl v_re)))] s.heap := hP
  have hl := lv_entry ([.ref b_o, .int p_1]) (n := 3) (Nat.le_of_ble_eq_true rfl)
  rw [lg_entry_eq]
  generalize (lg_sl ([.ref b_o, .int p_1]) ++ List.replicate (3 - (lg_sl ([.ref b_o, .int p_1])).length) Slot.unset).toArray = ls at hl ⊢
  have hl : lv_has ls 3 [(0, .ref b_o), (1, .int p_1)] := hl
  refine lv_iconst (v := 0) hx hb dX12_passes_0 (by decide) ?_
  refine lv_istore_n (lv' := [(2, .int 0), (0, .ref b_o), (1, .int p_1)]) hx hb dX12_passes_1 rfl hl (by decide) rfl (fun ls hl => ?_)
  refine g5_loop (α := (Int32) × (Int32) × (Int32) × (Int64) × (Int64) × (Int32) × (Int32) × (Int32) × (Int32) × (Nat → Int64) × (Nat → Int64)) (fun (q : (Int32) × (Int32) × (Int32) × (Int64) × (Int64) × (Int32) × (Int32) × (Int32) × (Int32) × (Nat → Int64) × (Nat → Int64)) (ls : Array Slot) (H : Heap) (locs : List Loc) => match q with | (k2_2, k2_la, k2_bk, k2_va, k2_su, k2_ho, k2_wy, k2_bt, k2_tg, k2_se, k2_re) => lv_has ls 3 [(2, .int k2_2), (0, .ref b_o), (1, .int p_1)] ∧ va_P G.1 vwCl [(b_o, .inr (12, [.int u_th, .int u_sa, .ref b_rf, .ref b_ro, .ref b_im, .ref b_ke, .int u_fd, .ref b_tp, .int u_td, .int u_fr, .int u_to, .int u_so, .long u_wo, .int u_fa, .int u_bd, .int u_nc, .ref b_nl, .int u_co, .ref b_op, .ref b_ar, .int u_le, .ref b_pi, .ref b_pa, .int u_pd, .int u_od, .ref b_ws, .ref b_hw, .int k2_la, .ref b_se, .ref b_re, .int k2_bk, .long k2_va, .long k2_su, .int u_ce, .int k2_ho, .int k2_wy, .int k2_bt, .int u_ps, .ref b_pt, .int k2_tg, .int u_sn, .ref b_ip, .int u_ic, .ref b_ah, .ref b_be, .ref b_me, .int u_wd, .ref b_tr, .ref b_ld, .long u_st, .ref b_wn, .int u_id])), (b_ro, .inl (G.2 0, 5740, .inl v_ro)), (b_se, .inl (G.2 1, 13, .inr (.inl k2_se))), (b_re, .inl (G.2 1, 400, .inr (.inl k2_re)))] H ∧ va_D A [(b_o, .inr (12, [.int u_th, .int u_sa, .ref b_rf, .ref b_ro, .ref b_im, .ref b_ke, .int u_fd, .ref b_tp, .int u_td, .int u_fr, .int u_to, .int u_so, .long u_wo, .int u_fa, .int u_bd, .int u_nc, .ref b_nl, .int u_co, .ref b_op, .ref b_ar, .int u_le, .ref b_pi, .ref b_pa, .int u_pd, .int u_od, .ref b_ws, .ref b_hw, .int k2_la, .ref b_se, .ref b_re, .int k2_bk, .long k2_va, .long k2_su, .int u_ce, .int k2_ho, .int k2_wy, .int k2_bt, .int u_ps, .ref b_pt, .int k2_tg, .int u_sn, .ref b_ip, .int u_ic, .ref b_ah, .ref b_be, .ref b_me, .int u_wd, .ref b_tr, .ref b_ld, .long u_st, .ref b_wn, .int u_id])), (b_ro, .inl (G.2 0, 5740, .inl v_ro)), (b_se, .inl (G.2 1, 13, .inr (.inl k2_se))), (b_re, .inl (G.2 1, 400, .inr (.inl k2_re)))] ∧ va_S A s.heap H locs ∧ (0 ≤ k2_2.toInt ∧ k2_2.toInt ≤ 6) ∧ (0 ≤ k2_la.toInt ∧ k2_la.toInt ≤ 4840) ∧ (0 ≤ k2_bk.toInt ∧ k2_bk.toInt ≤ 1) ∧ (0 ≤ k2_ho.toInt ∧ k2_ho.toInt ≤ 23) ∧ (0 ≤ k2_wy.toInt ∧ k2_wy.toInt ≤ 3) ∧ (0 ≤ k2_bt.toInt ∧ k2_bt.toInt ≤ 1000000)) (fun (q : (Int32) × (Int32) × (Int32) × (Int64) × (Int64) × (Int32) × (Int32) × (Int32) × (Int32) × (Nat → Int64) × (Nat → Int64)) => match q with | (k2_2, k2_la, k2_bk, k2_va, k2_su, k2_ho, k2_wy, k2_bt, k2_tg, k2_se, k2_re) => Int.toNat (6 - k2_2.toInt)) (0, u_la, u_bk, u_va, u_su, u_ho, u_wy, u_bt, u_tg, v_se, v_re) ⟨lv_sub hl [0, 1, 2] rfl, hP, hD, hS, ⟨by decide, by decide⟩, ⟨by omega, by omega⟩, ⟨by omega, by omega⟩, ⟨by omega, by omega⟩, ⟨by omega, by omega⟩, ⟨by omega, by omega⟩⟩ ?_
  rintro ⟨k2_2, k2_la, k2_bk, k2_va, k2_su, k2_ho, k2_wy, k2_bt, k2_tg, k2_se, k2_re⟩ ls H locs ⟨hl, hP, hD, hS, i_1, i_2, i_3, i_4, i_5, i_6⟩ ih_2_7
  have hl : lv_has ls 3 [(2, .int k2_2), (0, .ref b_o), (1, .int p_1)] := hl
  have i_1 : 0 ≤ k2_2.toInt ∧ k2_2.toInt ≤ 6 := i_1
  have i_2 : 0 ≤ k2_la.toInt ∧ k2_la.toInt ≤ 4840 := i_2
  have i_3 : 0 ≤ k2_bk.toInt ∧ k2_bk.toInt ≤ 1 := i_3
  have i_4 : 0 ≤ k2_ho.toInt ∧ k2_ho.toInt ≤ 23 := i_4
  have i_5 : 0 ≤ k2_wy.toInt ∧ k2_wy.toInt ≤ 3 := i_5
  have i_6 : 0 ≤ k2_bt.toInt ∧ k2_bt.toInt ≤ 1000000 := i_6
  have hP : va_P G.1 vwCl [(b_o, .inr (12, [.int u_th, .int u_sa, .ref b_rf, .ref b_ro, .ref b_im, .ref b_ke, .int u_fd, .ref b_tp, .int u_td, .int u_fr, .int u_to, .int u_so, .long u_wo, .int u_fa, .int u_bd, .int u_nc, .ref b_nl, .int u_co, .ref b_op, .ref b_ar, .int u_le, .ref b_pi, .ref b_pa, .int u_pd, .int u_od, .ref b_ws, .ref b_hw, .int k2_la, .ref b_se, .ref b_re, .int k2_bk, .long k2_va, .long k2_su, .int u_ce, .int k2_ho, .int k2_wy, .int k2_bt, .int u_ps, .ref b_pt, .int k2_tg, .int u_sn, .ref b_ip, .int u_ic, .ref b_ah, .ref b_be, .ref b_me, .int u_wd, .ref b_tr, .ref b_ld, .long u_st, .ref b_wn, .int u_id])), (b_ro, .inl (G.2 0, 5740, .inl v_ro)), (b_se, .inl (G.2 1, 13, .inr (.inl k2_se))), (b_re, .inl (G.2 1, 400, .inr (.inl k2_re)))] H := hP
  have hD : va_D A [(b_o, .inr (12, [.int u_th, .int u_sa, .ref b_rf, .ref b_ro, .ref b_im, .ref b_ke, .int u_fd, .ref b_tp, .int u_td, .int u_fr, .int u_to, .int u_so, .long u_wo, .int u_fa, .int u_bd, .int u_nc, .ref b_nl, .int u_co, .ref b_op, .ref b_ar, .int u_le, .ref b_pi, .ref b_pa, .int u_pd, .int u_od, .ref b_ws, .ref b_hw, .int k2_la, .ref b_se, .ref b_re, .int k2_bk, .long k2_va, .long k2_su, .int u_ce, .int k2_ho, .int k2_wy, .int k2_bt, .int u_ps, .ref b_pt, .int k2_tg, .int u_sn, .ref b_ip, .int u_ic, .ref b_ah, .ref b_be, .ref b_me, .int u_wd, .ref b_tr, .ref b_ld, .long u_st, .ref b_wn, .int u_id])), (b_ro, .inl (G.2 0, 5740, .inl v_ro)), (b_se, .inl (G.2 1, 13, .inr (.inl k2_se))), (b_re, .inl (G.2 1, 400, .inr (.inl k2_re)))] := hD
  refine lv_iload_n hx hb dX12_passes_2 rfl (lv_at hl 0 rfl) ?_
  refine lv_aload_n hx hb dX12_passes_3 rfl (lv_at hl 1 rfl) ?_
  refine va_get (D := G.1) (ci := 12) (v := .ref b_ro) (C := RX12) (T := TX12) (N := 52) hx hb hts inG_X12 hown hK hP 0 rfl rfl 3 (by decide) (hts _ fl_X12_13) (fun _ h9 => h9) rfl dX12_passes_4 ?_
  refine lv_iconst (v := 0) hx hb dX12_passes_7 (by decide) ?_
  refine va_iald hx hb hK hP 1 0 rfl rfl (i := 0) (by unfold vp_in; decide) dX12_passes_8 ?_
  refine g5_ti (v := (v_ro 0)) rfl ?_
  have hr_8 : 0 ≤ (v_ro 0).toInt ∧ (v_ro 0).toInt ≤ 6 := mi_0 r_ro
  refine lv_icmp_ge (tgt := 68) hx hb dX12_passes_9 (by decide) (fun c_9 => ?_) (fun c_9 => ?_)
  ·
    have i_9 : k2_2.toInt ≥ (v_ro 0).toInt := by have z := g5_ge (a := k2_2.toInt) (b := (v_ro 0).toInt) (by rfl) (by rfl) c_9; omega
    refine lv_iconst (v := 0) hx hb dX12_passes_68 (by decide) ?_
    refine lv_istore_n (lv' := [(2, .int 0), (0, .ref b_o), (1, .int p_1)]) hx hb dX12_passes_69 rfl hl (by decide) rfl (fun ls hl => ?_)
    refine g5_loop (α := (Int32) × (Int32) × (Int32) × (Int64) × (Int64) × (Int32) × (Int32) × (Int32) × (Int32) × (Nat → Int64) × (Nat → Int64)) (fun (q : (Int32) × (Int32) × (Int32) × (Int64) × (Int64) × (Int32) × (Int32) × (Int32) × (Int32) × (Nat → Int64) × (Nat → Int64)) (ls : Array Slot) (H : Heap) (locs : List Loc) => match q with | (k70_2, k70_la, k70_bk, k70_va, k70_su, k70_ho, k70_wy, k70_bt, k70_tg, k70_se, k70_re) => lv_has ls 3 [(2, .int k70_2), (0, .ref b_o), (1, .int p_1)] ∧ va_P G.1 vwCl [(b_o, .inr (12, [.int u_th, .int u_sa, .ref b_rf, .ref b_ro, .ref b_im, .ref b_ke, .int u_fd, .ref b_tp, .int u_td, .int u_fr, .int u_to, .int u_so, .long u_wo, .int u_fa, .int u_bd, .int u_nc, .ref b_nl, .int u_co, .ref b_op, .ref b_ar, .int u_le, .ref b_pi, .ref b_pa, .int u_pd, .int u_od, .ref b_ws, .ref b_hw, .int k70_la, .ref b_se, .ref b_re, .int k70_bk, .long k70_va, .long k70_su, .int u_ce, .int k70_ho, .int k70_wy, .int k70_bt, .int u_ps, .ref b_pt, .int k70_tg, .int u_sn, .ref b_ip, .int u_ic, .ref b_ah, .ref b_be, .ref b_me, .int u_wd, .ref b_tr, .ref b_ld, .long u_st, .ref b_wn, .int u_id])), (b_ro, .inl (G.2 0, 5740, .inl v_ro)), (b_se, .inl (G.2 1, 13, .inr (.inl k70_se))), (b_re, .inl (G.2 1, 400, .inr (.inl k70_re)))] H ∧ va_D A [(b_o, .inr (12, [.int u_th, .int u_sa, .ref b_rf, .ref b_ro, .ref b_im, .ref b_ke, .int u_fd, .ref b_tp, .int u_td, .int u_fr, .int u_to, .int u_so, .long u_wo, .int u_fa, .int u_bd, .int u_nc, .ref b_nl, .int u_co, .ref b_op, .ref b_ar, .int u_le, .ref b_pi, .ref b_pa, .int u_pd, .int u_od, .ref b_ws, .ref b_hw, .int k70_la, .ref b_se, .ref b_re, .int k70_bk, .long k70_va, .long k70_su, .int u_ce, .int k70_ho, .int k70_wy, .int k70_bt, .int u_ps, .ref b_pt, .int k70_tg, .int u_sn, .ref b_ip, .int u_ic, .ref b_ah, .ref b_be, .ref b_me, .int u_wd, .ref b_tr, .ref b_ld, .long u_st, .ref b_wn, .int u_id])), (b_ro, .inl (G.2 0, 5740, .inl v_ro)), (b_se, .inl (G.2 1, 13, .inr (.inl k70_se))), (b_re, .inl (G.2 1, 400, .inr (.inl k70_re)))] ∧ va_S A s.heap H locs ∧ (0 ≤ k70_2.toInt ∧ k70_2.toInt ≤ 8) ∧ (0 ≤ k70_la.toInt ∧ k70_la.toInt ≤ 4840) ∧ (0 ≤ k70_bk.toInt ∧ k70_bk.toInt ≤ 1) ∧ (0 ≤ k70_ho.toInt ∧ k70_ho.toInt ≤ 23) ∧ (0 ≤ k70_wy.toInt ∧ k70_wy.toInt ≤ 3) ∧ (0 ≤ k70_bt.toInt ∧ k70_bt.toInt ≤ 1000000)) (fun (q : (Int32) × (Int32) × (Int32) × (Int64) × (Int64) × (Int32) × (Int32) × (Int32) × (Int32) × (Nat → Int64) × (Nat → Int64)) => match q with | (k70_2, k70_la, k70_bk, k70_va, k70_su, k70_ho, k70_wy, k70_bt, k70_tg, k70_se, k70_re) => Int.toNat (8 - k70_2.toInt)) (0, k2_la, k2_bk, k2_va, k2_su, k2_ho, k2_wy, k2_bt, k2_tg, k2_se, k2_re) ⟨lv_sub hl [0, 1, 2] rfl, hP, hD, hS, ⟨by decide, by decide⟩, ⟨by omega, by omega⟩, ⟨by omega, by omega⟩, ⟨by omega, by omega⟩, ⟨by omega, by omega⟩, ⟨by omega, by omega⟩⟩ ?_
    rintro ⟨k70_2, k70_la, k70_bk, k70_va, k70_su, k70_ho, k70_wy, k70_bt, k70_tg, k70_se, k70_re⟩ ls H locs ⟨hl, hP, hD, hS, i_10, i_11, i_12, i_13, i_14, i_15⟩ ih_70_16
    have hl : lv_has ls 3 [(2, .int k70_2), (0, .ref b_o), (1, .int p_1)] := hl
    have i_10 : 0 ≤ k70_2.toInt ∧ k70_2.toInt ≤ 8 := i_10
    have i_11 : 0 ≤ k70_la.toInt ∧ k70_la.toInt ≤ 4840 := i_11
    have i_12 : 0 ≤ k70_bk.toInt ∧ k70_bk.toInt ≤ 1 := i_12
    have i_13 : 0 ≤ k70_ho.toInt ∧ k70_ho.toInt ≤ 23 := i_13
    have i_14 : 0 ≤ k70_wy.toInt ∧ k70_wy.toInt ≤ 3 := i_14
    have i_15 : 0 ≤ k70_bt.toInt ∧ k70_bt.toInt ≤ 1000000 := i_15
    have hP : va_P G.1 vwCl [(b_o, .inr (12, [.int u_th, .int u_sa, .ref b_rf, .ref b_ro, .ref b_im, .ref b_ke, .int u_fd, .ref b_tp, .int u_td, .int u_fr, .int u_to, .int u_so, .long u_wo, .int u_fa, .int u_bd, .int u_nc, .ref b_nl, .int u_co, .ref b_op, .ref b_ar, .int u_le, .ref b_pi, .ref b_pa, .int u_pd, .int u_od, .ref b_ws, .ref b_hw, .int k70_la, .ref b_se, .ref b_re, .int k70_bk, .long k70_va, .long k70_su, .int u_ce, .int k70_ho, .int k70_wy, .int k70_bt, .int u_ps, .ref b_pt, .int k70_tg, .int u_sn, .ref b_ip, .int u_ic, .ref b_ah, .ref b_be, .ref b_me, .int u_wd, .ref b_tr, .ref b_ld, .long u_st, .ref b_wn, .int u_id])), (b_ro, .inl (G.2 0, 5740, .inl v_ro)), (b_se, .inl (G.2 1, 13, .inr (.inl k70_se))), (b_re, .inl (G.2 1, 400, .inr (.inl k70_re)))] H := hP
    have hD : va_D A [(b_o, .inr (12, [.int u_th, .int u_sa, .ref b_rf, .ref b_ro, .ref b_im, .ref b_ke, .int u_fd, .ref b_tp, .int u_td, .int u_fr, .int u_to, .int u_so, .long u_wo, .int u_fa, .int u_bd, .int u_nc, .ref b_nl, .int u_co, .ref b_op, .ref b_ar, .int u_le, .ref b_pi, .ref b_pa, .int u_pd, .int u_od, .ref b_ws, .ref b_hw, .int k70_la, .ref b_se, .ref b_re, .int k70_bk, .long k70_va, .long k70_su, .int u_ce, .int k70_ho, .int k70_wy, .int k70_bt, .int u_ps, .ref b_pt, .int k70_tg, .int u_sn, .ref b_ip, .int u_ic, .ref b_ah, .ref b_be, .ref b_me, .int u_wd, .ref b_tr, .ref b_ld, .long u_st, .ref b_wn, .int u_id])), (b_ro, .inl (G.2 0, 5740, .inl v_ro)), (b_se, .inl (G.2 1, 13, .inr (.inl k70_se))), (b_re, .inl (G.2 1, 400, .inr (.inl k70_re)))] := hD
    refine lv_iload_n hx hb dX12_passes_70 rfl (lv_at hl 0 rfl) ?_
    refine lv_aload_n hx hb dX12_passes_71 rfl (lv_at hl 1 rfl) ?_
    refine va_get (D := G.1) (ci := 12) (v := .ref b_ro) (C := RX12) (T := TX12) (N := 52) hx hb hts inG_X12 hown hK hP 0 rfl rfl 3 (by decide) (hts _ fl_X12_13) (fun _ h9 => h9) rfl dX12_passes_72 ?_
    refine lv_bipush (v := 7) hx hb dX12_passes_75 (by decide) ?_
    refine va_iald hx hb hK hP 1 0 rfl rfl (i := 7) (by unfold vp_in; decide) dX12_passes_77 ?_
    refine g5_ti (v := (v_ro 7)) rfl ?_
    have hr_17 : 0 ≤ (v_ro 7).toInt ∧ (v_ro 7).toInt ≤ 8 := mi_7 r_ro
    refine lv_icmp_ge (tgt := 153) hx hb dX12_passes_78 (by decide) (fun c_18 => ?_) (fun c_18 => ?_)
    ·
      have i_18 : k70_2.toInt ≥ (v_ro 7).toInt := by have z := g5_ge (a := k70_2.toInt) (b := (v_ro 7).toInt) (by rfl) (by rfl) c_18; omega
      refine lv_iconst (v := 1) hx hb dX12_passes_153 (by decide) ?_
      exact W.zret (v := 1) hx hb hr rfl (fun t ht hW => ⟨⟨1, [(b_o, .inr (12, [.int u_th, .int u_sa, .ref b_rf, .ref b_ro, .ref b_im, .ref b_ke, .int u_fd, .ref b_tp, .int u_td, .int u_fr, .int u_to, .int u_so, .long u_wo, .int u_fa, .int u_bd, .int u_nc, .ref b_nl, .int u_co, .ref b_op, .ref b_ar, .int u_le, .ref b_pi, .ref b_pa, .int u_pd, .int u_od, .ref b_ws, .ref b_hw, .int k70_la, .ref b_se, .ref b_re, .int k70_bk, .long k70_va, .long k70_su, .int u_ce, .int k70_ho, .int k70_wy, .int k70_bt, .int u_ps, .ref b_pt, .int k70_tg, .int u_sn, .ref b_ip, .int u_ic, .ref b_ah, .ref b_be, .ref b_me, .int u_wd, .ref b_tr, .ref b_ld, .long u_st, .ref b_wn, .int u_id])), (b_ro, .inl (G.2 0, 5740, .inl v_ro)), (b_se, .inl (G.2 1, 13, .inr (.inl k70_se))), (b_re, .inl (G.2 1, 400, .inr (.inl k70_re)))], rfl, ⟨1, k70_la, k70_bk, k70_va, k70_su, k70_ho, k70_wy, k70_bt, k70_tg, k70_se, k70_re, ⟨by have zc_o_r : (1 : Int32).toInt = 1 := (by decide); omega, by have zc_o_r : (1 : Int32).toInt = 1 := (by decide); omega⟩, ⟨by omega, by omega⟩, ⟨by omega, by omega⟩, ⟨by omega, by omega⟩, ⟨by omega, by omega⟩, ⟨by omega, by omega⟩, rfl, rfl⟩, by rw [ht]; exact hP.sub [0, 1, 2, 3] rfl, hD.sub [0, 1, 2, 3] (by decide) rfl⟩, hS.F ht⟩) hS.2.2 dX12_passes_154
    ·
      have i_18 : k70_2.toInt < (v_ro 7).toInt := by have z := g5_geN (a := k70_2.toInt) (b := (v_ro 7).toInt) (by rfl) (by rfl) c_18; omega
      refine lv_iload_n hx hb dX12_passes_81 rfl (lv_at hl 2 rfl) ?_
      refine lv_iload_n hx hb dX12_passes_82 rfl (lv_at hl 0 rfl) ?_
      have hPc := hP.sub (ws' := []) [] rfl
      have hDc := hD.sub (ws' := []) [] (by decide) rfl
      have hFc := va_free (wc := []) hD hS hA [] rfl
      refine va_calli (va_runS (As := [.int p_1, .int k70_2]) (rest := []) ⟨hx, hb, hml, hown, hts⟩ (n_is l G H.size p_1 k70_2) (va_cwS 2 hts gS_X12_387 rfl rfl rfl hs_X12_is ⟨Nat.le_of_ble_eq_true rfl, Nat.le_of_ble_eq_true rfl⟩) (g5_preS hPc hK hDc hN hT hS hFc) rfl rfl hl.1 rfl (lv_room (Nat.le_of_ble_eq_true rfl)) dX12_passes_83 ⟨Nat.le_of_ble_eq_true rfl, Nat.le_of_ble_eq_true rfl⟩) hS (fun q _ h => hFc q h) hFc (fun r u t H1 locs ht hvm hw hB hz1 hk1 hS => ?_)
      obtain ⟨hP1, hD1⟩ := hB
      rw [ht] at hP1
      obtain ⟨z20, i_19, y21, rfl⟩ := hw
      have i_19 : 0 ≤ z20.toInt ∧ z20.toInt ≤ 1 := i_19
      have hP := g5_same hP hk1
      generalize H1 = H at hP hS ⊢
      refine g5_ti (v := z20) y21 ?_
      refine lv_if_eq (tgt := 147) hx hb dX12_passes_86 (by decide) (fun c_22 => ?_) (fun c_22 => ?_)
      ·
        have i_22 : z20.toInt = 0 := by have z := g5_eq (a := z20.toInt) (b := 0) (by rfl) (by decide) c_22; omega
        refine lv_iinc (v := (k70_2 + 1)) (lv' := [(2, .int (k70_2 + 1)), (0, .ref b_o), (1, .int p_1)]) hx hb dX12_passes_147 hl (k := 0) rfl rfl (by decide) rfl (fun ls hl => ?_)
        have t_23 : (k70_2 + 1).toInt = k70_2.toInt + 1 := g5_iadd (a := k70_2.toInt) (b := 1) rfl (by decide) (by omega) (by omega)
        refine lv_goto (tgt := 70) hx hb dX12_passes_150 (by decide) ?_
        exact ih_70_16 ((k70_2 + 1), k70_la, k70_bk, k70_va, k70_su, k70_ho, k70_wy, k70_bt, k70_tg, k70_se, k70_re) ls H locs (show Int.toNat (8 - (k70_2 + 1).toInt) < Int.toNat (8 - k70_2.toInt) from g_up (show k70_2.toInt < (k70_2 + 1).toInt by omega) (show k70_2.toInt < 8 by omega)) ⟨lv_sub hl [0, 1, 2] rfl, hP, hD, hS, ⟨by omega, by omega⟩, ⟨by omega, by omega⟩, ⟨by omega, by omega⟩, ⟨by omega, by omega⟩, ⟨by omega, by omega⟩, ⟨by omega, by omega⟩⟩
      ·
        have n_22 : gNe (z20.toInt) (0) := by have z := g5_eqN (a := z20.toInt) (b := 0) (by rfl) (by decide) c_22; unfold gNe; omega
        have i_22 : z20.toInt ≥ 1 := by have z := g5_eqN (a := z20.toInt) (b := 0) (by rfl) (by decide) c_22; omega
        refine lv_aload_n hx hb dX12_passes_89 rfl (lv_at hl 1 rfl) ?_
        refine va_get (D := G.1) (ci := 12) (v := .ref b_ro) (C := RX12) (T := TX12) (N := 52) hx hb hts inG_X12 hown hK hP 0 rfl rfl 3 (by decide) (hts _ fl_X12_13) (fun _ h9 => h9) rfl dX12_passes_90 ?_
        refine lv_sipush (v := 270) hx hb dX12_passes_93 (by decide) ?_
        refine lv_iconst (v := 3) hx hb dX12_passes_96 (by decide) ?_
        refine lv_iload_n hx hb dX12_passes_97 rfl (lv_at hl 0 rfl) ?_
        refine lv_imul hx hb dX12_passes_98 ?_
        have t_24 : (3 * k70_2).toInt = 3 * k70_2.toInt := g5_imul (a := 3) (b := k70_2.toInt) (by decide) (by rfl) (by omega) (by omega)
        refine lv_iadd hx hb dX12_passes_99 ?_
        have t_25 : (270 + (3 * k70_2)).toInt = 270 + (3 * k70_2).toInt := g5_iadd (a := 270) (b := (3 * k70_2).toInt) (by decide) (by rfl) (by omega) (by omega)
        refine va_iald hx hb hK hP 1 0 rfl rfl (i := (270 + (3 * k70_2))) (vp_in_iff.mpr ⟨by omega, by omega⟩) dX12_passes_100 ?_
        refine lv_aload_n hx hb dX12_passes_101 rfl (lv_at hl 1 rfl) ?_
        refine va_get (D := G.1) (ci := 12) (v := .int u_ce) (C := RX12) (T := TX12) (N := 52) hx hb hts inG_X12 hown hK hP 0 rfl rfl 33 (by decide) (hts _ fl_X12_349) (fun _ h9 => h9) rfl dX12_passes_102 ?_
        refine lv_icmp_ne (tgt := 147) hx hb dX12_passes_105 (by decide) (fun c_26 => ?_) (fun c_26 => ?_)
        ·
          have n_26 : gNe ((v_ro (270 + (3 * k70_2)).toNatClampNeg).toInt) (u_ce.toInt) := by have z := g5_ne (a := (v_ro (270 + (3 * k70_2)).toNatClampNeg).toInt) (b := u_ce.toInt) (by rfl) (by rfl) c_26; unfold gNe; omega
          refine lv_iinc (v := (k70_2 + 1)) (lv' := [(2, .int (k70_2 + 1)), (0, .ref b_o), (1, .int p_1)]) hx hb dX12_passes_147 hl (k := 0) rfl rfl (by decide) rfl (fun ls hl => ?_)
          have t_27 : (k70_2 + 1).toInt = k70_2.toInt + 1 := g5_iadd (a := k70_2.toInt) (b := 1) rfl (by decide) (by omega) (by omega)
          refine lv_goto (tgt := 70) hx hb dX12_passes_150 (by decide) ?_
          exact ih_70_16 ((k70_2 + 1), k70_la, k70_bk, k70_va, k70_su, k70_ho, k70_wy, k70_bt, k70_tg, k70_se, k70_re) ls H locs (show Int.toNat (8 - (k70_2 + 1).toInt) < Int.toNat (8 - k70_2.toInt) from g_up (show k70_2.toInt < (k70_2 + 1).toInt by omega) (show k70_2.toInt < 8 by omega)) ⟨lv_sub hl [0, 1, 2] rfl, hP, hD, hS, ⟨by omega, by omega⟩, ⟨by omega, by omega⟩, ⟨by omega, by omega⟩, ⟨by omega, by omega⟩, ⟨by omega, by omega⟩, ⟨by omega, by omega⟩⟩
        ·
          have i_26 : (v_ro (270 + (3 * k70_2)).toNatClampNeg).toInt = u_ce.toInt := by have z := g5_neN (a := (v_ro (270 + (3 * k70_2)).toNatClampNeg).toInt) (b := u_ce.toInt) (by rfl) (by rfl) c_26; omega
          refine lv_aload_n hx hb dX12_passes_108 rfl (lv_at hl 1 rfl) ?_
          refine lv_bipush (v := 6) hx hb dX12_passes_109 (by decide) ?_
          refine lv_iload_n hx hb dX12_passes_111 rfl (lv_at hl 0 rfl) ?_
          refine lv_iadd hx hb dX12_passes_112 ?_
          have t_28 : (6 + k70_2).toInt = 6 + k70_2.toInt := g5_iadd (a := 6) (b := k70_2.toInt) (by decide) (by rfl) (by omega) (by omega)
          refine lv_aload_n hx hb dX12_passes_113 rfl (lv_at hl 1 rfl) ?_
          refine va_get (D := G.1) (ci := 12) (v := .ref b_ro) (C := RX12) (T := TX12) (N := 52) hx hb hts inG_X12 hown hK hP 0 rfl rfl 3 (by decide) (hts _ fl_X12_13) (fun _ h9 => h9) rfl dX12_passes_114 ?_
          refine lv_sipush (v := 270) hx hb dX12_passes_117 (by decide) ?_
          refine lv_iconst (v := 3) hx hb dX12_passes_120 (by decide) ?_
          refine lv_iload_n hx hb dX12_passes_121 rfl (lv_at hl 0 rfl) ?_
          refine lv_imul hx hb dX12_passes_122 ?_
          have t_29 : (3 * k70_2).toInt = 3 * k70_2.toInt := g5_imul (a := 3) (b := k70_2.toInt) (by decide) (by rfl) (by omega) (by omega)
          refine lv_iadd hx hb dX12_passes_123 ?_
          have t_30 : (270 + (3 * k70_2)).toInt = 270 + (3 * k70_2).toInt := g5_iadd (a := 270) (b := (3 * k70_2).toInt) (by decide) (by rfl) (by omega) (by omega)
          refine lv_iconst (v := 1) hx hb dX12_passes_124 (by decide) ?_
          refine lv_iadd hx hb dX12_passes_125 ?_
          have t_31 : ((270 + (3 * k70_2)) + 1).toInt = (270 + (3 * k70_2)).toInt + 1 := g5_iadd (a := (270 + (3 * k70_2)).toInt) (b := 1) (by rfl) (by decide) (by omega) (by omega)
          refine va_iald hx hb hK hP 1 0 rfl rfl (i := ((270 + (3 * k70_2)) + 1)) (vp_in_iff.mpr ⟨by omega, by omega⟩) dX12_passes_126 ?_
          have hv_32 : 0 ≤ (v_ro ((270 + (3 * k70_2)) + 1).toNatClampNeg).toInt ∧ (v_ro ((270 + (3 * k70_2)) + 1).toNatClampNeg).toInt ≤ 5 := mi_270_1 r_ro (by have zz := g5_clamp ((270 + (3 * k70_2)) + 1); omega) (by have zz := g5_clamp ((270 + (3 * k70_2)) + 1); omega) (by have zz := g5_clamp ((270 + (3 * k70_2)) + 1); omega)
          refine lv_aload_n hx hb dX12_passes_127 rfl (lv_at hl 1 rfl) ?_
          refine va_get (D := G.1) (ci := 12) (v := .ref b_ro) (C := RX12) (T := TX12) (N := 52) hx hb hts inG_X12 hown hK hP 0 rfl rfl 3 (by decide) (hts _ fl_X12_13) (fun _ h9 => h9) rfl dX12_passes_128 ?_
          refine lv_sipush (v := 270) hx hb dX12_passes_131 (by decide) ?_
          refine lv_iconst (v := 3) hx hb dX12_passes_134 (by decide) ?_
          refine lv_iload_n hx hb dX12_passes_135 rfl (lv_at hl 0 rfl) ?_
          refine lv_imul hx hb dX12_passes_136 ?_
          have t_33 : (3 * k70_2).toInt = 3 * k70_2.toInt := g5_imul (a := 3) (b := k70_2.toInt) (by decide) (by rfl) (by omega) (by omega)
          refine lv_iadd hx hb dX12_passes_137 ?_
          have t_34 : (270 + (3 * k70_2)).toInt = 270 + (3 * k70_2).toInt := g5_iadd (a := 270) (b := (3 * k70_2).toInt) (by decide) (by rfl) (by omega) (by omega)
          refine lv_iconst (v := 2) hx hb dX12_passes_138 (by decide) ?_
          refine lv_iadd hx hb dX12_passes_139 ?_
          have t_35 : ((270 + (3 * k70_2)) + 2).toInt = (270 + (3 * k70_2)).toInt + 2 := g5_iadd (a := (270 + (3 * k70_2)).toInt) (b := 2) (by rfl) (by decide) (by omega) (by omega)
          refine va_iald hx hb hK hP 1 0 rfl rfl (i := ((270 + (3 * k70_2)) + 2)) (vp_in_iff.mpr ⟨by omega, by omega⟩) dX12_passes_140 ?_
          have hv_36 : 0 ≤ (v_ro ((270 + (3 * k70_2)) + 2).toNatClampNeg).toInt ∧ (v_ro ((270 + (3 * k70_2)) + 2).toNatClampNeg).toInt ≤ 23 := mi_270_2 r_ro (by have zz := g5_clamp ((270 + (3 * k70_2)) + 2); omega) (by have zz := g5_clamp ((270 + (3 * k70_2)) + 2); omega) (by have zz := g5_clamp ((270 + (3 * k70_2)) + 2); omega)
          refine lv_iconst (v := 0) hx hb dX12_passes_141 (by decide) ?_
          refine lv_iconst (v := 0) hx hb dX12_passes_142 (by decide) ?_
          have hPc := hP.sub (ws' := [(b_o, .inr (12, [.int u_th, .int u_sa, .ref b_rf, .ref b_ro, .ref b_im, .ref b_ke, .int u_fd, .ref b_tp, .int u_td, .int u_fr, .int u_to, .int u_so, .long u_wo, .int u_fa, .int u_bd, .int u_nc, .ref b_nl, .int u_co, .ref b_op, .ref b_ar, .int u_le, .ref b_pi, .ref b_pa, .int u_pd, .int u_od, .ref b_ws, .ref b_hw, .int k70_la, .ref b_se, .ref b_re, .int k70_bk, .long k70_va, .long k70_su, .int u_ce, .int k70_ho, .int k70_wy, .int k70_bt, .int u_ps, .ref b_pt, .int k70_tg, .int u_sn, .ref b_ip, .int u_ic, .ref b_ah, .ref b_be, .ref b_me, .int u_wd, .ref b_tr, .ref b_ld, .long u_st, .ref b_wn, .int u_id])), (b_ro, .inl (G.2 0, 5740, .inl v_ro)), (b_se, .inl (G.2 1, 13, .inr (.inl k70_se))), (b_re, .inl (G.2 1, 400, .inr (.inl k70_re)))]) [0, 1, 2, 3] rfl
          have hDc := hD.sub (ws' := [(b_o, .inr (12, [.int u_th, .int u_sa, .ref b_rf, .ref b_ro, .ref b_im, .ref b_ke, .int u_fd, .ref b_tp, .int u_td, .int u_fr, .int u_to, .int u_so, .long u_wo, .int u_fa, .int u_bd, .int u_nc, .ref b_nl, .int u_co, .ref b_op, .ref b_ar, .int u_le, .ref b_pi, .ref b_pa, .int u_pd, .int u_od, .ref b_ws, .ref b_hw, .int k70_la, .ref b_se, .ref b_re, .int k70_bk, .long k70_va, .long k70_su, .int u_ce, .int k70_ho, .int k70_wy, .int k70_bt, .int u_ps, .ref b_pt, .int k70_tg, .int u_sn, .ref b_ip, .int u_ic, .ref b_ah, .ref b_be, .ref b_me, .int u_wd, .ref b_tr, .ref b_ld, .long u_st, .ref b_wn, .int u_id])), (b_ro, .inl (G.2 0, 5740, .inl v_ro)), (b_se, .inl (G.2 1, 13, .inr (.inl k70_se))), (b_re, .inl (G.2 1, 400, .inr (.inl k70_re)))]) [0, 1, 2, 3] (by decide) rfl
          have hFc := va_free (wc := [(b_o, .inr (12, [.int u_th, .int u_sa, .ref b_rf, .ref b_ro, .ref b_im, .ref b_ke, .int u_fd, .ref b_tp, .int u_td, .int u_fr, .int u_to, .int u_so, .long u_wo, .int u_fa, .int u_bd, .int u_nc, .ref b_nl, .int u_co, .ref b_op, .ref b_ar, .int u_le, .ref b_pi, .ref b_pa, .int u_pd, .int u_od, .ref b_ws, .ref b_hw, .int k70_la, .ref b_se, .ref b_re, .int k70_bk, .long k70_va, .long k70_su, .int u_ce, .int k70_ho, .int k70_wy, .int k70_bt, .int u_ps, .ref b_pt, .int k70_tg, .int u_sn, .ref b_ip, .int u_ic, .ref b_ah, .ref b_be, .ref b_me, .int u_wd, .ref b_tr, .ref b_ld, .long u_st, .ref b_wn, .int u_id])), (b_ro, .inl (G.2 0, 5740, .inl v_ro)), (b_se, .inl (G.2 1, 13, .inr (.inl k70_se))), (b_re, .inl (G.2 1, 400, .inr (.inl k70_re)))]) hD hS hA [0, 1, 2, 3] rfl
          refine va_calli (va_runV (As := [.int (6 + k70_2), .int (v_ro ((270 + (3 * k70_2)) + 1).toNatClampNeg), .int (v_ro ((270 + (3 * k70_2)) + 2).toNatClampNeg), .int 0, .int 0]) (rest := []) ⟨hx, hb, hml, hown, hts⟩ (n_turns l G b_o b_ro b_se b_re b_rf b_im b_ke b_tp b_nl b_op b_ar b_pi b_pa b_ws b_hw b_pt b_ip b_ah b_be b_me b_tr b_ld b_wn H.size u_th u_sa u_fd u_td u_fr u_to u_so u_fa u_bd u_nc u_co u_le u_pd u_od k70_la k70_bk u_ce k70_ho k70_wy k70_bt u_ps k70_tg u_sn u_ic u_wd u_id (6 + k70_2) (v_ro ((270 + (3 * k70_2)) + 1).toNatClampNeg) (v_ro ((270 + (3 * k70_2)) + 2).toNatClampNeg) 0 0 u_wo k70_va k70_su u_st v_ro k70_se k70_re ⟨by omega, by omega⟩ ⟨by omega, by omega⟩ ⟨by omega, by omega⟩ ⟨by omega, by omega⟩ ⟨by omega, by omega⟩ ⟨by omega, by omega⟩ ⟨by omega, by omega⟩ ⟨by omega, by omega⟩ ⟨by omega, by omega⟩ ⟨by omega, by omega⟩ ⟨by omega, by omega⟩ ⟨by omega, by omega⟩ ⟨by omega, by omega⟩ ⟨by omega, by omega⟩ ⟨by omega, by omega⟩ ⟨by omega, by omega⟩ ⟨by omega, by omega⟩ ⟨by omega, by omega⟩ ⟨by decide, by decide⟩ ⟨by decide, by decide⟩ (r_ro)) (cwV 5 hts gV_X12_390 rfl rfl rfl hv_X12_turns ⟨Nat.le_of_ble_eq_true rfl, Nat.le_of_ble_eq_true rfl⟩) (g5_preV hPc hK hDc hN hT hS hFc (ci := 12) (q0 := 0) rfl rfl) rfl rfl hl.1 rfl (lv_room (Nat.le_of_ble_eq_true rfl)) dX12_passes_143 ⟨Nat.le_of_ble_eq_true rfl, Nat.le_of_ble_eq_true rfl⟩) hS (fun q _ h => hFc q h) hFc (fun r u t H1 locs ht hvm hw hB hz1 hk1 hS => ?_)
          obtain ⟨hP1, hD1⟩ := hB
          rw [ht] at hP1
          obtain ⟨z43, z44, z45, z46, z47, z48, z49, z50, z51, z52, z53, i_37, i_38, i_39, i_40, i_41, i_42, y54, rfl⟩ := hw
          have i_37 : 0 ≤ z43.toInt ∧ z43.toInt ≤ 1 := i_37
          have i_38 : 0 ≤ z44.toInt ∧ z44.toInt ≤ 4840 := i_38
          have i_39 : 0 ≤ z45.toInt ∧ z45.toInt ≤ 1 := i_39
          have i_40 : 0 ≤ z48.toInt ∧ z48.toInt ≤ 23 := i_40
          have i_41 : 0 ≤ z49.toInt ∧ z49.toInt ≤ 3 := i_41
          have i_42 : 0 ≤ z50.toInt ∧ z50.toInt ≤ 1000000 := i_42
          obtain ⟨hP, hD⟩ := va_join (wr := []) (w1 := [(b_o, .inr (12, [.int u_th, .int u_sa, .ref b_rf, .ref b_ro, .ref b_im, .ref b_ke, .int u_fd, .ref b_tp, .int u_td, .int u_fr, .int u_to, .int u_so, .long u_wo, .int u_fa, .int u_bd, .int u_nc, .ref b_nl, .int u_co, .ref b_op, .ref b_ar, .int u_le, .ref b_pi, .ref b_pa, .int u_pd, .int u_od, .ref b_ws, .ref b_hw, .int z44, .ref b_se, .ref b_re, .int z45, .long z46, .long z47, .int u_ce, .int z48, .int z49, .int z50, .int u_ps, .ref b_pt, .int z51, .int u_sn, .ref b_ip, .int u_ic, .ref b_ah, .ref b_be, .ref b_me, .int u_wd, .ref b_tr, .ref b_ld, .long u_st, .ref b_wn, .int u_id])), (b_ro, .inl (G.2 0, 5740, .inl v_ro)), (b_se, .inl (G.2 1, 13, .inr (.inl z52))), (b_re, .inl (G.2 1, 400, .inr (.inl z53)))]) hP hD [0, 1, 2, 3] [] rfl rfl (by decide) (by decide) hk1 hFc hP1 hD1
          generalize H1 = H at hP hS ⊢
          have hP : va_P G.1 vwCl [(b_o, .inr (12, [.int u_th, .int u_sa, .ref b_rf, .ref b_ro, .ref b_im, .ref b_ke, .int u_fd, .ref b_tp, .int u_td, .int u_fr, .int u_to, .int u_so, .long u_wo, .int u_fa, .int u_bd, .int u_nc, .ref b_nl, .int u_co, .ref b_op, .ref b_ar, .int u_le, .ref b_pi, .ref b_pa, .int u_pd, .int u_od, .ref b_ws, .ref b_hw, .int z44, .ref b_se, .ref b_re, .int z45, .long z46, .long z47, .int u_ce, .int z48, .int z49, .int z50, .int u_ps, .ref b_pt, .int z51, .int u_sn, .ref b_ip, .int u_ic, .ref b_ah, .ref b_be, .ref b_me, .int u_wd, .ref b_tr, .ref b_ld, .long u_st, .ref b_wn, .int u_id])), (b_ro, .inl (G.2 0, 5740, .inl v_ro)), (b_se, .inl (G.2 1, 13, .inr (.inl z52))), (b_re, .inl (G.2 1, 400, .inr (.inl z53)))] H := hP
          have hD : va_D A [(b_o, .inr (12, [.int u_th, .int u_sa, .ref b_rf, .ref b_ro, .ref b_im, .ref b_ke, .int u_fd, .ref b_tp, .int u_td, .int u_fr, .int u_to, .int u_so, .long u_wo, .int u_fa, .int u_bd, .int u_nc, .ref b_nl, .int u_co, .ref b_op, .ref b_ar, .int u_le, .ref b_pi, .ref b_pa, .int u_pd, .int u_od, .ref b_ws, .ref b_hw, .int z44, .ref b_se, .ref b_re, .int z45, .long z46, .long z47, .int u_ce, .int z48, .int z49, .int z50, .int u_ps, .ref b_pt, .int z51, .int u_sn, .ref b_ip, .int u_ic, .ref b_ah, .ref b_be, .ref b_me, .int u_wd, .ref b_tr, .ref b_ld, .long u_st, .ref b_wn, .int u_id])), (b_ro, .inl (G.2 0, 5740, .inl v_ro)), (b_se, .inl (G.2 1, 13, .inr (.inl z52))), (b_re, .inl (G.2 1, 400, .inr (.inl z53)))] := hD
          refine g5_ti (v := z43) y54 ?_
          exact W.zret (v := z43) hx hb hr (g_nb (by omega) (by omega)) (fun t ht hW => ⟨⟨z43, [(b_o, .inr (12, [.int u_th, .int u_sa, .ref b_rf, .ref b_ro, .ref b_im, .ref b_ke, .int u_fd, .ref b_tp, .int u_td, .int u_fr, .int u_to, .int u_so, .long u_wo, .int u_fa, .int u_bd, .int u_nc, .ref b_nl, .int u_co, .ref b_op, .ref b_ar, .int u_le, .ref b_pi, .ref b_pa, .int u_pd, .int u_od, .ref b_ws, .ref b_hw, .int z44, .ref b_se, .ref b_re, .int z45, .long z46, .long z47, .int u_ce, .int z48, .int z49, .int z50, .int u_ps, .ref b_pt, .int z51, .int u_sn, .ref b_ip, .int u_ic, .ref b_ah, .ref b_be, .ref b_me, .int u_wd, .ref b_tr, .ref b_ld, .long u_st, .ref b_wn, .int u_id])), (b_ro, .inl (G.2 0, 5740, .inl v_ro)), (b_se, .inl (G.2 1, 13, .inr (.inl z52))), (b_re, .inl (G.2 1, 400, .inr (.inl z53)))], rfl, ⟨z43, z44, z45, z46, z47, z48, z49, z50, z51, z52, z53, ⟨by omega, by omega⟩, ⟨by omega, by omega⟩, ⟨by omega, by omega⟩, ⟨by omega, by omega⟩, ⟨by omega, by omega⟩, ⟨by omega, by omega⟩, rfl, rfl⟩, by rw [ht]; exact hP.sub [0, 1, 2, 3] rfl, hD.sub [0, 1, 2, 3] (by decide) rfl⟩, hS.F ht⟩) hS.2.2 dX12_passes_146
  ·
    have i_9 : k2_2.toInt < (v_ro 0).toInt := by have z := g5_geN (a := k2_2.toInt) (b := (v_ro 0).toInt) (by rfl) (by rfl) c_9; omega
    refine lv_aload_n hx hb dX12_passes_12 rfl (lv_at hl 1 rfl) ?_
    refine lv_iload_n hx hb dX12_passes_13 rfl (lv_at hl 0 rfl) ?_
    refine lv_iconst (v := 0) hx hb dX12_passes_14 (by decide) ?_
    have hPc := hP.sub (ws' := [(b_o, .inr (12, [.int u_th, .int u_sa, .ref b_rf, .ref b_ro, .ref b_im, .ref b_ke, .int u_fd, .ref b_tp, .int u_td, .int u_fr, .int u_to, .int u_so, .long u_wo, .int u_fa, .int u_bd, .int u_nc, .ref b_nl, .int u_co, .ref b_op, .ref b_ar, .int u_le, .ref b_pi, .ref b_pa, .int u_pd, .int u_od, .ref b_ws, .ref b_hw, .int k2_la, .ref b_se, .ref b_re, .int k2_bk, .long k2_va, .long k2_su, .int u_ce, .int k2_ho, .int k2_wy, .int k2_bt, .int u_ps, .ref b_pt, .int k2_tg, .int u_sn, .ref b_ip, .int u_ic, .ref b_ah, .ref b_be, .ref b_me, .int u_wd, .ref b_tr, .ref b_ld, .long u_st, .ref b_wn, .int u_id])), (b_ro, .inl (G.2 0, 5740, .inl v_ro))]) [0, 1] rfl
    have hDc := hD.sub (ws' := [(b_o, .inr (12, [.int u_th, .int u_sa, .ref b_rf, .ref b_ro, .ref b_im, .ref b_ke, .int u_fd, .ref b_tp, .int u_td, .int u_fr, .int u_to, .int u_so, .long u_wo, .int u_fa, .int u_bd, .int u_nc, .ref b_nl, .int u_co, .ref b_op, .ref b_ar, .int u_le, .ref b_pi, .ref b_pa, .int u_pd, .int u_od, .ref b_ws, .ref b_hw, .int k2_la, .ref b_se, .ref b_re, .int k2_bk, .long k2_va, .long k2_su, .int u_ce, .int k2_ho, .int k2_wy, .int k2_bt, .int u_ps, .ref b_pt, .int k2_tg, .int u_sn, .ref b_ip, .int u_ic, .ref b_ah, .ref b_be, .ref b_me, .int u_wd, .ref b_tr, .ref b_ld, .long u_st, .ref b_wn, .int u_id])), (b_ro, .inl (G.2 0, 5740, .inl v_ro))]) [0, 1] (by decide) rfl
    have hFc := va_free (wc := [(b_o, .inr (12, [.int u_th, .int u_sa, .ref b_rf, .ref b_ro, .ref b_im, .ref b_ke, .int u_fd, .ref b_tp, .int u_td, .int u_fr, .int u_to, .int u_so, .long u_wo, .int u_fa, .int u_bd, .int u_nc, .ref b_nl, .int u_co, .ref b_op, .ref b_ar, .int u_le, .ref b_pi, .ref b_pa, .int u_pd, .int u_od, .ref b_ws, .ref b_hw, .int k2_la, .ref b_se, .ref b_re, .int k2_bk, .long k2_va, .long k2_su, .int u_ce, .int k2_ho, .int k2_wy, .int k2_bt, .int u_ps, .ref b_pt, .int k2_tg, .int u_sn, .ref b_ip, .int u_ic, .ref b_ah, .ref b_be, .ref b_me, .int u_wd, .ref b_tr, .ref b_ld, .long u_st, .ref b_wn, .int u_id])), (b_ro, .inl (G.2 0, 5740, .inl v_ro))]) hD hS hA [0, 1] rfl
    refine va_calli (va_runV (As := [.int k2_2, .int 0]) (rest := []) ⟨hx, hb, hml, hown, hts⟩ (n_ofGlass0 l G b_o b_ro b_rf b_im b_ke b_tp b_nl b_op b_ar b_pi b_pa b_ws b_hw b_se b_re b_pt b_ip b_ah b_be b_me b_tr b_ld b_wn H.size u_th u_sa u_fd u_td u_fr u_to u_so u_fa u_bd u_nc u_co u_le u_pd u_od k2_la k2_bk u_ce k2_ho k2_wy k2_bt u_ps k2_tg u_sn u_ic u_wd u_id k2_2 u_wo k2_va k2_su u_st v_ro ⟨by omega, by omega⟩ ⟨by omega, by omega⟩ ⟨by omega, by omega⟩ ⟨by omega, by omega⟩ ⟨by omega, by omega⟩ ⟨by omega, by omega⟩ ⟨by omega, by omega⟩ ⟨by omega, by omega⟩ ⟨by omega, by omega⟩ ⟨by omega, by omega⟩ ⟨by omega, by omega⟩ ⟨by omega, by omega⟩ ⟨by omega, by omega⟩ ⟨by omega, by omega⟩ ⟨by omega, by omega⟩ ⟨by omega, by omega⟩ ⟨by omega, by omega⟩ (r_ro)) (cwV 2 hts gV_X12_134 rfl rfl rfl hv_X12_ofGlass ⟨Nat.le_of_ble_eq_true rfl, Nat.le_of_ble_eq_true rfl⟩) (g5_preV hPc hK hDc hN hT hS hFc (ci := 12) (q0 := 0) rfl rfl) rfl rfl hl.1 rfl (lv_room (Nat.le_of_ble_eq_true rfl)) dX12_passes_15 ⟨Nat.le_of_ble_eq_true rfl, Nat.le_of_ble_eq_true rfl⟩) hS (fun q _ h => hFc q h) hFc (fun r u t H1 locs ht hvm hw hB hz1 hk1 hS => ?_)
    obtain ⟨hP1, hD1⟩ := hB
    rw [ht] at hP1
    obtain ⟨z56, i_55, y57, rfl⟩ := hw
    have i_55 : 0 ≤ z56.toInt ∧ z56.toInt ≤ 63 := i_55
    obtain ⟨hP, hD⟩ := va_join (wr := [(b_se, .inl (G.2 1, 13, .inr (.inl k2_se))), (b_re, .inl (G.2 1, 400, .inr (.inl k2_re)))]) (w1 := [(b_o, .inr (12, [.int u_th, .int u_sa, .ref b_rf, .ref b_ro, .ref b_im, .ref b_ke, .int u_fd, .ref b_tp, .int u_td, .int u_fr, .int u_to, .int u_so, .long u_wo, .int u_fa, .int u_bd, .int u_nc, .ref b_nl, .int u_co, .ref b_op, .ref b_ar, .int u_le, .ref b_pi, .ref b_pa, .int u_pd, .int u_od, .ref b_ws, .ref b_hw, .int k2_la, .ref b_se, .ref b_re, .int k2_bk, .long k2_va, .long k2_su, .int u_ce, .int k2_ho, .int k2_wy, .int k2_bt, .int u_ps, .ref b_pt, .int k2_tg, .int u_sn, .ref b_ip, .int u_ic, .ref b_ah, .ref b_be, .ref b_me, .int u_wd, .ref b_tr, .ref b_ld, .long u_st, .ref b_wn, .int u_id])), (b_ro, .inl (G.2 0, 5740, .inl v_ro))]) hP hD [0, 1] [2, 3] rfl rfl (by decide) (by decide) hk1 hFc hP1 hD1
    generalize H1 = H at hP hS ⊢
    have hP : va_P G.1 vwCl [(b_se, .inl (G.2 1, 13, .inr (.inl k2_se))), (b_re, .inl (G.2 1, 400, .inr (.inl k2_re))), (b_o, .inr (12, [.int u_th, .int u_sa, .ref b_rf, .ref b_ro, .ref b_im, .ref b_ke, .int u_fd, .ref b_tp, .int u_td, .int u_fr, .int u_to, .int u_so, .long u_wo, .int u_fa, .int u_bd, .int u_nc, .ref b_nl, .int u_co, .ref b_op, .ref b_ar, .int u_le, .ref b_pi, .ref b_pa, .int u_pd, .int u_od, .ref b_ws, .ref b_hw, .int k2_la, .ref b_se, .ref b_re, .int k2_bk, .long k2_va, .long k2_su, .int u_ce, .int k2_ho, .int k2_wy, .int k2_bt, .int u_ps, .ref b_pt, .int k2_tg, .int u_sn, .ref b_ip, .int u_ic, .ref b_ah, .ref b_be, .ref b_me, .int u_wd, .ref b_tr, .ref b_ld, .long u_st, .ref b_wn, .int u_id])), (b_ro, .inl (G.2 0, 5740, .inl v_ro))] H := hP
    have hD : va_D A [(b_se, .inl (G.2 1, 13, .inr (.inl k2_se))), (b_re, .inl (G.2 1, 400, .inr (.inl k2_re))), (b_o, .inr (12, [.int u_th, .int u_sa, .ref b_rf, .ref b_ro, .ref b_im, .ref b_ke, .int u_fd, .ref b_tp, .int u_td, .int u_fr, .int u_to, .int u_so, .long u_wo, .int u_fa, .int u_bd, .int u_nc, .ref b_nl, .int u_co, .ref b_op, .ref b_ar, .int u_le, .ref b_pi, .ref b_pa, .int u_pd, .int u_od, .ref b_ws, .ref b_hw, .int k2_la, .ref b_se, .ref b_re, .int k2_bk, .long k2_va, .long k2_su, .int u_ce, .int k2_ho, .int k2_wy, .int k2_bt, .int u_ps, .ref b_pt, .int k2_tg, .int u_sn, .ref b_ip, .int u_ic, .ref b_ah, .ref b_be, .ref b_me, .int u_wd, .ref b_tr, .ref b_ld, .long u_st, .ref b_wn, .int u_id])), (b_ro, .inl (G.2 0, 5740, .inl v_ro))] := hD
    refine g5_ti (v := z56) y57 ?_
    refine lv_aload_n hx hb dX12_passes_18 rfl (lv_at hl 1 rfl) ?_
    refine va_get (D := G.1) (ci := 12) (v := .int u_ce) (C := RX12) (T := TX12) (N := 52) hx hb hts inG_X12 hown hK hP 2 rfl rfl 33 (by decide) (hts _ fl_X12_349) (fun _ h9 => h9) rfl dX12_passes_19 ?_
    refine lv_icmp_ne (tgt := 62) hx hb dX12_passes_22 (by decide) (fun c_58 => ?_) (fun c_58 => ?_)
    ·
      have n_58 : gNe (z56.toInt) (u_ce.toInt) := by have z := g5_ne (a := z56.toInt) (b := u_ce.toInt) (by rfl) (by rfl) c_58; unfold gNe; omega
      refine lv_iinc (v := (k2_2 + 1)) (lv' := [(2, .int (k2_2 + 1)), (0, .ref b_o), (1, .int p_1)]) hx hb dX12_passes_62 hl (k := 0) rfl rfl (by decide) rfl (fun ls hl => ?_)
      have t_59 : (k2_2 + 1).toInt = k2_2.toInt + 1 := g5_iadd (a := k2_2.toInt) (b := 1) rfl (by decide) (by omega) (by omega)
      refine lv_goto (tgt := 2) hx hb dX12_passes_65 (by decide) ?_
      exact ih_2_7 ((k2_2 + 1), k2_la, k2_bk, k2_va, k2_su, k2_ho, k2_wy, k2_bt, k2_tg, k2_se, k2_re) ls H locs (show Int.toNat (6 - (k2_2 + 1).toInt) < Int.toNat (6 - k2_2.toInt) from g_up (show k2_2.toInt < (k2_2 + 1).toInt by omega) (show k2_2.toInt < 6 by omega)) ⟨lv_sub hl [0, 1, 2] rfl, hP.sub [2, 3, 0, 1] rfl, hD.sub [2, 3, 0, 1] (by decide) rfl, hS, ⟨by omega, by omega⟩, ⟨by omega, by omega⟩, ⟨by omega, by omega⟩, ⟨by omega, by omega⟩, ⟨by omega, by omega⟩, ⟨by omega, by omega⟩⟩
    ·
      have i_58 : z56.toInt = u_ce.toInt := by have z := g5_neN (a := z56.toInt) (b := u_ce.toInt) (by rfl) (by rfl) c_58; omega
      refine lv_aload_n hx hb dX12_passes_25 rfl (lv_at hl 1 rfl) ?_
      refine lv_iload_n hx hb dX12_passes_26 rfl (lv_at hl 0 rfl) ?_
      refine lv_aload_n hx hb dX12_passes_27 rfl (lv_at hl 1 rfl) ?_
      refine lv_iload_n hx hb dX12_passes_28 rfl (lv_at hl 0 rfl) ?_
      refine lv_iconst (v := 1) hx hb dX12_passes_29 (by decide) ?_
      have hPc := hP.sub (ws' := [(b_o, .inr (12, [.int u_th, .int u_sa, .ref b_rf, .ref b_ro, .ref b_im, .ref b_ke, .int u_fd, .ref b_tp, .int u_td, .int u_fr, .int u_to, .int u_so, .long u_wo, .int u_fa, .int u_bd, .int u_nc, .ref b_nl, .int u_co, .ref b_op, .ref b_ar, .int u_le, .ref b_pi, .ref b_pa, .int u_pd, .int u_od, .ref b_ws, .ref b_hw, .int k2_la, .ref b_se, .ref b_re, .int k2_bk, .long k2_va, .long k2_su, .int u_ce, .int k2_ho, .int k2_wy, .int k2_bt, .int u_ps, .ref b_pt, .int k2_tg, .int u_sn, .ref b_ip, .int u_ic, .ref b_ah, .ref b_be, .ref b_me, .int u_wd, .ref b_tr, .ref b_ld, .long u_st, .ref b_wn, .int u_id])), (b_ro, .inl (G.2 0, 5740, .inl v_ro))]) [2, 3] rfl
      have hDc := hD.sub (ws' := [(b_o, .inr (12, [.int u_th, .int u_sa, .ref b_rf, .ref b_ro, .ref b_im, .ref b_ke, .int u_fd, .ref b_tp, .int u_td, .int u_fr, .int u_to, .int u_so, .long u_wo, .int u_fa, .int u_bd, .int u_nc, .ref b_nl, .int u_co, .ref b_op, .ref b_ar, .int u_le, .ref b_pi, .ref b_pa, .int u_pd, .int u_od, .ref b_ws, .ref b_hw, .int k2_la, .ref b_se, .ref b_re, .int k2_bk, .long k2_va, .long k2_su, .int u_ce, .int k2_ho, .int k2_wy, .int k2_bt, .int u_ps, .ref b_pt, .int k2_tg, .int u_sn, .ref b_ip, .int u_ic, .ref b_ah, .ref b_be, .ref b_me, .int u_wd, .ref b_tr, .ref b_ld, .long u_st, .ref b_wn, .int u_id])), (b_ro, .inl (G.2 0, 5740, .inl v_ro))]) [2, 3] (by decide) rfl
      have hFc := va_free (wc := [(b_o, .inr (12, [.int u_th, .int u_sa, .ref b_rf, .ref b_ro, .ref b_im, .ref b_ke, .int u_fd, .ref b_tp, .int u_td, .int u_fr, .int u_to, .int u_so, .long u_wo, .int u_fa, .int u_bd, .int u_nc, .ref b_nl, .int u_co, .ref b_op, .ref b_ar, .int u_le, .ref b_pi, .ref b_pa, .int u_pd, .int u_od, .ref b_ws, .ref b_hw, .int k2_la, .ref b_se, .ref b_re, .int k2_bk, .long k2_va, .long k2_su, .int u_ce, .int k2_ho, .int k2_wy, .int k2_bt, .int u_ps, .ref b_pt, .int k2_tg, .int u_sn, .ref b_ip, .int u_ic, .ref b_ah, .ref b_be, .ref b_me, .int u_wd, .ref b_tr, .ref b_ld, .long u_st, .ref b_wn, .int u_id])), (b_ro, .inl (G.2 0, 5740, .inl v_ro))]) hD hS hA [2, 3] rfl
      refine va_calli (va_runV (As := [.int k2_2, .int 1]) (rest := [.int k2_2, .ref b_o]) ⟨hx, hb, hml, hown, hts⟩ (n_ofGlass1 l G b_o b_ro b_rf b_im b_ke b_tp b_nl b_op b_ar b_pi b_pa b_ws b_hw b_se b_re b_pt b_ip b_ah b_be b_me b_tr b_ld b_wn H.size u_th u_sa u_fd u_td u_fr u_to u_so u_fa u_bd u_nc u_co u_le u_pd u_od k2_la k2_bk u_ce k2_ho k2_wy k2_bt u_ps k2_tg u_sn u_ic u_wd u_id k2_2 u_wo k2_va k2_su u_st v_ro ⟨by omega, by omega⟩ ⟨by omega, by omega⟩ ⟨by omega, by omega⟩ ⟨by omega, by omega⟩ ⟨by omega, by omega⟩ ⟨by omega, by omega⟩ ⟨by omega, by omega⟩ ⟨by omega, by omega⟩ ⟨by omega, by omega⟩ ⟨by omega, by omega⟩ ⟨by omega, by omega⟩ ⟨by omega, by omega⟩ ⟨by omega, by omega⟩ ⟨by omega, by omega⟩ ⟨by omega, by omega⟩ ⟨by omega, by omega⟩ ⟨by omega, by omega⟩ (r_ro)) (cwV 2 hts gV_X12_134 rfl rfl rfl hv_X12_ofGlass ⟨Nat.le_of_ble_eq_true rfl, Nat.le_of_ble_eq_true rfl⟩) (g5_preV hPc hK hDc hN hT hS hFc (ci := 12) (q0 := 0) rfl rfl) rfl rfl hl.1 rfl (lv_room (Nat.le_of_ble_eq_true rfl)) dX12_passes_30 ⟨Nat.le_of_ble_eq_true rfl, Nat.le_of_ble_eq_true rfl⟩) hS (fun q _ h => hFc q h) hFc (fun r u t H1 locs ht hvm hw hB hz1 hk1 hS => ?_)
      obtain ⟨hP1, hD1⟩ := hB
      rw [ht] at hP1
      obtain ⟨z61, i_60, y62, rfl⟩ := hw
      have i_60 : 0 ≤ z61.toInt ∧ z61.toInt ≤ 5 := i_60
      obtain ⟨hP, hD⟩ := va_join (wr := [(b_se, .inl (G.2 1, 13, .inr (.inl k2_se))), (b_re, .inl (G.2 1, 400, .inr (.inl k2_re)))]) (w1 := [(b_o, .inr (12, [.int u_th, .int u_sa, .ref b_rf, .ref b_ro, .ref b_im, .ref b_ke, .int u_fd, .ref b_tp, .int u_td, .int u_fr, .int u_to, .int u_so, .long u_wo, .int u_fa, .int u_bd, .int u_nc, .ref b_nl, .int u_co, .ref b_op, .ref b_ar, .int u_le, .ref b_pi, .ref b_pa, .int u_pd, .int u_od, .ref b_ws, .ref b_hw, .int k2_la, .ref b_se, .ref b_re, .int k2_bk, .long k2_va, .long k2_su, .int u_ce, .int k2_ho, .int k2_wy, .int k2_bt, .int u_ps, .ref b_pt, .int k2_tg, .int u_sn, .ref b_ip, .int u_ic, .ref b_ah, .ref b_be, .ref b_me, .int u_wd, .ref b_tr, .ref b_ld, .long u_st, .ref b_wn, .int u_id])), (b_ro, .inl (G.2 0, 5740, .inl v_ro))]) hP hD [2, 3] [0, 1] rfl rfl (by decide) (by decide) hk1 hFc hP1 hD1
      generalize H1 = H at hP hS ⊢
      have hP : va_P G.1 vwCl [(b_se, .inl (G.2 1, 13, .inr (.inl k2_se))), (b_re, .inl (G.2 1, 400, .inr (.inl k2_re))), (b_o, .inr (12, [.int u_th, .int u_sa, .ref b_rf, .ref b_ro, .ref b_im, .ref b_ke, .int u_fd, .ref b_tp, .int u_td, .int u_fr, .int u_to, .int u_so, .long u_wo, .int u_fa, .int u_bd, .int u_nc, .ref b_nl, .int u_co, .ref b_op, .ref b_ar, .int u_le, .ref b_pi, .ref b_pa, .int u_pd, .int u_od, .ref b_ws, .ref b_hw, .int k2_la, .ref b_se, .ref b_re, .int k2_bk, .long k2_va, .long k2_su, .int u_ce, .int k2_ho, .int k2_wy, .int k2_bt, .int u_ps, .ref b_pt, .int k2_tg, .int u_sn, .ref b_ip, .int u_ic, .ref b_ah, .ref b_be, .ref b_me, .int u_wd, .ref b_tr, .ref b_ld, .long u_st, .ref b_wn, .int u_id])), (b_ro, .inl (G.2 0, 5740, .inl v_ro))] H := hP
      have hD : va_D A [(b_se, .inl (G.2 1, 13, .inr (.inl k2_se))), (b_re, .inl (G.2 1, 400, .inr (.inl k2_re))), (b_o, .inr (12, [.int u_th, .int u_sa, .ref b_rf, .ref b_ro, .ref b_im, .ref b_ke, .int u_fd, .ref b_tp, .int u_td, .int u_fr, .int u_to, .int u_so, .long u_wo, .int u_fa, .int u_bd, .int u_nc, .ref b_nl, .int u_co, .ref b_op, .ref b_ar, .int u_le, .ref b_pi, .ref b_pa, .int u_pd, .int u_od, .ref b_ws, .ref b_hw, .int k2_la, .ref b_se, .ref b_re, .int k2_bk, .long k2_va, .long k2_su, .int u_ce, .int k2_ho, .int k2_wy, .int k2_bt, .int u_ps, .ref b_pt, .int k2_tg, .int u_sn, .ref b_ip, .int u_ic, .ref b_ah, .ref b_be, .ref b_me, .int u_wd, .ref b_tr, .ref b_ld, .long u_st, .ref b_wn, .int u_id])), (b_ro, .inl (G.2 0, 5740, .inl v_ro))] := hD
      refine g5_ti (v := z61) y62 ?_
      refine lv_aload_n hx hb dX12_passes_33 rfl (lv_at hl 1 rfl) ?_
      refine lv_iload_n hx hb dX12_passes_34 rfl (lv_at hl 0 rfl) ?_
      refine lv_iconst (v := 2) hx hb dX12_passes_35 (by decide) ?_
      have hPc := hP.sub (ws' := [(b_o, .inr (12, [.int u_th, .int u_sa, .ref b_rf, .ref b_ro, .ref b_im, .ref b_ke, .int u_fd, .ref b_tp, .int u_td, .int u_fr, .int u_to, .int u_so, .long u_wo, .int u_fa, .int u_bd, .int u_nc, .ref b_nl, .int u_co, .ref b_op, .ref b_ar, .int u_le, .ref b_pi, .ref b_pa, .int u_pd, .int u_od, .ref b_ws, .ref b_hw, .int k2_la, .ref b_se, .ref b_re, .int k2_bk, .long k2_va, .long k2_su, .int u_ce, .int k2_ho, .int k2_wy, .int k2_bt, .int u_ps, .ref b_pt, .int k2_tg, .int u_sn, .ref b_ip, .int u_ic, .ref b_ah, .ref b_be, .ref b_me, .int u_wd, .ref b_tr, .ref b_ld, .long u_st, .ref b_wn, .int u_id])), (b_ro, .inl (G.2 0, 5740, .inl v_ro))]) [2, 3] rfl
      have hDc := hD.sub (ws' := [(b_o, .inr (12, [.int u_th, .int u_sa, .ref b_rf, .ref b_ro, .ref b_im, .ref b_ke, .int u_fd, .ref b_tp, .int u_td, .int u_fr, .int u_to, .int u_so, .long u_wo, .int u_fa, .int u_bd, .int u_nc, .ref b_nl, .int u_co, .ref b_op, .ref b_ar, .int u_le, .ref b_pi, .ref b_pa, .int u_pd, .int u_od, .ref b_ws, .ref b_hw, .int k2_la, .ref b_se, .ref b_re, .int k2_bk, .long k2_va, .long k2_su, .int u_ce, .int k2_ho, .int k2_wy, .int k2_bt, .int u_ps, .ref b_pt, .int k2_tg, .int u_sn, .ref b_ip, .int u_ic, .ref b_ah, .ref b_be, .ref b_me, .int u_wd, .ref b_tr, .ref b_ld, .long u_st, .ref b_wn, .int u_id])), (b_ro, .inl (G.2 0, 5740, .inl v_ro))]) [2, 3] (by decide) rfl
      have hFc := va_free (wc := [(b_o, .inr (12, [.int u_th, .int u_sa, .ref b_rf, .ref b_ro, .ref b_im, .ref b_ke, .int u_fd, .ref b_tp, .int u_td, .int u_fr, .int u_to, .int u_so, .long u_wo, .int u_fa, .int u_bd, .int u_nc, .ref b_nl, .int u_co, .ref b_op, .ref b_ar, .int u_le, .ref b_pi, .ref b_pa, .int u_pd, .int u_od, .ref b_ws, .ref b_hw, .int k2_la, .ref b_se, .ref b_re, .int k2_bk, .long k2_va, .long k2_su, .int u_ce, .int k2_ho, .int k2_wy, .int k2_bt, .int u_ps, .ref b_pt, .int k2_tg, .int u_sn, .ref b_ip, .int u_ic, .ref b_ah, .ref b_be, .ref b_me, .int u_wd, .ref b_tr, .ref b_ld, .long u_st, .ref b_wn, .int u_id])), (b_ro, .inl (G.2 0, 5740, .inl v_ro))]) hD hS hA [2, 3] rfl
      refine va_calli (va_runV (As := [.int k2_2, .int 2]) (rest := [.int z61, .int k2_2, .ref b_o]) ⟨hx, hb, hml, hown, hts⟩ (n_ofGlass2 l G b_o b_ro b_rf b_im b_ke b_tp b_nl b_op b_ar b_pi b_pa b_ws b_hw b_se b_re b_pt b_ip b_ah b_be b_me b_tr b_ld b_wn H.size u_th u_sa u_fd u_td u_fr u_to u_so u_fa u_bd u_nc u_co u_le u_pd u_od k2_la k2_bk u_ce k2_ho k2_wy k2_bt u_ps k2_tg u_sn u_ic u_wd u_id k2_2 u_wo k2_va k2_su u_st v_ro ⟨by omega, by omega⟩ ⟨by omega, by omega⟩ ⟨by omega, by omega⟩ ⟨by omega, by omega⟩ ⟨by omega, by omega⟩ ⟨by omega, by omega⟩ ⟨by omega, by omega⟩ ⟨by omega, by omega⟩ ⟨by omega, by omega⟩ ⟨by omega, by omega⟩ ⟨by omega, by omega⟩ ⟨by omega, by omega⟩ ⟨by omega, by omega⟩ ⟨by omega, by omega⟩ ⟨by omega, by omega⟩ ⟨by omega, by omega⟩ ⟨by omega, by omega⟩ (r_ro)) (cwV 2 hts gV_X12_134 rfl rfl rfl hv_X12_ofGlass ⟨Nat.le_of_ble_eq_true rfl, Nat.le_of_ble_eq_true rfl⟩) (g5_preV hPc hK hDc hN hT hS hFc (ci := 12) (q0 := 0) rfl rfl) rfl rfl hl.1 rfl (lv_room (Nat.le_of_ble_eq_true rfl)) dX12_passes_36 ⟨Nat.le_of_ble_eq_true rfl, Nat.le_of_ble_eq_true rfl⟩) hS (fun q _ h => hFc q h) hFc (fun r u t H1 locs ht hvm hw hB hz1 hk1 hS => ?_)
      obtain ⟨hP1, hD1⟩ := hB
      rw [ht] at hP1
      obtain ⟨z64, i_63, y65, rfl⟩ := hw
      have i_63 : 0 ≤ z64.toInt ∧ z64.toInt ≤ 23 := i_63
      obtain ⟨hP, hD⟩ := va_join (wr := [(b_se, .inl (G.2 1, 13, .inr (.inl k2_se))), (b_re, .inl (G.2 1, 400, .inr (.inl k2_re)))]) (w1 := [(b_o, .inr (12, [.int u_th, .int u_sa, .ref b_rf, .ref b_ro, .ref b_im, .ref b_ke, .int u_fd, .ref b_tp, .int u_td, .int u_fr, .int u_to, .int u_so, .long u_wo, .int u_fa, .int u_bd, .int u_nc, .ref b_nl, .int u_co, .ref b_op, .ref b_ar, .int u_le, .ref b_pi, .ref b_pa, .int u_pd, .int u_od, .ref b_ws, .ref b_hw, .int k2_la, .ref b_se, .ref b_re, .int k2_bk, .long k2_va, .long k2_su, .int u_ce, .int k2_ho, .int k2_wy, .int k2_bt, .int u_ps, .ref b_pt, .int k2_tg, .int u_sn, .ref b_ip, .int u_ic, .ref b_ah, .ref b_be, .ref b_me, .int u_wd, .ref b_tr, .ref b_ld, .long u_st, .ref b_wn, .int u_id])), (b_ro, .inl (G.2 0, 5740, .inl v_ro))]) hP hD [2, 3] [0, 1] rfl rfl (by decide) (by decide) hk1 hFc hP1 hD1
      generalize H1 = H at hP hS ⊢
      have hP : va_P G.1 vwCl [(b_se, .inl (G.2 1, 13, .inr (.inl k2_se))), (b_re, .inl (G.2 1, 400, .inr (.inl k2_re))), (b_o, .inr (12, [.int u_th, .int u_sa, .ref b_rf, .ref b_ro, .ref b_im, .ref b_ke, .int u_fd, .ref b_tp, .int u_td, .int u_fr, .int u_to, .int u_so, .long u_wo, .int u_fa, .int u_bd, .int u_nc, .ref b_nl, .int u_co, .ref b_op, .ref b_ar, .int u_le, .ref b_pi, .ref b_pa, .int u_pd, .int u_od, .ref b_ws, .ref b_hw, .int k2_la, .ref b_se, .ref b_re, .int k2_bk, .long k2_va, .long k2_su, .int u_ce, .int k2_ho, .int k2_wy, .int k2_bt, .int u_ps, .ref b_pt, .int k2_tg, .int u_sn, .ref b_ip, .int u_ic, .ref b_ah, .ref b_be, .ref b_me, .int u_wd, .ref b_tr, .ref b_ld, .long u_st, .ref b_wn, .int u_id])), (b_ro, .inl (G.2 0, 5740, .inl v_ro))] H := hP
      have hD : va_D A [(b_se, .inl (G.2 1, 13, .inr (.inl k2_se))), (b_re, .inl (G.2 1, 400, .inr (.inl k2_re))), (b_o, .inr (12, [.int u_th, .int u_sa, .ref b_rf, .ref b_ro, .ref b_im, .ref b_ke, .int u_fd, .ref b_tp, .int u_td, .int u_fr, .int u_to, .int u_so, .long u_wo, .int u_fa, .int u_bd, .int u_nc, .ref b_nl, .int u_co, .ref b_op, .ref b_ar, .int u_le, .ref b_pi, .ref b_pa, .int u_pd, .int u_od, .ref b_ws, .ref b_hw, .int k2_la, .ref b_se, .ref b_re, .int k2_bk, .long k2_va, .long k2_su, .int u_ce, .int k2_ho, .int k2_wy, .int k2_bt, .int u_ps, .ref b_pt, .int k2_tg, .int u_sn, .ref b_ip, .int u_ic, .ref b_ah, .ref b_be, .ref b_me, .int u_wd, .ref b_tr, .ref b_ld, .long u_st, .ref b_wn, .int u_id])), (b_ro, .inl (G.2 0, 5740, .inl v_ro))] := hD
      refine g5_ti (v := z64) y65 ?_
      refine lv_aload_n hx hb dX12_passes_39 rfl (lv_at hl 1 rfl) ?_
      refine lv_iload_n hx hb dX12_passes_40 rfl (lv_at hl 0 rfl) ?_
      refine lv_iconst (v := 3) hx hb dX12_passes_41 (by decide) ?_
      have hPc := hP.sub (ws' := [(b_o, .inr (12, [.int u_th, .int u_sa, .ref b_rf, .ref b_ro, .ref b_im, .ref b_ke, .int u_fd, .ref b_tp, .int u_td, .int u_fr, .int u_to, .int u_so, .long u_wo, .int u_fa, .int u_bd, .int u_nc, .ref b_nl, .int u_co, .ref b_op, .ref b_ar, .int u_le, .ref b_pi, .ref b_pa, .int u_pd, .int u_od, .ref b_ws, .ref b_hw, .int k2_la, .ref b_se, .ref b_re, .int k2_bk, .long k2_va, .long k2_su, .int u_ce, .int k2_ho, .int k2_wy, .int k2_bt, .int u_ps, .ref b_pt, .int k2_tg, .int u_sn, .ref b_ip, .int u_ic, .ref b_ah, .ref b_be, .ref b_me, .int u_wd, .ref b_tr, .ref b_ld, .long u_st, .ref b_wn, .int u_id])), (b_ro, .inl (G.2 0, 5740, .inl v_ro))]) [2, 3] rfl
      have hDc := hD.sub (ws' := [(b_o, .inr (12, [.int u_th, .int u_sa, .ref b_rf, .ref b_ro, .ref b_im, .ref b_ke, .int u_fd, .ref b_tp, .int u_td, .int u_fr, .int u_to, .int u_so, .long u_wo, .int u_fa, .int u_bd, .int u_nc, .ref b_nl, .int u_co, .ref b_op, .ref b_ar, .int u_le, .ref b_pi, .ref b_pa, .int u_pd, .int u_od, .ref b_ws, .ref b_hw, .int k2_la, .ref b_se, .ref b_re, .int k2_bk, .long k2_va, .long k2_su, .int u_ce, .int k2_ho, .int k2_wy, .int k2_bt, .int u_ps, .ref b_pt, .int k2_tg, .int u_sn, .ref b_ip, .int u_ic, .ref b_ah, .ref b_be, .ref b_me, .int u_wd, .ref b_tr, .ref b_ld, .long u_st, .ref b_wn, .int u_id])), (b_ro, .inl (G.2 0, 5740, .inl v_ro))]) [2, 3] (by decide) rfl
      have hFc := va_free (wc := [(b_o, .inr (12, [.int u_th, .int u_sa, .ref b_rf, .ref b_ro, .ref b_im, .ref b_ke, .int u_fd, .ref b_tp, .int u_td, .int u_fr, .int u_to, .int u_so, .long u_wo, .int u_fa, .int u_bd, .int u_nc, .ref b_nl, .int u_co, .ref b_op, .ref b_ar, .int u_le, .ref b_pi, .ref b_pa, .int u_pd, .int u_od, .ref b_ws, .ref b_hw, .int k2_la, .ref b_se, .ref b_re, .int k2_bk, .long k2_va, .long k2_su, .int u_ce, .int k2_ho, .int k2_wy, .int k2_bt, .int u_ps, .ref b_pt, .int k2_tg, .int u_sn, .ref b_ip, .int u_ic, .ref b_ah, .ref b_be, .ref b_me, .int u_wd, .ref b_tr, .ref b_ld, .long u_st, .ref b_wn, .int u_id])), (b_ro, .inl (G.2 0, 5740, .inl v_ro))]) hD hS hA [2, 3] rfl
      refine va_calli (va_runV (As := [.int k2_2, .int 3]) (rest := [.int z64, .int z61, .int k2_2, .ref b_o]) ⟨hx, hb, hml, hown, hts⟩ (n_ofGlass3 l G b_o b_ro b_rf b_im b_ke b_tp b_nl b_op b_ar b_pi b_pa b_ws b_hw b_se b_re b_pt b_ip b_ah b_be b_me b_tr b_ld b_wn H.size u_th u_sa u_fd u_td u_fr u_to u_so u_fa u_bd u_nc u_co u_le u_pd u_od k2_la k2_bk u_ce k2_ho k2_wy k2_bt u_ps k2_tg u_sn u_ic u_wd u_id k2_2 u_wo k2_va k2_su u_st v_ro ⟨by omega, by omega⟩ ⟨by omega, by omega⟩ ⟨by omega, by omega⟩ ⟨by omega, by omega⟩ ⟨by omega, by omega⟩ ⟨by omega, by omega⟩ ⟨by omega, by omega⟩ ⟨by omega, by omega⟩ ⟨by omega, by omega⟩ ⟨by omega, by omega⟩ ⟨by omega, by omega⟩ ⟨by omega, by omega⟩ ⟨by omega, by omega⟩ ⟨by omega, by omega⟩ ⟨by omega, by omega⟩ ⟨by omega, by omega⟩ ⟨by omega, by omega⟩ (r_ro)) (cwV 2 hts gV_X12_134 rfl rfl rfl hv_X12_ofGlass ⟨Nat.le_of_ble_eq_true rfl, Nat.le_of_ble_eq_true rfl⟩) (g5_preV hPc hK hDc hN hT hS hFc (ci := 12) (q0 := 0) rfl rfl) rfl rfl hl.1 rfl (lv_room (Nat.le_of_ble_eq_true rfl)) dX12_passes_42 ⟨Nat.le_of_ble_eq_true rfl, Nat.le_of_ble_eq_true rfl⟩) hS (fun q _ h => hFc q h) hFc (fun r u t H1 locs ht hvm hw hB hz1 hk1 hS => ?_)
      obtain ⟨hP1, hD1⟩ := hB
      rw [ht] at hP1
      obtain ⟨z67, i_66, y68, rfl⟩ := hw
      have i_66 : 0 ≤ z67.toInt ∧ z67.toInt ≤ 10 := i_66
      obtain ⟨hP, hD⟩ := va_join (wr := [(b_se, .inl (G.2 1, 13, .inr (.inl k2_se))), (b_re, .inl (G.2 1, 400, .inr (.inl k2_re)))]) (w1 := [(b_o, .inr (12, [.int u_th, .int u_sa, .ref b_rf, .ref b_ro, .ref b_im, .ref b_ke, .int u_fd, .ref b_tp, .int u_td, .int u_fr, .int u_to, .int u_so, .long u_wo, .int u_fa, .int u_bd, .int u_nc, .ref b_nl, .int u_co, .ref b_op, .ref b_ar, .int u_le, .ref b_pi, .ref b_pa, .int u_pd, .int u_od, .ref b_ws, .ref b_hw, .int k2_la, .ref b_se, .ref b_re, .int k2_bk, .long k2_va, .long k2_su, .int u_ce, .int k2_ho, .int k2_wy, .int k2_bt, .int u_ps, .ref b_pt, .int k2_tg, .int u_sn, .ref b_ip, .int u_ic, .ref b_ah, .ref b_be, .ref b_me, .int u_wd, .ref b_tr, .ref b_ld, .long u_st, .ref b_wn, .int u_id])), (b_ro, .inl (G.2 0, 5740, .inl v_ro))]) hP hD [2, 3] [0, 1] rfl rfl (by decide) (by decide) hk1 hFc hP1 hD1
      generalize H1 = H at hP hS ⊢
      have hP : va_P G.1 vwCl [(b_se, .inl (G.2 1, 13, .inr (.inl k2_se))), (b_re, .inl (G.2 1, 400, .inr (.inl k2_re))), (b_o, .inr (12, [.int u_th, .int u_sa, .ref b_rf, .ref b_ro, .ref b_im, .ref b_ke, .int u_fd, .ref b_tp, .int u_td, .int u_fr, .int u_to, .int u_so, .long u_wo, .int u_fa, .int u_bd, .int u_nc, .ref b_nl, .int u_co, .ref b_op, .ref b_ar, .int u_le, .ref b_pi, .ref b_pa, .int u_pd, .int u_od, .ref b_ws, .ref b_hw, .int k2_la, .ref b_se, .ref b_re, .int k2_bk, .long k2_va, .long k2_su, .int u_ce, .int k2_ho, .int k2_wy, .int k2_bt, .int u_ps, .ref b_pt, .int k2_tg, .int u_sn, .ref b_ip, .int u_ic, .ref b_ah, .ref b_be, .ref b_me, .int u_wd, .ref b_tr, .ref b_ld, .long u_st, .ref b_wn, .int u_id])), (b_ro, .inl (G.2 0, 5740, .inl v_ro))] H := hP
      have hD : va_D A [(b_se, .inl (G.2 1, 13, .inr (.inl k2_se))), (b_re, .inl (G.2 1, 400, .inr (.inl k2_re))), (b_o, .inr (12, [.int u_th, .int u_sa, .ref b_rf, .ref b_ro, .ref b_im, .ref b_ke, .int u_fd, .ref b_tp, .int u_td, .int u_fr, .int u_to, .int u_so, .long u_wo, .int u_fa, .int u_bd, .int u_nc, .ref b_nl, .int u_co, .ref b_op, .ref b_ar, .int u_le, .ref b_pi, .ref b_pa, .int u_pd, .int u_od, .ref b_ws, .ref b_hw, .int k2_la, .ref b_se, .ref b_re, .int k2_bk, .long k2_va, .long k2_su, .int u_ce, .int k2_ho, .int k2_wy, .int k2_bt, .int u_ps, .ref b_pt, .int k2_tg, .int u_sn, .ref b_ip, .int u_ic, .ref b_ah, .ref b_be, .ref b_me, .int u_wd, .ref b_tr, .ref b_ld, .long u_st, .ref b_wn, .int u_id])), (b_ro, .inl (G.2 0, 5740, .inl v_ro))] := hD
      refine g5_ti (v := z67) y68 ?_
      refine lv_aload_n hx hb dX12_passes_45 rfl (lv_at hl 1 rfl) ?_
      refine lv_iload_n hx hb dX12_passes_46 rfl (lv_at hl 0 rfl) ?_
      refine lv_iconst (v := 4) hx hb dX12_passes_47 (by decide) ?_
      have hPc := hP.sub (ws' := [(b_o, .inr (12, [.int u_th, .int u_sa, .ref b_rf, .ref b_ro, .ref b_im, .ref b_ke, .int u_fd, .ref b_tp, .int u_td, .int u_fr, .int u_to, .int u_so, .long u_wo, .int u_fa, .int u_bd, .int u_nc, .ref b_nl, .int u_co, .ref b_op, .ref b_ar, .int u_le, .ref b_pi, .ref b_pa, .int u_pd, .int u_od, .ref b_ws, .ref b_hw, .int k2_la, .ref b_se, .ref b_re, .int k2_bk, .long k2_va, .long k2_su, .int u_ce, .int k2_ho, .int k2_wy, .int k2_bt, .int u_ps, .ref b_pt, .int k2_tg, .int u_sn, .ref b_ip, .int u_ic, .ref b_ah, .ref b_be, .ref b_me, .int u_wd, .ref b_tr, .ref b_ld, .long u_st, .ref b_wn, .int u_id])), (b_ro, .inl (G.2 0, 5740, .inl v_ro))]) [2, 3] rfl
      have hDc := hD.sub (ws' := [(b_o, .inr (12, [.int u_th, .int u_sa, .ref b_rf, .ref b_ro, .ref b_im, .ref b_ke, .int u_fd, .ref b_tp, .int u_td, .int u_fr, .int u_to, .int u_so, .long u_wo, .int u_fa, .int u_bd, .int u_nc, .ref b_nl, .int u_co, .ref b_op, .ref b_ar, .int u_le, .ref b_pi, .ref b_pa, .int u_pd, .int u_od, .ref b_ws, .ref b_hw, .int k2_la, .ref b_se, .ref b_re, .int k2_bk, .long k2_va, .long k2_su, .int u_ce, .int k2_ho, .int k2_wy, .int k2_bt, .int u_ps, .ref b_pt, .int k2_tg, .int u_sn, .ref b_ip, .int u_ic, .ref b_ah, .ref b_be, .ref b_me, .int u_wd, .ref b_tr, .ref b_ld, .long u_st, .ref b_wn, .int u_id])), (b_ro, .inl (G.2 0, 5740, .inl v_ro))]) [2, 3] (by decide) rfl
      have hFc := va_free (wc := [(b_o, .inr (12, [.int u_th, .int u_sa, .ref b_rf, .ref b_ro, .ref b_im, .ref b_ke, .int u_fd, .ref b_tp, .int u_td, .int u_fr, .int u_to, .int u_so, .long u_wo, .int u_fa, .int u_bd, .int u_nc, .ref b_nl, .int u_co, .ref b_op, .ref b_ar, .int u_le, .ref b_pi, .ref b_pa, .int u_pd, .int u_od, .ref b_ws, .ref b_hw, .int k2_la, .ref b_se, .ref b_re, .int k2_bk, .long k2_va, .long k2_su, .int u_ce, .int k2_ho, .int k2_wy, .int k2_bt, .int u_ps, .ref b_pt, .int k2_tg, .int u_sn, .ref b_ip, .int u_ic, .ref b_ah, .ref b_be, .ref b_me, .int u_wd, .ref b_tr, .ref b_ld, .long u_st, .ref b_wn, .int u_id])), (b_ro, .inl (G.2 0, 5740, .inl v_ro))]) hD hS hA [2, 3] rfl
      refine va_calli (va_runV (As := [.int k2_2, .int 4]) (rest := [.int z67, .int z64, .int z61, .int k2_2, .ref b_o]) ⟨hx, hb, hml, hown, hts⟩ (n_ofGlass l G b_o b_ro b_rf b_im b_ke b_tp b_nl b_op b_ar b_pi b_pa b_ws b_hw b_se b_re b_pt b_ip b_ah b_be b_me b_tr b_ld b_wn H.size u_th u_sa u_fd u_td u_fr u_to u_so u_fa u_bd u_nc u_co u_le u_pd u_od k2_la k2_bk u_ce k2_ho k2_wy k2_bt u_ps k2_tg u_sn u_ic u_wd u_id k2_2 4 u_wo k2_va k2_su u_st v_ro ⟨by omega, by omega⟩ ⟨by omega, by omega⟩ ⟨by omega, by omega⟩ ⟨by omega, by omega⟩ ⟨by omega, by omega⟩ ⟨by omega, by omega⟩ ⟨by omega, by omega⟩ ⟨by omega, by omega⟩ ⟨by omega, by omega⟩ ⟨by omega, by omega⟩ ⟨by omega, by omega⟩ ⟨by omega, by omega⟩ ⟨by omega, by omega⟩ ⟨by omega, by omega⟩ ⟨by omega, by omega⟩ ⟨by omega, by omega⟩ ⟨by omega, by omega⟩ ⟨by decide, by decide⟩ (r_ro)) (cwV 2 hts gV_X12_134 rfl rfl rfl hv_X12_ofGlass ⟨Nat.le_of_ble_eq_true rfl, Nat.le_of_ble_eq_true rfl⟩) (g5_preV hPc hK hDc hN hT hS hFc (ci := 12) (q0 := 0) rfl rfl) rfl rfl hl.1 rfl (lv_room (Nat.le_of_ble_eq_true rfl)) dX12_passes_48 ⟨Nat.le_of_ble_eq_true rfl, Nat.le_of_ble_eq_true rfl⟩) hS (fun q _ h => hFc q h) hFc (fun r u t H1 locs ht hvm hw hB hz1 hk1 hS => ?_)
      obtain ⟨hP1, hD1⟩ := hB
      rw [ht] at hP1
      obtain ⟨z69, y70, rfl⟩ := hw
      obtain ⟨hP, hD⟩ := va_join (wr := [(b_se, .inl (G.2 1, 13, .inr (.inl k2_se))), (b_re, .inl (G.2 1, 400, .inr (.inl k2_re)))]) (w1 := [(b_o, .inr (12, [.int u_th, .int u_sa, .ref b_rf, .ref b_ro, .ref b_im, .ref b_ke, .int u_fd, .ref b_tp, .int u_td, .int u_fr, .int u_to, .int u_so, .long u_wo, .int u_fa, .int u_bd, .int u_nc, .ref b_nl, .int u_co, .ref b_op, .ref b_ar, .int u_le, .ref b_pi, .ref b_pa, .int u_pd, .int u_od, .ref b_ws, .ref b_hw, .int k2_la, .ref b_se, .ref b_re, .int k2_bk, .long k2_va, .long k2_su, .int u_ce, .int k2_ho, .int k2_wy, .int k2_bt, .int u_ps, .ref b_pt, .int k2_tg, .int u_sn, .ref b_ip, .int u_ic, .ref b_ah, .ref b_be, .ref b_me, .int u_wd, .ref b_tr, .ref b_ld, .long u_st, .ref b_wn, .int u_id])), (b_ro, .inl (G.2 0, 5740, .inl v_ro))]) hP hD [2, 3] [0, 1] rfl rfl (by decide) (by decide) hk1 hFc hP1 hD1
      generalize H1 = H at hP hS ⊢
      have hP : va_P G.1 vwCl [(b_se, .inl (G.2 1, 13, .inr (.inl k2_se))), (b_re, .inl (G.2 1, 400, .inr (.inl k2_re))), (b_o, .inr (12, [.int u_th, .int u_sa, .ref b_rf, .ref b_ro, .ref b_im, .ref b_ke, .int u_fd, .ref b_tp, .int u_td, .int u_fr, .int u_to, .int u_so, .long u_wo, .int u_fa, .int u_bd, .int u_nc, .ref b_nl, .int u_co, .ref b_op, .ref b_ar, .int u_le, .ref b_pi, .ref b_pa, .int u_pd, .int u_od, .ref b_ws, .ref b_hw, .int k2_la, .ref b_se, .ref b_re, .int k2_bk, .long k2_va, .long k2_su, .int u_ce, .int k2_ho, .int k2_wy, .int k2_bt, .int u_ps, .ref b_pt, .int k2_tg, .int u_sn, .ref b_ip, .int u_ic, .ref b_ah, .ref b_be, .ref b_me, .int u_wd, .ref b_tr, .ref b_ld, .long u_st, .ref b_wn, .int u_id])), (b_ro, .inl (G.2 0, 5740, .inl v_ro))] H := hP
      have hD : va_D A [(b_se, .inl (G.2 1, 13, .inr (.inl k2_se))), (b_re, .inl (G.2 1, 400, .inr (.inl k2_re))), (b_o, .inr (12, [.int u_th, .int u_sa, .ref b_rf, .ref b_ro, .ref b_im, .ref b_ke, .int u_fd, .ref b_tp, .int u_td, .int u_fr, .int u_to, .int u_so, .long u_wo, .int u_fa, .int u_bd, .int u_nc, .ref b_nl, .int u_co, .ref b_op, .ref b_ar, .int u_le, .ref b_pi, .ref b_pa, .int u_pd, .int u_od, .ref b_ws, .ref b_hw, .int k2_la, .ref b_se, .ref b_re, .int k2_bk, .long k2_va, .long k2_su, .int u_ce, .int k2_ho, .int k2_wy, .int k2_bt, .int u_ps, .ref b_pt, .int k2_tg, .int u_sn, .ref b_ip, .int u_ic, .ref b_ah, .ref b_be, .ref b_me, .int u_wd, .ref b_tr, .ref b_ld, .long u_st, .ref b_wn, .int u_id])), (b_ro, .inl (G.2 0, 5740, .inl v_ro))] := hD
      refine g5_ti (v := z69) y70 ?_
      refine lv_aload_n hx hb dX12_passes_51 rfl (lv_at hl 1 rfl) ?_
      refine va_get (D := G.1) (ci := 12) (v := .int k2_ho) (C := RX12) (T := TX12) (N := 52) hx hb hts inG_X12 hown hK hP 2 rfl rfl 34 (by decide) (hts _ fl_X12_352) (fun _ h9 => h9) rfl dX12_passes_52 ?_
      have hPc := hP.sub (ws' := []) [] rfl
      have hDc := hD.sub (ws' := []) [] (by decide) rfl
      have hFc := va_free (wc := []) hD hS hA [] rfl
      refine va_calli (va_runS (As := [.int z69, .int k2_ho]) (rest := [.int z67, .int z64, .int z61, .int k2_2, .ref b_o]) ⟨hx, hb, hml, hown, hts⟩ (n_is l G H.size z69 k2_ho) (va_cwS 2 hts gS_X12_387 rfl rfl rfl hs_X12_is ⟨Nat.le_of_ble_eq_true rfl, Nat.le_of_ble_eq_true rfl⟩) (g5_preS hPc hK hDc hN hT hS hFc) rfl rfl hl.1 rfl (lv_room (Nat.le_of_ble_eq_true rfl)) dX12_passes_55 ⟨Nat.le_of_ble_eq_true rfl, Nat.le_of_ble_eq_true rfl⟩) hS (fun q _ h => hFc q h) hFc (fun r u t H1 locs ht hvm hw hB hz1 hk1 hS => ?_)
      obtain ⟨hP1, hD1⟩ := hB
      rw [ht] at hP1
      obtain ⟨z72, i_71, y73, rfl⟩ := hw
      have i_71 : 0 ≤ z72.toInt ∧ z72.toInt ≤ 1 := i_71
      have hP := g5_same hP hk1
      generalize H1 = H at hP hS ⊢
      refine g5_ti (v := z72) y73 ?_
      have hPc := hP.sub (ws' := [(b_o, .inr (12, [.int u_th, .int u_sa, .ref b_rf, .ref b_ro, .ref b_im, .ref b_ke, .int u_fd, .ref b_tp, .int u_td, .int u_fr, .int u_to, .int u_so, .long u_wo, .int u_fa, .int u_bd, .int u_nc, .ref b_nl, .int u_co, .ref b_op, .ref b_ar, .int u_le, .ref b_pi, .ref b_pa, .int u_pd, .int u_od, .ref b_ws, .ref b_hw, .int k2_la, .ref b_se, .ref b_re, .int k2_bk, .long k2_va, .long k2_su, .int u_ce, .int k2_ho, .int k2_wy, .int k2_bt, .int u_ps, .ref b_pt, .int k2_tg, .int u_sn, .ref b_ip, .int u_ic, .ref b_ah, .ref b_be, .ref b_me, .int u_wd, .ref b_tr, .ref b_ld, .long u_st, .ref b_wn, .int u_id])), (b_ro, .inl (G.2 0, 5740, .inl v_ro)), (b_se, .inl (G.2 1, 13, .inr (.inl k2_se))), (b_re, .inl (G.2 1, 400, .inr (.inl k2_re)))]) [2, 3, 0, 1] rfl
      have hDc := hD.sub (ws' := [(b_o, .inr (12, [.int u_th, .int u_sa, .ref b_rf, .ref b_ro, .ref b_im, .ref b_ke, .int u_fd, .ref b_tp, .int u_td, .int u_fr, .int u_to, .int u_so, .long u_wo, .int u_fa, .int u_bd, .int u_nc, .ref b_nl, .int u_co, .ref b_op, .ref b_ar, .int u_le, .ref b_pi, .ref b_pa, .int u_pd, .int u_od, .ref b_ws, .ref b_hw, .int k2_la, .ref b_se, .ref b_re, .int k2_bk, .long k2_va, .long k2_su, .int u_ce, .int k2_ho, .int k2_wy, .int k2_bt, .int u_ps, .ref b_pt, .int k2_tg, .int u_sn, .ref b_ip, .int u_ic, .ref b_ah, .ref b_be, .ref b_me, .int u_wd, .ref b_tr, .ref b_ld, .long u_st, .ref b_wn, .int u_id])), (b_ro, .inl (G.2 0, 5740, .inl v_ro)), (b_se, .inl (G.2 1, 13, .inr (.inl k2_se))), (b_re, .inl (G.2 1, 400, .inr (.inl k2_re)))]) [2, 3, 0, 1] (by decide) rfl
      have hFc := va_free (wc := [(b_o, .inr (12, [.int u_th, .int u_sa, .ref b_rf, .ref b_ro, .ref b_im, .ref b_ke, .int u_fd, .ref b_tp, .int u_td, .int u_fr, .int u_to, .int u_so, .long u_wo, .int u_fa, .int u_bd, .int u_nc, .ref b_nl, .int u_co, .ref b_op, .ref b_ar, .int u_le, .ref b_pi, .ref b_pa, .int u_pd, .int u_od, .ref b_ws, .ref b_hw, .int k2_la, .ref b_se, .ref b_re, .int k2_bk, .long k2_va, .long k2_su, .int u_ce, .int k2_ho, .int k2_wy, .int k2_bt, .int u_ps, .ref b_pt, .int k2_tg, .int u_sn, .ref b_ip, .int u_ic, .ref b_ah, .ref b_be, .ref b_me, .int u_wd, .ref b_tr, .ref b_ld, .long u_st, .ref b_wn, .int u_id])), (b_ro, .inl (G.2 0, 5740, .inl v_ro)), (b_se, .inl (G.2 1, 13, .inr (.inl k2_se))), (b_re, .inl (G.2 1, 400, .inr (.inl k2_re)))]) hD hS hA [2, 3, 0, 1] rfl
      refine va_calli (va_runV (As := [.int k2_2, .int z61, .int z64, .int z67, .int z72]) (rest := []) ⟨hx, hb, hml, hown, hts⟩ (n_turns l G b_o b_ro b_se b_re b_rf b_im b_ke b_tp b_nl b_op b_ar b_pi b_pa b_ws b_hw b_pt b_ip b_ah b_be b_me b_tr b_ld b_wn H.size u_th u_sa u_fd u_td u_fr u_to u_so u_fa u_bd u_nc u_co u_le u_pd u_od k2_la k2_bk u_ce k2_ho k2_wy k2_bt u_ps k2_tg u_sn u_ic u_wd u_id k2_2 z61 z64 z67 z72 u_wo k2_va k2_su u_st v_ro k2_se k2_re ⟨by omega, by omega⟩ ⟨by omega, by omega⟩ ⟨by omega, by omega⟩ ⟨by omega, by omega⟩ ⟨by omega, by omega⟩ ⟨by omega, by omega⟩ ⟨by omega, by omega⟩ ⟨by omega, by omega⟩ ⟨by omega, by omega⟩ ⟨by omega, by omega⟩ ⟨by omega, by omega⟩ ⟨by omega, by omega⟩ ⟨by omega, by omega⟩ ⟨by omega, by omega⟩ ⟨by omega, by omega⟩ ⟨by omega, by omega⟩ ⟨by omega, by omega⟩ ⟨by omega, by omega⟩ ⟨by omega, by omega⟩ ⟨by omega, by omega⟩ (r_ro)) (cwV 5 hts gV_X12_390 rfl rfl rfl hv_X12_turns ⟨Nat.le_of_ble_eq_true rfl, Nat.le_of_ble_eq_true rfl⟩) (g5_preV hPc hK hDc hN hT hS hFc (ci := 12) (q0 := 0) rfl rfl) rfl rfl hl.1 rfl (lv_room (Nat.le_of_ble_eq_true rfl)) dX12_passes_58 ⟨Nat.le_of_ble_eq_true rfl, Nat.le_of_ble_eq_true rfl⟩) hS (fun q _ h => hFc q h) hFc (fun r u t H1 locs ht hvm hw hB hz1 hk1 hS => ?_)
      obtain ⟨hP1, hD1⟩ := hB
      rw [ht] at hP1
      obtain ⟨z80, z81, z82, z83, z84, z85, z86, z87, z88, z89, z90, i_74, i_75, i_76, i_77, i_78, i_79, y91, rfl⟩ := hw
      have i_74 : 0 ≤ z80.toInt ∧ z80.toInt ≤ 1 := i_74
      have i_75 : 0 ≤ z81.toInt ∧ z81.toInt ≤ 4840 := i_75
      have i_76 : 0 ≤ z82.toInt ∧ z82.toInt ≤ 1 := i_76
      have i_77 : 0 ≤ z85.toInt ∧ z85.toInt ≤ 23 := i_77
      have i_78 : 0 ≤ z86.toInt ∧ z86.toInt ≤ 3 := i_78
      have i_79 : 0 ≤ z87.toInt ∧ z87.toInt ≤ 1000000 := i_79
      obtain ⟨hP, hD⟩ := va_join (wr := []) (w1 := [(b_o, .inr (12, [.int u_th, .int u_sa, .ref b_rf, .ref b_ro, .ref b_im, .ref b_ke, .int u_fd, .ref b_tp, .int u_td, .int u_fr, .int u_to, .int u_so, .long u_wo, .int u_fa, .int u_bd, .int u_nc, .ref b_nl, .int u_co, .ref b_op, .ref b_ar, .int u_le, .ref b_pi, .ref b_pa, .int u_pd, .int u_od, .ref b_ws, .ref b_hw, .int z81, .ref b_se, .ref b_re, .int z82, .long z83, .long z84, .int u_ce, .int z85, .int z86, .int z87, .int u_ps, .ref b_pt, .int z88, .int u_sn, .ref b_ip, .int u_ic, .ref b_ah, .ref b_be, .ref b_me, .int u_wd, .ref b_tr, .ref b_ld, .long u_st, .ref b_wn, .int u_id])), (b_ro, .inl (G.2 0, 5740, .inl v_ro)), (b_se, .inl (G.2 1, 13, .inr (.inl z89))), (b_re, .inl (G.2 1, 400, .inr (.inl z90)))]) hP hD [2, 3, 0, 1] [] rfl rfl (by decide) (by decide) hk1 hFc hP1 hD1
      generalize H1 = H at hP hS ⊢
      have hP : va_P G.1 vwCl [(b_o, .inr (12, [.int u_th, .int u_sa, .ref b_rf, .ref b_ro, .ref b_im, .ref b_ke, .int u_fd, .ref b_tp, .int u_td, .int u_fr, .int u_to, .int u_so, .long u_wo, .int u_fa, .int u_bd, .int u_nc, .ref b_nl, .int u_co, .ref b_op, .ref b_ar, .int u_le, .ref b_pi, .ref b_pa, .int u_pd, .int u_od, .ref b_ws, .ref b_hw, .int z81, .ref b_se, .ref b_re, .int z82, .long z83, .long z84, .int u_ce, .int z85, .int z86, .int z87, .int u_ps, .ref b_pt, .int z88, .int u_sn, .ref b_ip, .int u_ic, .ref b_ah, .ref b_be, .ref b_me, .int u_wd, .ref b_tr, .ref b_ld, .long u_st, .ref b_wn, .int u_id])), (b_ro, .inl (G.2 0, 5740, .inl v_ro)), (b_se, .inl (G.2 1, 13, .inr (.inl z89))), (b_re, .inl (G.2 1, 400, .inr (.inl z90)))] H := hP
      have hD : va_D A [(b_o, .inr (12, [.int u_th, .int u_sa, .ref b_rf, .ref b_ro, .ref b_im, .ref b_ke, .int u_fd, .ref b_tp, .int u_td, .int u_fr, .int u_to, .int u_so, .long u_wo, .int u_fa, .int u_bd, .int u_nc, .ref b_nl, .int u_co, .ref b_op, .ref b_ar, .int u_le, .ref b_pi, .ref b_pa, .int u_pd, .int u_od, .ref b_ws, .ref b_hw, .int z81, .ref b_se, .ref b_re, .int z82, .long z83, .long z84, .int u_ce, .int z85, .int z86, .int z87, .int u_ps, .ref b_pt, .int z88, .int u_sn, .ref b_ip, .int u_ic, .ref b_ah, .ref b_be, .ref b_me, .int u_wd, .ref b_tr, .ref b_ld, .long u_st, .ref b_wn, .int u_id])), (b_ro, .inl (G.2 0, 5740, .inl v_ro)), (b_se, .inl (G.2 1, 13, .inr (.inl z89))), (b_re, .inl (G.2 1, 400, .inr (.inl z90)))] := hD
      refine g5_ti (v := z80) y91 ?_
      exact W.zret (v := z80) hx hb hr (g_nb (by omega) (by omega)) (fun t ht hW => ⟨⟨z80, [(b_o, .inr (12, [.int u_th, .int u_sa, .ref b_rf, .ref b_ro, .ref b_im, .ref b_ke, .int u_fd, .ref b_tp, .int u_td, .int u_fr, .int u_to, .int u_so, .long u_wo, .int u_fa, .int u_bd, .int u_nc, .ref b_nl, .int u_co, .ref b_op, .ref b_ar, .int u_le, .ref b_pi, .ref b_pa, .int u_pd, .int u_od, .ref b_ws, .ref b_hw, .int z81, .ref b_se, .ref b_re, .int z82, .long z83, .long z84, .int u_ce, .int z85, .int z86, .int z87, .int u_ps, .ref b_pt, .int z88, .int u_sn, .ref b_ip, .int u_ic, .ref b_ah, .ref b_be, .ref b_me, .int u_wd, .ref b_tr, .ref b_ld, .long u_st, .ref b_wn, .int u_id])), (b_ro, .inl (G.2 0, 5740, .inl v_ro)), (b_se, .inl (G.2 1, 13, .inr (.inl z89))), (b_re, .inl (G.2 1, 400, .inr (.inl z90)))], rfl, ⟨z80, z81, z82, z83, z84, z85, z86, z87, z88, z89, z90, ⟨by omega, by omega⟩, ⟨by omega, by omega⟩, ⟨by omega, by omega⟩, ⟨by omega, by omega⟩, ⟨by omega, by omega⟩, ⟨by omega, by omega⟩, rfl, rfl⟩, by rw [ht]; exact hP.sub [0, 1, 2, 3] rfl, hD.sub [0, 1, 2, 3] (by decide) rfl⟩, hS.F ht⟩) hS.2.2 dX12_passes_61
theorem dX12_go_0 : decode cX12_go 0 = .ok (.aload_n 0, 1) := by decide +kernel
theorem dX12_go_1 : decode cX12_go 1 = .ok (.iload_n 1, 1) := by decide +kernel
theorem dX12_go_2 : decode cX12_go 2 = .ok (.putfield 349, 3) := by decide +kernel
theorem dX12_go_5 : decode cX12_go 5 = .ok (.aload_n 0, 1) := by decide +kernel
theorem dX12_go_6 : decode cX12_go 6 = .ok (.iload_n 2, 1) := by decide +kernel
theorem dX12_go_7 : decode cX12_go 7 = .ok (.putfield 355, 3) := by decide +kernel
theorem dX12_go_10 : decode cX12_go 10 = .ok (.aload_n 0, 1) := by decide +kernel
theorem dX12_go_11 : decode cX12_go 11 = .ok (.iload_n 3, 1) := by decide +kernel
theorem dX12_go_12 : decode cX12_go 12 = .ok (.putfield 352, 3) := by decide +kernel
theorem dX12_go_15 : decode cX12_go 15 = .ok (.aload_n 0, 1) := by decide +kernel
theorem dX12_go_16 : decode cX12_go 16 = .ok (.ldc_w 367, 3) := by decide +kernel
theorem dX12_go_19 : decode cX12_go 19 = .ok (.putfield 361, 3) := by decide +kernel
theorem dX12_go_22 : decode cX12_go 22 = .ok (.aload_n 0, 1) := by decide +kernel
theorem dX12_go_23 : decode cX12_go 23 = .ok (.iconst 0, 1) := by decide +kernel
theorem dX12_go_24 : decode cX12_go 24 = .ok (.putfield 358, 3) := by decide +kernel
theorem dX12_go_27 : decode cX12_go 27 = .ok (.aload_n 0, 1) := by decide +kernel
theorem dX12_go_28 : decode cX12_go 28 = .ok (.iconst 0, 1) := by decide +kernel
theorem dX12_go_29 : decode cX12_go 29 = .ok (.putfield 368, 3) := by decide +kernel
theorem dX12_go_32 : decode cX12_go 32 = .ok (.aload_n 0, 1) := by decide +kernel
theorem dX12_go_33 : decode cX12_go 33 = .ok (.iconst (-1), 1) := by decide +kernel
theorem dX12_go_34 : decode cX12_go 34 = .ok (.putfield 371, 3) := by decide +kernel
theorem dX12_go_37 : decode cX12_go 37 = .ok (.iconst 1, 1) := by decide +kernel
theorem dX12_go_38 : decode cX12_go 38 = .ok (.istore 5, 2) := by decide +kernel
theorem dX12_go_40 : decode cX12_go 40 = .ok (.iload 5, 2) := by decide +kernel
theorem dX12_go_42 : decode cX12_go 42 = .ok (.ifCond .eq 125, 3) := by decide +kernel
theorem dX12_go_45 : decode cX12_go 45 = .ok (.aload_n 0, 1) := by decide +kernel
theorem dX12_go_46 : decode cX12_go 46 = .ok (.getfield 358, 3) := by decide +kernel
theorem dX12_go_49 : decode cX12_go 49 = .ok (.sipush 200, 3) := by decide +kernel
theorem dX12_go_52 : decode cX12_go 52 = .ok (.if_icmp .ge 115, 3) := by decide +kernel
theorem dX12_go_55 : decode cX12_go 55 = .ok (.aload_n 0, 1) := by decide +kernel
theorem dX12_go_56 : decode cX12_go 56 = .ok (.getfield 349, 3) := by decide +kernel
theorem dX12_go_59 : decode cX12_go 59 = .ok (.aload_n 0, 1) := by decide +kernel
theorem dX12_go_60 : decode cX12_go 60 = .ok (.getfield 355, 3) := by decide +kernel
theorem dX12_go_63 : decode cX12_go 63 = .ok (.invokestatic 374, 3) := by decide +kernel
theorem dX12_go_66 : decode cX12_go 66 = .ok (.istore 6, 2) := by decide +kernel
theorem dX12_go_68 : decode cX12_go 68 = .ok (.iload 6, 2) := by decide +kernel
theorem dX12_go_70 : decode cX12_go 70 = .ok (.iconst (-1), 1) := by decide +kernel
theorem dX12_go_71 : decode cX12_go 71 = .ok (.if_icmp .eq 25, 3) := by decide +kernel
theorem dX12_go_74 : decode cX12_go 74 = .ok (.aload_n 0, 1) := by decide +kernel
theorem dX12_go_75 : decode cX12_go 75 = .ok (.iload 6, 2) := by decide +kernel
theorem dX12_go_77 : decode cX12_go 77 = .ok (.ifCond .ge 7, 3) := by decide +kernel
theorem dX12_go_80 : decode cX12_go 80 = .ok (.iconst 0, 1) := by decide +kernel
theorem dX12_go_81 : decode cX12_go 81 = .ok (.goto 5, 3) := by decide +kernel
theorem dX12_go_84 : decode cX12_go 84 = .ok (.iload 6, 2) := by decide +kernel
theorem dX12_go_86 : decode cX12_go 86 = .ok (.invokevirtual 160, 3) := by decide +kernel
theorem dX12_go_89 : decode cX12_go 89 = .ok (.ifCond .ne 7, 3) := by decide +kernel
theorem dX12_go_92 : decode cX12_go 92 = .ok (.iconst 1, 1) := by decide +kernel
theorem dX12_go_93 : decode cX12_go 93 = .ok (.goto 4, 3) := by decide +kernel
theorem dX12_go_96 : decode cX12_go 96 = .ok (.iconst 0, 1) := by decide +kernel
theorem dX12_go_97 : decode cX12_go 97 = .ok (.istore 5, 2) := by decide +kernel
theorem dX12_go_99 : decode cX12_go 99 = .ok (.iload 5, 2) := by decide +kernel
theorem dX12_go_101 : decode cX12_go 101 = .ok (.ifCond .eq 63, 3) := by decide +kernel
theorem dX12_go_104 : decode cX12_go 104 = .ok (.aload_n 0, 1) := by decide +kernel
theorem dX12_go_105 : decode cX12_go 105 = .ok (.iload 6, 2) := by decide +kernel
theorem dX12_go_107 : decode cX12_go 107 = .ok (.putfield 349, 3) := by decide +kernel
theorem dX12_go_110 : decode cX12_go 110 = .ok (.aload_n 0, 1) := by decide +kernel
theorem dX12_go_111 : decode cX12_go 111 = .ok (.getfield 82, 3) := by decide +kernel
theorem dX12_go_114 : decode cX12_go 114 = .ok (.aload_n 0, 1) := by decide +kernel
theorem dX12_go_115 : decode cX12_go 115 = .ok (.getfield 358, 3) := by decide +kernel
theorem dX12_go_118 : decode cX12_go 118 = .ok (.bipush 64, 2) := by decide +kernel
theorem dX12_go_120 : decode cX12_go 120 = .ok (.aload_n 0, 1) := by decide +kernel
theorem dX12_go_121 : decode cX12_go 121 = .ok (.getfield 352, 3) := by decide +kernel
theorem dX12_go_124 : decode cX12_go 124 = .ok (.imul, 1) := by decide +kernel
theorem dX12_go_125 : decode cX12_go 125 = .ok (.aload_n 0, 1) := by decide +kernel
theorem dX12_go_126 : decode cX12_go 126 = .ok (.getfield 349, 3) := by decide +kernel
theorem dX12_go_129 : decode cX12_go 129 = .ok (.iadd, 1) := by decide +kernel
theorem dX12_go_130 : decode cX12_go 130 = .ok (.iastore, 1) := by decide +kernel
theorem dX12_go_131 : decode cX12_go 131 = .ok (.aload_n 0, 1) := by decide +kernel
theorem dX12_go_132 : decode cX12_go 132 = .ok (.dup, 1) := by decide +kernel
theorem dX12_go_133 : decode cX12_go 133 = .ok (.getfield 358, 3) := by decide +kernel
theorem dX12_go_136 : decode cX12_go 136 = .ok (.iconst 1, 1) := by decide +kernel
theorem dX12_go_137 : decode cX12_go 137 = .ok (.iadd, 1) := by decide +kernel
theorem dX12_go_138 : decode cX12_go 138 = .ok (.putfield 358, 3) := by decide +kernel
theorem dX12_go_141 : decode cX12_go 141 = .ok (.aload_n 0, 1) := by decide +kernel
theorem dX12_go_142 : decode cX12_go 142 = .ok (.invokevirtual 377, 3) := by decide +kernel
theorem dX12_go_145 : decode cX12_go 145 = .ok (.ifCond .eq 16, 3) := by decide +kernel
theorem dX12_go_148 : decode cX12_go 148 = .ok (.aload_n 0, 1) := by decide +kernel
theorem dX12_go_149 : decode cX12_go 149 = .ok (.iload 4, 2) := by decide +kernel
theorem dX12_go_151 : decode cX12_go 151 = .ok (.invokevirtual 380, 3) := by decide +kernel
theorem dX12_go_154 : decode cX12_go 154 = .ok (.ifCond .eq 7, 3) := by decide +kernel
theorem dX12_go_157 : decode cX12_go 157 = .ok (.iconst 1, 1) := by decide +kernel
theorem dX12_go_158 : decode cX12_go 158 = .ok (.goto 4, 3) := by decide +kernel
theorem dX12_go_161 : decode cX12_go 161 = .ok (.iconst 0, 1) := by decide +kernel
theorem dX12_go_162 : decode cX12_go 162 = .ok (.istore 5, 2) := by decide +kernel
theorem dX12_go_164 : decode cX12_go 164 = .ok (.goto (-124), 3) := by decide +kernel
theorem dX12_go_167 : decode cX12_go 167 = .ok (.return_, 1) := by decide +kernel
theorem ki_X12_367 : Cond.constant RX12 367 1000000 ∈ tblG := tg 1614 (by decide +kernel) (by decide +kernel)
theorem ml_X12_374 : Cond.methodLink RX12 374 yX12_beside ∈ tblG := tg 1615 (by decide +kernel) (by decide +kernel)
theorem st_X12_beside : Cond.static yX12_beside ∈ tblG := tg 1616 (by decide +kernel) (by decide +kernel)
theorem cd_X12_beside : Cond.code yX12_beside cX12_beside 2 (some .int) ∈ tblG := tg 1617 (by decide +kernel) (by decide +kernel)
theorem gW_X12_beside : GoodIn tblG (wsG yX12_beside cX12_beside 2 (some .int)) := tgi cd_X12_beside
theorem gS_X12_374 : GoodIn tblG (va_wsS RX12 374 yX12_beside (wsG yX12_beside cX12_beside 2 (some .int))) := tgS ml_X12_374 st_X12_beside ini_X12 gW_X12_beside
theorem hs_X12_beside : yX12_beside.cls ≠ "java/lang/invoke/MethodHandle" ∧ yX12_beside.cls ≠ "java/lang/invoke/VarHandle" ∧ (parseMethodDescriptor yX12_beside.desc).map (fun d => d.parameters.length) = some 2 := by decide +kernel
theorem fl_X12_82 : Cond.fieldLink RX12 82 "LateGlassModel" "point" "[I" ∈ tblG := tg 1241 (by decide +kernel) (by decide +kernel)
theorem ml_X12_377 : Cond.methodLink RX12 377 yX12_isFree ∈ tblG := tg 1618 (by decide +kernel) (by decide +kernel)
theorem im_X12_isFree : Cond.instanceMethod yX12_isFree ∈ tblG := tg 1620 (by decide +kernel) (by decide +kernel)
theorem se_X12_isFree : Cond.selects RX12 yX12_isFree yX12_isFree ∈ tblG := tg 63 (by decide +kernel) (by decide +kernel)
theorem cd_X12_isFree : Cond.code yX12_isFree cX12_isFree 2 (some .boolean) ∈ tblG := tg 1621 (by decide +kernel) (by decide +kernel)
theorem gW_X12_isFree : GoodIn tblG (wsG yX12_isFree cX12_isFree 2 (some .boolean)) := tgi cd_X12_isFree
theorem gV_X12_377 : GoodIn tblG (wsV RX12 377 RX12 yX12_isFree (wsG yX12_isFree cX12_isFree 2 (some .boolean))) := tgV ml_X12_377 im_X12_isFree se_X12_isFree ini_X12 gW_X12_isFree
theorem hv_X12_isFree : yX12_isFree.cls = RX12 ∧ yX12_isFree.cls ≠ "java/lang/invoke/MethodHandle" ∧ yX12_isFree.cls ≠ "java/lang/invoke/VarHandle" ∧ (parseMethodDescriptor yX12_isFree.desc).map (fun d => d.parameters.length) = some 0 := by decide +kernel
theorem ml_X12_380 : Cond.methodLink RX12 380 yX12_passes ∈ tblG := tg 1640 (by decide +kernel) (by decide +kernel)
theorem im_X12_passes : Cond.instanceMethod yX12_passes ∈ tblG := tg 1642 (by decide +kernel) (by decide +kernel)
theorem se_X12_passes : Cond.selects RX12 yX12_passes yX12_passes ∈ tblG := tg 68 (by decide +kernel) (by decide +kernel)
theorem cd_X12_passes : Cond.code yX12_passes cX12_passes 3 (some .boolean) ∈ tblG := tg 1643 (by decide +kernel) (by decide +kernel)
theorem gW_X12_passes : GoodIn tblG (wsG yX12_passes cX12_passes 3 (some .boolean)) := tgi cd_X12_passes
theorem gV_X12_380 : GoodIn tblG (wsV RX12 380 RX12 yX12_passes (wsG yX12_passes cX12_passes 3 (some .boolean))) := tgV ml_X12_380 im_X12_passes se_X12_passes ini_X12 gW_X12_passes
theorem hv_X12_passes : yX12_passes.cls = RX12 ∧ yX12_passes.cls ≠ "java/lang/invoke/MethodHandle" ∧ yX12_passes.cls ≠ "java/lang/invoke/VarHandle" ∧ (parseMethodDescriptor yX12_passes.desc).map (fun d => d.parameters.length) = some 1 := by decide +kernel
