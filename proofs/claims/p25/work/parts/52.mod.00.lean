theorem dgX12_readExpression_0 : ∀ r ∈ ([(0, (.aload_n 0, 1)), (1, (.iconst 0, 1)), (2, (.putfield 240, 3)), (5, (.aload_n 0, 1)), (6, (.iconst 0, 1)), (7, (.putfield 258, 3)), (10, (.iload_n 1, 1)), (11, (.ifCond .eq 7, 3)), (14, (.iconst 0, 1)), (15, (.goto 4, 3)), (18, (.iconst 1, 1)), (19, (.istore_n 2, 1)), (20, (.aload_n 0, 1)), (21, (.getfield 205, 3)), (24, (.ifCond .ne 52, 3)), (27, (.iload_n 2, 1)), (28, (.iconst 4, 1)), (29, (.if_icmp .eq 47, 3)), (32, (.iload_n 2, 1)), (33, (.ifCond .ne 10, 3)), (36, (.aload_n 0, 1)), (37, (.invokevirtual 302, 3)), (40, (.goto 32, 3)), (43, (.iload_n 2, 1)), (44, (.iconst 1, 1)), (45, (.if_icmp .ne 10, 3)), (48, (.aload_n 0, 1)), (49, (.invokevirtual 285, 3)), (52, (.goto 20, 3)), (55, (.iload_n 2, 1)), (56, (.iconst 3, 1)), (57, (.if_icmp .ne 11, 3)), (60, (.aload_n 0, 1)), (61, (.iload_n 1, 1)), (62, (.invokevirtual 305, 3)), (65, (.goto 7, 3)), (68, (.aload_n 0, 1)), (69, (.invokevirtual 309, 3)), (72, (.istore_n 2, 1)), (73, (.goto (-53), 3))] : List (Nat × (Instr × Nat))), decode cX12_readExpression r.1 = .ok r.2 := by decide +kernel
theorem dX12_readExpression_0 : decode cX12_readExpression 0 = .ok (.aload_n 0, 1) := dgX12_readExpression_0 (0, (.aload_n 0, 1)) (List.mem_of_getElem? (i := 0) rfl)
theorem dX12_readExpression_1 : decode cX12_readExpression 1 = .ok (.iconst 0, 1) := dgX12_readExpression_0 (1, (.iconst 0, 1)) (List.mem_of_getElem? (i := 1) rfl)
theorem dX12_readExpression_2 : decode cX12_readExpression 2 = .ok (.putfield 240, 3) := dgX12_readExpression_0 (2, (.putfield 240, 3)) (List.mem_of_getElem? (i := 2) rfl)
theorem dX12_readExpression_5 : decode cX12_readExpression 5 = .ok (.aload_n 0, 1) := dgX12_readExpression_0 (5, (.aload_n 0, 1)) (List.mem_of_getElem? (i := 3) rfl)
theorem dX12_readExpression_6 : decode cX12_readExpression 6 = .ok (.iconst 0, 1) := dgX12_readExpression_0 (6, (.iconst 0, 1)) (List.mem_of_getElem? (i := 4) rfl)
theorem dX12_readExpression_7 : decode cX12_readExpression 7 = .ok (.putfield 258, 3) := dgX12_readExpression_0 (7, (.putfield 258, 3)) (List.mem_of_getElem? (i := 5) rfl)
theorem dX12_readExpression_10 : decode cX12_readExpression 10 = .ok (.iload_n 1, 1) := dgX12_readExpression_0 (10, (.iload_n 1, 1)) (List.mem_of_getElem? (i := 6) rfl)
theorem dX12_readExpression_11 : decode cX12_readExpression 11 = .ok (.ifCond .eq 7, 3) := dgX12_readExpression_0 (11, (.ifCond .eq 7, 3)) (List.mem_of_getElem? (i := 7) rfl)
theorem dX12_readExpression_14 : decode cX12_readExpression 14 = .ok (.iconst 0, 1) := dgX12_readExpression_0 (14, (.iconst 0, 1)) (List.mem_of_getElem? (i := 8) rfl)
theorem dX12_readExpression_15 : decode cX12_readExpression 15 = .ok (.goto 4, 3) := dgX12_readExpression_0 (15, (.goto 4, 3)) (List.mem_of_getElem? (i := 9) rfl)
theorem dX12_readExpression_18 : decode cX12_readExpression 18 = .ok (.iconst 1, 1) := dgX12_readExpression_0 (18, (.iconst 1, 1)) (List.mem_of_getElem? (i := 10) rfl)
theorem dX12_readExpression_19 : decode cX12_readExpression 19 = .ok (.istore_n 2, 1) := dgX12_readExpression_0 (19, (.istore_n 2, 1)) (List.mem_of_getElem? (i := 11) rfl)
theorem dX12_readExpression_20 : decode cX12_readExpression 20 = .ok (.aload_n 0, 1) := dgX12_readExpression_0 (20, (.aload_n 0, 1)) (List.mem_of_getElem? (i := 12) rfl)
theorem dX12_readExpression_21 : decode cX12_readExpression 21 = .ok (.getfield 205, 3) := dgX12_readExpression_0 (21, (.getfield 205, 3)) (List.mem_of_getElem? (i := 13) rfl)
theorem dX12_readExpression_24 : decode cX12_readExpression 24 = .ok (.ifCond .ne 52, 3) := dgX12_readExpression_0 (24, (.ifCond .ne 52, 3)) (List.mem_of_getElem? (i := 14) rfl)
theorem dX12_readExpression_27 : decode cX12_readExpression 27 = .ok (.iload_n 2, 1) := dgX12_readExpression_0 (27, (.iload_n 2, 1)) (List.mem_of_getElem? (i := 15) rfl)
theorem dX12_readExpression_28 : decode cX12_readExpression 28 = .ok (.iconst 4, 1) := dgX12_readExpression_0 (28, (.iconst 4, 1)) (List.mem_of_getElem? (i := 16) rfl)
theorem dX12_readExpression_29 : decode cX12_readExpression 29 = .ok (.if_icmp .eq 47, 3) := dgX12_readExpression_0 (29, (.if_icmp .eq 47, 3)) (List.mem_of_getElem? (i := 17) rfl)
theorem dX12_readExpression_32 : decode cX12_readExpression 32 = .ok (.iload_n 2, 1) := dgX12_readExpression_0 (32, (.iload_n 2, 1)) (List.mem_of_getElem? (i := 18) rfl)
theorem dX12_readExpression_33 : decode cX12_readExpression 33 = .ok (.ifCond .ne 10, 3) := dgX12_readExpression_0 (33, (.ifCond .ne 10, 3)) (List.mem_of_getElem? (i := 19) rfl)
theorem dX12_readExpression_36 : decode cX12_readExpression 36 = .ok (.aload_n 0, 1) := dgX12_readExpression_0 (36, (.aload_n 0, 1)) (List.mem_of_getElem? (i := 20) rfl)
theorem dX12_readExpression_37 : decode cX12_readExpression 37 = .ok (.invokevirtual 302, 3) := dgX12_readExpression_0 (37, (.invokevirtual 302, 3)) (List.mem_of_getElem? (i := 21) rfl)
theorem dX12_readExpression_40 : decode cX12_readExpression 40 = .ok (.goto 32, 3) := dgX12_readExpression_0 (40, (.goto 32, 3)) (List.mem_of_getElem? (i := 22) rfl)
theorem dX12_readExpression_43 : decode cX12_readExpression 43 = .ok (.iload_n 2, 1) := dgX12_readExpression_0 (43, (.iload_n 2, 1)) (List.mem_of_getElem? (i := 23) rfl)
theorem dX12_readExpression_44 : decode cX12_readExpression 44 = .ok (.iconst 1, 1) := dgX12_readExpression_0 (44, (.iconst 1, 1)) (List.mem_of_getElem? (i := 24) rfl)
theorem dX12_readExpression_45 : decode cX12_readExpression 45 = .ok (.if_icmp .ne 10, 3) := dgX12_readExpression_0 (45, (.if_icmp .ne 10, 3)) (List.mem_of_getElem? (i := 25) rfl)
theorem dX12_readExpression_48 : decode cX12_readExpression 48 = .ok (.aload_n 0, 1) := dgX12_readExpression_0 (48, (.aload_n 0, 1)) (List.mem_of_getElem? (i := 26) rfl)
theorem dX12_readExpression_49 : decode cX12_readExpression 49 = .ok (.invokevirtual 285, 3) := dgX12_readExpression_0 (49, (.invokevirtual 285, 3)) (List.mem_of_getElem? (i := 27) rfl)
theorem dX12_readExpression_52 : decode cX12_readExpression 52 = .ok (.goto 20, 3) := dgX12_readExpression_0 (52, (.goto 20, 3)) (List.mem_of_getElem? (i := 28) rfl)
theorem dX12_readExpression_55 : decode cX12_readExpression 55 = .ok (.iload_n 2, 1) := dgX12_readExpression_0 (55, (.iload_n 2, 1)) (List.mem_of_getElem? (i := 29) rfl)
theorem dX12_readExpression_56 : decode cX12_readExpression 56 = .ok (.iconst 3, 1) := dgX12_readExpression_0 (56, (.iconst 3, 1)) (List.mem_of_getElem? (i := 30) rfl)
theorem dX12_readExpression_57 : decode cX12_readExpression 57 = .ok (.if_icmp .ne 11, 3) := dgX12_readExpression_0 (57, (.if_icmp .ne 11, 3)) (List.mem_of_getElem? (i := 31) rfl)
theorem dX12_readExpression_60 : decode cX12_readExpression 60 = .ok (.aload_n 0, 1) := dgX12_readExpression_0 (60, (.aload_n 0, 1)) (List.mem_of_getElem? (i := 32) rfl)
theorem dX12_readExpression_61 : decode cX12_readExpression 61 = .ok (.iload_n 1, 1) := dgX12_readExpression_0 (61, (.iload_n 1, 1)) (List.mem_of_getElem? (i := 33) rfl)
theorem dX12_readExpression_62 : decode cX12_readExpression 62 = .ok (.invokevirtual 305, 3) := dgX12_readExpression_0 (62, (.invokevirtual 305, 3)) (List.mem_of_getElem? (i := 34) rfl)
theorem dX12_readExpression_65 : decode cX12_readExpression 65 = .ok (.goto 7, 3) := dgX12_readExpression_0 (65, (.goto 7, 3)) (List.mem_of_getElem? (i := 35) rfl)
theorem dX12_readExpression_68 : decode cX12_readExpression 68 = .ok (.aload_n 0, 1) := dgX12_readExpression_0 (68, (.aload_n 0, 1)) (List.mem_of_getElem? (i := 36) rfl)
theorem dX12_readExpression_69 : decode cX12_readExpression 69 = .ok (.invokevirtual 309, 3) := dgX12_readExpression_0 (69, (.invokevirtual 309, 3)) (List.mem_of_getElem? (i := 37) rfl)
theorem dX12_readExpression_72 : decode cX12_readExpression 72 = .ok (.istore_n 2, 1) := dgX12_readExpression_0 (72, (.istore_n 2, 1)) (List.mem_of_getElem? (i := 38) rfl)
theorem dX12_readExpression_73 : decode cX12_readExpression 73 = .ok (.goto (-53), 3) := dgX12_readExpression_0 (73, (.goto (-53), 3)) (List.mem_of_getElem? (i := 39) rfl)
theorem dgX12_readExpression_1 : ∀ r ∈ ([(76, (.aload_n 0, 1)), (77, (.iconst 1, 1)), (78, (.invokevirtual 288, 3)), (81, (.return_, 1))] : List (Nat × (Instr × Nat))), decode cX12_readExpression r.1 = .ok r.2 := by decide +kernel
theorem dX12_readExpression_76 : decode cX12_readExpression 76 = .ok (.aload_n 0, 1) := dgX12_readExpression_1 (76, (.aload_n 0, 1)) (List.mem_of_getElem? (i := 0) rfl)
theorem dX12_readExpression_77 : decode cX12_readExpression 77 = .ok (.iconst 1, 1) := dgX12_readExpression_1 (77, (.iconst 1, 1)) (List.mem_of_getElem? (i := 1) rfl)
theorem dX12_readExpression_78 : decode cX12_readExpression 78 = .ok (.invokevirtual 288, 3) := dgX12_readExpression_1 (78, (.invokevirtual 288, 3)) (List.mem_of_getElem? (i := 2) rfl)
theorem dX12_readExpression_81 : decode cX12_readExpression 81 = .ok (.return_, 1) := dgX12_readExpression_1 (81, (.return_, 1)) (List.mem_of_getElem? (i := 3) rfl)
theorem ml_X12_309 : Cond.methodLink RX12 309 yX12_behindTest ∈ tblG := tg 1588 (by decide +kernel) (by decide +kernel)
theorem im_X12_behindTest : Cond.instanceMethod yX12_behindTest ∈ tblG := tg 1590 (by decide +kernel) (by decide +kernel)
theorem se_X12_behindTest : Cond.selects RX12 yX12_behindTest yX12_behindTest ∈ tblG := tg 61 (by decide +kernel) (by decide +kernel)
theorem cd_X12_behindTest : Cond.code yX12_behindTest cX12_behindTest 2 (some .int) ∈ tblG := tg 1591 (by decide +kernel) (by decide +kernel)
theorem gW_X12_behindTest : GoodIn tblG (wsG yX12_behindTest cX12_behindTest 2 (some .int)) := tgi cd_X12_behindTest
theorem gV_X12_309 : GoodIn tblG (wsV RX12 309 RX12 yX12_behindTest (wsG yX12_behindTest cX12_behindTest 2 (some .int))) := tgV ml_X12_309 im_X12_behindTest se_X12_behindTest ini_X12 gW_X12_behindTest
theorem hv_X12_behindTest : yX12_behindTest.cls = RX12 ∧ yX12_behindTest.cls ≠ "java/lang/invoke/MethodHandle" ∧ yX12_behindTest.cls ≠ "java/lang/invoke/VarHandle" ∧ (parseMethodDescriptor yX12_behindTest.desc).map (fun d => d.parameters.length) = some 0 := by decide +kernel
theorem ml_X12_305 : Cond.methodLink RX12 305 yX12_behindSum ∈ tblG := tg 1567 (by decide +kernel) (by decide +kernel)
theorem im_X12_behindSum : Cond.instanceMethod yX12_behindSum ∈ tblG := tg 1569 (by decide +kernel) (by decide +kernel)
theorem se_X12_behindSum : Cond.selects RX12 yX12_behindSum yX12_behindSum ∈ tblG := tg 57 (by decide +kernel) (by decide +kernel)
theorem cd_X12_behindSum : Cond.code yX12_behindSum cX12_behindSum 4 (some .int) ∈ tblG := tg 1570 (by decide +kernel) (by decide +kernel)
theorem gW_X12_behindSum : GoodIn tblG (wsG yX12_behindSum cX12_behindSum 4 (some .int)) := tgi cd_X12_behindSum
theorem gV_X12_305 : GoodIn tblG (wsV RX12 305 RX12 yX12_behindSum (wsG yX12_behindSum cX12_behindSum 4 (some .int))) := tgV ml_X12_305 im_X12_behindSum se_X12_behindSum ini_X12 gW_X12_behindSum
theorem hv_X12_behindSum : yX12_behindSum.cls = RX12 ∧ yX12_behindSum.cls ≠ "java/lang/invoke/MethodHandle" ∧ yX12_behindSum.cls ≠ "java/lang/invoke/VarHandle" ∧ (parseMethodDescriptor yX12_behindSum.desc).map (fun d => d.parameters.length) = some 1 := by decide +kernel
theorem ml_X12_302 : Cond.methodLink RX12 302 yX12_readPlain ∈ tblG := tg 1533 (by decide +kernel) (by decide +kernel)
theorem im_X12_readPlain : Cond.instanceMethod yX12_readPlain ∈ tblG := tg 1535 (by decide +kernel) (by decide +kernel)
theorem se_X12_readPlain : Cond.selects RX12 yX12_readPlain yX12_readPlain ∈ tblG := tg 49 (by decide +kernel) (by decide +kernel)
theorem cd_X12_readPlain : Cond.code yX12_readPlain cX12_readPlain 1 (some .int) ∈ tblG := tg 1536 (by decide +kernel) (by decide +kernel)
theorem gW_X12_readPlain : GoodIn tblG (wsG yX12_readPlain cX12_readPlain 1 (some .int)) := tgi cd_X12_readPlain
theorem gV_X12_302 : GoodIn tblG (wsV RX12 302 RX12 yX12_readPlain (wsG yX12_readPlain cX12_readPlain 1 (some .int))) := tgV ml_X12_302 im_X12_readPlain se_X12_readPlain ini_X12 gW_X12_readPlain
theorem hv_X12_readPlain : yX12_readPlain.cls = RX12 ∧ yX12_readPlain.cls ≠ "java/lang/invoke/MethodHandle" ∧ yX12_readPlain.cls ≠ "java/lang/invoke/VarHandle" ∧ (parseMethodDescriptor yX12_readPlain.desc).map (fun d => d.parameters.length) = some 0 := by decide +kernel
set_option maxHeartbeats 4000000 in
set_option maxRecDepth 100000 in
theorem n_readExpression (l : Launch) (G : g5_G) (b_o b_tp b_op b_ar b_pi b_pa b_ws b_rf b_ro b_im b_ke b_nl b_hw b_se b_re b_pt b_ip b_ah b_be b_me b_tr b_ld b_wn : Nat) (sz : Nat) (u_th : Int32) (u_sa : Int32) (u_fd : Int32) (u_td : Int32) (u_fr : Int32) (u_to : Int32) (u_so : Int32) (u_fa : Int32) (u_bd : Int32) (u_nc : Int32) (u_co : Int32) (u_le : Int32) (u_pd : Int32) (u_od : Int32) (u_la : Int32) (u_bk : Int32) (u_ce : Int32) (u_ho : Int32) (u_wy : Int32) (u_bt : Int32) (u_ps : Int32) (u_tg : Int32) (u_sn : Int32) (u_ic : Int32) (u_wd : Int32) (u_id : Int32) (p_1 : Int32) (u_wo : Int64) (u_va : Int64) (u_su : Int64) (u_st : Int64) (v_tp : Nat → Int32) (v_op : Nat → Int32) (v_ar : Nat → Int32) (v_pi : Nat → Int32) (v_pa : Nat → Int32) (v_ws : Nat → Int64) (h_u_td : 0 ≤ u_td.toInt ∧ u_td.toInt ≤ 400) (h_u_fr : 0 ≤ u_fr.toInt ∧ u_fr.toInt ≤ 400) (h_u_to : 0 ≤ u_to.toInt ∧ u_to.toInt ≤ 400) (h_u_bd : 0 ≤ u_bd.toInt ∧ u_bd.toInt ≤ 0) (h_u_nc : 0 ≤ u_nc.toInt ∧ u_nc.toInt ≤ 12) (h_u_co : 0 ≤ u_co.toInt ∧ u_co.toInt ≤ 400) (h_u_pd : 0 ≤ u_pd.toInt ∧ u_pd.toInt ≤ 400) (h_u_la : 0 ≤ u_la.toInt ∧ u_la.toInt ≤ 4840) (h_u_bk : 0 ≤ u_bk.toInt ∧ u_bk.toInt ≤ 1) (h_u_ce : 0 ≤ u_ce.toInt ∧ u_ce.toInt ≤ 63) (h_u_ho : 0 ≤ u_ho.toInt ∧ u_ho.toInt ≤ 23) (h_u_wy : 0 ≤ u_wy.toInt ∧ u_wy.toInt ≤ 3) (h_u_bt : 0 ≤ u_bt.toInt ∧ u_bt.toInt ≤ 1000000) (h_u_ps : 0 ≤ u_ps.toInt ∧ u_ps.toInt ≤ 200) (h_u_ic : 0 ≤ u_ic.toInt ∧ u_ic.toInt ≤ 1) (h_u_id : 0 ≤ u_id.toInt ∧ u_id.toInt ≤ 1) (h_p_1 : 0 ≤ p_1.toInt ∧ p_1.toInt ≤ 1) (e_t : u_fr.toInt ≤ u_to.toInt ∧ u_to.toInt ≤ u_td.toInt) (e_s : TKs u_so.toInt u_fr.toInt u_to.toInt) (e_c : u_co.toInt ≤ u_fr.toInt) : Met l yX12_readExpression (wsG yX12_readExpression cX12_readExpression 3 none) ({ frames := 6, cells := 0, slots := 0, locals := 126 }) (va_Pc [.ref b_o, .int p_1] (g5_P G [(b_o, (oc12 u_th u_sa b_rf b_ro b_im b_ke u_fd b_tp u_td u_fr u_to u_so u_wo u_fa u_bd u_nc b_nl u_co b_op b_ar u_le b_pi b_pa u_pd u_od b_ws b_hw u_la b_se b_re u_bk u_va u_su u_ce u_ho u_wy u_bt u_ps b_pt u_tg u_sn b_ip u_ic b_ah b_be b_me u_wd b_tr b_ld u_st b_wn u_id)), (b_tp, (arI G 400 v_tp)), (b_op, (arI G 400 v_op)), (b_ar, (arI G 400 v_ar)), (b_pi, (arI G 400 v_pi)), (b_pa, (arI G 400 v_pa)), (b_ws, (arJ G 8 v_ws))] sz)) (va_Qv (fun (u : va_W) => (∃ (o_fr : Int32) (o_to : Int32) (o_so : Int32) (o_wo : Int64) (o_fa : Int32) (o_bd : Int32) (o_co : Int32) (o_le : Int32) (o_pd : Int32) (o_od : Int32) (o_op : Nat → Int32) (o_ar : Nat → Int32) (o_pi : Nat → Int32) (o_pa : Nat → Int32), (0 ≤ o_fr.toInt ∧ o_fr.toInt ≤ 400) ∧ (0 ≤ o_to.toInt ∧ o_to.toInt ≤ 400) ∧ (0 ≤ o_bd.toInt ∧ o_bd.toInt ≤ 1) ∧ (0 ≤ o_co.toInt ∧ o_co.toInt ≤ 400) ∧ (0 ≤ o_pd.toInt ∧ o_pd.toInt ≤ 400) ∧ (u_fr.toInt ≤ o_fr.toInt ∧ o_fr.toInt ≤ o_to.toInt ∧ o_to.toInt ≤ u_td.toInt) ∧ (TKs o_so.toInt o_fr.toInt o_to.toInt) ∧ (KP v_op v_ar o_op o_ar u_co.toInt) ∧ (u_co.toInt ≤ o_co.toInt ∧ o_co.toInt ≤ o_fr.toInt) ∧ (o_bd.toInt = 0 → cdN o_op o_ar u_co.toInt o_co.toInt) ∧ (u = [(b_o, (oc12 u_th u_sa b_rf b_ro b_im b_ke u_fd b_tp u_td o_fr o_to o_so o_wo o_fa o_bd u_nc b_nl o_co b_op b_ar o_le b_pi b_pa o_pd o_od b_ws b_hw u_la b_se b_re u_bk u_va u_su u_ce u_ho u_wy u_bt u_ps b_pt u_tg u_sn b_ip u_ic b_ah b_be b_me u_wd b_tr b_ld u_st b_wn u_id)), (b_tp, (arI G 400 v_tp)), (b_op, (arI G 400 o_op)), (b_ar, (arI G 400 o_ar)), (b_pi, (arI G 400 o_pi)), (b_pa, (arI G 400 o_pa)), (b_ws, (arJ G 8 v_ws))]))) (g5_B G (va_A [(b_o, (oc12 u_th u_sa b_rf b_ro b_im b_ke u_fd b_tp u_td u_fr u_to u_so u_wo u_fa u_bd u_nc b_nl u_co b_op b_ar u_le b_pi b_pa u_pd u_od b_ws b_hw u_la b_se b_re u_bk u_va u_su u_ce u_ho u_wy u_bt u_ps b_pt u_tg u_sn b_ip u_ic b_ah b_be b_me u_wd b_tr b_ld u_st b_wn u_id)), (b_tp, (arI G 400 v_tp)), (b_op, (arI G 400 v_op)), (b_ar, (arI G 400 v_ar)), (b_pi, (arI G 400 v_pi)), (b_pa, (arI G 400 v_pa)), (b_ws, (arJ G 8 v_ws))] sz)) (va_A [(b_o, (oc12 u_th u_sa b_rf b_ro b_im b_ke u_fd b_tp u_td u_fr u_to u_so u_wo u_fa u_bd u_nc b_nl u_co b_op b_ar u_le b_pi b_pa u_pd u_od b_ws b_hw u_la b_se b_re u_bk u_va u_su u_ce u_ho u_wy u_bt u_ps b_pt u_tg u_sn b_ip u_ic b_ah b_be b_me u_wd b_tr b_ld u_st b_wn u_id)), (b_tp, (arI G 400 v_tp)), (b_op, (arI G 400 v_op)), (b_ar, (arI G 400 v_ar)), (b_pi, (arI G 400 v_pi)), (b_pa, (arI G 400 v_pa)), (b_ws, (arJ G 8 v_ws))] sz)) 0 0 (va_A [(b_o, (oc12 u_th u_sa b_rf b_ro b_im b_ke u_fd b_tp u_td u_fr u_to u_so u_wo u_fa u_bd u_nc b_nl u_co b_op b_ar u_le b_pi b_pa u_pd u_od b_ws b_hw u_la b_se b_re u_bk u_va u_su u_ce u_ho u_wy u_bt u_ps b_pt u_tg u_sn b_ip u_ic b_ah b_be b_me u_wd b_tr b_ld u_st b_wn u_id)), (b_tp, (arI G 400 v_tp)), (b_op, (arI G 400 v_op)), (b_ar, (arI G 400 v_ar)), (b_pi, (arI G 400 v_pi)), (b_pa, (arI G 400 v_pa)), (b_ws, (arJ G 8 v_ws))] sz) := by
  refine Met.ofW (cc := cX12_readExpression) (maxL := 3) (ret := none) (by decide) rfl ?_
  intro p e s m args below meth c s₁ B hml hv
  obtain ⟨rfl, hsz, hP, hK, hD0, hN, hT⟩ := hv
  have hx := B.exec
  have hb := B.bytes
  have hr := B.returns
  have hts : ∀ w ∈ tblG, w.before _ s = true := fun w h => atoms_spec (ws := (wsG yX12_readExpression cX12_readExpression 3 none)) B.pre w (List.mem_cons_of_mem _ h)
  have hown : s.vm.findClass RX12 = some m.cls := findClass_of_methodNamed B.named
  have hlocks := B.notSynchronized
  subst hsz
  have hD := hD0.self (sz := s.heap.size)
  generalize hAe : va_A [(b_o, (oc12 u_th u_sa b_rf b_ro b_im b_ke u_fd b_tp u_td u_fr u_to u_so u_wo u_fa u_bd u_nc b_nl u_co b_op b_ar u_le b_pi b_pa u_pd u_od b_ws b_hw u_la b_se b_re u_bk u_va u_su u_ce u_ho u_wy u_bt u_ps b_pt u_tg u_sn b_ip u_ic b_ah b_be b_me u_wd b_tr b_ld u_st b_wn u_id)), (b_tp, (arI G 400 v_tp)), (b_op, (arI G 400 v_op)), (b_ar, (arI G 400 v_ar)), (b_pi, (arI G 400 v_pi)), (b_pa, (arI G 400 v_pa)), (b_ws, (arJ G 8 v_ws))] s.heap.size = A at hD hT ⊢
  have hA : ∀ q : Nat, s.heap.size ≤ q → A q := fun q h => by rw [← hAe]; exact Or.inr h
  have hS : va_S A s.heap s.heap [] := va_S.rf
  have hP : va_P G.1 vwCl [(b_o, (oc12 u_th u_sa b_rf b_ro b_im b_ke u_fd b_tp u_td u_fr u_to u_so u_wo u_fa u_bd u_nc b_nl u_co b_op b_ar u_le b_pi b_pa u_pd u_od b_ws b_hw u_la b_se b_re u_bk u_va u_su u_ce u_ho u_wy u_bt u_ps b_pt u_tg u_sn b_ip u_ic b_ah b_be b_me u_wd b_tr b_ld u_st b_wn u_id)), (b_tp, (arI G 400 v_tp)), (b_op, (arI G 400 v_op)), (b_ar, (arI G 400 v_ar)), (b_pi, (arI G 400 v_pi)), (b_pa, (arI G 400 v_pa)), (b_ws, (arJ G 8 v_ws))] s.heap := hP
  have hl := lv_entry ([.ref b_o, .int p_1]) (n := 3) (Nat.le_of_ble_eq_true rfl)
  rw [lg_entry_eq]
  generalize (lg_sl ([.ref b_o, .int p_1]) ++ List.replicate (3 - (lg_sl ([.ref b_o, .int p_1])).length) Slot.unset).toArray = ls at hl ⊢
  have hl : lv_has ls 3 [(0, .ref b_o), (1, .int p_1)] := hl
  refine lv_aload_n hx hb dX12_readExpression_0 rfl (lv_at hl 0 rfl) ?_
  refine lv_iconst (v := 0) hx hb dX12_readExpression_1 (by decide) ?_
  refine va_put (D := G.1) (ci := 12) (v := .int 0) (ty := .int) (C := RX12) (T := TX12) (N := 52) hx hb hts inG_X12 tyX12 tyX12_ok nmX12 hown hK hP hD hS 0 rfl rfl 23 (by decide) (hts _ fl_X12_240) (fun _ h9 => h9) rfl (by decide +kernel) rfl rfl (Nat.le_of_ble_eq_true rfl) dX12_readExpression_2 (fun H locs hP hD hS => ?_)
  refine g5_rs [(b_o, (oc12 u_th u_sa b_rf b_ro b_im b_ke u_fd b_tp u_td u_fr u_to u_so u_wo u_fa u_bd u_nc b_nl u_co b_op b_ar u_le b_pi b_pa 0 u_od b_ws b_hw u_la b_se b_re u_bk u_va u_su u_ce u_ho u_wy u_bt u_ps b_pt u_tg u_sn b_ip u_ic b_ah b_be b_me u_wd b_tr b_ld u_st b_wn u_id)), (b_tp, (arI G 400 v_tp)), (b_op, (arI G 400 v_op)), (b_ar, (arI G 400 v_ar)), (b_pi, (arI G 400 v_pi)), (b_pa, (arI G 400 v_pa)), (b_ws, (arJ G 8 v_ws))] hP hD (fun hP hD => ?_)
  refine lv_aload_n hx hb dX12_readExpression_5 rfl (lv_at hl 0 rfl) ?_
  refine lv_iconst (v := 0) hx hb dX12_readExpression_6 (by decide) ?_
  refine va_put (D := G.1) (ci := 12) (v := .int 0) (ty := .int) (C := RX12) (T := TX12) (N := 52) hx hb hts inG_X12 tyX12 tyX12_ok nmX12 hown hK hP hD hS 0 rfl rfl 24 (by decide) (hts _ fl_X12_258) (fun _ h9 => h9) rfl (by decide +kernel) rfl rfl (Nat.le_of_ble_eq_true rfl) dX12_readExpression_7 (fun H locs hP hD hS => ?_)
  refine g5_rs [(b_o, (oc12 u_th u_sa b_rf b_ro b_im b_ke u_fd b_tp u_td u_fr u_to u_so u_wo u_fa u_bd u_nc b_nl u_co b_op b_ar u_le b_pi b_pa 0 0 b_ws b_hw u_la b_se b_re u_bk u_va u_su u_ce u_ho u_wy u_bt u_ps b_pt u_tg u_sn b_ip u_ic b_ah b_be b_me u_wd b_tr b_ld u_st b_wn u_id)), (b_tp, (arI G 400 v_tp)), (b_op, (arI G 400 v_op)), (b_ar, (arI G 400 v_ar)), (b_pi, (arI G 400 v_pi)), (b_pa, (arI G 400 v_pa)), (b_ws, (arJ G 8 v_ws))] hP hD (fun hP hD => ?_)
  refine lv_iload_n hx hb dX12_readExpression_10 rfl (lv_at hl 1 rfl) ?_
  refine lv_if_eq (tgt := 18) hx hb dX12_readExpression_11 (by decide) (fun c_1 => ?_) (fun c_1 => ?_)
  ·
    have i_1 : p_1.toInt = 0 := by have z := g5_eq (a := p_1.toInt) (b := 0) (by rfl) (by decide) c_1; omega
    refine lv_iconst (v := 1) hx hb dX12_readExpression_18 (by decide) ?_
    refine lv_istore_n (lv' := [(2, .int 1), (0, .ref b_o), (1, .int p_1)]) hx hb dX12_readExpression_19 rfl hl (by decide) rfl (fun ls hl => ?_)
    refine g5_loop (α := (Int32) × (Int32) × (Int32) × (Int32) × (Int64) × (Int32) × (Int32) × (Int32) × (Int32) × (Int32) × (Int32) × (Nat → Int32) × (Nat → Int32) × (Nat → Int32) × (Nat → Int32)) (fun (q : (Int32) × (Int32) × (Int32) × (Int32) × (Int64) × (Int32) × (Int32) × (Int32) × (Int32) × (Int32) × (Int32) × (Nat → Int32) × (Nat → Int32) × (Nat → Int32) × (Nat → Int32)) (ls : Array Slot) (H : Heap) (locs : List Loc) => match q with | (k20_2, k20_fr, k20_to, k20_so, k20_wo, k20_fa, k20_bd, k20_co, k20_le, k20_pd, k20_od, k20_op, k20_ar, k20_pi, k20_pa) => lv_has ls 3 [(2, .int k20_2), (0, .ref b_o), (1, .int p_1)] ∧ va_P G.1 vwCl [(b_o, (oc12 u_th u_sa b_rf b_ro b_im b_ke u_fd b_tp u_td k20_fr k20_to k20_so k20_wo k20_fa k20_bd u_nc b_nl k20_co b_op b_ar k20_le b_pi b_pa k20_pd k20_od b_ws b_hw u_la b_se b_re u_bk u_va u_su u_ce u_ho u_wy u_bt u_ps b_pt u_tg u_sn b_ip u_ic b_ah b_be b_me u_wd b_tr b_ld u_st b_wn u_id)), (b_tp, (arI G 400 v_tp)), (b_op, (arI G 400 k20_op)), (b_ar, (arI G 400 k20_ar)), (b_pi, (arI G 400 k20_pi)), (b_pa, (arI G 400 k20_pa)), (b_ws, (arJ G 8 v_ws))] H ∧ va_D A [(b_o, (oc12 u_th u_sa b_rf b_ro b_im b_ke u_fd b_tp u_td k20_fr k20_to k20_so k20_wo k20_fa k20_bd u_nc b_nl k20_co b_op b_ar k20_le b_pi b_pa k20_pd k20_od b_ws b_hw u_la b_se b_re u_bk u_va u_su u_ce u_ho u_wy u_bt u_ps b_pt u_tg u_sn b_ip u_ic b_ah b_be b_me u_wd b_tr b_ld u_st b_wn u_id)), (b_tp, (arI G 400 v_tp)), (b_op, (arI G 400 k20_op)), (b_ar, (arI G 400 k20_ar)), (b_pi, (arI G 400 k20_pi)), (b_pa, (arI G 400 k20_pa)), (b_ws, (arJ G 8 v_ws))] ∧ va_S A s.heap H locs ∧ (0 ≤ k20_2.toInt ∧ k20_2.toInt ≤ 4) ∧ (0 ≤ k20_fr.toInt ∧ k20_fr.toInt ≤ 400) ∧ (0 ≤ k20_to.toInt ∧ k20_to.toInt ≤ 400) ∧ (0 ≤ k20_bd.toInt ∧ k20_bd.toInt ≤ 1) ∧ (0 ≤ k20_co.toInt ∧ k20_co.toInt ≤ 400) ∧ (0 ≤ k20_pd.toInt ∧ k20_pd.toInt ≤ 400) ∧ (XJ v_op v_ar k20_op k20_ar k20_pi k20_pa u_co.toInt k20_co.toInt k20_pd.toInt k20_fr.toInt) ∧ (k20_bd.toInt = 0 → TJ k20_op k20_ar k20_pi k20_pa u_co.toInt k20_co.toInt k20_pd.toInt k20_2.toInt) ∧ (k20_fr.toInt ≤ k20_to.toInt ∧ k20_to.toInt ≤ u_td.toInt) ∧ (TKs k20_so.toInt k20_fr.toInt k20_to.toInt) ∧ (u_fr.toInt ≤ k20_fr.toInt)) (fun (q : (Int32) × (Int32) × (Int32) × (Int32) × (Int64) × (Int32) × (Int32) × (Int32) × (Int32) × (Int32) × (Int32) × (Nat → Int32) × (Nat → Int32) × (Nat → Int32) × (Nat → Int32)) => match q with | (k20_2, k20_fr, k20_to, k20_so, k20_wo, k20_fa, k20_bd, k20_co, k20_le, k20_pd, k20_od, k20_op, k20_ar, k20_pi, k20_pa) => Int.toNat (3 * (400 - k20_fr.toInt) + 3 * (1 - k20_bd.toInt) + twt k20_2.toInt)) (1, u_fr, u_to, u_so, u_wo, u_fa, u_bd, u_co, u_le, 0, 0, v_op, v_ar, v_pi, v_pa) ⟨lv_sub hl [0, 1, 2] rfl, hP, hD, hS, ⟨by decide, by decide⟩, h_u_fr, h_u_to, ⟨by omega, by omega⟩, h_u_co, ⟨by decide, by decide⟩, xj_0 (by decide) (by omega) (by omega), fun _ => tj_1 (hj_0 (by decide)) (by decide), by omega, e_s, Int.le_refl _⟩ ?_
    rintro ⟨k20_2, k20_fr, k20_to, k20_so, k20_wo, k20_fa, k20_bd, k20_co, k20_le, k20_pd, k20_od, k20_op, k20_ar, k20_pi, k20_pa⟩ ls H locs ⟨hl, hP, hD, hS, i_2, i_3, i_4, i_5, i_6, i_7, i_8, i_9, i_10, i_11, i_12⟩ ih_20_13
    have hl : lv_has ls 3 [(2, .int k20_2), (0, .ref b_o), (1, .int p_1)] := hl
    have i_2 : 0 ≤ k20_2.toInt ∧ k20_2.toInt ≤ 4 := i_2
    have i_3 : 0 ≤ k20_fr.toInt ∧ k20_fr.toInt ≤ 400 := i_3
    have i_4 : 0 ≤ k20_to.toInt ∧ k20_to.toInt ≤ 400 := i_4
    have i_5 : 0 ≤ k20_bd.toInt ∧ k20_bd.toInt ≤ 1 := i_5
    have i_6 : 0 ≤ k20_co.toInt ∧ k20_co.toInt ≤ 400 := i_6
    have i_7 : 0 ≤ k20_pd.toInt ∧ k20_pd.toInt ≤ 400 := i_7
    have i_8 : XJ v_op v_ar k20_op k20_ar k20_pi k20_pa u_co.toInt k20_co.toInt k20_pd.toInt k20_fr.toInt := i_8
    have i_9 : k20_bd.toInt = 0 → TJ k20_op k20_ar k20_pi k20_pa u_co.toInt k20_co.toInt k20_pd.toInt k20_2.toInt := i_9
    have i_10 : k20_fr.toInt ≤ k20_to.toInt ∧ k20_to.toInt ≤ u_td.toInt := i_10
    have i_11 : TKs k20_so.toInt k20_fr.toInt k20_to.toInt := i_11
    have i_12 : u_fr.toInt ≤ k20_fr.toInt := i_12
    refine g5_rs [(b_o, (oc12 u_th u_sa b_rf b_ro b_im b_ke u_fd b_tp u_td k20_fr k20_to k20_so k20_wo k20_fa k20_bd u_nc b_nl k20_co b_op b_ar k20_le b_pi b_pa k20_pd k20_od b_ws b_hw u_la b_se b_re u_bk u_va u_su u_ce u_ho u_wy u_bt u_ps b_pt u_tg u_sn b_ip u_ic b_ah b_be b_me u_wd b_tr b_ld u_st b_wn u_id)), (b_tp, (arI G 400 v_tp)), (b_op, (arI G 400 k20_op)), (b_ar, (arI G 400 k20_ar)), (b_pi, (arI G 400 k20_pi)), (b_pa, (arI G 400 k20_pa)), (b_ws, (arJ G 8 v_ws))] hP hD (fun hP hD => ?_)
    have w0 := twt_rg k20_2.toInt
    refine lv_aload_n hx hb dX12_readExpression_20 rfl (lv_at hl 1 rfl) ?_
    refine va_get (D := G.1) (ci := 12) (v := .int k20_bd) (C := RX12) (T := TX12) (N := 52) hx hb hts inG_X12 hown hK hP 0 rfl rfl 14 (by decide) (hts _ fl_X12_205) (fun _ h9 => h9) rfl dX12_readExpression_21 ?_
    refine lv_if_ne (tgt := 76) hx hb dX12_readExpression_24 (by decide) (fun c_14 => ?_) (fun c_14 => ?_)
    ·
      have n_14 : gNe (k20_bd.toInt) (0) := by have z := g5_ne (a := k20_bd.toInt) (b := 0) (by rfl) (by decide) c_14; unfold gNe; omega
      have i_14 : k20_bd.toInt ≥ 1 := by have z := g5_ne (a := k20_bd.toInt) (b := 0) (by rfl) (by decide) c_14; omega
      refine lv_aload_n hx hb dX12_readExpression_76 rfl (lv_at hl 1 rfl) ?_
      refine lv_iconst (v := 1) hx hb dX12_readExpression_77 (by decide) ?_
      obtain ⟨hPc, hDc, hFc⟩ := g5_sub3 (wc := [(b_o, (oc12 u_th u_sa b_rf b_ro b_im b_ke u_fd b_tp u_td k20_fr k20_to k20_so k20_wo k20_fa k20_bd u_nc b_nl k20_co b_op b_ar k20_le b_pi b_pa k20_pd k20_od b_ws b_hw u_la b_se b_re u_bk u_va u_su u_ce u_ho u_wy u_bt u_ps b_pt u_tg u_sn b_ip u_ic b_ah b_be b_me u_wd b_tr b_ld u_st b_wn u_id)), (b_op, (arI G 400 k20_op)), (b_ar, (arI G 400 k20_ar)), (b_pi, (arI G 400 k20_pi)), (b_pa, (arI G 400 k20_pa))]) hP hD hS hA [0, 2, 3, 4, 5] (by decide) rfl
      refine va_callv (va_runV (As := [.int 1]) (rest := []) ⟨hx, hb, hml, hown, hts⟩ (n_settleB l G b_o b_op b_ar b_pi b_pa b_rf b_ro b_im b_ke b_tp b_nl b_ws b_hw b_se b_re b_pt b_ip b_ah b_be b_me b_tr b_ld b_wn H.size u_th u_sa u_fd u_td k20_fr k20_to k20_so k20_fa k20_bd u_nc k20_co k20_le k20_pd k20_od u_la u_bk u_ce u_ho u_wy u_bt u_ps u_tg u_sn u_ic u_wd u_id 1 u_co k20_fr k20_wo u_va u_su u_st k20_op k20_ar k20_pi k20_pa v_op v_ar h_u_td i_3 i_4 i_5 h_u_nc i_6 i_7 h_u_la h_u_bk h_u_ce h_u_ho h_u_wy h_u_bt h_u_ps h_u_ic h_u_id ⟨by decide, by decide⟩ (by omega) (i_8)) (cwV 1 hts gV_X12_288 rfl rfl rfl hv_X12_settle ⟨Nat.le_of_ble_eq_true rfl, Nat.le_of_ble_eq_true rfl⟩) (g5_preV hPc hK hDc hN hT hS hFc (ci := 12) (q0 := 0) rfl rfl) rfl rfl hl.1 rfl (lv_room (Nat.le_of_ble_eq_true rfl)) dX12_readExpression_78 ⟨Nat.le_of_ble_eq_true rfl, Nat.le_of_ble_eq_true rfl⟩) hS (fun q _ h => hFc q h) hFc (fun u t H1 locs ht hvm hw hB hz1 hk1 hS => ?_)
      obtain ⟨hP1, hD1⟩ := hB
      rw [ht] at hP1
      obtain ⟨z21, z22, z23, z24, i_15, i_16, i_17, i_18, i_19, i_20, rfl⟩ := hw
      have i_15 : 0 ≤ z21.toInt ∧ z21.toInt ≤ 400 := i_15
      have i_16 : 0 ≤ z22.toInt ∧ z22.toInt ≤ 400 := i_16
      have i_17 : XJ v_op v_ar z23 z24 k20_pi k20_pa u_co.toInt z21.toInt z22.toInt k20_fr.toInt := i_17
      have i_18 : S1 k20_pi k20_pd.toInt z22.toInt := i_18
      have i_19 : S2 k20_pi z22.toInt (1 : Int32).toInt := i_19
      have i_20 : z22.toInt ≤ k20_pd.toInt := i_20
      obtain ⟨hP, hD⟩ := va_join (wr := [(b_tp, (arI G 400 v_tp)), (b_ws, (arJ G 8 v_ws))]) hP hD [0, 2, 3, 4, 5] [1, 6] rfl rfl (by decide) (by decide) hk1 hFc hP1 hD1
      generalize H1 = H at hP hS ⊢
      refine g5_rs [(b_tp, (arI G 400 v_tp)), (b_ws, (arJ G 8 v_ws)), (b_o, (oc12 u_th u_sa b_rf b_ro b_im b_ke u_fd b_tp u_td k20_fr k20_to k20_so k20_wo k20_fa k20_bd u_nc b_nl z21 b_op b_ar k20_le b_pi b_pa z22 k20_od b_ws b_hw u_la b_se b_re u_bk u_va u_su u_ce u_ho u_wy u_bt u_ps b_pt u_tg u_sn b_ip u_ic b_ah b_be b_me u_wd b_tr b_ld u_st b_wn u_id)), (b_op, (arI G 400 z23)), (b_ar, (arI G 400 z24)), (b_pi, (arI G 400 k20_pi)), (b_pa, (arI G 400 k20_pa))] hP hD (fun hP hD => ?_)
      have hmf7 := xj_mf i_17
      exact W.vret hx hb hr (fun t ht hW => ⟨⟨[(b_o, (oc12 u_th u_sa b_rf b_ro b_im b_ke u_fd b_tp u_td k20_fr k20_to k20_so k20_wo k20_fa k20_bd u_nc b_nl z21 b_op b_ar k20_le b_pi b_pa z22 k20_od b_ws b_hw u_la b_se b_re u_bk u_va u_su u_ce u_ho u_wy u_bt u_ps b_pt u_tg u_sn b_ip u_ic b_ah b_be b_me u_wd b_tr b_ld u_st b_wn u_id)), (b_tp, (arI G 400 v_tp)), (b_op, (arI G 400 z23)), (b_ar, (arI G 400 z24)), (b_pi, (arI G 400 k20_pi)), (b_pa, (arI G 400 k20_pa)), (b_ws, (arJ G 8 v_ws))], rfl, ⟨k20_fr, k20_to, k20_so, k20_wo, k20_fa, k20_bd, z21, k20_le, z22, k20_od, z23, z24, k20_pi, k20_pa, i_3, i_4, i_5, i_15, i_16, by omega, i_11, xj_kp i_17, by omega, fun q9 => absurd q9 (by omega), rfl⟩, by rw [ht]; exact hP.sub [2, 0, 3, 4, 5, 6, 1] rfl, hD.sub [2, 0, 3, 4, 5, 6, 1] (by decide) rfl⟩, hS.F ht⟩) hS.2.2 dX12_readExpression_81
    ·
      have i_14 : k20_bd.toInt = 0 := by have z := g5_neN (a := k20_bd.toInt) (b := 0) (by rfl) (by decide) c_14; omega
      refine lv_iload_n hx hb dX12_readExpression_27 rfl (lv_at hl 0 rfl) ?_
      refine lv_iconst (v := 4) hx hb dX12_readExpression_28 (by decide) ?_
      refine lv_icmp_eq (tgt := 76) hx hb dX12_readExpression_29 (by decide) (fun c_25 => ?_) (fun c_25 => ?_)
      ·
        have i_25 : k20_2.toInt = 4 := by have z := g5_eq (a := k20_2.toInt) (b := 4) (by rfl) (by decide) c_25; omega
        have hE_26 : HJ k20_op k20_ar k20_pi k20_pa u_co.toInt k20_co.toInt k20_pd.toInt 1 := tj_d1 (i_9 (by omega)) (by omega)
        refine lv_aload_n hx hb dX12_readExpression_76 rfl (lv_at hl 1 rfl) ?_
        refine lv_iconst (v := 1) hx hb dX12_readExpression_77 (by decide) ?_
        obtain ⟨hPc, hDc, hFc⟩ := g5_sub3 (wc := [(b_o, (oc12 u_th u_sa b_rf b_ro b_im b_ke u_fd b_tp u_td k20_fr k20_to k20_so k20_wo k20_fa k20_bd u_nc b_nl k20_co b_op b_ar k20_le b_pi b_pa k20_pd k20_od b_ws b_hw u_la b_se b_re u_bk u_va u_su u_ce u_ho u_wy u_bt u_ps b_pt u_tg u_sn b_ip u_ic b_ah b_be b_me u_wd b_tr b_ld u_st b_wn u_id)), (b_op, (arI G 400 k20_op)), (b_ar, (arI G 400 k20_ar)), (b_pi, (arI G 400 k20_pi)), (b_pa, (arI G 400 k20_pa))]) hP hD hS hA [0, 2, 3, 4, 5] (by decide) rfl
        refine va_callv (va_runV (As := [.int 1]) (rest := []) ⟨hx, hb, hml, hown, hts⟩ (n_settleH l G b_o b_op b_ar b_pi b_pa b_rf b_ro b_im b_ke b_tp b_nl b_ws b_hw b_se b_re b_pt b_ip b_ah b_be b_me b_tr b_ld b_wn H.size u_th u_sa u_fd u_td k20_fr k20_to k20_so k20_fa k20_bd u_nc k20_co k20_le k20_pd k20_od u_la u_bk u_ce u_ho u_wy u_bt u_ps u_tg u_sn u_ic u_wd u_id 1 u_co k20_fr k20_wo u_va u_su u_st k20_op k20_ar k20_pi k20_pa v_op v_ar h_u_td i_3 i_4 i_5 h_u_nc i_6 i_7 h_u_la h_u_bk h_u_ce h_u_ho h_u_wy h_u_bt h_u_ps h_u_ic h_u_id ⟨by decide, by decide⟩ (by omega) (i_8) (hE_26)) (cwV 1 hts gV_X12_288 rfl rfl rfl hv_X12_settle ⟨Nat.le_of_ble_eq_true rfl, Nat.le_of_ble_eq_true rfl⟩) (g5_preV hPc hK hDc hN hT hS hFc (ci := 12) (q0 := 0) rfl rfl) rfl rfl hl.1 rfl (lv_room (Nat.le_of_ble_eq_true rfl)) dX12_readExpression_78 ⟨Nat.le_of_ble_eq_true rfl, Nat.le_of_ble_eq_true rfl⟩) hS (fun q _ h => hFc q h) hFc (fun u t H1 locs ht hvm hw hB hz1 hk1 hS => ?_)
        obtain ⟨hP1, hD1⟩ := hB
        rw [ht] at hP1
        obtain ⟨z34, z35, z36, z37, i_27, i_28, i_29, i_30, i_31, i_32, i_33, rfl⟩ := hw
        have i_27 : 0 ≤ z34.toInt ∧ z34.toInt ≤ 400 := i_27
        have i_28 : 0 ≤ z35.toInt ∧ z35.toInt ≤ 400 := i_28
        have i_29 : XJ v_op v_ar z36 z37 k20_pi k20_pa u_co.toInt z34.toInt z35.toInt k20_fr.toInt := i_29
        have i_30 : HJ z36 z37 k20_pi k20_pa u_co.toInt z34.toInt z35.toInt 1 := i_30
        have i_31 : S1 k20_pi k20_pd.toInt z35.toInt := i_31
        have i_32 : S2 k20_pi z35.toInt (1 : Int32).toInt := i_32
        have i_33 : z35.toInt ≤ k20_pd.toInt := i_33
        obtain ⟨hP, hD⟩ := va_join (wr := [(b_tp, (arI G 400 v_tp)), (b_ws, (arJ G 8 v_ws))]) hP hD [0, 2, 3, 4, 5] [1, 6] rfl rfl (by decide) (by decide) hk1 hFc hP1 hD1
        generalize H1 = H at hP hS ⊢
        refine g5_rs [(b_tp, (arI G 400 v_tp)), (b_ws, (arJ G 8 v_ws)), (b_o, (oc12 u_th u_sa b_rf b_ro b_im b_ke u_fd b_tp u_td k20_fr k20_to k20_so k20_wo k20_fa k20_bd u_nc b_nl z34 b_op b_ar k20_le b_pi b_pa z35 k20_od b_ws b_hw u_la b_se b_re u_bk u_va u_su u_ce u_ho u_wy u_bt u_ps b_pt u_tg u_sn b_ip u_ic b_ah b_be b_me u_wd b_tr b_ld u_st b_wn u_id)), (b_op, (arI G 400 z36)), (b_ar, (arI G 400 z37)), (b_pi, (arI G 400 k20_pi)), (b_pa, (arI G 400 k20_pa))] hP hD (fun hP hD => ?_)
        have hmf7 := xj_mf i_29
        exact W.vret hx hb hr (fun t ht hW => ⟨⟨[(b_o, (oc12 u_th u_sa b_rf b_ro b_im b_ke u_fd b_tp u_td k20_fr k20_to k20_so k20_wo k20_fa k20_bd u_nc b_nl z34 b_op b_ar k20_le b_pi b_pa z35 k20_od b_ws b_hw u_la b_se b_re u_bk u_va u_su u_ce u_ho u_wy u_bt u_ps b_pt u_tg u_sn b_ip u_ic b_ah b_be b_me u_wd b_tr b_ld u_st b_wn u_id)), (b_tp, (arI G 400 v_tp)), (b_op, (arI G 400 z36)), (b_ar, (arI G 400 z37)), (b_pi, (arI G 400 k20_pi)), (b_pa, (arI G 400 k20_pa)), (b_ws, (arJ G 8 v_ws))], rfl, ⟨k20_fr, k20_to, k20_so, k20_wo, k20_fa, k20_bd, z34, k20_le, z35, k20_od, z36, z37, k20_pi, k20_pa, i_3, i_4, i_5, i_27, i_28, by omega, i_11, xj_kp i_29, by omega, fun _ => cdN_of i_30 (end_0 ((i_9 (by omega)).2.2 (by omega)) (by omega) (by omega) (by decide) i_32) (by omega), rfl⟩, by rw [ht]; exact hP.sub [2, 0, 3, 4, 5, 6, 1] rfl, hD.sub [2, 0, 3, 4, 5, 6, 1] (by decide) rfl⟩, hS.F ht⟩) hS.2.2 dX12_readExpression_81
      ·
        have n_25 : gNe (k20_2.toInt) (4) := by have z := g5_eqN (a := k20_2.toInt) (b := 4) (by rfl) (by decide) c_25; unfold gNe; omega
        have i_25 : k20_2.toInt ≤ 3 := by have z := g5_eqN (a := k20_2.toInt) (b := 4) (by rfl) (by decide) c_25; omega
        refine lv_iload_n hx hb dX12_readExpression_32 rfl (lv_at hl 0 rfl) ?_
        refine lv_if_ne (tgt := 43) hx hb dX12_readExpression_33 (by decide) (fun c_38 => ?_) (fun c_38 => ?_)
        ·
          have n_38 : gNe (k20_2.toInt) (0) := by have z := g5_ne (a := k20_2.toInt) (b := 0) (by rfl) (by decide) c_38; unfold gNe; omega
          have i_38 : k20_2.toInt ≥ 1 := by have z := g5_ne (a := k20_2.toInt) (b := 0) (by rfl) (by decide) c_38; omega
          refine lv_iload_n hx hb dX12_readExpression_43 rfl (lv_at hl 0 rfl) ?_
          refine lv_iconst (v := 1) hx hb dX12_readExpression_44 (by decide) ?_
          refine lv_icmp_ne (tgt := 55) hx hb dX12_readExpression_45 (by decide) (fun c_39 => ?_) (fun c_39 => ?_)
          ·
            have n_39 : gNe (k20_2.toInt) (1) := by have z := g5_ne (a := k20_2.toInt) (b := 1) (by rfl) (by decide) c_39; unfold gNe; omega
            have i_39 : k20_2.toInt ≥ 2 := by have z := g5_ne (a := k20_2.toInt) (b := 1) (by rfl) (by decide) c_39; omega
            refine lv_iload_n hx hb dX12_readExpression_55 rfl (lv_at hl 0 rfl) ?_
            refine lv_iconst (v := 3) hx hb dX12_readExpression_56 (by decide) ?_
            refine lv_icmp_ne (tgt := 68) hx hb dX12_readExpression_57 (by decide) (fun c_40 => ?_) (fun c_40 => ?_)
            ·
              have n_40 : gNe (k20_2.toInt) (3) := by have z := g5_ne (a := k20_2.toInt) (b := 3) (by rfl) (by decide) c_40; unfold gNe; omega
              have i_40 : k20_2.toInt ≤ 2 := by have z := g5_ne (a := k20_2.toInt) (b := 3) (by rfl) (by decide) c_40; omega
              have w2 : twt k20_2.toInt = 1 := twt_2 (by omega)
              have hE_41 : TJ k20_op k20_ar k20_pi k20_pa u_co.toInt k20_co.toInt k20_pd.toInt 2 := by have q9 := i_9 (by omega); rw [show k20_2.toInt = 2 by omega] at q9; exact q9
              refine lv_aload_n hx hb dX12_readExpression_68 rfl (lv_at hl 1 rfl) ?_
              obtain ⟨hPc, hDc, hFc⟩ := g5_sub3 (wc := [(b_o, (oc12 u_th u_sa b_rf b_ro b_im b_ke u_fd b_tp u_td k20_fr k20_to k20_so k20_wo k20_fa k20_bd u_nc b_nl k20_co b_op b_ar k20_le b_pi b_pa k20_pd k20_od b_ws b_hw u_la b_se b_re u_bk u_va u_su u_ce u_ho u_wy u_bt u_ps b_pt u_tg u_sn b_ip u_ic b_ah b_be b_me u_wd b_tr b_ld u_st b_wn u_id)), (b_tp, (arI G 400 v_tp)), (b_op, (arI G 400 k20_op)), (b_ar, (arI G 400 k20_ar)), (b_pi, (arI G 400 k20_pi)), (b_pa, (arI G 400 k20_pa))]) hP hD hS hA [0, 1, 2, 3, 4, 5] (by decide) rfl
              refine va_calli (va_runV (As := []) (rest := []) ⟨hx, hb, hml, hown, hts⟩ (n_behindTest l G b_o b_tp b_op b_ar b_pi b_pa b_rf b_ro b_im b_ke b_nl b_ws b_hw b_se b_re b_pt b_ip b_ah b_be b_me b_tr b_ld b_wn H.size u_th u_sa u_fd u_td k20_fr k20_to k20_so k20_fa k20_bd u_nc k20_co k20_le k20_pd k20_od u_la u_bk u_ce u_ho u_wy u_bt u_ps u_tg u_sn u_ic u_wd u_id u_co k20_wo u_va u_su u_st v_tp k20_op k20_ar k20_pi k20_pa v_op v_ar h_u_td i_3 i_4 ⟨by omega, by omega⟩ h_u_nc i_6 i_7 h_u_la h_u_bk h_u_ce h_u_ho h_u_wy h_u_bt h_u_ps h_u_ic h_u_id (i_10) (i_11) (i_8) (hE_41)) (cwV 0 hts gV_X12_309 rfl rfl rfl hv_X12_behindTest ⟨Nat.le_of_ble_eq_true rfl, Nat.le_of_ble_eq_true rfl⟩) (g5_preV hPc hK hDc hN hT hS hFc (ci := 12) (q0 := 0) rfl rfl) rfl rfl hl.1 rfl (lv_room (Nat.le_of_ble_eq_true rfl)) dX12_readExpression_69 ⟨Nat.le_of_ble_eq_true rfl, Nat.le_of_ble_eq_true rfl⟩) hS (fun q _ h => hFc q h) hFc (fun r u t H1 locs ht hvm hw hB hz1 hk1 hS => ?_)
              obtain ⟨hP1, hD1⟩ := hB
              rw [ht] at hP1
              rcases hw with ⟨z43, i_42, y44, rfl⟩ | ⟨z55, z56, z57, z58, z59, z60, z61, z62, z63, z64, z65, z66, i_45, i_46, i_47, i_48, i_49, i_50, i_51, i_52, i_53, i_54, y67, rfl⟩
              ·
                have i_42 : 0 ≤ z43.toInt ∧ z43.toInt ≤ 4 := i_42
                obtain ⟨hP, hD⟩ := va_join (wr := [(b_ws, (arJ G 8 v_ws))]) hP hD [0, 1, 2, 3, 4, 5] [6] rfl rfl (by decide) (by decide) hk1 hFc hP1 hD1
                generalize H1 = H at hP hS ⊢
                refine g5_rs [(b_ws, (arJ G 8 v_ws)), (b_o, (oc12 u_th u_sa b_rf b_ro b_im b_ke u_fd b_tp u_td k20_fr k20_to k20_so k20_wo k20_fr 1 u_nc b_nl k20_co b_op b_ar k20_le b_pi b_pa k20_pd k20_od b_ws b_hw u_la b_se b_re u_bk u_va u_su u_ce u_ho u_wy u_bt u_ps b_pt u_tg u_sn b_ip u_ic b_ah b_be b_me u_wd b_tr b_ld u_st b_wn u_id)), (b_tp, (arI G 400 v_tp)), (b_op, (arI G 400 k20_op)), (b_ar, (arI G 400 k20_ar)), (b_pi, (arI G 400 k20_pi)), (b_pa, (arI G 400 k20_pa))] hP hD (fun hP hD => ?_)
                refine g5_ti (v := z43) y44 ?_
                have w1 := twt_rg z43.toInt
                refine lv_istore_n (lv' := [(2, .int z43), (0, .ref b_o), (1, .int p_1)]) hx hb dX12_readExpression_72 rfl hl (by decide) rfl (fun ls hl => ?_)
                refine lv_goto (tgt := 20) hx hb dX12_readExpression_73 (by decide) ?_
                exact ih_20_13 (z43, k20_fr, k20_to, k20_so, k20_wo, k20_fr, 1, k20_co, k20_le, k20_pd, k20_od, k20_op, k20_ar, k20_pi, k20_pa) ls H locs (show Int.toNat (3 * (400 - k20_fr.toInt) + 3 * (1 - (1 : Int32).toInt) + twt z43.toInt) < Int.toNat (3 * (400 - k20_fr.toInt) + 3 * (1 - k20_bd.toInt) + twt k20_2.toInt) by have zc_k20_bd : (1 : Int32).toInt = 1 := (by decide); omega) ⟨lv_sub hl [0, 1, 2] rfl, hP.sub [1, 2, 3, 4, 5, 6, 0] rfl, hD.sub [1, 2, 3, 4, 5, 6, 0] (by decide) rfl, hS, i_42, i_3, i_4, ⟨by decide, by decide⟩, i_6, i_7, i_8, fun q9 => absurd q9 (by decide), by omega, i_11, by omega⟩
              ·
                have i_45 : 0 ≤ z56.toInt ∧ z56.toInt ≤ 400 := i_45
                have i_46 : 0 ≤ z57.toInt ∧ z57.toInt ≤ 400 := i_46
                have i_47 : 0 ≤ z60.toInt ∧ z60.toInt ≤ 400 := i_47
                have i_48 : 0 ≤ z61.toInt ∧ z61.toInt ≤ 400 := i_48
                have i_49 : 0 ≤ z55.toInt ∧ z55.toInt ≤ 4 := i_49
                have i_50 : k20_fr.toInt ≤ z56.toInt ∧ z56.toInt ≤ z57.toInt ∧ z57.toInt ≤ u_td.toInt := i_50
                have i_51 : TKs z58.toInt z56.toInt z57.toInt := i_51
                have i_52 : XJ v_op v_ar z63 z64 z65 z66 u_co.toInt z60.toInt z61.toInt z56.toInt := i_52
                have i_53 : TJ z63 z64 z65 z66 u_co.toInt z60.toInt z61.toInt z55.toInt := i_53
                have i_54 : twt z55.toInt + 1 ≤ 1 + 3 * (z56.toInt - k20_fr.toInt) := i_54
                obtain ⟨hP, hD⟩ := va_join (wr := [(b_ws, (arJ G 8 v_ws))]) hP hD [0, 1, 2, 3, 4, 5] [6] rfl rfl (by decide) (by decide) hk1 hFc hP1 hD1
                generalize H1 = H at hP hS ⊢
                refine g5_rs [(b_ws, (arJ G 8 v_ws)), (b_o, (oc12 u_th u_sa b_rf b_ro b_im b_ke u_fd b_tp u_td z56 z57 z58 z59 k20_fa k20_bd u_nc b_nl z60 b_op b_ar k20_le b_pi b_pa z61 z62 b_ws b_hw u_la b_se b_re u_bk u_va u_su u_ce u_ho u_wy u_bt u_ps b_pt u_tg u_sn b_ip u_ic b_ah b_be b_me u_wd b_tr b_ld u_st b_wn u_id)), (b_tp, (arI G 400 v_tp)), (b_op, (arI G 400 z63)), (b_ar, (arI G 400 z64)), (b_pi, (arI G 400 z65)), (b_pa, (arI G 400 z66))] hP hD (fun hP hD => ?_)
                refine g5_ti (v := z55) y67 ?_
                have w1 := twt_rg z55.toInt
                refine lv_istore_n (lv' := [(2, .int z55), (0, .ref b_o), (1, .int p_1)]) hx hb dX12_readExpression_72 rfl hl (by decide) rfl (fun ls hl => ?_)
                refine lv_goto (tgt := 20) hx hb dX12_readExpression_73 (by decide) ?_
                exact ih_20_13 (z55, z56, z57, z58, z59, k20_fa, k20_bd, z60, k20_le, z61, z62, z63, z64, z65, z66) ls H locs (show Int.toNat (3 * (400 - z56.toInt) + 3 * (1 - k20_bd.toInt) + twt z55.toInt) < Int.toNat (3 * (400 - k20_fr.toInt) + 3 * (1 - k20_bd.toInt) + twt k20_2.toInt) by omega) ⟨lv_sub hl [0, 1, 2] rfl, hP.sub [1, 2, 3, 4, 5, 6, 0] rfl, hD.sub [1, 2, 3, 4, 5, 6, 0] (by decide) rfl, hS, i_49, i_45, i_46, i_5, i_47, i_48, i_52, fun _ => i_53, by omega, i_51, by omega⟩
            ·
              have i_40 : k20_2.toInt = 3 := by have z := g5_neN (a := k20_2.toInt) (b := 3) (by rfl) (by decide) c_40; omega
              have w2 : twt k20_2.toInt = 2 := twt_3 (by omega)
              have hE_68 : TJ k20_op k20_ar k20_pi k20_pa u_co.toInt k20_co.toInt k20_pd.toInt 3 := by have q9 := i_9 (by omega); rw [show k20_2.toInt = 3 by omega] at q9; exact q9
              refine lv_aload_n hx hb dX12_readExpression_60 rfl (lv_at hl 1 rfl) ?_
              refine lv_iload_n hx hb dX12_readExpression_61 rfl (lv_at hl 2 rfl) ?_
              obtain ⟨hPc, hDc, hFc⟩ := g5_sub3 (wc := [(b_o, (oc12 u_th u_sa b_rf b_ro b_im b_ke u_fd b_tp u_td k20_fr k20_to k20_so k20_wo k20_fa k20_bd u_nc b_nl k20_co b_op b_ar k20_le b_pi b_pa k20_pd k20_od b_ws b_hw u_la b_se b_re u_bk u_va u_su u_ce u_ho u_wy u_bt u_ps b_pt u_tg u_sn b_ip u_ic b_ah b_be b_me u_wd b_tr b_ld u_st b_wn u_id)), (b_tp, (arI G 400 v_tp)), (b_op, (arI G 400 k20_op)), (b_ar, (arI G 400 k20_ar)), (b_pi, (arI G 400 k20_pi)), (b_pa, (arI G 400 k20_pa))]) hP hD hS hA [0, 1, 2, 3, 4, 5] (by decide) rfl
              refine va_calli (va_runV (As := [.int p_1]) (rest := []) ⟨hx, hb, hml, hown, hts⟩ (n_behindSum l G b_o b_tp b_op b_ar b_pi b_pa b_rf b_ro b_im b_ke b_nl b_ws b_hw b_se b_re b_pt b_ip b_ah b_be b_me b_tr b_ld b_wn H.size u_th u_sa u_fd u_td k20_fr k20_to k20_so k20_fa k20_bd u_nc k20_co k20_le k20_pd k20_od u_la u_bk u_ce u_ho u_wy u_bt u_ps u_tg u_sn u_ic u_wd u_id p_1 u_co k20_wo u_va u_su u_st v_tp k20_op k20_ar k20_pi k20_pa v_op v_ar h_u_td i_3 i_4 ⟨by omega, by omega⟩ h_u_nc i_6 i_7 h_u_la h_u_bk h_u_ce h_u_ho h_u_wy h_u_bt h_u_ps h_u_ic h_u_id h_p_1 (i_10) (i_11) (i_8) (hE_68)) (cwV 1 hts gV_X12_305 rfl rfl rfl hv_X12_behindSum ⟨Nat.le_of_ble_eq_true rfl, Nat.le_of_ble_eq_true rfl⟩) (g5_preV hPc hK hDc hN hT hS hFc (ci := 12) (q0 := 0) rfl rfl) rfl rfl hl.1 rfl (lv_room (Nat.le_of_ble_eq_true rfl)) dX12_readExpression_62 ⟨Nat.le_of_ble_eq_true rfl, Nat.le_of_ble_eq_true rfl⟩) hS (fun q _ h => hFc q h) hFc (fun r u t H1 locs ht hvm hw hB hz1 hk1 hS => ?_)
              obtain ⟨hP1, hD1⟩ := hB
              rw [ht] at hP1
              rcases hw with ⟨z70, i_69, y71, rfl⟩ | ⟨z82, z83, z84, z85, z86, z87, z88, z89, z90, z91, z92, z93, i_72, i_73, i_74, i_75, i_76, i_77, i_78, i_79, i_80, i_81, y94, rfl⟩
              ·
                have i_69 : 0 ≤ z70.toInt ∧ z70.toInt ≤ 4 := i_69
                obtain ⟨hP, hD⟩ := va_join (wr := [(b_ws, (arJ G 8 v_ws))]) hP hD [0, 1, 2, 3, 4, 5] [6] rfl rfl (by decide) (by decide) hk1 hFc hP1 hD1
                generalize H1 = H at hP hS ⊢
                refine g5_rs [(b_ws, (arJ G 8 v_ws)), (b_o, (oc12 u_th u_sa b_rf b_ro b_im b_ke u_fd b_tp u_td k20_fr k20_to k20_so k20_wo k20_fr 1 u_nc b_nl k20_co b_op b_ar k20_le b_pi b_pa k20_pd k20_od b_ws b_hw u_la b_se b_re u_bk u_va u_su u_ce u_ho u_wy u_bt u_ps b_pt u_tg u_sn b_ip u_ic b_ah b_be b_me u_wd b_tr b_ld u_st b_wn u_id)), (b_tp, (arI G 400 v_tp)), (b_op, (arI G 400 k20_op)), (b_ar, (arI G 400 k20_ar)), (b_pi, (arI G 400 k20_pi)), (b_pa, (arI G 400 k20_pa))] hP hD (fun hP hD => ?_)
                refine g5_ti (v := z70) y71 ?_
                refine lv_goto (tgt := 72) hx hb dX12_readExpression_65 (by decide) ?_
                have w1 := twt_rg z70.toInt
                refine lv_istore_n (lv' := [(2, .int z70), (0, .ref b_o), (1, .int p_1)]) hx hb dX12_readExpression_72 rfl hl (by decide) rfl (fun ls hl => ?_)
                refine lv_goto (tgt := 20) hx hb dX12_readExpression_73 (by decide) ?_
                exact ih_20_13 (z70, k20_fr, k20_to, k20_so, k20_wo, k20_fr, 1, k20_co, k20_le, k20_pd, k20_od, k20_op, k20_ar, k20_pi, k20_pa) ls H locs (show Int.toNat (3 * (400 - k20_fr.toInt) + 3 * (1 - (1 : Int32).toInt) + twt z70.toInt) < Int.toNat (3 * (400 - k20_fr.toInt) + 3 * (1 - k20_bd.toInt) + twt k20_2.toInt) by have zc_k20_bd : (1 : Int32).toInt = 1 := (by decide); omega) ⟨lv_sub hl [0, 1, 2] rfl, hP.sub [1, 2, 3, 4, 5, 6, 0] rfl, hD.sub [1, 2, 3, 4, 5, 6, 0] (by decide) rfl, hS, i_69, i_3, i_4, ⟨by decide, by decide⟩, i_6, i_7, i_8, fun q9 => absurd q9 (by decide), by omega, i_11, by omega⟩
              ·
                have i_72 : 0 ≤ z83.toInt ∧ z83.toInt ≤ 400 := i_72
                have i_73 : 0 ≤ z84.toInt ∧ z84.toInt ≤ 400 := i_73
                have i_74 : 0 ≤ z87.toInt ∧ z87.toInt ≤ 400 := i_74
                have i_75 : 0 ≤ z88.toInt ∧ z88.toInt ≤ 400 := i_75
                have i_76 : 0 ≤ z82.toInt ∧ z82.toInt ≤ 4 := i_76
                have i_77 : k20_fr.toInt ≤ z83.toInt ∧ z83.toInt ≤ z84.toInt ∧ z84.toInt ≤ u_td.toInt := i_77
                have i_78 : TKs z85.toInt z83.toInt z84.toInt := i_78
                have i_79 : XJ v_op v_ar z90 z91 z92 z93 u_co.toInt z87.toInt z88.toInt z83.toInt := i_79
                have i_80 : TJ z90 z91 z92 z93 u_co.toInt z87.toInt z88.toInt z82.toInt := i_80
                have i_81 : twt z82.toInt + 1 ≤ 2 + 3 * (z83.toInt - k20_fr.toInt) := i_81
                obtain ⟨hP, hD⟩ := va_join (wr := [(b_ws, (arJ G 8 v_ws))]) hP hD [0, 1, 2, 3, 4, 5] [6] rfl rfl (by decide) (by decide) hk1 hFc hP1 hD1
                generalize H1 = H at hP hS ⊢
                refine g5_rs [(b_ws, (arJ G 8 v_ws)), (b_o, (oc12 u_th u_sa b_rf b_ro b_im b_ke u_fd b_tp u_td z83 z84 z85 z86 k20_fa k20_bd u_nc b_nl z87 b_op b_ar k20_le b_pi b_pa z88 z89 b_ws b_hw u_la b_se b_re u_bk u_va u_su u_ce u_ho u_wy u_bt u_ps b_pt u_tg u_sn b_ip u_ic b_ah b_be b_me u_wd b_tr b_ld u_st b_wn u_id)), (b_tp, (arI G 400 v_tp)), (b_op, (arI G 400 z90)), (b_ar, (arI G 400 z91)), (b_pi, (arI G 400 z92)), (b_pa, (arI G 400 z93))] hP hD (fun hP hD => ?_)
                refine g5_ti (v := z82) y94 ?_
                refine lv_goto (tgt := 72) hx hb dX12_readExpression_65 (by decide) ?_
                have w1 := twt_rg z82.toInt
                refine lv_istore_n (lv' := [(2, .int z82), (0, .ref b_o), (1, .int p_1)]) hx hb dX12_readExpression_72 rfl hl (by decide) rfl (fun ls hl => ?_)
                refine lv_goto (tgt := 20) hx hb dX12_readExpression_73 (by decide) ?_
                exact ih_20_13 (z82, z83, z84, z85, z86, k20_fa, k20_bd, z87, k20_le, z88, z89, z90, z91, z92, z93) ls H locs (show Int.toNat (3 * (400 - z83.toInt) + 3 * (1 - k20_bd.toInt) + twt z82.toInt) < Int.toNat (3 * (400 - k20_fr.toInt) + 3 * (1 - k20_bd.toInt) + twt k20_2.toInt) by omega) ⟨lv_sub hl [0, 1, 2] rfl, hP.sub [1, 2, 3, 4, 5, 6, 0] rfl, hD.sub [1, 2, 3, 4, 5, 6, 0] (by decide) rfl, hS, i_76, i_72, i_73, i_5, i_74, i_75, i_79, fun _ => i_80, by omega, i_78, by omega⟩
          ·
            have i_39 : k20_2.toInt = 1 := by have z := g5_neN (a := k20_2.toInt) (b := 1) (by rfl) (by decide) c_39; omega
            have w2 : twt k20_2.toInt = 0 := twt_0 (Or.inr (Or.inl (by omega)))
            have hE_95 : TJ k20_op k20_ar k20_pi k20_pa u_co.toInt k20_co.toInt k20_pd.toInt 1 := by have q9 := i_9 (by omega); rw [show k20_2.toInt = 1 by omega] at q9; exact q9
            refine lv_aload_n hx hb dX12_readExpression_48 rfl (lv_at hl 1 rfl) ?_
            obtain ⟨hPc, hDc, hFc⟩ := g5_sub3 (wc := [(b_o, (oc12 u_th u_sa b_rf b_ro b_im b_ke u_fd b_tp u_td k20_fr k20_to k20_so k20_wo k20_fa k20_bd u_nc b_nl k20_co b_op b_ar k20_le b_pi b_pa k20_pd k20_od b_ws b_hw u_la b_se b_re u_bk u_va u_su u_ce u_ho u_wy u_bt u_ps b_pt u_tg u_sn b_ip u_ic b_ah b_be b_me u_wd b_tr b_ld u_st b_wn u_id)), (b_tp, (arI G 400 v_tp)), (b_op, (arI G 400 k20_op)), (b_ar, (arI G 400 k20_ar)), (b_pi, (arI G 400 k20_pi)), (b_pa, (arI G 400 k20_pa)), (b_ws, (arJ G 8 v_ws))]) hP hD hS hA [0, 1, 2, 3, 4, 5, 6] (by decide) rfl
            refine va_calli (va_runV (As := []) (rest := []) ⟨hx, hb, hml, hown, hts⟩ (n_readPart l G b_o b_tp b_op b_ar b_pi b_pa b_ws b_rf b_ro b_im b_ke b_nl b_hw b_se b_re b_pt b_ip b_ah b_be b_me b_tr b_ld b_wn H.size u_th u_sa u_fd u_td k20_fr k20_to k20_so k20_fa k20_bd u_nc k20_co k20_le k20_pd k20_od u_la u_bk u_ce u_ho u_wy u_bt u_ps u_tg u_sn u_ic u_wd u_id u_co k20_wo u_va u_su u_st v_tp k20_op k20_ar k20_pi k20_pa v_ws v_op v_ar h_u_td i_3 i_4 ⟨by omega, by omega⟩ h_u_nc i_6 i_7 h_u_la h_u_bk h_u_ce h_u_ho h_u_wy h_u_bt h_u_ps h_u_ic h_u_id (i_10) (i_11) (i_8) (hE_95)) (cwV 0 hts gV_X12_285 rfl rfl rfl hv_X12_readPart ⟨Nat.le_of_ble_eq_true rfl, Nat.le_of_ble_eq_true rfl⟩) (g5_preV hPc hK hDc hN hT hS hFc (ci := 12) (q0 := 0) rfl rfl) rfl rfl hl.1 rfl (lv_room (Nat.le_of_ble_eq_true rfl)) dX12_readExpression_49 ⟨Nat.le_of_ble_eq_true rfl, Nat.le_of_ble_eq_true rfl⟩) hS (fun q _ h => hFc q h) hFc (fun r u t H1 locs ht hvm hw hB hz1 hk1 hS => ?_)
            obtain ⟨hP1, hD1⟩ := hB
            rw [ht] at hP1
            rcases hw with ⟨z97, i_96, y98, rfl⟩ | ⟨z109, z110, z111, z112, z113, z114, z115, z116, z117, z118, z119, z120, z121, i_99, i_100, i_101, i_102, i_103, i_104, i_105, i_106, i_107, i_108, y122, rfl⟩
            ·
              have i_96 : 0 ≤ z97.toInt ∧ z97.toInt ≤ 4 := i_96
              obtain ⟨hP, hD⟩ := va_join (wr := []) hP hD [0, 1, 2, 3, 4, 5, 6] [] rfl rfl (by decide) (by decide) hk1 hFc hP1 hD1
              generalize H1 = H at hP hS ⊢
              refine g5_rs [(b_o, (oc12 u_th u_sa b_rf b_ro b_im b_ke u_fd b_tp u_td k20_fr k20_to k20_so k20_wo k20_fr 1 u_nc b_nl k20_co b_op b_ar k20_le b_pi b_pa k20_pd k20_od b_ws b_hw u_la b_se b_re u_bk u_va u_su u_ce u_ho u_wy u_bt u_ps b_pt u_tg u_sn b_ip u_ic b_ah b_be b_me u_wd b_tr b_ld u_st b_wn u_id)), (b_tp, (arI G 400 v_tp)), (b_op, (arI G 400 k20_op)), (b_ar, (arI G 400 k20_ar)), (b_pi, (arI G 400 k20_pi)), (b_pa, (arI G 400 k20_pa)), (b_ws, (arJ G 8 v_ws))] hP hD (fun hP hD => ?_)
              refine g5_ti (v := z97) y98 ?_
              refine lv_goto (tgt := 72) hx hb dX12_readExpression_52 (by decide) ?_
              have w1 := twt_rg z97.toInt
              refine lv_istore_n (lv' := [(2, .int z97), (0, .ref b_o), (1, .int p_1)]) hx hb dX12_readExpression_72 rfl hl (by decide) rfl (fun ls hl => ?_)
              refine lv_goto (tgt := 20) hx hb dX12_readExpression_73 (by decide) ?_
              exact ih_20_13 (z97, k20_fr, k20_to, k20_so, k20_wo, k20_fr, 1, k20_co, k20_le, k20_pd, k20_od, k20_op, k20_ar, k20_pi, k20_pa) ls H locs (show Int.toNat (3 * (400 - k20_fr.toInt) + 3 * (1 - (1 : Int32).toInt) + twt z97.toInt) < Int.toNat (3 * (400 - k20_fr.toInt) + 3 * (1 - k20_bd.toInt) + twt k20_2.toInt) by have zc_k20_bd : (1 : Int32).toInt = 1 := (by decide); omega) ⟨lv_sub hl [0, 1, 2] rfl, hP, hD, hS, i_96, i_3, i_4, ⟨by decide, by decide⟩, i_6, i_7, i_8, fun q9 => absurd q9 (by decide), by omega, i_11, by omega⟩
            ·
              have i_99 : 0 ≤ z110.toInt ∧ z110.toInt ≤ 400 := i_99
              have i_100 : 0 ≤ z111.toInt ∧ z111.toInt ≤ 400 := i_100
              have i_101 : 0 ≤ z114.toInt ∧ z114.toInt ≤ 400 := i_101
              have i_102 : 0 ≤ z116.toInt ∧ z116.toInt ≤ 400 := i_102
              have i_103 : 0 ≤ z109.toInt ∧ z109.toInt ≤ 4 := i_103
              have i_104 : k20_fr.toInt ≤ z110.toInt ∧ z110.toInt ≤ z111.toInt ∧ z111.toInt ≤ u_td.toInt := i_104
              have i_105 : TKs z112.toInt z110.toInt z111.toInt := i_105
              have i_106 : XJ v_op v_ar z118 z119 z120 z121 u_co.toInt z114.toInt z116.toInt z110.toInt := i_106
              have i_107 : TJ z118 z119 z120 z121 u_co.toInt z114.toInt z116.toInt z109.toInt := i_107
              have i_108 : twt z109.toInt + 1 ≤ 0 + 3 * (z110.toInt - k20_fr.toInt) := i_108
              obtain ⟨hP, hD⟩ := va_join (wr := []) hP hD [0, 1, 2, 3, 4, 5, 6] [] rfl rfl (by decide) (by decide) hk1 hFc hP1 hD1
              generalize H1 = H at hP hS ⊢
              refine g5_rs [(b_o, (oc12 u_th u_sa b_rf b_ro b_im b_ke u_fd b_tp u_td z110 z111 z112 z113 k20_fa k20_bd u_nc b_nl z114 b_op b_ar z115 b_pi b_pa z116 z117 b_ws b_hw u_la b_se b_re u_bk u_va u_su u_ce u_ho u_wy u_bt u_ps b_pt u_tg u_sn b_ip u_ic b_ah b_be b_me u_wd b_tr b_ld u_st b_wn u_id)), (b_tp, (arI G 400 v_tp)), (b_op, (arI G 400 z118)), (b_ar, (arI G 400 z119)), (b_pi, (arI G 400 z120)), (b_pa, (arI G 400 z121)), (b_ws, (arJ G 8 v_ws))] hP hD (fun hP hD => ?_)
              refine g5_ti (v := z109) y122 ?_
              refine lv_goto (tgt := 72) hx hb dX12_readExpression_52 (by decide) ?_
              have w1 := twt_rg z109.toInt
              refine lv_istore_n (lv' := [(2, .int z109), (0, .ref b_o), (1, .int p_1)]) hx hb dX12_readExpression_72 rfl hl (by decide) rfl (fun ls hl => ?_)
              refine lv_goto (tgt := 20) hx hb dX12_readExpression_73 (by decide) ?_
              exact ih_20_13 (z109, z110, z111, z112, z113, k20_fa, k20_bd, z114, z115, z116, z117, z118, z119, z120, z121) ls H locs (show Int.toNat (3 * (400 - z110.toInt) + 3 * (1 - k20_bd.toInt) + twt z109.toInt) < Int.toNat (3 * (400 - k20_fr.toInt) + 3 * (1 - k20_bd.toInt) + twt k20_2.toInt) by omega) ⟨lv_sub hl [0, 1, 2] rfl, hP, hD, hS, i_103, i_99, i_100, i_5, i_101, i_102, i_106, fun _ => i_107, by omega, i_105, by omega⟩
        ·
          have i_38 : k20_2.toInt = 0 := by have z := g5_neN (a := k20_2.toInt) (b := 0) (by rfl) (by decide) c_38; omega
          have w2 : twt k20_2.toInt = 0 := twt_0 (Or.inl (by omega))
          have hE_123 : TJ k20_op k20_ar k20_pi k20_pa u_co.toInt k20_co.toInt k20_pd.toInt 0 := by have q9 := i_9 (by omega); rw [show k20_2.toInt = 0 by omega] at q9; exact q9
          refine lv_aload_n hx hb dX12_readExpression_36 rfl (lv_at hl 1 rfl) ?_
          obtain ⟨hPc, hDc, hFc⟩ := g5_sub3 (wc := [(b_o, (oc12 u_th u_sa b_rf b_ro b_im b_ke u_fd b_tp u_td k20_fr k20_to k20_so k20_wo k20_fa k20_bd u_nc b_nl k20_co b_op b_ar k20_le b_pi b_pa k20_pd k20_od b_ws b_hw u_la b_se b_re u_bk u_va u_su u_ce u_ho u_wy u_bt u_ps b_pt u_tg u_sn b_ip u_ic b_ah b_be b_me u_wd b_tr b_ld u_st b_wn u_id)), (b_tp, (arI G 400 v_tp)), (b_op, (arI G 400 k20_op)), (b_ar, (arI G 400 k20_ar)), (b_pi, (arI G 400 k20_pi)), (b_pa, (arI G 400 k20_pa)), (b_ws, (arJ G 8 v_ws))]) hP hD hS hA [0, 1, 2, 3, 4, 5, 6] (by decide) rfl
          refine va_calli (va_runV (As := []) (rest := []) ⟨hx, hb, hml, hown, hts⟩ (n_readPlain l G b_o b_tp b_op b_ar b_pi b_pa b_ws b_rf b_ro b_im b_ke b_nl b_hw b_se b_re b_pt b_ip b_ah b_be b_me b_tr b_ld b_wn H.size u_th u_sa u_fd u_td k20_fr k20_to k20_so k20_fa k20_bd u_nc k20_co k20_le k20_pd k20_od u_la u_bk u_ce u_ho u_wy u_bt u_ps u_tg u_sn u_ic u_wd u_id u_co k20_wo u_va u_su u_st v_tp k20_op k20_ar k20_pi k20_pa v_ws v_op v_ar h_u_td i_3 i_4 ⟨by omega, by omega⟩ h_u_nc i_6 i_7 h_u_la h_u_bk h_u_ce h_u_ho h_u_wy h_u_bt h_u_ps h_u_ic h_u_id (i_10) (i_11) (i_8) (hE_123)) (cwV 0 hts gV_X12_302 rfl rfl rfl hv_X12_readPlain ⟨Nat.le_of_ble_eq_true rfl, Nat.le_of_ble_eq_true rfl⟩) (g5_preV hPc hK hDc hN hT hS hFc (ci := 12) (q0 := 0) rfl rfl) rfl rfl hl.1 rfl (lv_room (Nat.le_of_ble_eq_true rfl)) dX12_readExpression_37 ⟨Nat.le_of_ble_eq_true rfl, Nat.le_of_ble_eq_true rfl⟩) hS (fun q _ h => hFc q h) hFc (fun r u t H1 locs ht hvm hw hB hz1 hk1 hS => ?_)
          obtain ⟨hP1, hD1⟩ := hB
          rw [ht] at hP1
          rcases hw with ⟨z125, i_124, y126, rfl⟩ | ⟨z137, z138, z139, z140, z141, z142, z143, z144, z145, z146, z147, z148, z149, i_127, i_128, i_129, i_130, i_131, i_132, i_133, i_134, i_135, i_136, y150, rfl⟩
          ·
            have i_124 : 0 ≤ z125.toInt ∧ z125.toInt ≤ 4 := i_124
            obtain ⟨hP, hD⟩ := va_join (wr := []) hP hD [0, 1, 2, 3, 4, 5, 6] [] rfl rfl (by decide) (by decide) hk1 hFc hP1 hD1
            generalize H1 = H at hP hS ⊢
            refine g5_rs [(b_o, (oc12 u_th u_sa b_rf b_ro b_im b_ke u_fd b_tp u_td k20_fr k20_to k20_so k20_wo k20_fr 1 u_nc b_nl k20_co b_op b_ar k20_le b_pi b_pa k20_pd k20_od b_ws b_hw u_la b_se b_re u_bk u_va u_su u_ce u_ho u_wy u_bt u_ps b_pt u_tg u_sn b_ip u_ic b_ah b_be b_me u_wd b_tr b_ld u_st b_wn u_id)), (b_tp, (arI G 400 v_tp)), (b_op, (arI G 400 k20_op)), (b_ar, (arI G 400 k20_ar)), (b_pi, (arI G 400 k20_pi)), (b_pa, (arI G 400 k20_pa)), (b_ws, (arJ G 8 v_ws))] hP hD (fun hP hD => ?_)
            refine g5_ti (v := z125) y126 ?_
            refine lv_goto (tgt := 72) hx hb dX12_readExpression_40 (by decide) ?_
            have w1 := twt_rg z125.toInt
            refine lv_istore_n (lv' := [(2, .int z125), (0, .ref b_o), (1, .int p_1)]) hx hb dX12_readExpression_72 rfl hl (by decide) rfl (fun ls hl => ?_)
            refine lv_goto (tgt := 20) hx hb dX12_readExpression_73 (by decide) ?_
            exact ih_20_13 (z125, k20_fr, k20_to, k20_so, k20_wo, k20_fr, 1, k20_co, k20_le, k20_pd, k20_od, k20_op, k20_ar, k20_pi, k20_pa) ls H locs (show Int.toNat (3 * (400 - k20_fr.toInt) + 3 * (1 - (1 : Int32).toInt) + twt z125.toInt) < Int.toNat (3 * (400 - k20_fr.toInt) + 3 * (1 - k20_bd.toInt) + twt k20_2.toInt) by have zc_k20_bd : (1 : Int32).toInt = 1 := (by decide); omega) ⟨lv_sub hl [0, 1, 2] rfl, hP, hD, hS, i_124, i_3, i_4, ⟨by decide, by decide⟩, i_6, i_7, i_8, fun q9 => absurd q9 (by decide), by omega, i_11, by omega⟩
          ·
            have i_127 : 0 ≤ z138.toInt ∧ z138.toInt ≤ 400 := i_127
            have i_128 : 0 ≤ z139.toInt ∧ z139.toInt ≤ 400 := i_128
            have i_129 : 0 ≤ z142.toInt ∧ z142.toInt ≤ 400 := i_129
            have i_130 : 0 ≤ z144.toInt ∧ z144.toInt ≤ 400 := i_130
            have i_131 : 0 ≤ z137.toInt ∧ z137.toInt ≤ 4 := i_131
            have i_132 : k20_fr.toInt ≤ z138.toInt ∧ z138.toInt ≤ z139.toInt ∧ z139.toInt ≤ u_td.toInt := i_132
            have i_133 : TKs z140.toInt z138.toInt z139.toInt := i_133
            have i_134 : XJ v_op v_ar z146 z147 z148 z149 u_co.toInt z142.toInt z144.toInt z138.toInt := i_134
            have i_135 : TJ z146 z147 z148 z149 u_co.toInt z142.toInt z144.toInt z137.toInt := i_135
            have i_136 : twt z137.toInt + 1 ≤ 0 + 3 * (z138.toInt - k20_fr.toInt) := i_136
            obtain ⟨hP, hD⟩ := va_join (wr := []) hP hD [0, 1, 2, 3, 4, 5, 6] [] rfl rfl (by decide) (by decide) hk1 hFc hP1 hD1
            generalize H1 = H at hP hS ⊢
            refine g5_rs [(b_o, (oc12 u_th u_sa b_rf b_ro b_im b_ke u_fd b_tp u_td z138 z139 z140 z141 k20_fa k20_bd u_nc b_nl z142 b_op b_ar z143 b_pi b_pa z144 z145 b_ws b_hw u_la b_se b_re u_bk u_va u_su u_ce u_ho u_wy u_bt u_ps b_pt u_tg u_sn b_ip u_ic b_ah b_be b_me u_wd b_tr b_ld u_st b_wn u_id)), (b_tp, (arI G 400 v_tp)), (b_op, (arI G 400 z146)), (b_ar, (arI G 400 z147)), (b_pi, (arI G 400 z148)), (b_pa, (arI G 400 z149)), (b_ws, (arJ G 8 v_ws))] hP hD (fun hP hD => ?_)
            refine g5_ti (v := z137) y150 ?_
            refine lv_goto (tgt := 72) hx hb dX12_readExpression_40 (by decide) ?_
            have w1 := twt_rg z137.toInt
            refine lv_istore_n (lv' := [(2, .int z137), (0, .ref b_o), (1, .int p_1)]) hx hb dX12_readExpression_72 rfl hl (by decide) rfl (fun ls hl => ?_)
            refine lv_goto (tgt := 20) hx hb dX12_readExpression_73 (by decide) ?_
            exact ih_20_13 (z137, z138, z139, z140, z141, k20_fa, k20_bd, z142, z143, z144, z145, z146, z147, z148, z149) ls H locs (show Int.toNat (3 * (400 - z138.toInt) + 3 * (1 - k20_bd.toInt) + twt z137.toInt) < Int.toNat (3 * (400 - k20_fr.toInt) + 3 * (1 - k20_bd.toInt) + twt k20_2.toInt) by omega) ⟨lv_sub hl [0, 1, 2] rfl, hP, hD, hS, i_131, i_127, i_128, i_5, i_129, i_130, i_134, fun _ => i_135, by omega, i_133, by omega⟩
  ·
    have n_1 : gNe (p_1.toInt) (0) := by have z := g5_eqN (a := p_1.toInt) (b := 0) (by rfl) (by decide) c_1; unfold gNe; omega
    have i_1 : p_1.toInt ≥ 1 := by have z := g5_eqN (a := p_1.toInt) (b := 0) (by rfl) (by decide) c_1; omega
    refine lv_iconst (v := 0) hx hb dX12_readExpression_14 (by decide) ?_
    refine lv_goto (tgt := 19) hx hb dX12_readExpression_15 (by decide) ?_
    refine lv_istore_n (lv' := [(2, .int 0), (0, .ref b_o), (1, .int p_1)]) hx hb dX12_readExpression_19 rfl hl (by decide) rfl (fun ls hl => ?_)
    refine g5_loop (α := (Int32) × (Int32) × (Int32) × (Int32) × (Int64) × (Int32) × (Int32) × (Int32) × (Int32) × (Int32) × (Int32) × (Nat → Int32) × (Nat → Int32) × (Nat → Int32) × (Nat → Int32)) (fun (q : (Int32) × (Int32) × (Int32) × (Int32) × (Int64) × (Int32) × (Int32) × (Int32) × (Int32) × (Int32) × (Int32) × (Nat → Int32) × (Nat → Int32) × (Nat → Int32) × (Nat → Int32)) (ls : Array Slot) (H : Heap) (locs : List Loc) => match q with | (k20_2, k20_fr, k20_to, k20_so, k20_wo, k20_fa, k20_bd, k20_co, k20_le, k20_pd, k20_od, k20_op, k20_ar, k20_pi, k20_pa) => lv_has ls 3 [(2, .int k20_2), (0, .ref b_o), (1, .int p_1)] ∧ va_P G.1 vwCl [(b_o, (oc12 u_th u_sa b_rf b_ro b_im b_ke u_fd b_tp u_td k20_fr k20_to k20_so k20_wo k20_fa k20_bd u_nc b_nl k20_co b_op b_ar k20_le b_pi b_pa k20_pd k20_od b_ws b_hw u_la b_se b_re u_bk u_va u_su u_ce u_ho u_wy u_bt u_ps b_pt u_tg u_sn b_ip u_ic b_ah b_be b_me u_wd b_tr b_ld u_st b_wn u_id)), (b_tp, (arI G 400 v_tp)), (b_op, (arI G 400 k20_op)), (b_ar, (arI G 400 k20_ar)), (b_pi, (arI G 400 k20_pi)), (b_pa, (arI G 400 k20_pa)), (b_ws, (arJ G 8 v_ws))] H ∧ va_D A [(b_o, (oc12 u_th u_sa b_rf b_ro b_im b_ke u_fd b_tp u_td k20_fr k20_to k20_so k20_wo k20_fa k20_bd u_nc b_nl k20_co b_op b_ar k20_le b_pi b_pa k20_pd k20_od b_ws b_hw u_la b_se b_re u_bk u_va u_su u_ce u_ho u_wy u_bt u_ps b_pt u_tg u_sn b_ip u_ic b_ah b_be b_me u_wd b_tr b_ld u_st b_wn u_id)), (b_tp, (arI G 400 v_tp)), (b_op, (arI G 400 k20_op)), (b_ar, (arI G 400 k20_ar)), (b_pi, (arI G 400 k20_pi)), (b_pa, (arI G 400 k20_pa)), (b_ws, (arJ G 8 v_ws))] ∧ va_S A s.heap H locs ∧ (0 ≤ k20_2.toInt ∧ k20_2.toInt ≤ 4) ∧ (0 ≤ k20_fr.toInt ∧ k20_fr.toInt ≤ 400) ∧ (0 ≤ k20_to.toInt ∧ k20_to.toInt ≤ 400) ∧ (0 ≤ k20_bd.toInt ∧ k20_bd.toInt ≤ 1) ∧ (0 ≤ k20_co.toInt ∧ k20_co.toInt ≤ 400) ∧ (0 ≤ k20_pd.toInt ∧ k20_pd.toInt ≤ 400) ∧ (XJ v_op v_ar k20_op k20_ar k20_pi k20_pa u_co.toInt k20_co.toInt k20_pd.toInt k20_fr.toInt) ∧ (k20_bd.toInt = 0 → TJ k20_op k20_ar k20_pi k20_pa u_co.toInt k20_co.toInt k20_pd.toInt k20_2.toInt) ∧ (k20_fr.toInt ≤ k20_to.toInt ∧ k20_to.toInt ≤ u_td.toInt) ∧ (TKs k20_so.toInt k20_fr.toInt k20_to.toInt) ∧ (u_fr.toInt ≤ k20_fr.toInt)) (fun (q : (Int32) × (Int32) × (Int32) × (Int32) × (Int64) × (Int32) × (Int32) × (Int32) × (Int32) × (Int32) × (Int32) × (Nat → Int32) × (Nat → Int32) × (Nat → Int32) × (Nat → Int32)) => match q with | (k20_2, k20_fr, k20_to, k20_so, k20_wo, k20_fa, k20_bd, k20_co, k20_le, k20_pd, k20_od, k20_op, k20_ar, k20_pi, k20_pa) => Int.toNat (3 * (400 - k20_fr.toInt) + 3 * (1 - k20_bd.toInt) + twt k20_2.toInt)) (0, u_fr, u_to, u_so, u_wo, u_fa, u_bd, u_co, u_le, 0, 0, v_op, v_ar, v_pi, v_pa) ⟨lv_sub hl [0, 1, 2] rfl, hP, hD, hS, ⟨by decide, by decide⟩, h_u_fr, h_u_to, ⟨by omega, by omega⟩, h_u_co, ⟨by decide, by decide⟩, xj_0 (by decide) (by omega) (by omega), fun _ => tj_0 (hj_0 (by decide)) (by decide) (no31_0 (by decide)), by omega, e_s, Int.le_refl _⟩ ?_
    rintro ⟨k20_2, k20_fr, k20_to, k20_so, k20_wo, k20_fa, k20_bd, k20_co, k20_le, k20_pd, k20_od, k20_op, k20_ar, k20_pi, k20_pa⟩ ls H locs ⟨hl, hP, hD, hS, i_151, i_152, i_153, i_154, i_155, i_156, i_157, i_158, i_159, i_160, i_161⟩ ih_20_162
    have hl : lv_has ls 3 [(2, .int k20_2), (0, .ref b_o), (1, .int p_1)] := hl
    have i_151 : 0 ≤ k20_2.toInt ∧ k20_2.toInt ≤ 4 := i_151
    have i_152 : 0 ≤ k20_fr.toInt ∧ k20_fr.toInt ≤ 400 := i_152
    have i_153 : 0 ≤ k20_to.toInt ∧ k20_to.toInt ≤ 400 := i_153
    have i_154 : 0 ≤ k20_bd.toInt ∧ k20_bd.toInt ≤ 1 := i_154
    have i_155 : 0 ≤ k20_co.toInt ∧ k20_co.toInt ≤ 400 := i_155
    have i_156 : 0 ≤ k20_pd.toInt ∧ k20_pd.toInt ≤ 400 := i_156
    have i_157 : XJ v_op v_ar k20_op k20_ar k20_pi k20_pa u_co.toInt k20_co.toInt k20_pd.toInt k20_fr.toInt := i_157
    have i_158 : k20_bd.toInt = 0 → TJ k20_op k20_ar k20_pi k20_pa u_co.toInt k20_co.toInt k20_pd.toInt k20_2.toInt := i_158
    have i_159 : k20_fr.toInt ≤ k20_to.toInt ∧ k20_to.toInt ≤ u_td.toInt := i_159
    have i_160 : TKs k20_so.toInt k20_fr.toInt k20_to.toInt := i_160
    have i_161 : u_fr.toInt ≤ k20_fr.toInt := i_161
    refine g5_rs [(b_o, (oc12 u_th u_sa b_rf b_ro b_im b_ke u_fd b_tp u_td k20_fr k20_to k20_so k20_wo k20_fa k20_bd u_nc b_nl k20_co b_op b_ar k20_le b_pi b_pa k20_pd k20_od b_ws b_hw u_la b_se b_re u_bk u_va u_su u_ce u_ho u_wy u_bt u_ps b_pt u_tg u_sn b_ip u_ic b_ah b_be b_me u_wd b_tr b_ld u_st b_wn u_id)), (b_tp, (arI G 400 v_tp)), (b_op, (arI G 400 k20_op)), (b_ar, (arI G 400 k20_ar)), (b_pi, (arI G 400 k20_pi)), (b_pa, (arI G 400 k20_pa)), (b_ws, (arJ G 8 v_ws))] hP hD (fun hP hD => ?_)
    have w0 := twt_rg k20_2.toInt
    refine lv_aload_n hx hb dX12_readExpression_20 rfl (lv_at hl 1 rfl) ?_
    refine va_get (D := G.1) (ci := 12) (v := .int k20_bd) (C := RX12) (T := TX12) (N := 52) hx hb hts inG_X12 hown hK hP 0 rfl rfl 14 (by decide) (hts _ fl_X12_205) (fun _ h9 => h9) rfl dX12_readExpression_21 ?_
    refine lv_if_ne (tgt := 76) hx hb dX12_readExpression_24 (by decide) (fun c_163 => ?_) (fun c_163 => ?_)
    ·
      have n_163 : gNe (k20_bd.toInt) (0) := by have z := g5_ne (a := k20_bd.toInt) (b := 0) (by rfl) (by decide) c_163; unfold gNe; omega
      have i_163 : k20_bd.toInt ≥ 1 := by have z := g5_ne (a := k20_bd.toInt) (b := 0) (by rfl) (by decide) c_163; omega
      refine lv_aload_n hx hb dX12_readExpression_76 rfl (lv_at hl 1 rfl) ?_
      refine lv_iconst (v := 1) hx hb dX12_readExpression_77 (by decide) ?_
      obtain ⟨hPc, hDc, hFc⟩ := g5_sub3 (wc := [(b_o, (oc12 u_th u_sa b_rf b_ro b_im b_ke u_fd b_tp u_td k20_fr k20_to k20_so k20_wo k20_fa k20_bd u_nc b_nl k20_co b_op b_ar k20_le b_pi b_pa k20_pd k20_od b_ws b_hw u_la b_se b_re u_bk u_va u_su u_ce u_ho u_wy u_bt u_ps b_pt u_tg u_sn b_ip u_ic b_ah b_be b_me u_wd b_tr b_ld u_st b_wn u_id)), (b_op, (arI G 400 k20_op)), (b_ar, (arI G 400 k20_ar)), (b_pi, (arI G 400 k20_pi)), (b_pa, (arI G 400 k20_pa))]) hP hD hS hA [0, 2, 3, 4, 5] (by decide) rfl
      refine va_callv (va_runV (As := [.int 1]) (rest := []) ⟨hx, hb, hml, hown, hts⟩ (n_settleB l G b_o b_op b_ar b_pi b_pa b_rf b_ro b_im b_ke b_tp b_nl b_ws b_hw b_se b_re b_pt b_ip b_ah b_be b_me b_tr b_ld b_wn H.size u_th u_sa u_fd u_td k20_fr k20_to k20_so k20_fa k20_bd u_nc k20_co k20_le k20_pd k20_od u_la u_bk u_ce u_ho u_wy u_bt u_ps u_tg u_sn u_ic u_wd u_id 1 u_co k20_fr k20_wo u_va u_su u_st k20_op k20_ar k20_pi k20_pa v_op v_ar h_u_td i_152 i_153 i_154 h_u_nc i_155 i_156 h_u_la h_u_bk h_u_ce h_u_ho h_u_wy h_u_bt h_u_ps h_u_ic h_u_id ⟨by decide, by decide⟩ (by omega) (i_157)) (cwV 1 hts gV_X12_288 rfl rfl rfl hv_X12_settle ⟨Nat.le_of_ble_eq_true rfl, Nat.le_of_ble_eq_true rfl⟩) (g5_preV hPc hK hDc hN hT hS hFc (ci := 12) (q0 := 0) rfl rfl) rfl rfl hl.1 rfl (lv_room (Nat.le_of_ble_eq_true rfl)) dX12_readExpression_78 ⟨Nat.le_of_ble_eq_true rfl, Nat.le_of_ble_eq_true rfl⟩) hS (fun q _ h => hFc q h) hFc (fun u t H1 locs ht hvm hw hB hz1 hk1 hS => ?_)
      obtain ⟨hP1, hD1⟩ := hB
      rw [ht] at hP1
      obtain ⟨z170, z171, z172, z173, i_164, i_165, i_166, i_167, i_168, i_169, rfl⟩ := hw
      have i_164 : 0 ≤ z170.toInt ∧ z170.toInt ≤ 400 := i_164
      have i_165 : 0 ≤ z171.toInt ∧ z171.toInt ≤ 400 := i_165
      have i_166 : XJ v_op v_ar z172 z173 k20_pi k20_pa u_co.toInt z170.toInt z171.toInt k20_fr.toInt := i_166
      have i_167 : S1 k20_pi k20_pd.toInt z171.toInt := i_167
      have i_168 : S2 k20_pi z171.toInt (1 : Int32).toInt := i_168
      have i_169 : z171.toInt ≤ k20_pd.toInt := i_169
      obtain ⟨hP, hD⟩ := va_join (wr := [(b_tp, (arI G 400 v_tp)), (b_ws, (arJ G 8 v_ws))]) hP hD [0, 2, 3, 4, 5] [1, 6] rfl rfl (by decide) (by decide) hk1 hFc hP1 hD1
      generalize H1 = H at hP hS ⊢
      refine g5_rs [(b_tp, (arI G 400 v_tp)), (b_ws, (arJ G 8 v_ws)), (b_o, (oc12 u_th u_sa b_rf b_ro b_im b_ke u_fd b_tp u_td k20_fr k20_to k20_so k20_wo k20_fa k20_bd u_nc b_nl z170 b_op b_ar k20_le b_pi b_pa z171 k20_od b_ws b_hw u_la b_se b_re u_bk u_va u_su u_ce u_ho u_wy u_bt u_ps b_pt u_tg u_sn b_ip u_ic b_ah b_be b_me u_wd b_tr b_ld u_st b_wn u_id)), (b_op, (arI G 400 z172)), (b_ar, (arI G 400 z173)), (b_pi, (arI G 400 k20_pi)), (b_pa, (arI G 400 k20_pa))] hP hD (fun hP hD => ?_)
      have hmf7 := xj_mf i_166
      exact W.vret hx hb hr (fun t ht hW => ⟨⟨[(b_o, (oc12 u_th u_sa b_rf b_ro b_im b_ke u_fd b_tp u_td k20_fr k20_to k20_so k20_wo k20_fa k20_bd u_nc b_nl z170 b_op b_ar k20_le b_pi b_pa z171 k20_od b_ws b_hw u_la b_se b_re u_bk u_va u_su u_ce u_ho u_wy u_bt u_ps b_pt u_tg u_sn b_ip u_ic b_ah b_be b_me u_wd b_tr b_ld u_st b_wn u_id)), (b_tp, (arI G 400 v_tp)), (b_op, (arI G 400 z172)), (b_ar, (arI G 400 z173)), (b_pi, (arI G 400 k20_pi)), (b_pa, (arI G 400 k20_pa)), (b_ws, (arJ G 8 v_ws))], rfl, ⟨k20_fr, k20_to, k20_so, k20_wo, k20_fa, k20_bd, z170, k20_le, z171, k20_od, z172, z173, k20_pi, k20_pa, i_152, i_153, i_154, i_164, i_165, by omega, i_160, xj_kp i_166, by omega, fun q9 => absurd q9 (by omega), rfl⟩, by rw [ht]; exact hP.sub [2, 0, 3, 4, 5, 6, 1] rfl, hD.sub [2, 0, 3, 4, 5, 6, 1] (by decide) rfl⟩, hS.F ht⟩) hS.2.2 dX12_readExpression_81
    ·
      have i_163 : k20_bd.toInt = 0 := by have z := g5_neN (a := k20_bd.toInt) (b := 0) (by rfl) (by decide) c_163; omega
      refine lv_iload_n hx hb dX12_readExpression_27 rfl (lv_at hl 0 rfl) ?_
      refine lv_iconst (v := 4) hx hb dX12_readExpression_28 (by decide) ?_
      refine lv_icmp_eq (tgt := 76) hx hb dX12_readExpression_29 (by decide) (fun c_174 => ?_) (fun c_174 => ?_)
      ·
        have i_174 : k20_2.toInt = 4 := by have z := g5_eq (a := k20_2.toInt) (b := 4) (by rfl) (by decide) c_174; omega
        have hE_175 : HJ k20_op k20_ar k20_pi k20_pa u_co.toInt k20_co.toInt k20_pd.toInt 1 := tj_d1 (i_158 (by omega)) (by omega)
        refine lv_aload_n hx hb dX12_readExpression_76 rfl (lv_at hl 1 rfl) ?_
        refine lv_iconst (v := 1) hx hb dX12_readExpression_77 (by decide) ?_
        obtain ⟨hPc, hDc, hFc⟩ := g5_sub3 (wc := [(b_o, (oc12 u_th u_sa b_rf b_ro b_im b_ke u_fd b_tp u_td k20_fr k20_to k20_so k20_wo k20_fa k20_bd u_nc b_nl k20_co b_op b_ar k20_le b_pi b_pa k20_pd k20_od b_ws b_hw u_la b_se b_re u_bk u_va u_su u_ce u_ho u_wy u_bt u_ps b_pt u_tg u_sn b_ip u_ic b_ah b_be b_me u_wd b_tr b_ld u_st b_wn u_id)), (b_op, (arI G 400 k20_op)), (b_ar, (arI G 400 k20_ar)), (b_pi, (arI G 400 k20_pi)), (b_pa, (arI G 400 k20_pa))]) hP hD hS hA [0, 2, 3, 4, 5] (by decide) rfl
        refine va_callv (va_runV (As := [.int 1]) (rest := []) ⟨hx, hb, hml, hown, hts⟩ (n_settleH l G b_o b_op b_ar b_pi b_pa b_rf b_ro b_im b_ke b_tp b_nl b_ws b_hw b_se b_re b_pt b_ip b_ah b_be b_me b_tr b_ld b_wn H.size u_th u_sa u_fd u_td k20_fr k20_to k20_so k20_fa k20_bd u_nc k20_co k20_le k20_pd k20_od u_la u_bk u_ce u_ho u_wy u_bt u_ps u_tg u_sn u_ic u_wd u_id 1 u_co k20_fr k20_wo u_va u_su u_st k20_op k20_ar k20_pi k20_pa v_op v_ar h_u_td i_152 i_153 i_154 h_u_nc i_155 i_156 h_u_la h_u_bk h_u_ce h_u_ho h_u_wy h_u_bt h_u_ps h_u_ic h_u_id ⟨by decide, by decide⟩ (by omega) (i_157) (hE_175)) (cwV 1 hts gV_X12_288 rfl rfl rfl hv_X12_settle ⟨Nat.le_of_ble_eq_true rfl, Nat.le_of_ble_eq_true rfl⟩) (g5_preV hPc hK hDc hN hT hS hFc (ci := 12) (q0 := 0) rfl rfl) rfl rfl hl.1 rfl (lv_room (Nat.le_of_ble_eq_true rfl)) dX12_readExpression_78 ⟨Nat.le_of_ble_eq_true rfl, Nat.le_of_ble_eq_true rfl⟩) hS (fun q _ h => hFc q h) hFc (fun u t H1 locs ht hvm hw hB hz1 hk1 hS => ?_)
        obtain ⟨hP1, hD1⟩ := hB
        rw [ht] at hP1
        obtain ⟨z183, z184, z185, z186, i_176, i_177, i_178, i_179, i_180, i_181, i_182, rfl⟩ := hw
        have i_176 : 0 ≤ z183.toInt ∧ z183.toInt ≤ 400 := i_176
        have i_177 : 0 ≤ z184.toInt ∧ z184.toInt ≤ 400 := i_177
        have i_178 : XJ v_op v_ar z185 z186 k20_pi k20_pa u_co.toInt z183.toInt z184.toInt k20_fr.toInt := i_178
        have i_179 : HJ z185 z186 k20_pi k20_pa u_co.toInt z183.toInt z184.toInt 1 := i_179
        have i_180 : S1 k20_pi k20_pd.toInt z184.toInt := i_180
        have i_181 : S2 k20_pi z184.toInt (1 : Int32).toInt := i_181
        have i_182 : z184.toInt ≤ k20_pd.toInt := i_182
        obtain ⟨hP, hD⟩ := va_join (wr := [(b_tp, (arI G 400 v_tp)), (b_ws, (arJ G 8 v_ws))]) hP hD [0, 2, 3, 4, 5] [1, 6] rfl rfl (by decide) (by decide) hk1 hFc hP1 hD1
        generalize H1 = H at hP hS ⊢
        refine g5_rs [(b_tp, (arI G 400 v_tp)), (b_ws, (arJ G 8 v_ws)), (b_o, (oc12 u_th u_sa b_rf b_ro b_im b_ke u_fd b_tp u_td k20_fr k20_to k20_so k20_wo k20_fa k20_bd u_nc b_nl z183 b_op b_ar k20_le b_pi b_pa z184 k20_od b_ws b_hw u_la b_se b_re u_bk u_va u_su u_ce u_ho u_wy u_bt u_ps b_pt u_tg u_sn b_ip u_ic b_ah b_be b_me u_wd b_tr b_ld u_st b_wn u_id)), (b_op, (arI G 400 z185)), (b_ar, (arI G 400 z186)), (b_pi, (arI G 400 k20_pi)), (b_pa, (arI G 400 k20_pa))] hP hD (fun hP hD => ?_)
        have hmf7 := xj_mf i_178
        exact W.vret hx hb hr (fun t ht hW => ⟨⟨[(b_o, (oc12 u_th u_sa b_rf b_ro b_im b_ke u_fd b_tp u_td k20_fr k20_to k20_so k20_wo k20_fa k20_bd u_nc b_nl z183 b_op b_ar k20_le b_pi b_pa z184 k20_od b_ws b_hw u_la b_se b_re u_bk u_va u_su u_ce u_ho u_wy u_bt u_ps b_pt u_tg u_sn b_ip u_ic b_ah b_be b_me u_wd b_tr b_ld u_st b_wn u_id)), (b_tp, (arI G 400 v_tp)), (b_op, (arI G 400 z185)), (b_ar, (arI G 400 z186)), (b_pi, (arI G 400 k20_pi)), (b_pa, (arI G 400 k20_pa)), (b_ws, (arJ G 8 v_ws))], rfl, ⟨k20_fr, k20_to, k20_so, k20_wo, k20_fa, k20_bd, z183, k20_le, z184, k20_od, z185, z186, k20_pi, k20_pa, i_152, i_153, i_154, i_176, i_177, by omega, i_160, xj_kp i_178, by omega, fun _ => cdN_of i_179 (end_0 ((i_158 (by omega)).2.2 (by omega)) (by omega) (by omega) (by decide) i_181) (by omega), rfl⟩, by rw [ht]; exact hP.sub [2, 0, 3, 4, 5, 6, 1] rfl, hD.sub [2, 0, 3, 4, 5, 6, 1] (by decide) rfl⟩, hS.F ht⟩) hS.2.2 dX12_readExpression_81
      ·
        have n_174 : gNe (k20_2.toInt) (4) := by have z := g5_eqN (a := k20_2.toInt) (b := 4) (by rfl) (by decide) c_174; unfold gNe; omega
        have i_174 : k20_2.toInt ≤ 3 := by have z := g5_eqN (a := k20_2.toInt) (b := 4) (by rfl) (by decide) c_174; omega
        refine lv_iload_n hx hb dX12_readExpression_32 rfl (lv_at hl 0 rfl) ?_
        refine lv_if_ne (tgt := 43) hx hb dX12_readExpression_33 (by decide) (fun c_187 => ?_) (fun c_187 => ?_)
        ·
          have n_187 : gNe (k20_2.toInt) (0) := by have z := g5_ne (a := k20_2.toInt) (b := 0) (by rfl) (by decide) c_187; unfold gNe; omega
          have i_187 : k20_2.toInt ≥ 1 := by have z := g5_ne (a := k20_2.toInt) (b := 0) (by rfl) (by decide) c_187; omega
          refine lv_iload_n hx hb dX12_readExpression_43 rfl (lv_at hl 0 rfl) ?_
          refine lv_iconst (v := 1) hx hb dX12_readExpression_44 (by decide) ?_
          refine lv_icmp_ne (tgt := 55) hx hb dX12_readExpression_45 (by decide) (fun c_188 => ?_) (fun c_188 => ?_)
          ·
            have n_188 : gNe (k20_2.toInt) (1) := by have z := g5_ne (a := k20_2.toInt) (b := 1) (by rfl) (by decide) c_188; unfold gNe; omega
            have i_188 : k20_2.toInt ≥ 2 := by have z := g5_ne (a := k20_2.toInt) (b := 1) (by rfl) (by decide) c_188; omega
            refine lv_iload_n hx hb dX12_readExpression_55 rfl (lv_at hl 0 rfl) ?_
            refine lv_iconst (v := 3) hx hb dX12_readExpression_56 (by decide) ?_
            refine lv_icmp_ne (tgt := 68) hx hb dX12_readExpression_57 (by decide) (fun c_189 => ?_) (fun c_189 => ?_)
            ·
              have n_189 : gNe (k20_2.toInt) (3) := by have z := g5_ne (a := k20_2.toInt) (b := 3) (by rfl) (by decide) c_189; unfold gNe; omega
              have i_189 : k20_2.toInt ≤ 2 := by have z := g5_ne (a := k20_2.toInt) (b := 3) (by rfl) (by decide) c_189; omega
              have w2 : twt k20_2.toInt = 1 := twt_2 (by omega)
              have hE_190 : TJ k20_op k20_ar k20_pi k20_pa u_co.toInt k20_co.toInt k20_pd.toInt 2 := by have q9 := i_158 (by omega); rw [show k20_2.toInt = 2 by omega] at q9; exact q9
              refine lv_aload_n hx hb dX12_readExpression_68 rfl (lv_at hl 1 rfl) ?_
              obtain ⟨hPc, hDc, hFc⟩ := g5_sub3 (wc := [(b_o, (oc12 u_th u_sa b_rf b_ro b_im b_ke u_fd b_tp u_td k20_fr k20_to k20_so k20_wo k20_fa k20_bd u_nc b_nl k20_co b_op b_ar k20_le b_pi b_pa k20_pd k20_od b_ws b_hw u_la b_se b_re u_bk u_va u_su u_ce u_ho u_wy u_bt u_ps b_pt u_tg u_sn b_ip u_ic b_ah b_be b_me u_wd b_tr b_ld u_st b_wn u_id)), (b_tp, (arI G 400 v_tp)), (b_op, (arI G 400 k20_op)), (b_ar, (arI G 400 k20_ar)), (b_pi, (arI G 400 k20_pi)), (b_pa, (arI G 400 k20_pa))]) hP hD hS hA [0, 1, 2, 3, 4, 5] (by decide) rfl
              refine va_calli (va_runV (As := []) (rest := []) ⟨hx, hb, hml, hown, hts⟩ (n_behindTest l G b_o b_tp b_op b_ar b_pi b_pa b_rf b_ro b_im b_ke b_nl b_ws b_hw b_se b_re b_pt b_ip b_ah b_be b_me b_tr b_ld b_wn H.size u_th u_sa u_fd u_td k20_fr k20_to k20_so k20_fa k20_bd u_nc k20_co k20_le k20_pd k20_od u_la u_bk u_ce u_ho u_wy u_bt u_ps u_tg u_sn u_ic u_wd u_id u_co k20_wo u_va u_su u_st v_tp k20_op k20_ar k20_pi k20_pa v_op v_ar h_u_td i_152 i_153 ⟨by omega, by omega⟩ h_u_nc i_155 i_156 h_u_la h_u_bk h_u_ce h_u_ho h_u_wy h_u_bt h_u_ps h_u_ic h_u_id (i_159) (i_160) (i_157) (hE_190)) (cwV 0 hts gV_X12_309 rfl rfl rfl hv_X12_behindTest ⟨Nat.le_of_ble_eq_true rfl, Nat.le_of_ble_eq_true rfl⟩) (g5_preV hPc hK hDc hN hT hS hFc (ci := 12) (q0 := 0) rfl rfl) rfl rfl hl.1 rfl (lv_room (Nat.le_of_ble_eq_true rfl)) dX12_readExpression_69 ⟨Nat.le_of_ble_eq_true rfl, Nat.le_of_ble_eq_true rfl⟩) hS (fun q _ h => hFc q h) hFc (fun r u t H1 locs ht hvm hw hB hz1 hk1 hS => ?_)
              obtain ⟨hP1, hD1⟩ := hB
              rw [ht] at hP1
              rcases hw with ⟨z192, i_191, y193, rfl⟩ | ⟨z204, z205, z206, z207, z208, z209, z210, z211, z212, z213, z214, z215, i_194, i_195, i_196, i_197, i_198, i_199, i_200, i_201, i_202, i_203, y216, rfl⟩
              ·
                have i_191 : 0 ≤ z192.toInt ∧ z192.toInt ≤ 4 := i_191
                obtain ⟨hP, hD⟩ := va_join (wr := [(b_ws, (arJ G 8 v_ws))]) hP hD [0, 1, 2, 3, 4, 5] [6] rfl rfl (by decide) (by decide) hk1 hFc hP1 hD1
                generalize H1 = H at hP hS ⊢
                refine g5_rs [(b_ws, (arJ G 8 v_ws)), (b_o, (oc12 u_th u_sa b_rf b_ro b_im b_ke u_fd b_tp u_td k20_fr k20_to k20_so k20_wo k20_fr 1 u_nc b_nl k20_co b_op b_ar k20_le b_pi b_pa k20_pd k20_od b_ws b_hw u_la b_se b_re u_bk u_va u_su u_ce u_ho u_wy u_bt u_ps b_pt u_tg u_sn b_ip u_ic b_ah b_be b_me u_wd b_tr b_ld u_st b_wn u_id)), (b_tp, (arI G 400 v_tp)), (b_op, (arI G 400 k20_op)), (b_ar, (arI G 400 k20_ar)), (b_pi, (arI G 400 k20_pi)), (b_pa, (arI G 400 k20_pa))] hP hD (fun hP hD => ?_)
                refine g5_ti (v := z192) y193 ?_
                have w1 := twt_rg z192.toInt
                refine lv_istore_n (lv' := [(2, .int z192), (0, .ref b_o), (1, .int p_1)]) hx hb dX12_readExpression_72 rfl hl (by decide) rfl (fun ls hl => ?_)
                refine lv_goto (tgt := 20) hx hb dX12_readExpression_73 (by decide) ?_
                exact ih_20_162 (z192, k20_fr, k20_to, k20_so, k20_wo, k20_fr, 1, k20_co, k20_le, k20_pd, k20_od, k20_op, k20_ar, k20_pi, k20_pa) ls H locs (show Int.toNat (3 * (400 - k20_fr.toInt) + 3 * (1 - (1 : Int32).toInt) + twt z192.toInt) < Int.toNat (3 * (400 - k20_fr.toInt) + 3 * (1 - k20_bd.toInt) + twt k20_2.toInt) by have zc_k20_bd : (1 : Int32).toInt = 1 := (by decide); omega) ⟨lv_sub hl [0, 1, 2] rfl, hP.sub [1, 2, 3, 4, 5, 6, 0] rfl, hD.sub [1, 2, 3, 4, 5, 6, 0] (by decide) rfl, hS, i_191, i_152, i_153, ⟨by decide, by decide⟩, i_155, i_156, i_157, fun q9 => absurd q9 (by decide), by omega, i_160, by omega⟩
              ·
                have i_194 : 0 ≤ z205.toInt ∧ z205.toInt ≤ 400 := i_194
                have i_195 : 0 ≤ z206.toInt ∧ z206.toInt ≤ 400 := i_195
                have i_196 : 0 ≤ z209.toInt ∧ z209.toInt ≤ 400 := i_196
                have i_197 : 0 ≤ z210.toInt ∧ z210.toInt ≤ 400 := i_197
                have i_198 : 0 ≤ z204.toInt ∧ z204.toInt ≤ 4 := i_198
                have i_199 : k20_fr.toInt ≤ z205.toInt ∧ z205.toInt ≤ z206.toInt ∧ z206.toInt ≤ u_td.toInt := i_199
                have i_200 : TKs z207.toInt z205.toInt z206.toInt := i_200
                have i_201 : XJ v_op v_ar z212 z213 z214 z215 u_co.toInt z209.toInt z210.toInt z205.toInt := i_201
                have i_202 : TJ z212 z213 z214 z215 u_co.toInt z209.toInt z210.toInt z204.toInt := i_202
                have i_203 : twt z204.toInt + 1 ≤ 1 + 3 * (z205.toInt - k20_fr.toInt) := i_203
                obtain ⟨hP, hD⟩ := va_join (wr := [(b_ws, (arJ G 8 v_ws))]) hP hD [0, 1, 2, 3, 4, 5] [6] rfl rfl (by decide) (by decide) hk1 hFc hP1 hD1
                generalize H1 = H at hP hS ⊢
                refine g5_rs [(b_ws, (arJ G 8 v_ws)), (b_o, (oc12 u_th u_sa b_rf b_ro b_im b_ke u_fd b_tp u_td z205 z206 z207 z208 k20_fa k20_bd u_nc b_nl z209 b_op b_ar k20_le b_pi b_pa z210 z211 b_ws b_hw u_la b_se b_re u_bk u_va u_su u_ce u_ho u_wy u_bt u_ps b_pt u_tg u_sn b_ip u_ic b_ah b_be b_me u_wd b_tr b_ld u_st b_wn u_id)), (b_tp, (arI G 400 v_tp)), (b_op, (arI G 400 z212)), (b_ar, (arI G 400 z213)), (b_pi, (arI G 400 z214)), (b_pa, (arI G 400 z215))] hP hD (fun hP hD => ?_)
                refine g5_ti (v := z204) y216 ?_
                have w1 := twt_rg z204.toInt
                refine lv_istore_n (lv' := [(2, .int z204), (0, .ref b_o), (1, .int p_1)]) hx hb dX12_readExpression_72 rfl hl (by decide) rfl (fun ls hl => ?_)
                refine lv_goto (tgt := 20) hx hb dX12_readExpression_73 (by decide) ?_
                exact ih_20_162 (z204, z205, z206, z207, z208, k20_fa, k20_bd, z209, k20_le, z210, z211, z212, z213, z214, z215) ls H locs (show Int.toNat (3 * (400 - z205.toInt) + 3 * (1 - k20_bd.toInt) + twt z204.toInt) < Int.toNat (3 * (400 - k20_fr.toInt) + 3 * (1 - k20_bd.toInt) + twt k20_2.toInt) by omega) ⟨lv_sub hl [0, 1, 2] rfl, hP.sub [1, 2, 3, 4, 5, 6, 0] rfl, hD.sub [1, 2, 3, 4, 5, 6, 0] (by decide) rfl, hS, i_198, i_194, i_195, i_154, i_196, i_197, i_201, fun _ => i_202, by omega, i_200, by omega⟩
            ·
              have i_189 : k20_2.toInt = 3 := by have z := g5_neN (a := k20_2.toInt) (b := 3) (by rfl) (by decide) c_189; omega
              have w2 : twt k20_2.toInt = 2 := twt_3 (by omega)
              have hE_217 : TJ k20_op k20_ar k20_pi k20_pa u_co.toInt k20_co.toInt k20_pd.toInt 3 := by have q9 := i_158 (by omega); rw [show k20_2.toInt = 3 by omega] at q9; exact q9
              refine lv_aload_n hx hb dX12_readExpression_60 rfl (lv_at hl 1 rfl) ?_
              refine lv_iload_n hx hb dX12_readExpression_61 rfl (lv_at hl 2 rfl) ?_
              obtain ⟨hPc, hDc, hFc⟩ := g5_sub3 (wc := [(b_o, (oc12 u_th u_sa b_rf b_ro b_im b_ke u_fd b_tp u_td k20_fr k20_to k20_so k20_wo k20_fa k20_bd u_nc b_nl k20_co b_op b_ar k20_le b_pi b_pa k20_pd k20_od b_ws b_hw u_la b_se b_re u_bk u_va u_su u_ce u_ho u_wy u_bt u_ps b_pt u_tg u_sn b_ip u_ic b_ah b_be b_me u_wd b_tr b_ld u_st b_wn u_id)), (b_tp, (arI G 400 v_tp)), (b_op, (arI G 400 k20_op)), (b_ar, (arI G 400 k20_ar)), (b_pi, (arI G 400 k20_pi)), (b_pa, (arI G 400 k20_pa))]) hP hD hS hA [0, 1, 2, 3, 4, 5] (by decide) rfl
              refine va_calli (va_runV (As := [.int p_1]) (rest := []) ⟨hx, hb, hml, hown, hts⟩ (n_behindSum l G b_o b_tp b_op b_ar b_pi b_pa b_rf b_ro b_im b_ke b_nl b_ws b_hw b_se b_re b_pt b_ip b_ah b_be b_me b_tr b_ld b_wn H.size u_th u_sa u_fd u_td k20_fr k20_to k20_so k20_fa k20_bd u_nc k20_co k20_le k20_pd k20_od u_la u_bk u_ce u_ho u_wy u_bt u_ps u_tg u_sn u_ic u_wd u_id p_1 u_co k20_wo u_va u_su u_st v_tp k20_op k20_ar k20_pi k20_pa v_op v_ar h_u_td i_152 i_153 ⟨by omega, by omega⟩ h_u_nc i_155 i_156 h_u_la h_u_bk h_u_ce h_u_ho h_u_wy h_u_bt h_u_ps h_u_ic h_u_id h_p_1 (i_159) (i_160) (i_157) (hE_217)) (cwV 1 hts gV_X12_305 rfl rfl rfl hv_X12_behindSum ⟨Nat.le_of_ble_eq_true rfl, Nat.le_of_ble_eq_true rfl⟩) (g5_preV hPc hK hDc hN hT hS hFc (ci := 12) (q0 := 0) rfl rfl) rfl rfl hl.1 rfl (lv_room (Nat.le_of_ble_eq_true rfl)) dX12_readExpression_62 ⟨Nat.le_of_ble_eq_true rfl, Nat.le_of_ble_eq_true rfl⟩) hS (fun q _ h => hFc q h) hFc (fun r u t H1 locs ht hvm hw hB hz1 hk1 hS => ?_)
              obtain ⟨hP1, hD1⟩ := hB
              rw [ht] at hP1
              rcases hw with ⟨z219, i_218, y220, rfl⟩ | ⟨z231, z232, z233, z234, z235, z236, z237, z238, z239, z240, z241, z242, i_221, i_222, i_223, i_224, i_225, i_226, i_227, i_228, i_229, i_230, y243, rfl⟩
              ·
                have i_218 : 0 ≤ z219.toInt ∧ z219.toInt ≤ 4 := i_218
                obtain ⟨hP, hD⟩ := va_join (wr := [(b_ws, (arJ G 8 v_ws))]) hP hD [0, 1, 2, 3, 4, 5] [6] rfl rfl (by decide) (by decide) hk1 hFc hP1 hD1
                generalize H1 = H at hP hS ⊢
                refine g5_rs [(b_ws, (arJ G 8 v_ws)), (b_o, (oc12 u_th u_sa b_rf b_ro b_im b_ke u_fd b_tp u_td k20_fr k20_to k20_so k20_wo k20_fr 1 u_nc b_nl k20_co b_op b_ar k20_le b_pi b_pa k20_pd k20_od b_ws b_hw u_la b_se b_re u_bk u_va u_su u_ce u_ho u_wy u_bt u_ps b_pt u_tg u_sn b_ip u_ic b_ah b_be b_me u_wd b_tr b_ld u_st b_wn u_id)), (b_tp, (arI G 400 v_tp)), (b_op, (arI G 400 k20_op)), (b_ar, (arI G 400 k20_ar)), (b_pi, (arI G 400 k20_pi)), (b_pa, (arI G 400 k20_pa))] hP hD (fun hP hD => ?_)
                refine g5_ti (v := z219) y220 ?_
                refine lv_goto (tgt := 72) hx hb dX12_readExpression_65 (by decide) ?_
                have w1 := twt_rg z219.toInt
                refine lv_istore_n (lv' := [(2, .int z219), (0, .ref b_o), (1, .int p_1)]) hx hb dX12_readExpression_72 rfl hl (by decide) rfl (fun ls hl => ?_)
                refine lv_goto (tgt := 20) hx hb dX12_readExpression_73 (by decide) ?_
                exact ih_20_162 (z219, k20_fr, k20_to, k20_so, k20_wo, k20_fr, 1, k20_co, k20_le, k20_pd, k20_od, k20_op, k20_ar, k20_pi, k20_pa) ls H locs (show Int.toNat (3 * (400 - k20_fr.toInt) + 3 * (1 - (1 : Int32).toInt) + twt z219.toInt) < Int.toNat (3 * (400 - k20_fr.toInt) + 3 * (1 - k20_bd.toInt) + twt k20_2.toInt) by have zc_k20_bd : (1 : Int32).toInt = 1 := (by decide); omega) ⟨lv_sub hl [0, 1, 2] rfl, hP.sub [1, 2, 3, 4, 5, 6, 0] rfl, hD.sub [1, 2, 3, 4, 5, 6, 0] (by decide) rfl, hS, i_218, i_152, i_153, ⟨by decide, by decide⟩, i_155, i_156, i_157, fun q9 => absurd q9 (by decide), by omega, i_160, by omega⟩
              ·
                have i_221 : 0 ≤ z232.toInt ∧ z232.toInt ≤ 400 := i_221
                have i_222 : 0 ≤ z233.toInt ∧ z233.toInt ≤ 400 := i_222
                have i_223 : 0 ≤ z236.toInt ∧ z236.toInt ≤ 400 := i_223
                have i_224 : 0 ≤ z237.toInt ∧ z237.toInt ≤ 400 := i_224
                have i_225 : 0 ≤ z231.toInt ∧ z231.toInt ≤ 4 := i_225
                have i_226 : k20_fr.toInt ≤ z232.toInt ∧ z232.toInt ≤ z233.toInt ∧ z233.toInt ≤ u_td.toInt := i_226
                have i_227 : TKs z234.toInt z232.toInt z233.toInt := i_227
                have i_228 : XJ v_op v_ar z239 z240 z241 z242 u_co.toInt z236.toInt z237.toInt z232.toInt := i_228
                have i_229 : TJ z239 z240 z241 z242 u_co.toInt z236.toInt z237.toInt z231.toInt := i_229
                have i_230 : twt z231.toInt + 1 ≤ 2 + 3 * (z232.toInt - k20_fr.toInt) := i_230
                obtain ⟨hP, hD⟩ := va_join (wr := [(b_ws, (arJ G 8 v_ws))]) hP hD [0, 1, 2, 3, 4, 5] [6] rfl rfl (by decide) (by decide) hk1 hFc hP1 hD1
                generalize H1 = H at hP hS ⊢
                refine g5_rs [(b_ws, (arJ G 8 v_ws)), (b_o, (oc12 u_th u_sa b_rf b_ro b_im b_ke u_fd b_tp u_td z232 z233 z234 z235 k20_fa k20_bd u_nc b_nl z236 b_op b_ar k20_le b_pi b_pa z237 z238 b_ws b_hw u_la b_se b_re u_bk u_va u_su u_ce u_ho u_wy u_bt u_ps b_pt u_tg u_sn b_ip u_ic b_ah b_be b_me u_wd b_tr b_ld u_st b_wn u_id)), (b_tp, (arI G 400 v_tp)), (b_op, (arI G 400 z239)), (b_ar, (arI G 400 z240)), (b_pi, (arI G 400 z241)), (b_pa, (arI G 400 z242))] hP hD (fun hP hD => ?_)
                refine g5_ti (v := z231) y243 ?_
                refine lv_goto (tgt := 72) hx hb dX12_readExpression_65 (by decide) ?_
                have w1 := twt_rg z231.toInt
                refine lv_istore_n (lv' := [(2, .int z231), (0, .ref b_o), (1, .int p_1)]) hx hb dX12_readExpression_72 rfl hl (by decide) rfl (fun ls hl => ?_)
                refine lv_goto (tgt := 20) hx hb dX12_readExpression_73 (by decide) ?_
                exact ih_20_162 (z231, z232, z233, z234, z235, k20_fa, k20_bd, z236, k20_le, z237, z238, z239, z240, z241, z242) ls H locs (show Int.toNat (3 * (400 - z232.toInt) + 3 * (1 - k20_bd.toInt) + twt z231.toInt) < Int.toNat (3 * (400 - k20_fr.toInt) + 3 * (1 - k20_bd.toInt) + twt k20_2.toInt) by omega) ⟨lv_sub hl [0, 1, 2] rfl, hP.sub [1, 2, 3, 4, 5, 6, 0] rfl, hD.sub [1, 2, 3, 4, 5, 6, 0] (by decide) rfl, hS, i_225, i_221, i_222, i_154, i_223, i_224, i_228, fun _ => i_229, by omega, i_227, by omega⟩
          ·
            have i_188 : k20_2.toInt = 1 := by have z := g5_neN (a := k20_2.toInt) (b := 1) (by rfl) (by decide) c_188; omega
            have w2 : twt k20_2.toInt = 0 := twt_0 (Or.inr (Or.inl (by omega)))
            have hE_244 : TJ k20_op k20_ar k20_pi k20_pa u_co.toInt k20_co.toInt k20_pd.toInt 1 := by have q9 := i_158 (by omega); rw [show k20_2.toInt = 1 by omega] at q9; exact q9
            refine lv_aload_n hx hb dX12_readExpression_48 rfl (lv_at hl 1 rfl) ?_
            obtain ⟨hPc, hDc, hFc⟩ := g5_sub3 (wc := [(b_o, (oc12 u_th u_sa b_rf b_ro b_im b_ke u_fd b_tp u_td k20_fr k20_to k20_so k20_wo k20_fa k20_bd u_nc b_nl k20_co b_op b_ar k20_le b_pi b_pa k20_pd k20_od b_ws b_hw u_la b_se b_re u_bk u_va u_su u_ce u_ho u_wy u_bt u_ps b_pt u_tg u_sn b_ip u_ic b_ah b_be b_me u_wd b_tr b_ld u_st b_wn u_id)), (b_tp, (arI G 400 v_tp)), (b_op, (arI G 400 k20_op)), (b_ar, (arI G 400 k20_ar)), (b_pi, (arI G 400 k20_pi)), (b_pa, (arI G 400 k20_pa)), (b_ws, (arJ G 8 v_ws))]) hP hD hS hA [0, 1, 2, 3, 4, 5, 6] (by decide) rfl
            refine va_calli (va_runV (As := []) (rest := []) ⟨hx, hb, hml, hown, hts⟩ (n_readPart l G b_o b_tp b_op b_ar b_pi b_pa b_ws b_rf b_ro b_im b_ke b_nl b_hw b_se b_re b_pt b_ip b_ah b_be b_me b_tr b_ld b_wn H.size u_th u_sa u_fd u_td k20_fr k20_to k20_so k20_fa k20_bd u_nc k20_co k20_le k20_pd k20_od u_la u_bk u_ce u_ho u_wy u_bt u_ps u_tg u_sn u_ic u_wd u_id u_co k20_wo u_va u_su u_st v_tp k20_op k20_ar k20_pi k20_pa v_ws v_op v_ar h_u_td i_152 i_153 ⟨by omega, by omega⟩ h_u_nc i_155 i_156 h_u_la h_u_bk h_u_ce h_u_ho h_u_wy h_u_bt h_u_ps h_u_ic h_u_id (i_159) (i_160) (i_157) (hE_244)) (cwV 0 hts gV_X12_285 rfl rfl rfl hv_X12_readPart ⟨Nat.le_of_ble_eq_true rfl, Nat.le_of_ble_eq_true rfl⟩) (g5_preV hPc hK hDc hN hT hS hFc (ci := 12) (q0 := 0) rfl rfl) rfl rfl hl.1 rfl (lv_room (Nat.le_of_ble_eq_true rfl)) dX12_readExpression_49 ⟨Nat.le_of_ble_eq_true rfl, Nat.le_of_ble_eq_true rfl⟩) hS (fun q _ h => hFc q h) hFc (fun r u t H1 locs ht hvm hw hB hz1 hk1 hS => ?_)
            obtain ⟨hP1, hD1⟩ := hB
            rw [ht] at hP1
            rcases hw with ⟨z246, i_245, y247, rfl⟩ | ⟨z258, z259, z260, z261, z262, z263, z264, z265, z266, z267, z268, z269, z270, i_248, i_249, i_250, i_251, i_252, i_253, i_254, i_255, i_256, i_257, y271, rfl⟩
            ·
              have i_245 : 0 ≤ z246.toInt ∧ z246.toInt ≤ 4 := i_245
              obtain ⟨hP, hD⟩ := va_join (wr := []) hP hD [0, 1, 2, 3, 4, 5, 6] [] rfl rfl (by decide) (by decide) hk1 hFc hP1 hD1
              generalize H1 = H at hP hS ⊢
              refine g5_rs [(b_o, (oc12 u_th u_sa b_rf b_ro b_im b_ke u_fd b_tp u_td k20_fr k20_to k20_so k20_wo k20_fr 1 u_nc b_nl k20_co b_op b_ar k20_le b_pi b_pa k20_pd k20_od b_ws b_hw u_la b_se b_re u_bk u_va u_su u_ce u_ho u_wy u_bt u_ps b_pt u_tg u_sn b_ip u_ic b_ah b_be b_me u_wd b_tr b_ld u_st b_wn u_id)), (b_tp, (arI G 400 v_tp)), (b_op, (arI G 400 k20_op)), (b_ar, (arI G 400 k20_ar)), (b_pi, (arI G 400 k20_pi)), (b_pa, (arI G 400 k20_pa)), (b_ws, (arJ G 8 v_ws))] hP hD (fun hP hD => ?_)
              refine g5_ti (v := z246) y247 ?_
              refine lv_goto (tgt := 72) hx hb dX12_readExpression_52 (by decide) ?_
              have w1 := twt_rg z246.toInt
              refine lv_istore_n (lv' := [(2, .int z246), (0, .ref b_o), (1, .int p_1)]) hx hb dX12_readExpression_72 rfl hl (by decide) rfl (fun ls hl => ?_)
              refine lv_goto (tgt := 20) hx hb dX12_readExpression_73 (by decide) ?_
              exact ih_20_162 (z246, k20_fr, k20_to, k20_so, k20_wo, k20_fr, 1, k20_co, k20_le, k20_pd, k20_od, k20_op, k20_ar, k20_pi, k20_pa) ls H locs (show Int.toNat (3 * (400 - k20_fr.toInt) + 3 * (1 - (1 : Int32).toInt) + twt z246.toInt) < Int.toNat (3 * (400 - k20_fr.toInt) + 3 * (1 - k20_bd.toInt) + twt k20_2.toInt) by have zc_k20_bd : (1 : Int32).toInt = 1 := (by decide); omega) ⟨lv_sub hl [0, 1, 2] rfl, hP, hD, hS, i_245, i_152, i_153, ⟨by decide, by decide⟩, i_155, i_156, i_157, fun q9 => absurd q9 (by decide), by omega, i_160, by omega⟩
            ·
              have i_248 : 0 ≤ z259.toInt ∧ z259.toInt ≤ 400 := i_248
              have i_249 : 0 ≤ z260.toInt ∧ z260.toInt ≤ 400 := i_249
              have i_250 : 0 ≤ z263.toInt ∧ z263.toInt ≤ 400 := i_250
              have i_251 : 0 ≤ z265.toInt ∧ z265.toInt ≤ 400 := i_251
              have i_252 : 0 ≤ z258.toInt ∧ z258.toInt ≤ 4 := i_252
              have i_253 : k20_fr.toInt ≤ z259.toInt ∧ z259.toInt ≤ z260.toInt ∧ z260.toInt ≤ u_td.toInt := i_253
              have i_254 : TKs z261.toInt z259.toInt z260.toInt := i_254
              have i_255 : XJ v_op v_ar z267 z268 z269 z270 u_co.toInt z263.toInt z265.toInt z259.toInt := i_255
              have i_256 : TJ z267 z268 z269 z270 u_co.toInt z263.toInt z265.toInt z258.toInt := i_256
              have i_257 : twt z258.toInt + 1 ≤ 0 + 3 * (z259.toInt - k20_fr.toInt) := i_257
              obtain ⟨hP, hD⟩ := va_join (wr := []) hP hD [0, 1, 2, 3, 4, 5, 6] [] rfl rfl (by decide) (by decide) hk1 hFc hP1 hD1
              generalize H1 = H at hP hS ⊢
              refine g5_rs [(b_o, (oc12 u_th u_sa b_rf b_ro b_im b_ke u_fd b_tp u_td z259 z260 z261 z262 k20_fa k20_bd u_nc b_nl z263 b_op b_ar z264 b_pi b_pa z265 z266 b_ws b_hw u_la b_se b_re u_bk u_va u_su u_ce u_ho u_wy u_bt u_ps b_pt u_tg u_sn b_ip u_ic b_ah b_be b_me u_wd b_tr b_ld u_st b_wn u_id)), (b_tp, (arI G 400 v_tp)), (b_op, (arI G 400 z267)), (b_ar, (arI G 400 z268)), (b_pi, (arI G 400 z269)), (b_pa, (arI G 400 z270)), (b_ws, (arJ G 8 v_ws))] hP hD (fun hP hD => ?_)
              refine g5_ti (v := z258) y271 ?_
              refine lv_goto (tgt := 72) hx hb dX12_readExpression_52 (by decide) ?_
              have w1 := twt_rg z258.toInt
              refine lv_istore_n (lv' := [(2, .int z258), (0, .ref b_o), (1, .int p_1)]) hx hb dX12_readExpression_72 rfl hl (by decide) rfl (fun ls hl => ?_)
              refine lv_goto (tgt := 20) hx hb dX12_readExpression_73 (by decide) ?_
              exact ih_20_162 (z258, z259, z260, z261, z262, k20_fa, k20_bd, z263, z264, z265, z266, z267, z268, z269, z270) ls H locs (show Int.toNat (3 * (400 - z259.toInt) + 3 * (1 - k20_bd.toInt) + twt z258.toInt) < Int.toNat (3 * (400 - k20_fr.toInt) + 3 * (1 - k20_bd.toInt) + twt k20_2.toInt) by omega) ⟨lv_sub hl [0, 1, 2] rfl, hP, hD, hS, i_252, i_248, i_249, i_154, i_250, i_251, i_255, fun _ => i_256, by omega, i_254, by omega⟩
        ·
          have i_187 : k20_2.toInt = 0 := by have z := g5_neN (a := k20_2.toInt) (b := 0) (by rfl) (by decide) c_187; omega
          have w2 : twt k20_2.toInt = 0 := twt_0 (Or.inl (by omega))
          have hE_272 : TJ k20_op k20_ar k20_pi k20_pa u_co.toInt k20_co.toInt k20_pd.toInt 0 := by have q9 := i_158 (by omega); rw [show k20_2.toInt = 0 by omega] at q9; exact q9
          refine lv_aload_n hx hb dX12_readExpression_36 rfl (lv_at hl 1 rfl) ?_
          obtain ⟨hPc, hDc, hFc⟩ := g5_sub3 (wc := [(b_o, (oc12 u_th u_sa b_rf b_ro b_im b_ke u_fd b_tp u_td k20_fr k20_to k20_so k20_wo k20_fa k20_bd u_nc b_nl k20_co b_op b_ar k20_le b_pi b_pa k20_pd k20_od b_ws b_hw u_la b_se b_re u_bk u_va u_su u_ce u_ho u_wy u_bt u_ps b_pt u_tg u_sn b_ip u_ic b_ah b_be b_me u_wd b_tr b_ld u_st b_wn u_id)), (b_tp, (arI G 400 v_tp)), (b_op, (arI G 400 k20_op)), (b_ar, (arI G 400 k20_ar)), (b_pi, (arI G 400 k20_pi)), (b_pa, (arI G 400 k20_pa)), (b_ws, (arJ G 8 v_ws))]) hP hD hS hA [0, 1, 2, 3, 4, 5, 6] (by decide) rfl
          refine va_calli (va_runV (As := []) (rest := []) ⟨hx, hb, hml, hown, hts⟩ (n_readPlain l G b_o b_tp b_op b_ar b_pi b_pa b_ws b_rf b_ro b_im b_ke b_nl b_hw b_se b_re b_pt b_ip b_ah b_be b_me b_tr b_ld b_wn H.size u_th u_sa u_fd u_td k20_fr k20_to k20_so k20_fa k20_bd u_nc k20_co k20_le k20_pd k20_od u_la u_bk u_ce u_ho u_wy u_bt u_ps u_tg u_sn u_ic u_wd u_id u_co k20_wo u_va u_su u_st v_tp k20_op k20_ar k20_pi k20_pa v_ws v_op v_ar h_u_td i_152 i_153 ⟨by omega, by omega⟩ h_u_nc i_155 i_156 h_u_la h_u_bk h_u_ce h_u_ho h_u_wy h_u_bt h_u_ps h_u_ic h_u_id (i_159) (i_160) (i_157) (hE_272)) (cwV 0 hts gV_X12_302 rfl rfl rfl hv_X12_readPlain ⟨Nat.le_of_ble_eq_true rfl, Nat.le_of_ble_eq_true rfl⟩) (g5_preV hPc hK hDc hN hT hS hFc (ci := 12) (q0 := 0) rfl rfl) rfl rfl hl.1 rfl (lv_room (Nat.le_of_ble_eq_true rfl)) dX12_readExpression_37 ⟨Nat.le_of_ble_eq_true rfl, Nat.le_of_ble_eq_true rfl⟩) hS (fun q _ h => hFc q h) hFc (fun r u t H1 locs ht hvm hw hB hz1 hk1 hS => ?_)
          obtain ⟨hP1, hD1⟩ := hB
          rw [ht] at hP1
          rcases hw with ⟨z274, i_273, y275, rfl⟩ | ⟨z286, z287, z288, z289, z290, z291, z292, z293, z294, z295, z296, z297, z298, i_276, i_277, i_278, i_279, i_280, i_281, i_282, i_283, i_284, i_285, y299, rfl⟩
          ·
            have i_273 : 0 ≤ z274.toInt ∧ z274.toInt ≤ 4 := i_273
            obtain ⟨hP, hD⟩ := va_join (wr := []) hP hD [0, 1, 2, 3, 4, 5, 6] [] rfl rfl (by decide) (by decide) hk1 hFc hP1 hD1
            generalize H1 = H at hP hS ⊢
            refine g5_rs [(b_o, (oc12 u_th u_sa b_rf b_ro b_im b_ke u_fd b_tp u_td k20_fr k20_to k20_so k20_wo k20_fr 1 u_nc b_nl k20_co b_op b_ar k20_le b_pi b_pa k20_pd k20_od b_ws b_hw u_la b_se b_re u_bk u_va u_su u_ce u_ho u_wy u_bt u_ps b_pt u_tg u_sn b_ip u_ic b_ah b_be b_me u_wd b_tr b_ld u_st b_wn u_id)), (b_tp, (arI G 400 v_tp)), (b_op, (arI G 400 k20_op)), (b_ar, (arI G 400 k20_ar)), (b_pi, (arI G 400 k20_pi)), (b_pa, (arI G 400 k20_pa)), (b_ws, (arJ G 8 v_ws))] hP hD (fun hP hD => ?_)
            refine g5_ti (v := z274) y275 ?_
            refine lv_goto (tgt := 72) hx hb dX12_readExpression_40 (by decide) ?_
            have w1 := twt_rg z274.toInt
            refine lv_istore_n (lv' := [(2, .int z274), (0, .ref b_o), (1, .int p_1)]) hx hb dX12_readExpression_72 rfl hl (by decide) rfl (fun ls hl => ?_)
            refine lv_goto (tgt := 20) hx hb dX12_readExpression_73 (by decide) ?_
            exact ih_20_162 (z274, k20_fr, k20_to, k20_so, k20_wo, k20_fr, 1, k20_co, k20_le, k20_pd, k20_od, k20_op, k20_ar, k20_pi, k20_pa) ls H locs (show Int.toNat (3 * (400 - k20_fr.toInt) + 3 * (1 - (1 : Int32).toInt) + twt z274.toInt) < Int.toNat (3 * (400 - k20_fr.toInt) + 3 * (1 - k20_bd.toInt) + twt k20_2.toInt) by have zc_k20_bd : (1 : Int32).toInt = 1 := (by decide); omega) ⟨lv_sub hl [0, 1, 2] rfl, hP, hD, hS, i_273, i_152, i_153, ⟨by decide, by decide⟩, i_155, i_156, i_157, fun q9 => absurd q9 (by decide), by omega, i_160, by omega⟩
          ·
            have i_276 : 0 ≤ z287.toInt ∧ z287.toInt ≤ 400 := i_276
            have i_277 : 0 ≤ z288.toInt ∧ z288.toInt ≤ 400 := i_277
            have i_278 : 0 ≤ z291.toInt ∧ z291.toInt ≤ 400 := i_278
            have i_279 : 0 ≤ z293.toInt ∧ z293.toInt ≤ 400 := i_279
            have i_280 : 0 ≤ z286.toInt ∧ z286.toInt ≤ 4 := i_280
            have i_281 : k20_fr.toInt ≤ z287.toInt ∧ z287.toInt ≤ z288.toInt ∧ z288.toInt ≤ u_td.toInt := i_281
            have i_282 : TKs z289.toInt z287.toInt z288.toInt := i_282
            have i_283 : XJ v_op v_ar z295 z296 z297 z298 u_co.toInt z291.toInt z293.toInt z287.toInt := i_283
            have i_284 : TJ z295 z296 z297 z298 u_co.toInt z291.toInt z293.toInt z286.toInt := i_284
            have i_285 : twt z286.toInt + 1 ≤ 0 + 3 * (z287.toInt - k20_fr.toInt) := i_285
            obtain ⟨hP, hD⟩ := va_join (wr := []) hP hD [0, 1, 2, 3, 4, 5, 6] [] rfl rfl (by decide) (by decide) hk1 hFc hP1 hD1
            generalize H1 = H at hP hS ⊢
            refine g5_rs [(b_o, (oc12 u_th u_sa b_rf b_ro b_im b_ke u_fd b_tp u_td z287 z288 z289 z290 k20_fa k20_bd u_nc b_nl z291 b_op b_ar z292 b_pi b_pa z293 z294 b_ws b_hw u_la b_se b_re u_bk u_va u_su u_ce u_ho u_wy u_bt u_ps b_pt u_tg u_sn b_ip u_ic b_ah b_be b_me u_wd b_tr b_ld u_st b_wn u_id)), (b_tp, (arI G 400 v_tp)), (b_op, (arI G 400 z295)), (b_ar, (arI G 400 z296)), (b_pi, (arI G 400 z297)), (b_pa, (arI G 400 z298)), (b_ws, (arJ G 8 v_ws))] hP hD (fun hP hD => ?_)
            refine g5_ti (v := z286) y299 ?_
            refine lv_goto (tgt := 72) hx hb dX12_readExpression_40 (by decide) ?_
            have w1 := twt_rg z286.toInt
            refine lv_istore_n (lv' := [(2, .int z286), (0, .ref b_o), (1, .int p_1)]) hx hb dX12_readExpression_72 rfl hl (by decide) rfl (fun ls hl => ?_)
            refine lv_goto (tgt := 20) hx hb dX12_readExpression_73 (by decide) ?_
            exact ih_20_162 (z286, z287, z288, z289, z290, k20_fa, k20_bd, z291, z292, z293, z294, z295, z296, z297, z298) ls H locs (show Int.toNat (3 * (400 - z287.toInt) + 3 * (1 - k20_bd.toInt) + twt z286.toInt) < Int.toNat (3 * (400 - k20_fr.toInt) + 3 * (1 - k20_bd.toInt) + twt k20_2.toInt) by omega) ⟨lv_sub hl [0, 1, 2] rfl, hP, hD, hS, i_280, i_276, i_277, i_154, i_278, i_279, i_283, fun _ => i_284, by omega, i_282, by omega⟩
theorem dgX12_readClause_0 : ∀ r ∈ ([(0, (.iconst (-1), 1)), (1, (.istore_n 1, 1)), (2, (.iconst 0, 1)), (3, (.istore_n 2, 1)), (4, (.iload_n 2, 1)), (5, (.iconst 4, 1)), (6, (.if_icmp .ge 28, 3)), (9, (.aload_n 0, 1)), (10, (.aload_n 0, 1)), (11, (.getfield 73, 3)), (14, (.iload_n 2, 1)), (15, (.laload, 1)), (16, (.invokevirtual 254, 3)), (19, (.ifCond .eq 7, 3)), (22, (.iload_n 2, 1)), (23, (.goto 4, 3)), (26, (.iload_n 1, 1)), (27, (.istore_n 1, 1)), (28, (.iinc 2 1, 3)), (31, (.goto (-27), 3)), (34, (.aload_n 0, 1)), (35, (.iload_n 1, 1)), (36, (.iconst (-1), 1)), (37, (.if_icmp .eq 16, 3)), (40, (.aload_n 0, 1)), (41, (.getfield 312, 3)), (44, (.bipush 12, 2)), (46, (.if_icmp .ge 7, 3)), (49, (.iconst 1, 1)), (50, (.goto 4, 3)), (53, (.iconst 0, 1)), (54, (.invokevirtual 233, 3)), (57, (.aload_n 0, 1)), (58, (.getfield 205, 3)), (61, (.ifCond .eq 4, 3)), (64, (.return_, 1)), (65, (.bipush 8, 2)), (67, (.aload_n 0, 1)), (68, (.getfield 312, 3)), (71, (.imul, 1))] : List (Nat × (Instr × Nat))), decode cX12_readClause r.1 = .ok r.2 := by decide +kernel
theorem dX12_readClause_0 : decode cX12_readClause 0 = .ok (.iconst (-1), 1) := dgX12_readClause_0 (0, (.iconst (-1), 1)) (List.mem_of_getElem? (i := 0) rfl)
theorem dX12_readClause_1 : decode cX12_readClause 1 = .ok (.istore_n 1, 1) := dgX12_readClause_0 (1, (.istore_n 1, 1)) (List.mem_of_getElem? (i := 1) rfl)
theorem dX12_readClause_2 : decode cX12_readClause 2 = .ok (.iconst 0, 1) := dgX12_readClause_0 (2, (.iconst 0, 1)) (List.mem_of_getElem? (i := 2) rfl)
theorem dX12_readClause_3 : decode cX12_readClause 3 = .ok (.istore_n 2, 1) := dgX12_readClause_0 (3, (.istore_n 2, 1)) (List.mem_of_getElem? (i := 3) rfl)
theorem dX12_readClause_4 : decode cX12_readClause 4 = .ok (.iload_n 2, 1) := dgX12_readClause_0 (4, (.iload_n 2, 1)) (List.mem_of_getElem? (i := 4) rfl)
theorem dX12_readClause_5 : decode cX12_readClause 5 = .ok (.iconst 4, 1) := dgX12_readClause_0 (5, (.iconst 4, 1)) (List.mem_of_getElem? (i := 5) rfl)
theorem dX12_readClause_6 : decode cX12_readClause 6 = .ok (.if_icmp .ge 28, 3) := dgX12_readClause_0 (6, (.if_icmp .ge 28, 3)) (List.mem_of_getElem? (i := 6) rfl)
theorem dX12_readClause_9 : decode cX12_readClause 9 = .ok (.aload_n 0, 1) := dgX12_readClause_0 (9, (.aload_n 0, 1)) (List.mem_of_getElem? (i := 7) rfl)
theorem dX12_readClause_10 : decode cX12_readClause 10 = .ok (.aload_n 0, 1) := dgX12_readClause_0 (10, (.aload_n 0, 1)) (List.mem_of_getElem? (i := 8) rfl)
theorem dX12_readClause_11 : decode cX12_readClause 11 = .ok (.getfield 73, 3) := dgX12_readClause_0 (11, (.getfield 73, 3)) (List.mem_of_getElem? (i := 9) rfl)
theorem dX12_readClause_14 : decode cX12_readClause 14 = .ok (.iload_n 2, 1) := dgX12_readClause_0 (14, (.iload_n 2, 1)) (List.mem_of_getElem? (i := 10) rfl)
theorem dX12_readClause_15 : decode cX12_readClause 15 = .ok (.laload, 1) := dgX12_readClause_0 (15, (.laload, 1)) (List.mem_of_getElem? (i := 11) rfl)
theorem dX12_readClause_16 : decode cX12_readClause 16 = .ok (.invokevirtual 254, 3) := dgX12_readClause_0 (16, (.invokevirtual 254, 3)) (List.mem_of_getElem? (i := 12) rfl)
theorem dX12_readClause_19 : decode cX12_readClause 19 = .ok (.ifCond .eq 7, 3) := dgX12_readClause_0 (19, (.ifCond .eq 7, 3)) (List.mem_of_getElem? (i := 13) rfl)
theorem dX12_readClause_22 : decode cX12_readClause 22 = .ok (.iload_n 2, 1) := dgX12_readClause_0 (22, (.iload_n 2, 1)) (List.mem_of_getElem? (i := 14) rfl)
theorem dX12_readClause_23 : decode cX12_readClause 23 = .ok (.goto 4, 3) := dgX12_readClause_0 (23, (.goto 4, 3)) (List.mem_of_getElem? (i := 15) rfl)
theorem dX12_readClause_26 : decode cX12_readClause 26 = .ok (.iload_n 1, 1) := dgX12_readClause_0 (26, (.iload_n 1, 1)) (List.mem_of_getElem? (i := 16) rfl)
theorem dX12_readClause_27 : decode cX12_readClause 27 = .ok (.istore_n 1, 1) := dgX12_readClause_0 (27, (.istore_n 1, 1)) (List.mem_of_getElem? (i := 17) rfl)
theorem dX12_readClause_28 : decode cX12_readClause 28 = .ok (.iinc 2 1, 3) := dgX12_readClause_0 (28, (.iinc 2 1, 3)) (List.mem_of_getElem? (i := 18) rfl)
theorem dX12_readClause_31 : decode cX12_readClause 31 = .ok (.goto (-27), 3) := dgX12_readClause_0 (31, (.goto (-27), 3)) (List.mem_of_getElem? (i := 19) rfl)
theorem dX12_readClause_34 : decode cX12_readClause 34 = .ok (.aload_n 0, 1) := dgX12_readClause_0 (34, (.aload_n 0, 1)) (List.mem_of_getElem? (i := 20) rfl)
theorem dX12_readClause_35 : decode cX12_readClause 35 = .ok (.iload_n 1, 1) := dgX12_readClause_0 (35, (.iload_n 1, 1)) (List.mem_of_getElem? (i := 21) rfl)
theorem dX12_readClause_36 : decode cX12_readClause 36 = .ok (.iconst (-1), 1) := dgX12_readClause_0 (36, (.iconst (-1), 1)) (List.mem_of_getElem? (i := 22) rfl)
theorem dX12_readClause_37 : decode cX12_readClause 37 = .ok (.if_icmp .eq 16, 3) := dgX12_readClause_0 (37, (.if_icmp .eq 16, 3)) (List.mem_of_getElem? (i := 23) rfl)
theorem dX12_readClause_40 : decode cX12_readClause 40 = .ok (.aload_n 0, 1) := dgX12_readClause_0 (40, (.aload_n 0, 1)) (List.mem_of_getElem? (i := 24) rfl)
theorem dX12_readClause_41 : decode cX12_readClause 41 = .ok (.getfield 312, 3) := dgX12_readClause_0 (41, (.getfield 312, 3)) (List.mem_of_getElem? (i := 25) rfl)
theorem dX12_readClause_44 : decode cX12_readClause 44 = .ok (.bipush 12, 2) := dgX12_readClause_0 (44, (.bipush 12, 2)) (List.mem_of_getElem? (i := 26) rfl)
theorem dX12_readClause_46 : decode cX12_readClause 46 = .ok (.if_icmp .ge 7, 3) := dgX12_readClause_0 (46, (.if_icmp .ge 7, 3)) (List.mem_of_getElem? (i := 27) rfl)
theorem dX12_readClause_49 : decode cX12_readClause 49 = .ok (.iconst 1, 1) := dgX12_readClause_0 (49, (.iconst 1, 1)) (List.mem_of_getElem? (i := 28) rfl)
theorem dX12_readClause_50 : decode cX12_readClause 50 = .ok (.goto 4, 3) := dgX12_readClause_0 (50, (.goto 4, 3)) (List.mem_of_getElem? (i := 29) rfl)
theorem dX12_readClause_53 : decode cX12_readClause 53 = .ok (.iconst 0, 1) := dgX12_readClause_0 (53, (.iconst 0, 1)) (List.mem_of_getElem? (i := 30) rfl)
theorem dX12_readClause_54 : decode cX12_readClause 54 = .ok (.invokevirtual 233, 3) := dgX12_readClause_0 (54, (.invokevirtual 233, 3)) (List.mem_of_getElem? (i := 31) rfl)
theorem dX12_readClause_57 : decode cX12_readClause 57 = .ok (.aload_n 0, 1) := dgX12_readClause_0 (57, (.aload_n 0, 1)) (List.mem_of_getElem? (i := 32) rfl)
theorem dX12_readClause_58 : decode cX12_readClause 58 = .ok (.getfield 205, 3) := dgX12_readClause_0 (58, (.getfield 205, 3)) (List.mem_of_getElem? (i := 33) rfl)
theorem dX12_readClause_61 : decode cX12_readClause 61 = .ok (.ifCond .eq 4, 3) := dgX12_readClause_0 (61, (.ifCond .eq 4, 3)) (List.mem_of_getElem? (i := 34) rfl)
theorem dX12_readClause_64 : decode cX12_readClause 64 = .ok (.return_, 1) := dgX12_readClause_0 (64, (.return_, 1)) (List.mem_of_getElem? (i := 35) rfl)
theorem dX12_readClause_65 : decode cX12_readClause 65 = .ok (.bipush 8, 2) := dgX12_readClause_0 (65, (.bipush 8, 2)) (List.mem_of_getElem? (i := 36) rfl)
theorem dX12_readClause_67 : decode cX12_readClause 67 = .ok (.aload_n 0, 1) := dgX12_readClause_0 (67, (.aload_n 0, 1)) (List.mem_of_getElem? (i := 37) rfl)
theorem dX12_readClause_68 : decode cX12_readClause 68 = .ok (.getfield 312, 3) := dgX12_readClause_0 (68, (.getfield 312, 3)) (List.mem_of_getElem? (i := 38) rfl)
theorem dX12_readClause_71 : decode cX12_readClause 71 = .ok (.imul, 1) := dgX12_readClause_0 (71, (.imul, 1)) (List.mem_of_getElem? (i := 39) rfl)
theorem dgX12_readClause_1 : ∀ r ∈ ([(72, (.istore_n 2, 1)), (73, (.iconst 0, 1)), (74, (.istore_n 3, 1)), (75, (.iload_n 3, 1)), (76, (.bipush 8, 2)), (78, (.if_icmp .ge 18, 3)), (81, (.aload_n 0, 1)), (82, (.getfield 30, 3)), (85, (.iload_n 2, 1)), (86, (.iload_n 3, 1)), (87, (.iadd, 1)), (88, (.iconst 0, 1)), (89, (.iastore, 1)), (90, (.iinc 3 1, 3)), (93, (.goto (-18), 3)), (96, (.aload_n 0, 1)), (97, (.getfield 30, 3)), (100, (.iload_n 2, 1)), (101, (.iload_n 1, 1)), (102, (.iastore, 1)), (103, (.aload_n 0, 1)), (104, (.dup, 1)), (105, (.getfield 312, 3)), (108, (.iconst 1, 1)), (109, (.iadd, 1)), (110, (.putfield 312, 3)), (113, (.aload_n 0, 1)), (114, (.getfield 30, 3)), (117, (.iload_n 2, 1)), (118, (.iconst 3, 1)), (119, (.iadd, 1)), (120, (.aload_n 0, 1)), (121, (.getfield 237, 3)), (124, (.iastore, 1)), (125, (.iload_n 1, 1)), (126, (.iconst 2, 1)), (127, (.if_icmp .ge 8, 3)), (130, (.aload_n 0, 1)), (131, (.iconst 0, 1)), (132, (.invokevirtual 315, 3))] : List (Nat × (Instr × Nat))), decode cX12_readClause r.1 = .ok r.2 := by decide +kernel
theorem dX12_readClause_72 : decode cX12_readClause 72 = .ok (.istore_n 2, 1) := dgX12_readClause_1 (72, (.istore_n 2, 1)) (List.mem_of_getElem? (i := 0) rfl)
theorem dX12_readClause_73 : decode cX12_readClause 73 = .ok (.iconst 0, 1) := dgX12_readClause_1 (73, (.iconst 0, 1)) (List.mem_of_getElem? (i := 1) rfl)
theorem dX12_readClause_74 : decode cX12_readClause 74 = .ok (.istore_n 3, 1) := dgX12_readClause_1 (74, (.istore_n 3, 1)) (List.mem_of_getElem? (i := 2) rfl)
theorem dX12_readClause_75 : decode cX12_readClause 75 = .ok (.iload_n 3, 1) := dgX12_readClause_1 (75, (.iload_n 3, 1)) (List.mem_of_getElem? (i := 3) rfl)
theorem dX12_readClause_76 : decode cX12_readClause 76 = .ok (.bipush 8, 2) := dgX12_readClause_1 (76, (.bipush 8, 2)) (List.mem_of_getElem? (i := 4) rfl)
theorem dX12_readClause_78 : decode cX12_readClause 78 = .ok (.if_icmp .ge 18, 3) := dgX12_readClause_1 (78, (.if_icmp .ge 18, 3)) (List.mem_of_getElem? (i := 5) rfl)
theorem dX12_readClause_81 : decode cX12_readClause 81 = .ok (.aload_n 0, 1) := dgX12_readClause_1 (81, (.aload_n 0, 1)) (List.mem_of_getElem? (i := 6) rfl)
theorem dX12_readClause_82 : decode cX12_readClause 82 = .ok (.getfield 30, 3) := dgX12_readClause_1 (82, (.getfield 30, 3)) (List.mem_of_getElem? (i := 7) rfl)
theorem dX12_readClause_85 : decode cX12_readClause 85 = .ok (.iload_n 2, 1) := dgX12_readClause_1 (85, (.iload_n 2, 1)) (List.mem_of_getElem? (i := 8) rfl)
theorem dX12_readClause_86 : decode cX12_readClause 86 = .ok (.iload_n 3, 1) := dgX12_readClause_1 (86, (.iload_n 3, 1)) (List.mem_of_getElem? (i := 9) rfl)
theorem dX12_readClause_87 : decode cX12_readClause 87 = .ok (.iadd, 1) := dgX12_readClause_1 (87, (.iadd, 1)) (List.mem_of_getElem? (i := 10) rfl)
theorem dX12_readClause_88 : decode cX12_readClause 88 = .ok (.iconst 0, 1) := dgX12_readClause_1 (88, (.iconst 0, 1)) (List.mem_of_getElem? (i := 11) rfl)
theorem dX12_readClause_89 : decode cX12_readClause 89 = .ok (.iastore, 1) := dgX12_readClause_1 (89, (.iastore, 1)) (List.mem_of_getElem? (i := 12) rfl)
theorem dX12_readClause_90 : decode cX12_readClause 90 = .ok (.iinc 3 1, 3) := dgX12_readClause_1 (90, (.iinc 3 1, 3)) (List.mem_of_getElem? (i := 13) rfl)
theorem dX12_readClause_93 : decode cX12_readClause 93 = .ok (.goto (-18), 3) := dgX12_readClause_1 (93, (.goto (-18), 3)) (List.mem_of_getElem? (i := 14) rfl)
theorem dX12_readClause_96 : decode cX12_readClause 96 = .ok (.aload_n 0, 1) := dgX12_readClause_1 (96, (.aload_n 0, 1)) (List.mem_of_getElem? (i := 15) rfl)
theorem dX12_readClause_97 : decode cX12_readClause 97 = .ok (.getfield 30, 3) := dgX12_readClause_1 (97, (.getfield 30, 3)) (List.mem_of_getElem? (i := 16) rfl)
theorem dX12_readClause_100 : decode cX12_readClause 100 = .ok (.iload_n 2, 1) := dgX12_readClause_1 (100, (.iload_n 2, 1)) (List.mem_of_getElem? (i := 17) rfl)
theorem dX12_readClause_101 : decode cX12_readClause 101 = .ok (.iload_n 1, 1) := dgX12_readClause_1 (101, (.iload_n 1, 1)) (List.mem_of_getElem? (i := 18) rfl)
theorem dX12_readClause_102 : decode cX12_readClause 102 = .ok (.iastore, 1) := dgX12_readClause_1 (102, (.iastore, 1)) (List.mem_of_getElem? (i := 19) rfl)
theorem dX12_readClause_103 : decode cX12_readClause 103 = .ok (.aload_n 0, 1) := dgX12_readClause_1 (103, (.aload_n 0, 1)) (List.mem_of_getElem? (i := 20) rfl)
theorem dX12_readClause_104 : decode cX12_readClause 104 = .ok (.dup, 1) := dgX12_readClause_1 (104, (.dup, 1)) (List.mem_of_getElem? (i := 21) rfl)
theorem dX12_readClause_105 : decode cX12_readClause 105 = .ok (.getfield 312, 3) := dgX12_readClause_1 (105, (.getfield 312, 3)) (List.mem_of_getElem? (i := 22) rfl)
theorem dX12_readClause_108 : decode cX12_readClause 108 = .ok (.iconst 1, 1) := dgX12_readClause_1 (108, (.iconst 1, 1)) (List.mem_of_getElem? (i := 23) rfl)
theorem dX12_readClause_109 : decode cX12_readClause 109 = .ok (.iadd, 1) := dgX12_readClause_1 (109, (.iadd, 1)) (List.mem_of_getElem? (i := 24) rfl)
theorem dX12_readClause_110 : decode cX12_readClause 110 = .ok (.putfield 312, 3) := dgX12_readClause_1 (110, (.putfield 312, 3)) (List.mem_of_getElem? (i := 25) rfl)
theorem dX12_readClause_113 : decode cX12_readClause 113 = .ok (.aload_n 0, 1) := dgX12_readClause_1 (113, (.aload_n 0, 1)) (List.mem_of_getElem? (i := 26) rfl)
theorem dX12_readClause_114 : decode cX12_readClause 114 = .ok (.getfield 30, 3) := dgX12_readClause_1 (114, (.getfield 30, 3)) (List.mem_of_getElem? (i := 27) rfl)
theorem dX12_readClause_117 : decode cX12_readClause 117 = .ok (.iload_n 2, 1) := dgX12_readClause_1 (117, (.iload_n 2, 1)) (List.mem_of_getElem? (i := 28) rfl)
theorem dX12_readClause_118 : decode cX12_readClause 118 = .ok (.iconst 3, 1) := dgX12_readClause_1 (118, (.iconst 3, 1)) (List.mem_of_getElem? (i := 29) rfl)
theorem dX12_readClause_119 : decode cX12_readClause 119 = .ok (.iadd, 1) := dgX12_readClause_1 (119, (.iadd, 1)) (List.mem_of_getElem? (i := 30) rfl)
theorem dX12_readClause_120 : decode cX12_readClause 120 = .ok (.aload_n 0, 1) := dgX12_readClause_1 (120, (.aload_n 0, 1)) (List.mem_of_getElem? (i := 31) rfl)
theorem dX12_readClause_121 : decode cX12_readClause 121 = .ok (.getfield 237, 3) := dgX12_readClause_1 (121, (.getfield 237, 3)) (List.mem_of_getElem? (i := 32) rfl)
theorem dX12_readClause_124 : decode cX12_readClause 124 = .ok (.iastore, 1) := dgX12_readClause_1 (124, (.iastore, 1)) (List.mem_of_getElem? (i := 33) rfl)
theorem dX12_readClause_125 : decode cX12_readClause 125 = .ok (.iload_n 1, 1) := dgX12_readClause_1 (125, (.iload_n 1, 1)) (List.mem_of_getElem? (i := 34) rfl)
theorem dX12_readClause_126 : decode cX12_readClause 126 = .ok (.iconst 2, 1) := dgX12_readClause_1 (126, (.iconst 2, 1)) (List.mem_of_getElem? (i := 35) rfl)
theorem dX12_readClause_127 : decode cX12_readClause 127 = .ok (.if_icmp .ge 8, 3) := dgX12_readClause_1 (127, (.if_icmp .ge 8, 3)) (List.mem_of_getElem? (i := 36) rfl)
theorem dX12_readClause_130 : decode cX12_readClause 130 = .ok (.aload_n 0, 1) := dgX12_readClause_1 (130, (.aload_n 0, 1)) (List.mem_of_getElem? (i := 37) rfl)
theorem dX12_readClause_131 : decode cX12_readClause 131 = .ok (.iconst 0, 1) := dgX12_readClause_1 (131, (.iconst 0, 1)) (List.mem_of_getElem? (i := 38) rfl)
theorem dX12_readClause_132 : decode cX12_readClause 132 = .ok (.invokevirtual 315, 3) := dgX12_readClause_1 (132, (.invokevirtual 315, 3)) (List.mem_of_getElem? (i := 39) rfl)
theorem dgX12_readClause_2 : ∀ r ∈ ([(135, (.aload_n 0, 1)), (136, (.getfield 30, 3)), (139, (.iload_n 2, 1)), (140, (.iconst 4, 1)), (141, (.iadd, 1)), (142, (.aload_n 0, 1)), (143, (.getfield 237, 3)), (146, (.iastore, 1)), (147, (.aload_n 0, 1)), (148, (.getfield 30, 3)), (151, (.iload_n 2, 1)), (152, (.iconst 5, 1)), (153, (.iadd, 1)), (154, (.aload_n 0, 1)), (155, (.getfield 237, 3)), (158, (.iastore, 1)), (159, (.aload_n 0, 1)), (160, (.getfield 205, 3)), (163, (.ifCond .ne 22, 3)), (166, (.aload_n 0, 1)), (167, (.ldc2_w 318, 3)), (170, (.invokevirtual 254, 3)), (173, (.ifCond .eq 12, 3)), (176, (.aload_n 0, 1)), (177, (.invokevirtual 208, 3)), (180, (.aload_n 0, 1)), (181, (.iconst 1, 1)), (182, (.invokevirtual 315, 3)), (185, (.aload_n 0, 1)), (186, (.getfield 30, 3)), (189, (.iload_n 2, 1)), (190, (.bipush 6, 2)), (192, (.iadd, 1)), (193, (.aload_n 0, 1)), (194, (.getfield 237, 3)), (197, (.iastore, 1)), (198, (.return_, 1))] : List (Nat × (Instr × Nat))), decode cX12_readClause r.1 = .ok r.2 := by decide +kernel
theorem dX12_readClause_135 : decode cX12_readClause 135 = .ok (.aload_n 0, 1) := dgX12_readClause_2 (135, (.aload_n 0, 1)) (List.mem_of_getElem? (i := 0) rfl)
theorem dX12_readClause_136 : decode cX12_readClause 136 = .ok (.getfield 30, 3) := dgX12_readClause_2 (136, (.getfield 30, 3)) (List.mem_of_getElem? (i := 1) rfl)
theorem dX12_readClause_139 : decode cX12_readClause 139 = .ok (.iload_n 2, 1) := dgX12_readClause_2 (139, (.iload_n 2, 1)) (List.mem_of_getElem? (i := 2) rfl)
theorem dX12_readClause_140 : decode cX12_readClause 140 = .ok (.iconst 4, 1) := dgX12_readClause_2 (140, (.iconst 4, 1)) (List.mem_of_getElem? (i := 3) rfl)
theorem dX12_readClause_141 : decode cX12_readClause 141 = .ok (.iadd, 1) := dgX12_readClause_2 (141, (.iadd, 1)) (List.mem_of_getElem? (i := 4) rfl)
theorem dX12_readClause_142 : decode cX12_readClause 142 = .ok (.aload_n 0, 1) := dgX12_readClause_2 (142, (.aload_n 0, 1)) (List.mem_of_getElem? (i := 5) rfl)
theorem dX12_readClause_143 : decode cX12_readClause 143 = .ok (.getfield 237, 3) := dgX12_readClause_2 (143, (.getfield 237, 3)) (List.mem_of_getElem? (i := 6) rfl)
theorem dX12_readClause_146 : decode cX12_readClause 146 = .ok (.iastore, 1) := dgX12_readClause_2 (146, (.iastore, 1)) (List.mem_of_getElem? (i := 7) rfl)
theorem dX12_readClause_147 : decode cX12_readClause 147 = .ok (.aload_n 0, 1) := dgX12_readClause_2 (147, (.aload_n 0, 1)) (List.mem_of_getElem? (i := 8) rfl)
theorem dX12_readClause_148 : decode cX12_readClause 148 = .ok (.getfield 30, 3) := dgX12_readClause_2 (148, (.getfield 30, 3)) (List.mem_of_getElem? (i := 9) rfl)
theorem dX12_readClause_151 : decode cX12_readClause 151 = .ok (.iload_n 2, 1) := dgX12_readClause_2 (151, (.iload_n 2, 1)) (List.mem_of_getElem? (i := 10) rfl)
theorem dX12_readClause_152 : decode cX12_readClause 152 = .ok (.iconst 5, 1) := dgX12_readClause_2 (152, (.iconst 5, 1)) (List.mem_of_getElem? (i := 11) rfl)
theorem dX12_readClause_153 : decode cX12_readClause 153 = .ok (.iadd, 1) := dgX12_readClause_2 (153, (.iadd, 1)) (List.mem_of_getElem? (i := 12) rfl)
theorem dX12_readClause_154 : decode cX12_readClause 154 = .ok (.aload_n 0, 1) := dgX12_readClause_2 (154, (.aload_n 0, 1)) (List.mem_of_getElem? (i := 13) rfl)
theorem dX12_readClause_155 : decode cX12_readClause 155 = .ok (.getfield 237, 3) := dgX12_readClause_2 (155, (.getfield 237, 3)) (List.mem_of_getElem? (i := 14) rfl)
theorem dX12_readClause_158 : decode cX12_readClause 158 = .ok (.iastore, 1) := dgX12_readClause_2 (158, (.iastore, 1)) (List.mem_of_getElem? (i := 15) rfl)
theorem dX12_readClause_159 : decode cX12_readClause 159 = .ok (.aload_n 0, 1) := dgX12_readClause_2 (159, (.aload_n 0, 1)) (List.mem_of_getElem? (i := 16) rfl)
theorem dX12_readClause_160 : decode cX12_readClause 160 = .ok (.getfield 205, 3) := dgX12_readClause_2 (160, (.getfield 205, 3)) (List.mem_of_getElem? (i := 17) rfl)
theorem dX12_readClause_163 : decode cX12_readClause 163 = .ok (.ifCond .ne 22, 3) := dgX12_readClause_2 (163, (.ifCond .ne 22, 3)) (List.mem_of_getElem? (i := 18) rfl)
theorem dX12_readClause_166 : decode cX12_readClause 166 = .ok (.aload_n 0, 1) := dgX12_readClause_2 (166, (.aload_n 0, 1)) (List.mem_of_getElem? (i := 19) rfl)
theorem dX12_readClause_167 : decode cX12_readClause 167 = .ok (.ldc2_w 318, 3) := dgX12_readClause_2 (167, (.ldc2_w 318, 3)) (List.mem_of_getElem? (i := 20) rfl)
theorem dX12_readClause_170 : decode cX12_readClause 170 = .ok (.invokevirtual 254, 3) := dgX12_readClause_2 (170, (.invokevirtual 254, 3)) (List.mem_of_getElem? (i := 21) rfl)
theorem dX12_readClause_173 : decode cX12_readClause 173 = .ok (.ifCond .eq 12, 3) := dgX12_readClause_2 (173, (.ifCond .eq 12, 3)) (List.mem_of_getElem? (i := 22) rfl)
theorem dX12_readClause_176 : decode cX12_readClause 176 = .ok (.aload_n 0, 1) := dgX12_readClause_2 (176, (.aload_n 0, 1)) (List.mem_of_getElem? (i := 23) rfl)
theorem dX12_readClause_177 : decode cX12_readClause 177 = .ok (.invokevirtual 208, 3) := dgX12_readClause_2 (177, (.invokevirtual 208, 3)) (List.mem_of_getElem? (i := 24) rfl)
theorem dX12_readClause_180 : decode cX12_readClause 180 = .ok (.aload_n 0, 1) := dgX12_readClause_2 (180, (.aload_n 0, 1)) (List.mem_of_getElem? (i := 25) rfl)
theorem dX12_readClause_181 : decode cX12_readClause 181 = .ok (.iconst 1, 1) := dgX12_readClause_2 (181, (.iconst 1, 1)) (List.mem_of_getElem? (i := 26) rfl)
theorem dX12_readClause_182 : decode cX12_readClause 182 = .ok (.invokevirtual 315, 3) := dgX12_readClause_2 (182, (.invokevirtual 315, 3)) (List.mem_of_getElem? (i := 27) rfl)
theorem dX12_readClause_185 : decode cX12_readClause 185 = .ok (.aload_n 0, 1) := dgX12_readClause_2 (185, (.aload_n 0, 1)) (List.mem_of_getElem? (i := 28) rfl)
theorem dX12_readClause_186 : decode cX12_readClause 186 = .ok (.getfield 30, 3) := dgX12_readClause_2 (186, (.getfield 30, 3)) (List.mem_of_getElem? (i := 29) rfl)
theorem dX12_readClause_189 : decode cX12_readClause 189 = .ok (.iload_n 2, 1) := dgX12_readClause_2 (189, (.iload_n 2, 1)) (List.mem_of_getElem? (i := 30) rfl)
theorem dX12_readClause_190 : decode cX12_readClause 190 = .ok (.bipush 6, 2) := dgX12_readClause_2 (190, (.bipush 6, 2)) (List.mem_of_getElem? (i := 31) rfl)
theorem dX12_readClause_192 : decode cX12_readClause 192 = .ok (.iadd, 1) := dgX12_readClause_2 (192, (.iadd, 1)) (List.mem_of_getElem? (i := 32) rfl)
theorem dX12_readClause_193 : decode cX12_readClause 193 = .ok (.aload_n 0, 1) := dgX12_readClause_2 (193, (.aload_n 0, 1)) (List.mem_of_getElem? (i := 33) rfl)
theorem dX12_readClause_194 : decode cX12_readClause 194 = .ok (.getfield 237, 3) := dgX12_readClause_2 (194, (.getfield 237, 3)) (List.mem_of_getElem? (i := 34) rfl)
theorem dX12_readClause_197 : decode cX12_readClause 197 = .ok (.iastore, 1) := dgX12_readClause_2 (197, (.iastore, 1)) (List.mem_of_getElem? (i := 35) rfl)
theorem dX12_readClause_198 : decode cX12_readClause 198 = .ok (.return_, 1) := dgX12_readClause_2 (198, (.return_, 1)) (List.mem_of_getElem? (i := 36) rfl)
theorem fl_X12_312 : Cond.fieldLink RX12 312 "LateGlassModel" "nClauses" "I" ∈ tblG := tg 1218 (by decide +kernel) (by decide +kernel)
theorem fl_X12_30 : Cond.fieldLink RX12 30 "LateGlassModel" "nClause" "[I" ∈ tblG := tg 1219 (by decide +kernel) (by decide +kernel)
theorem kl_X12_318 : Cond.constantLong RX12 318 294 ∈ tblG := tg 1594 (by decide +kernel) (by decide +kernel)
theorem ml_X12_315 : Cond.methodLink RX12 315 yX12_readExpression ∈ tblG := tg 1529 (by decide +kernel) (by decide +kernel)
theorem im_X12_readExpression : Cond.instanceMethod yX12_readExpression ∈ tblG := tg 1531 (by decide +kernel) (by decide +kernel)
theorem se_X12_readExpression : Cond.selects RX12 yX12_readExpression yX12_readExpression ∈ tblG := tg 48 (by decide +kernel) (by decide +kernel)
theorem cd_X12_readExpression : Cond.code yX12_readExpression cX12_readExpression 3 none ∈ tblG := tg 1532 (by decide +kernel) (by decide +kernel)
theorem gW_X12_readExpression : GoodIn tblG (wsG yX12_readExpression cX12_readExpression 3 none) := tgi cd_X12_readExpression
theorem gV_X12_315 : GoodIn tblG (wsV RX12 315 RX12 yX12_readExpression (wsG yX12_readExpression cX12_readExpression 3 none)) := tgV ml_X12_315 im_X12_readExpression se_X12_readExpression ini_X12 gW_X12_readExpression
theorem hv_X12_readExpression : yX12_readExpression.cls = RX12 ∧ yX12_readExpression.cls ≠ "java/lang/invoke/MethodHandle" ∧ yX12_readExpression.cls ≠ "java/lang/invoke/VarHandle" ∧ (parseMethodDescriptor yX12_readExpression.desc).map (fun d => d.parameters.length) = some 1 := by decide +kernel
theorem fl_X12_73 : Cond.fieldLink RX12 73 "LateGlassModel" "headWords" "[J" ∈ tblG := tg 1229 (by decide +kernel) (by decide +kernel)
set_option maxHeartbeats 4000000 in
set_option maxRecDepth 100000 in
theorem n_readClause (l : Launch) (G : g5_G) (b_o b_tp b_nl b_op b_ar b_pi b_pa b_ws b_hw b_rf b_ro b_im b_ke b_se b_re b_pt b_ip b_ah b_be b_me b_tr b_ld b_wn : Nat) (sz : Nat) (u_th : Int32) (u_sa : Int32) (u_fd : Int32) (u_td : Int32) (u_fr : Int32) (u_to : Int32) (u_so : Int32) (u_fa : Int32) (u_bd : Int32) (u_nc : Int32) (u_co : Int32) (u_le : Int32) (u_pd : Int32) (u_od : Int32) (u_la : Int32) (u_bk : Int32) (u_ce : Int32) (u_ho : Int32) (u_wy : Int32) (u_bt : Int32) (u_ps : Int32) (u_tg : Int32) (u_sn : Int32) (u_ic : Int32) (u_wd : Int32) (u_id : Int32) (u_wo : Int64) (u_va : Int64) (u_su : Int64) (u_st : Int64) (v_tp : Nat → Int32) (v_nl : Nat → Int32) (v_op : Nat → Int32) (v_ar : Nat → Int32) (v_pi : Nat → Int32) (v_pa : Nat → Int32) (v_ws : Nat → Int64) (v_hw : Nat → Int64) (h_u_td : 0 ≤ u_td.toInt ∧ u_td.toInt ≤ 400) (h_u_fr : 0 ≤ u_fr.toInt ∧ u_fr.toInt ≤ 400) (h_u_to : 0 ≤ u_to.toInt ∧ u_to.toInt ≤ 400) (h_u_bd : 0 ≤ u_bd.toInt ∧ u_bd.toInt ≤ 0) (h_u_nc : 0 ≤ u_nc.toInt ∧ u_nc.toInt ≤ 12) (h_u_co : 0 ≤ u_co.toInt ∧ u_co.toInt ≤ 400) (h_u_pd : 0 ≤ u_pd.toInt ∧ u_pd.toInt ≤ 400) (h_u_la : 0 ≤ u_la.toInt ∧ u_la.toInt ≤ 4840) (h_u_bk : 0 ≤ u_bk.toInt ∧ u_bk.toInt ≤ 1) (h_u_ce : 0 ≤ u_ce.toInt ∧ u_ce.toInt ≤ 63) (h_u_ho : 0 ≤ u_ho.toInt ∧ u_ho.toInt ≤ 23) (h_u_wy : 0 ≤ u_wy.toInt ∧ u_wy.toInt ≤ 3) (h_u_bt : 0 ≤ u_bt.toInt ∧ u_bt.toInt ≤ 1000000) (h_u_ps : 0 ≤ u_ps.toInt ∧ u_ps.toInt ≤ 200) (h_u_ic : 0 ≤ u_ic.toInt ∧ u_ic.toInt ≤ 1) (h_u_id : 0 ≤ u_id.toInt ∧ u_id.toInt ≤ 1) (e_t : u_fr.toInt ≤ u_to.toInt ∧ u_to.toInt ≤ u_td.toInt) (e_s : TKs u_so.toInt u_fr.toInt u_to.toInt) (e_c : u_co.toInt ≤ u_fr.toInt) (e_l : LWJ v_nl v_op v_ar u_nc.toInt u_co.toInt) : Met l yX12_readClause (wsG yX12_readClause cX12_readClause 4 none) ({ frames := 7, cells := 0, slots := 0, locals := 148 }) (va_Pc [.ref b_o] (g5_P G [(b_o, (oc12 u_th u_sa b_rf b_ro b_im b_ke u_fd b_tp u_td u_fr u_to u_so u_wo u_fa u_bd u_nc b_nl u_co b_op b_ar u_le b_pi b_pa u_pd u_od b_ws b_hw u_la b_se b_re u_bk u_va u_su u_ce u_ho u_wy u_bt u_ps b_pt u_tg u_sn b_ip u_ic b_ah b_be b_me u_wd b_tr b_ld u_st b_wn u_id)), (b_tp, (arI G 400 v_tp)), (b_nl, (arI G 96 v_nl)), (b_op, (arI G 400 v_op)), (b_ar, (arI G 400 v_ar)), (b_pi, (arI G 400 v_pi)), (b_pa, (arI G 400 v_pa)), (b_ws, (arJ G 8 v_ws)), (b_hw, (arJ G 4 v_hw))] sz)) (va_Qv (fun (u : va_W) => ((u = [(b_o, (oc12 u_th u_sa b_rf b_ro b_im b_ke u_fd b_tp u_td u_fr u_to u_so u_wo u_fr 1 u_nc b_nl u_co b_op b_ar u_le b_pi b_pa u_pd u_od b_ws b_hw u_la b_se b_re u_bk u_va u_su u_ce u_ho u_wy u_bt u_ps b_pt u_tg u_sn b_ip u_ic b_ah b_be b_me u_wd b_tr b_ld u_st b_wn u_id)), (b_tp, (arI G 400 v_tp)), (b_nl, (arI G 96 v_nl)), (b_op, (arI G 400 v_op)), (b_ar, (arI G 400 v_ar)), (b_pi, (arI G 400 v_pi)), (b_pa, (arI G 400 v_pa)), (b_ws, (arJ G 8 v_ws)), (b_hw, (arJ G 4 v_hw))])) ∨ (∃ (o_fr : Int32) (o_to : Int32) (o_so : Int32) (o_wo : Int64) (o_fa : Int32) (o_bd : Int32) (o_nc : Int32) (o_co : Int32) (o_le : Int32) (o_pd : Int32) (o_od : Int32) (o_nl : Nat → Int32) (o_op : Nat → Int32) (o_ar : Nat → Int32) (o_pi : Nat → Int32) (o_pa : Nat → Int32), (0 ≤ o_fr.toInt ∧ o_fr.toInt ≤ 400) ∧ (0 ≤ o_to.toInt ∧ o_to.toInt ≤ 400) ∧ (0 ≤ o_bd.toInt ∧ o_bd.toInt ≤ 1) ∧ (0 ≤ o_nc.toInt ∧ o_nc.toInt ≤ 12) ∧ (0 ≤ o_co.toInt ∧ o_co.toInt ≤ 400) ∧ (0 ≤ o_pd.toInt ∧ o_pd.toInt ≤ 400) ∧ (u_fr.toInt ≤ o_fr.toInt ∧ o_fr.toInt ≤ o_to.toInt ∧ o_to.toInt ≤ u_td.toInt) ∧ (TKs o_so.toInt o_fr.toInt o_to.toInt) ∧ (o_co.toInt ≤ o_fr.toInt) ∧ (o_bd.toInt = 0 → LWJ o_nl o_op o_ar o_nc.toInt o_co.toInt) ∧ (u = [(b_o, (oc12 u_th u_sa b_rf b_ro b_im b_ke u_fd b_tp u_td o_fr o_to o_so o_wo o_fa o_bd o_nc b_nl o_co b_op b_ar o_le b_pi b_pa o_pd o_od b_ws b_hw u_la b_se b_re u_bk u_va u_su u_ce u_ho u_wy u_bt u_ps b_pt u_tg u_sn b_ip u_ic b_ah b_be b_me u_wd b_tr b_ld u_st b_wn u_id)), (b_tp, (arI G 400 v_tp)), (b_nl, (arI G 96 o_nl)), (b_op, (arI G 400 o_op)), (b_ar, (arI G 400 o_ar)), (b_pi, (arI G 400 o_pi)), (b_pa, (arI G 400 o_pa)), (b_ws, (arJ G 8 v_ws)), (b_hw, (arJ G 4 v_hw))]))) (g5_B G (va_A [(b_o, (oc12 u_th u_sa b_rf b_ro b_im b_ke u_fd b_tp u_td u_fr u_to u_so u_wo u_fa u_bd u_nc b_nl u_co b_op b_ar u_le b_pi b_pa u_pd u_od b_ws b_hw u_la b_se b_re u_bk u_va u_su u_ce u_ho u_wy u_bt u_ps b_pt u_tg u_sn b_ip u_ic b_ah b_be b_me u_wd b_tr b_ld u_st b_wn u_id)), (b_tp, (arI G 400 v_tp)), (b_nl, (arI G 96 v_nl)), (b_op, (arI G 400 v_op)), (b_ar, (arI G 400 v_ar)), (b_pi, (arI G 400 v_pi)), (b_pa, (arI G 400 v_pa)), (b_ws, (arJ G 8 v_ws)), (b_hw, (arJ G 4 v_hw))] sz)) (va_A [(b_o, (oc12 u_th u_sa b_rf b_ro b_im b_ke u_fd b_tp u_td u_fr u_to u_so u_wo u_fa u_bd u_nc b_nl u_co b_op b_ar u_le b_pi b_pa u_pd u_od b_ws b_hw u_la b_se b_re u_bk u_va u_su u_ce u_ho u_wy u_bt u_ps b_pt u_tg u_sn b_ip u_ic b_ah b_be b_me u_wd b_tr b_ld u_st b_wn u_id)), (b_tp, (arI G 400 v_tp)), (b_nl, (arI G 96 v_nl)), (b_op, (arI G 400 v_op)), (b_ar, (arI G 400 v_ar)), (b_pi, (arI G 400 v_pi)), (b_pa, (arI G 400 v_pa)), (b_ws, (arJ G 8 v_ws)), (b_hw, (arJ G 4 v_hw))] sz)) 0 0 (va_A [(b_o, (oc12 u_th u_sa b_rf b_ro b_im b_ke u_fd b_tp u_td u_fr u_to u_so u_wo u_fa u_bd u_nc b_nl u_co b_op b_ar u_le b_pi b_pa u_pd u_od b_ws b_hw u_la b_se b_re u_bk u_va u_su u_ce u_ho u_wy u_bt u_ps b_pt u_tg u_sn b_ip u_ic b_ah b_be b_me u_wd b_tr b_ld u_st b_wn u_id)), (b_tp, (arI G 400 v_tp)), (b_nl, (arI G 96 v_nl)), (b_op, (arI G 400 v_op)), (b_ar, (arI G 400 v_ar)), (b_pi, (arI G 400 v_pi)), (b_pa, (arI G 400 v_pa)), (b_ws, (arJ G 8 v_ws)), (b_hw, (arJ G 4 v_hw))] sz) := by
  refine Met.ofW (cc := cX12_readClause) (maxL := 4) (ret := none) (by decide) rfl ?_
  intro p e s m args below meth c s₁ B hml hv
  obtain ⟨rfl, hsz, hP, hK, hD0, hN, hT⟩ := hv
  have hx := B.exec
  have hb := B.bytes
  have hr := B.returns
  have hts : ∀ w ∈ tblG, w.before _ s = true := fun w h => atoms_spec (ws := (wsG yX12_readClause cX12_readClause 4 none)) B.pre w (List.mem_cons_of_mem _ h)
  have hown : s.vm.findClass RX12 = some m.cls := findClass_of_methodNamed B.named
  have hlocks := B.notSynchronized
  subst hsz
  have hD := hD0.self (sz := s.heap.size)
  generalize hAe : va_A [(b_o, (oc12 u_th u_sa b_rf b_ro b_im b_ke u_fd b_tp u_td u_fr u_to u_so u_wo u_fa u_bd u_nc b_nl u_co b_op b_ar u_le b_pi b_pa u_pd u_od b_ws b_hw u_la b_se b_re u_bk u_va u_su u_ce u_ho u_wy u_bt u_ps b_pt u_tg u_sn b_ip u_ic b_ah b_be b_me u_wd b_tr b_ld u_st b_wn u_id)), (b_tp, (arI G 400 v_tp)), (b_nl, (arI G 96 v_nl)), (b_op, (arI G 400 v_op)), (b_ar, (arI G 400 v_ar)), (b_pi, (arI G 400 v_pi)), (b_pa, (arI G 400 v_pa)), (b_ws, (arJ G 8 v_ws)), (b_hw, (arJ G 4 v_hw))] s.heap.size = A at hD hT ⊢
  have hA : ∀ q : Nat, s.heap.size ≤ q → A q := fun q h => by rw [← hAe]; exact Or.inr h
  have hS : va_S A s.heap s.heap [] := va_S.rf
  have hP : va_P G.1 vwCl [(b_o, (oc12 u_th u_sa b_rf b_ro b_im b_ke u_fd b_tp u_td u_fr u_to u_so u_wo u_fa u_bd u_nc b_nl u_co b_op b_ar u_le b_pi b_pa u_pd u_od b_ws b_hw u_la b_se b_re u_bk u_va u_su u_ce u_ho u_wy u_bt u_ps b_pt u_tg u_sn b_ip u_ic b_ah b_be b_me u_wd b_tr b_ld u_st b_wn u_id)), (b_tp, (arI G 400 v_tp)), (b_nl, (arI G 96 v_nl)), (b_op, (arI G 400 v_op)), (b_ar, (arI G 400 v_ar)), (b_pi, (arI G 400 v_pi)), (b_pa, (arI G 400 v_pa)), (b_ws, (arJ G 8 v_ws)), (b_hw, (arJ G 4 v_hw))] s.heap := hP
  have hl := lv_entry ([.ref b_o]) (n := 4) (Nat.le_of_ble_eq_true rfl)
  rw [lg_entry_eq]
  generalize (lg_sl ([.ref b_o]) ++ List.replicate (4 - (lg_sl ([.ref b_o])).length) Slot.unset).toArray = ls at hl ⊢
  have hl : lv_has ls 4 [(0, .ref b_o)] := hl
  refine lv_iconst (v := (-1)) hx hb dX12_readClause_0 (by decide) ?_
  refine lv_istore_n (lv' := [(1, .int (-1)), (0, .ref b_o)]) hx hb dX12_readClause_1 rfl hl (by decide) rfl (fun ls hl => ?_)
  refine lv_iconst (v := 0) hx hb dX12_readClause_2 (by decide) ?_
  refine lv_istore_n (lv' := [(2, .int 0), (1, .int (-1)), (0, .ref b_o)]) hx hb dX12_readClause_3 rfl hl (by decide) rfl (fun ls hl => ?_)
  refine g5_loop (α := (Int32) × (Int32)) (fun (q : (Int32) × (Int32)) (ls : Array Slot) (H : Heap) (locs : List Loc) => match q with | (k4_2, k4_1) => lv_has ls 4 [(1, .int k4_1), (2, .int k4_2), (0, .ref b_o)] ∧ va_P G.1 vwCl [(b_o, (oc12 u_th u_sa b_rf b_ro b_im b_ke u_fd b_tp u_td u_fr u_to u_so u_wo u_fa u_bd u_nc b_nl u_co b_op b_ar u_le b_pi b_pa u_pd u_od b_ws b_hw u_la b_se b_re u_bk u_va u_su u_ce u_ho u_wy u_bt u_ps b_pt u_tg u_sn b_ip u_ic b_ah b_be b_me u_wd b_tr b_ld u_st b_wn u_id)), (b_tp, (arI G 400 v_tp)), (b_nl, (arI G 96 v_nl)), (b_op, (arI G 400 v_op)), (b_ar, (arI G 400 v_ar)), (b_pi, (arI G 400 v_pi)), (b_pa, (arI G 400 v_pa)), (b_ws, (arJ G 8 v_ws)), (b_hw, (arJ G 4 v_hw))] H ∧ va_D A [(b_o, (oc12 u_th u_sa b_rf b_ro b_im b_ke u_fd b_tp u_td u_fr u_to u_so u_wo u_fa u_bd u_nc b_nl u_co b_op b_ar u_le b_pi b_pa u_pd u_od b_ws b_hw u_la b_se b_re u_bk u_va u_su u_ce u_ho u_wy u_bt u_ps b_pt u_tg u_sn b_ip u_ic b_ah b_be b_me u_wd b_tr b_ld u_st b_wn u_id)), (b_tp, (arI G 400 v_tp)), (b_nl, (arI G 96 v_nl)), (b_op, (arI G 400 v_op)), (b_ar, (arI G 400 v_ar)), (b_pi, (arI G 400 v_pi)), (b_pa, (arI G 400 v_pa)), (b_ws, (arJ G 8 v_ws)), (b_hw, (arJ G 4 v_hw))] ∧ va_S A s.heap H locs ∧ (0 ≤ k4_2.toInt ∧ k4_2.toInt ≤ 4) ∧ ((-1) ≤ k4_1.toInt ∧ k4_1.toInt ≤ 3) ∧ (k4_1.toInt = -1 ∨ u_so.toInt = 1)) (fun (q : (Int32) × (Int32)) => match q with | (k4_2, k4_1) => Int.toNat (4 - k4_2.toInt)) (0, (-1)) ⟨lv_sub hl [1, 0, 2] rfl, hP, hD, hS, ⟨by decide, by decide⟩, ⟨by decide, by decide⟩, Or.inl (by decide)⟩ ?_
  rintro ⟨k4_2, k4_1⟩ ls H locs ⟨hl, hP, hD, hS, i_1, i_2, i_3⟩ ih_4_4
  have hl : lv_has ls 4 [(1, .int k4_1), (2, .int k4_2), (0, .ref b_o)] := hl
  have i_1 : 0 ≤ k4_2.toInt ∧ k4_2.toInt ≤ 4 := i_1
  have i_2 : (-1) ≤ k4_1.toInt ∧ k4_1.toInt ≤ 3 := i_2
  have i_3 : k4_1.toInt = -1 ∨ u_so.toInt = 1 := i_3
  refine g5_rs [(b_o, (oc12 u_th u_sa b_rf b_ro b_im b_ke u_fd b_tp u_td u_fr u_to u_so u_wo u_fa u_bd u_nc b_nl u_co b_op b_ar u_le b_pi b_pa u_pd u_od b_ws b_hw u_la b_se b_re u_bk u_va u_su u_ce u_ho u_wy u_bt u_ps b_pt u_tg u_sn b_ip u_ic b_ah b_be b_me u_wd b_tr b_ld u_st b_wn u_id)), (b_tp, (arI G 400 v_tp)), (b_nl, (arI G 96 v_nl)), (b_op, (arI G 400 v_op)), (b_ar, (arI G 400 v_ar)), (b_pi, (arI G 400 v_pi)), (b_pa, (arI G 400 v_pa)), (b_ws, (arJ G 8 v_ws)), (b_hw, (arJ G 4 v_hw))] hP hD (fun hP hD => ?_)
  refine lv_iload_n hx hb dX12_readClause_4 rfl (lv_at hl 1 rfl) ?_
  refine lv_iconst (v := 4) hx hb dX12_readClause_5 (by decide) ?_
  refine lv_icmp_ge (tgt := 34) hx hb dX12_readClause_6 (by decide) (fun c_5 => ?_) (fun c_5 => ?_)
  ·
    have i_5 : k4_2.toInt ≥ 4 := by have z := g5_ge (a := k4_2.toInt) (b := 4) (by rfl) (by decide) c_5; omega
    refine lv_aload_n hx hb dX12_readClause_34 rfl (lv_at hl 2 rfl) ?_
    refine lv_iload_n hx hb dX12_readClause_35 rfl (lv_at hl 0 rfl) ?_
    refine lv_iconst (v := (-1)) hx hb dX12_readClause_36 (by decide) ?_
    refine lv_icmp_eq (tgt := 53) hx hb dX12_readClause_37 (by decide) (fun c_6 => ?_) (fun c_6 => ?_)
    ·
      have i_6 : k4_1.toInt = (-1) := by have z := g5_eq (a := k4_1.toInt) (b := (-1)) (by rfl) (by decide) c_6; omega
      refine lv_iconst (v := 0) hx hb dX12_readClause_53 (by decide) ?_
      obtain ⟨hPc, hDc, hFc⟩ := g5_sub3 (wc := [(b_o, (oc12 u_th u_sa b_rf b_ro b_im b_ke u_fd b_tp u_td u_fr u_to u_so u_wo u_fa u_bd u_nc b_nl u_co b_op b_ar u_le b_pi b_pa u_pd u_od b_ws b_hw u_la b_se b_re u_bk u_va u_su u_ce u_ho u_wy u_bt u_ps b_pt u_tg u_sn b_ip u_ic b_ah b_be b_me u_wd b_tr b_ld u_st b_wn u_id)), (b_tp, (arI G 400 v_tp))]) hP hD hS hA [0, 1] (by decide) rfl
      refine va_callv (va_runV (As := [.int 0]) (rest := []) ⟨hx, hb, hml, hown, hts⟩ (n_must0 l G b_o b_tp b_rf b_ro b_im b_ke b_nl b_op b_ar b_pi b_pa b_ws b_hw b_se b_re b_pt b_ip b_ah b_be b_me b_tr b_ld b_wn H.size u_th u_sa u_fd u_td u_fr u_to u_so u_fa u_bd u_nc u_co u_le u_pd u_od u_la u_bk u_ce u_ho u_wy u_bt u_ps u_tg u_sn u_ic u_wd u_id u_wo u_va u_su u_st v_tp h_u_td h_u_fr h_u_to h_u_bd h_u_nc h_u_co h_u_pd h_u_la h_u_bk h_u_ce h_u_ho h_u_wy h_u_bt h_u_ps h_u_ic h_u_id) (cwV 1 hts gV_X12_233 rfl rfl rfl hv_X12_must ⟨Nat.le_of_ble_eq_true rfl, Nat.le_of_ble_eq_true rfl⟩) (g5_preV hPc hK hDc hN hT hS hFc (ci := 12) (q0 := 0) rfl rfl) rfl rfl hl.1 rfl (lv_room (Nat.le_of_ble_eq_true rfl)) dX12_readClause_54 ⟨Nat.le_of_ble_eq_true rfl, Nat.le_of_ble_eq_true rfl⟩) hS (fun q _ h => hFc q h) hFc (fun u t H1 locs ht hvm hw hB hz1 hk1 hS => ?_)
      obtain ⟨hP1, hD1⟩ := hB
      rw [ht] at hP1
      obtain rfl := hw
      obtain ⟨hP, hD⟩ := va_join (wr := [(b_nl, (arI G 96 v_nl)), (b_op, (arI G 400 v_op)), (b_ar, (arI G 400 v_ar)), (b_pi, (arI G 400 v_pi)), (b_pa, (arI G 400 v_pa)), (b_ws, (arJ G 8 v_ws)), (b_hw, (arJ G 4 v_hw))]) hP hD [0, 1] [2, 3, 4, 5, 6, 7, 8] rfl rfl (by decide) (by decide) hk1 hFc hP1 hD1
      generalize H1 = H at hP hS ⊢
      refine g5_rs [(b_nl, (arI G 96 v_nl)), (b_op, (arI G 400 v_op)), (b_ar, (arI G 400 v_ar)), (b_pi, (arI G 400 v_pi)), (b_pa, (arI G 400 v_pa)), (b_ws, (arJ G 8 v_ws)), (b_hw, (arJ G 4 v_hw)), (b_o, (oc12 u_th u_sa b_rf b_ro b_im b_ke u_fd b_tp u_td u_fr u_to u_so u_wo u_fr 1 u_nc b_nl u_co b_op b_ar u_le b_pi b_pa u_pd u_od b_ws b_hw u_la b_se b_re u_bk u_va u_su u_ce u_ho u_wy u_bt u_ps b_pt u_tg u_sn b_ip u_ic b_ah b_be b_me u_wd b_tr b_ld u_st b_wn u_id)), (b_tp, (arI G 400 v_tp))] hP hD (fun hP hD => ?_)
      refine lv_aload_n hx hb dX12_readClause_57 rfl (lv_at hl 2 rfl) ?_
      refine va_get (D := G.1) (ci := 12) (v := .int 1) (C := RX12) (T := TX12) (N := 52) hx hb hts inG_X12 hown hK hP 7 rfl rfl 14 (by decide) (hts _ fl_X12_205) (fun _ h9 => h9) rfl dX12_readClause_58 ?_
      refine lv_if_eq (tgt := 65) hx hb dX12_readClause_61 (by decide) (fun c_7 => ?_) (fun c_7 => ?_)
      ·
        exact absurd c_7 (by decide)
      ·
        exact W.vret hx hb hr (fun t ht hW => ⟨⟨[(b_o, (oc12 u_th u_sa b_rf b_ro b_im b_ke u_fd b_tp u_td u_fr u_to u_so u_wo u_fr 1 u_nc b_nl u_co b_op b_ar u_le b_pi b_pa u_pd u_od b_ws b_hw u_la b_se b_re u_bk u_va u_su u_ce u_ho u_wy u_bt u_ps b_pt u_tg u_sn b_ip u_ic b_ah b_be b_me u_wd b_tr b_ld u_st b_wn u_id)), (b_tp, (arI G 400 v_tp)), (b_nl, (arI G 96 v_nl)), (b_op, (arI G 400 v_op)), (b_ar, (arI G 400 v_ar)), (b_pi, (arI G 400 v_pi)), (b_pa, (arI G 400 v_pa)), (b_ws, (arJ G 8 v_ws)), (b_hw, (arJ G 4 v_hw))], rfl, Or.inl (rfl), by rw [ht]; exact hP.sub [7, 8, 0, 1, 2, 3, 4, 5, 6] rfl, hD.sub [7, 8, 0, 1, 2, 3, 4, 5, 6] (by decide) rfl⟩, hS.F ht⟩) hS.2.2 dX12_readClause_64
    ·
      have n_6 : gNe (k4_1.toInt) ((-1)) := by have z := g5_eqN (a := k4_1.toInt) (b := (-1)) (by rfl) (by decide) c_6; unfold gNe; omega
      have i_6 : k4_1.toInt ≥ 0 := by have z := g5_eqN (a := k4_1.toInt) (b := (-1)) (by rfl) (by decide) c_6; omega
      refine lv_aload_n hx hb dX12_readClause_40 rfl (lv_at hl 2 rfl) ?_
      refine va_get (D := G.1) (ci := 12) (v := .int u_nc) (C := RX12) (T := TX12) (N := 52) hx hb hts inG_X12 hown hK hP 0 rfl rfl 15 (by decide) (hts _ fl_X12_312) (fun _ h9 => h9) rfl dX12_readClause_41 ?_
      refine lv_bipush (v := 12) hx hb dX12_readClause_44 (by decide) ?_
      refine lv_icmp_ge (tgt := 53) hx hb dX12_readClause_46 (by decide) (fun c_8 => ?_) (fun c_8 => ?_)
      ·
        have i_8 : u_nc.toInt ≥ 12 := by have z := g5_ge (a := u_nc.toInt) (b := 12) (by rfl) (by decide) c_8; omega
        refine lv_iconst (v := 0) hx hb dX12_readClause_53 (by decide) ?_
        obtain ⟨hPc, hDc, hFc⟩ := g5_sub3 (wc := [(b_o, (oc12 u_th u_sa b_rf b_ro b_im b_ke u_fd b_tp u_td u_fr u_to u_so u_wo u_fa u_bd u_nc b_nl u_co b_op b_ar u_le b_pi b_pa u_pd u_od b_ws b_hw u_la b_se b_re u_bk u_va u_su u_ce u_ho u_wy u_bt u_ps b_pt u_tg u_sn b_ip u_ic b_ah b_be b_me u_wd b_tr b_ld u_st b_wn u_id)), (b_tp, (arI G 400 v_tp))]) hP hD hS hA [0, 1] (by decide) rfl
        refine va_callv (va_runV (As := [.int 0]) (rest := []) ⟨hx, hb, hml, hown, hts⟩ (n_must0 l G b_o b_tp b_rf b_ro b_im b_ke b_nl b_op b_ar b_pi b_pa b_ws b_hw b_se b_re b_pt b_ip b_ah b_be b_me b_tr b_ld b_wn H.size u_th u_sa u_fd u_td u_fr u_to u_so u_fa u_bd u_nc u_co u_le u_pd u_od u_la u_bk u_ce u_ho u_wy u_bt u_ps u_tg u_sn u_ic u_wd u_id u_wo u_va u_su u_st v_tp h_u_td h_u_fr h_u_to h_u_bd h_u_nc h_u_co h_u_pd h_u_la h_u_bk h_u_ce h_u_ho h_u_wy h_u_bt h_u_ps h_u_ic h_u_id) (cwV 1 hts gV_X12_233 rfl rfl rfl hv_X12_must ⟨Nat.le_of_ble_eq_true rfl, Nat.le_of_ble_eq_true rfl⟩) (g5_preV hPc hK hDc hN hT hS hFc (ci := 12) (q0 := 0) rfl rfl) rfl rfl hl.1 rfl (lv_room (Nat.le_of_ble_eq_true rfl)) dX12_readClause_54 ⟨Nat.le_of_ble_eq_true rfl, Nat.le_of_ble_eq_true rfl⟩) hS (fun q _ h => hFc q h) hFc (fun u t H1 locs ht hvm hw hB hz1 hk1 hS => ?_)
        obtain ⟨hP1, hD1⟩ := hB
        rw [ht] at hP1
        obtain rfl := hw
        obtain ⟨hP, hD⟩ := va_join (wr := [(b_nl, (arI G 96 v_nl)), (b_op, (arI G 400 v_op)), (b_ar, (arI G 400 v_ar)), (b_pi, (arI G 400 v_pi)), (b_pa, (arI G 400 v_pa)), (b_ws, (arJ G 8 v_ws)), (b_hw, (arJ G 4 v_hw))]) hP hD [0, 1] [2, 3, 4, 5, 6, 7, 8] rfl rfl (by decide) (by decide) hk1 hFc hP1 hD1
        generalize H1 = H at hP hS ⊢
        refine g5_rs [(b_nl, (arI G 96 v_nl)), (b_op, (arI G 400 v_op)), (b_ar, (arI G 400 v_ar)), (b_pi, (arI G 400 v_pi)), (b_pa, (arI G 400 v_pa)), (b_ws, (arJ G 8 v_ws)), (b_hw, (arJ G 4 v_hw)), (b_o, (oc12 u_th u_sa b_rf b_ro b_im b_ke u_fd b_tp u_td u_fr u_to u_so u_wo u_fr 1 u_nc b_nl u_co b_op b_ar u_le b_pi b_pa u_pd u_od b_ws b_hw u_la b_se b_re u_bk u_va u_su u_ce u_ho u_wy u_bt u_ps b_pt u_tg u_sn b_ip u_ic b_ah b_be b_me u_wd b_tr b_ld u_st b_wn u_id)), (b_tp, (arI G 400 v_tp))] hP hD (fun hP hD => ?_)
        refine lv_aload_n hx hb dX12_readClause_57 rfl (lv_at hl 2 rfl) ?_
        refine va_get (D := G.1) (ci := 12) (v := .int 1) (C := RX12) (T := TX12) (N := 52) hx hb hts inG_X12 hown hK hP 7 rfl rfl 14 (by decide) (hts _ fl_X12_205) (fun _ h9 => h9) rfl dX12_readClause_58 ?_
        refine lv_if_eq (tgt := 65) hx hb dX12_readClause_61 (by decide) (fun c_9 => ?_) (fun c_9 => ?_)
        ·
          exact absurd c_9 (by decide)
        ·
          exact W.vret hx hb hr (fun t ht hW => ⟨⟨[(b_o, (oc12 u_th u_sa b_rf b_ro b_im b_ke u_fd b_tp u_td u_fr u_to u_so u_wo u_fr 1 u_nc b_nl u_co b_op b_ar u_le b_pi b_pa u_pd u_od b_ws b_hw u_la b_se b_re u_bk u_va u_su u_ce u_ho u_wy u_bt u_ps b_pt u_tg u_sn b_ip u_ic b_ah b_be b_me u_wd b_tr b_ld u_st b_wn u_id)), (b_tp, (arI G 400 v_tp)), (b_nl, (arI G 96 v_nl)), (b_op, (arI G 400 v_op)), (b_ar, (arI G 400 v_ar)), (b_pi, (arI G 400 v_pi)), (b_pa, (arI G 400 v_pa)), (b_ws, (arJ G 8 v_ws)), (b_hw, (arJ G 4 v_hw))], rfl, Or.inl (rfl), by rw [ht]; exact hP.sub [7, 8, 0, 1, 2, 3, 4, 5, 6] rfl, hD.sub [7, 8, 0, 1, 2, 3, 4, 5, 6] (by decide) rfl⟩, hS.F ht⟩) hS.2.2 dX12_readClause_64
      ·
        have i_8 : u_nc.toInt < 12 := by have z := g5_geN (a := u_nc.toInt) (b := 12) (by rfl) (by decide) c_8; omega
        refine lv_iconst (v := 1) hx hb dX12_readClause_49 (by decide) ?_
        refine lv_goto (tgt := 54) hx hb dX12_readClause_50 (by decide) ?_
        have hlt9 : u_fr.toInt < u_to.toInt := tks_lt e_s (by omega)
        obtain ⟨hPc, hDc, hFc⟩ := g5_sub3 (wc := [(b_o, (oc12 u_th u_sa b_rf b_ro b_im b_ke u_fd b_tp u_td u_fr u_to u_so u_wo u_fa u_bd u_nc b_nl u_co b_op b_ar u_le b_pi b_pa u_pd u_od b_ws b_hw u_la b_se b_re u_bk u_va u_su u_ce u_ho u_wy u_bt u_ps b_pt u_tg u_sn b_ip u_ic b_ah b_be b_me u_wd b_tr b_ld u_st b_wn u_id)), (b_tp, (arI G 400 v_tp))]) hP hD hS hA [0, 1] (by decide) rfl
        refine va_callv (va_runV (As := [.int 1]) (rest := []) ⟨hx, hb, hml, hown, hts⟩ (n_must1 l G b_o b_tp b_rf b_ro b_im b_ke b_nl b_op b_ar b_pi b_pa b_ws b_hw b_se b_re b_pt b_ip b_ah b_be b_me b_tr b_ld b_wn H.size u_th u_sa u_fd u_td u_fr u_to u_so u_fa u_bd u_nc u_co u_le u_pd u_od u_la u_bk u_ce u_ho u_wy u_bt u_ps u_tg u_sn u_ic u_wd u_id u_wo u_va u_su u_st v_tp h_u_td h_u_fr h_u_to h_u_bd h_u_nc h_u_co h_u_pd h_u_la h_u_bk h_u_ce h_u_ho h_u_wy h_u_bt h_u_ps h_u_ic h_u_id (by omega)) (cwV 1 hts gV_X12_233 rfl rfl rfl hv_X12_must ⟨Nat.le_of_ble_eq_true rfl, Nat.le_of_ble_eq_true rfl⟩) (g5_preV hPc hK hDc hN hT hS hFc (ci := 12) (q0 := 0) rfl rfl) rfl rfl hl.1 rfl (lv_room (Nat.le_of_ble_eq_true rfl)) dX12_readClause_54 ⟨Nat.le_of_ble_eq_true rfl, Nat.le_of_ble_eq_true rfl⟩) hS (fun q _ h => hFc q h) hFc (fun u t H1 locs ht hvm hw hB hz1 hk1 hS => ?_)
        obtain ⟨hP1, hD1⟩ := hB
        rw [ht] at hP1
        obtain ⟨z14, z15, z16, z17, i_10, i_11, i_12, i_13, rfl⟩ := hw
        have i_10 : 0 ≤ z14.toInt ∧ z14.toInt ≤ 400 := i_10
        have i_11 : 0 ≤ z15.toInt ∧ z15.toInt ≤ 400 := i_11
        have i_12 : u_to.toInt ≤ z14.toInt ∧ z14.toInt ≤ z15.toInt ∧ z15.toInt ≤ u_td.toInt := i_12
        have i_13 : TKs z16.toInt z14.toInt z15.toInt := i_13
        obtain ⟨hP, hD⟩ := va_join (wr := [(b_nl, (arI G 96 v_nl)), (b_op, (arI G 400 v_op)), (b_ar, (arI G 400 v_ar)), (b_pi, (arI G 400 v_pi)), (b_pa, (arI G 400 v_pa)), (b_ws, (arJ G 8 v_ws)), (b_hw, (arJ G 4 v_hw))]) hP hD [0, 1] [2, 3, 4, 5, 6, 7, 8] rfl rfl (by decide) (by decide) hk1 hFc hP1 hD1
        generalize H1 = H at hP hS ⊢
        refine g5_rs [(b_nl, (arI G 96 v_nl)), (b_op, (arI G 400 v_op)), (b_ar, (arI G 400 v_ar)), (b_pi, (arI G 400 v_pi)), (b_pa, (arI G 400 v_pa)), (b_ws, (arJ G 8 v_ws)), (b_hw, (arJ G 4 v_hw)), (b_o, (oc12 u_th u_sa b_rf b_ro b_im b_ke u_fd b_tp u_td z14 z15 z16 z17 u_fa u_bd u_nc b_nl u_co b_op b_ar u_le b_pi b_pa u_pd u_od b_ws b_hw u_la b_se b_re u_bk u_va u_su u_ce u_ho u_wy u_bt u_ps b_pt u_tg u_sn b_ip u_ic b_ah b_be b_me u_wd b_tr b_ld u_st b_wn u_id)), (b_tp, (arI G 400 v_tp))] hP hD (fun hP hD => ?_)
        refine lv_aload_n hx hb dX12_readClause_57 rfl (lv_at hl 2 rfl) ?_
        refine va_get (D := G.1) (ci := 12) (v := .int u_bd) (C := RX12) (T := TX12) (N := 52) hx hb hts inG_X12 hown hK hP 7 rfl rfl 14 (by decide) (hts _ fl_X12_205) (fun _ h9 => h9) rfl dX12_readClause_58 ?_
        refine lv_if_eq (tgt := 65) hx hb dX12_readClause_61 (by decide) (fun c_18 => ?_) (fun c_18 => ?_)
        ·
          have i_18 : u_bd.toInt = 0 := by have z := g5_eq (a := u_bd.toInt) (b := 0) (by rfl) (by decide) c_18; omega
          refine lv_bipush (v := 8) hx hb dX12_readClause_65 (by decide) ?_
          refine lv_aload_n hx hb dX12_readClause_67 rfl (lv_at hl 2 rfl) ?_
          refine va_get (D := G.1) (ci := 12) (v := .int u_nc) (C := RX12) (T := TX12) (N := 52) hx hb hts inG_X12 hown hK hP 7 rfl rfl 15 (by decide) (hts _ fl_X12_312) (fun _ h9 => h9) rfl dX12_readClause_68 ?_
          refine lv_imul hx hb dX12_readClause_71 ?_
          have t_19 : (8 * u_nc).toInt = 8 * u_nc.toInt := g5_imul (a := 8) (b := u_nc.toInt) (by decide) (by rfl) (by omega) (by omega)
          refine lv_istore_n (lv' := [(2, .int (8 * u_nc)), (1, .int k4_1), (0, .ref b_o)]) hx hb dX12_readClause_72 rfl hl (by decide) rfl (fun ls hl => ?_)
          refine lv_iconst (v := 0) hx hb dX12_readClause_73 (by decide) ?_
          refine lv_istore_n (lv' := [(3, .int 0), (2, .int (8 * u_nc)), (1, .int k4_1), (0, .ref b_o)]) hx hb dX12_readClause_74 rfl hl (by decide) rfl (fun ls hl => ?_)
          refine g5_loop (α := (Int32) × (Nat → Int32)) (fun (q : (Int32) × (Nat → Int32)) (ls : Array Slot) (H : Heap) (locs : List Loc) => match q with | (k75_3, k75_nl) => lv_has ls 4 [(3, .int k75_3), (2, .int (8 * u_nc)), (1, .int k4_1), (0, .ref b_o)] ∧ va_P G.1 vwCl [(b_nl, (arI G 96 k75_nl)), (b_op, (arI G 400 v_op)), (b_ar, (arI G 400 v_ar)), (b_pi, (arI G 400 v_pi)), (b_pa, (arI G 400 v_pa)), (b_ws, (arJ G 8 v_ws)), (b_hw, (arJ G 4 v_hw)), (b_o, (oc12 u_th u_sa b_rf b_ro b_im b_ke u_fd b_tp u_td z14 z15 z16 z17 u_fa u_bd u_nc b_nl u_co b_op b_ar u_le b_pi b_pa u_pd u_od b_ws b_hw u_la b_se b_re u_bk u_va u_su u_ce u_ho u_wy u_bt u_ps b_pt u_tg u_sn b_ip u_ic b_ah b_be b_me u_wd b_tr b_ld u_st b_wn u_id)), (b_tp, (arI G 400 v_tp))] H ∧ va_D A [(b_nl, (arI G 96 k75_nl)), (b_op, (arI G 400 v_op)), (b_ar, (arI G 400 v_ar)), (b_pi, (arI G 400 v_pi)), (b_pa, (arI G 400 v_pa)), (b_ws, (arJ G 8 v_ws)), (b_hw, (arJ G 4 v_hw)), (b_o, (oc12 u_th u_sa b_rf b_ro b_im b_ke u_fd b_tp u_td z14 z15 z16 z17 u_fa u_bd u_nc b_nl u_co b_op b_ar u_le b_pi b_pa u_pd u_od b_ws b_hw u_la b_se b_re u_bk u_va u_su u_ce u_ho u_wy u_bt u_ps b_pt u_tg u_sn b_ip u_ic b_ah b_be b_me u_wd b_tr b_ld u_st b_wn u_id)), (b_tp, (arI G 400 v_tp))] ∧ va_S A s.heap H locs ∧ (0 ≤ k75_3.toInt ∧ k75_3.toInt ≤ 8) ∧ (∀ j : Nat, (j : Int) < 8 * u_nc.toInt → k75_nl j = v_nl j)) (fun (q : (Int32) × (Nat → Int32)) => match q with | (k75_3, k75_nl) => Int.toNat (8 - k75_3.toInt)) (0, v_nl) ⟨lv_sub hl [0, 1, 2, 3] rfl, hP, hD, hS, ⟨by decide, by decide⟩, fun _ _ => rfl⟩ ?_
          rintro ⟨k75_3, k75_nl⟩ ls H locs ⟨hl, hP, hD, hS, i_20, i_21⟩ ih_75_22
          have hl : lv_has ls 4 [(3, .int k75_3), (2, .int (8 * u_nc)), (1, .int k4_1), (0, .ref b_o)] := hl
          have i_20 : 0 ≤ k75_3.toInt ∧ k75_3.toInt ≤ 8 := i_20
          have i_21 : ∀ j : Nat, (j : Int) < 8 * u_nc.toInt → k75_nl j = v_nl j := i_21
          refine g5_rs [(b_nl, (arI G 96 k75_nl)), (b_op, (arI G 400 v_op)), (b_ar, (arI G 400 v_ar)), (b_pi, (arI G 400 v_pi)), (b_pa, (arI G 400 v_pa)), (b_ws, (arJ G 8 v_ws)), (b_hw, (arJ G 4 v_hw)), (b_o, (oc12 u_th u_sa b_rf b_ro b_im b_ke u_fd b_tp u_td z14 z15 z16 z17 u_fa u_bd u_nc b_nl u_co b_op b_ar u_le b_pi b_pa u_pd u_od b_ws b_hw u_la b_se b_re u_bk u_va u_su u_ce u_ho u_wy u_bt u_ps b_pt u_tg u_sn b_ip u_ic b_ah b_be b_me u_wd b_tr b_ld u_st b_wn u_id)), (b_tp, (arI G 400 v_tp))] hP hD (fun hP hD => ?_)
          refine lv_iload_n hx hb dX12_readClause_75 rfl (lv_at hl 0 rfl) ?_
          refine lv_bipush (v := 8) hx hb dX12_readClause_76 (by decide) ?_
          refine lv_icmp_ge (tgt := 96) hx hb dX12_readClause_78 (by decide) (fun c_23 => ?_) (fun c_23 => ?_)
          ·
            have i_23 : k75_3.toInt ≥ 8 := by have z := g5_ge (a := k75_3.toInt) (b := 8) (by rfl) (by decide) c_23; omega
            refine lv_aload_n hx hb dX12_readClause_96 rfl (lv_at hl 3 rfl) ?_
            refine va_get (D := G.1) (ci := 12) (v := .ref b_nl) (C := RX12) (T := TX12) (N := 52) hx hb hts inG_X12 hown hK hP 7 rfl rfl 16 (by decide) (hts _ fl_X12_30) (fun _ h9 => h9) rfl dX12_readClause_97 ?_
            refine lv_iload_n hx hb dX12_readClause_100 rfl (lv_at hl 1 rfl) ?_
            refine lv_iload_n hx hb dX12_readClause_101 rfl (lv_at hl 2 rfl) ?_
            refine va_iast hx hb hK hP hD hS 0 0 rfl rfl (i := (8 * u_nc)) (x := k4_1) (vp_in_iff.mpr ⟨by omega, by omega⟩) dX12_readClause_102 (fun H locs hP hD hS => ?_)
            refine g5_rs [(b_nl, (arI G 96 (upd k75_nl (8 * u_nc).toNatClampNeg k4_1))), (b_op, (arI G 400 v_op)), (b_ar, (arI G 400 v_ar)), (b_pi, (arI G 400 v_pi)), (b_pa, (arI G 400 v_pa)), (b_ws, (arJ G 8 v_ws)), (b_hw, (arJ G 4 v_hw)), (b_o, (oc12 u_th u_sa b_rf b_ro b_im b_ke u_fd b_tp u_td z14 z15 z16 z17 u_fa u_bd u_nc b_nl u_co b_op b_ar u_le b_pi b_pa u_pd u_od b_ws b_hw u_la b_se b_re u_bk u_va u_su u_ce u_ho u_wy u_bt u_ps b_pt u_tg u_sn b_ip u_ic b_ah b_be b_me u_wd b_tr b_ld u_st b_wn u_id)), (b_tp, (arI G 400 v_tp))] hP hD (fun hP hD => ?_)
            refine lv_aload_n hx hb dX12_readClause_103 rfl (lv_at hl 3 rfl) ?_
            refine lv_dup hx hb dX12_readClause_104 rfl ?_
            refine va_get (D := G.1) (ci := 12) (v := .int u_nc) (C := RX12) (T := TX12) (N := 52) hx hb hts inG_X12 hown hK hP 7 rfl rfl 15 (by decide) (hts _ fl_X12_312) (fun _ h9 => h9) rfl dX12_readClause_105 ?_
            refine lv_iconst (v := 1) hx hb dX12_readClause_108 (by decide) ?_
            refine lv_iadd hx hb dX12_readClause_109 ?_
            have t_24 : (u_nc + 1).toInt = u_nc.toInt + 1 := g5_iadd (a := u_nc.toInt) (b := 1) (by rfl) (by decide) (by omega) (by omega)
            refine va_put (D := G.1) (ci := 12) (v := .int (u_nc + 1)) (ty := .int) (C := RX12) (T := TX12) (N := 52) hx hb hts inG_X12 tyX12 tyX12_ok nmX12 hown hK hP hD hS 7 rfl rfl 15 (by decide) (hts _ fl_X12_312) (fun _ h9 => h9) rfl (by decide +kernel) rfl rfl (Nat.le_of_ble_eq_true rfl) dX12_readClause_110 (fun H locs hP hD hS => ?_)
            refine g5_rs [(b_nl, (arI G 96 (upd k75_nl (8 * u_nc).toNatClampNeg k4_1))), (b_op, (arI G 400 v_op)), (b_ar, (arI G 400 v_ar)), (b_pi, (arI G 400 v_pi)), (b_pa, (arI G 400 v_pa)), (b_ws, (arJ G 8 v_ws)), (b_hw, (arJ G 4 v_hw)), (b_o, (oc12 u_th u_sa b_rf b_ro b_im b_ke u_fd b_tp u_td z14 z15 z16 z17 u_fa u_bd (u_nc + 1) b_nl u_co b_op b_ar u_le b_pi b_pa u_pd u_od b_ws b_hw u_la b_se b_re u_bk u_va u_su u_ce u_ho u_wy u_bt u_ps b_pt u_tg u_sn b_ip u_ic b_ah b_be b_me u_wd b_tr b_ld u_st b_wn u_id)), (b_tp, (arI G 400 v_tp))] hP hD (fun hP hD => ?_)
            refine lv_aload_n hx hb dX12_readClause_113 rfl (lv_at hl 3 rfl) ?_
            refine va_get (D := G.1) (ci := 12) (v := .ref b_nl) (C := RX12) (T := TX12) (N := 52) hx hb hts inG_X12 hown hK hP 7 rfl rfl 16 (by decide) (hts _ fl_X12_30) (fun _ h9 => h9) rfl dX12_readClause_114 ?_
            refine lv_iload_n hx hb dX12_readClause_117 rfl (lv_at hl 1 rfl) ?_
            refine lv_iconst (v := 3) hx hb dX12_readClause_118 (by decide) ?_
            refine lv_iadd hx hb dX12_readClause_119 ?_
            have t_25 : ((8 * u_nc) + 3).toInt = (8 * u_nc).toInt + 3 := g5_iadd (a := (8 * u_nc).toInt) (b := 3) (by rfl) (by decide) (by omega) (by omega)
            refine lv_aload_n hx hb dX12_readClause_120 rfl (lv_at hl 3 rfl) ?_
            refine va_get (D := G.1) (ci := 12) (v := .int u_co) (C := RX12) (T := TX12) (N := 52) hx hb hts inG_X12 hown hK hP 7 rfl rfl 17 (by decide) (hts _ fl_X12_237) (fun _ h9 => h9) rfl dX12_readClause_121 ?_
            refine va_iast hx hb hK hP hD hS 0 0 rfl rfl (i := ((8 * u_nc) + 3)) (x := u_co) (vp_in_iff.mpr ⟨by omega, by omega⟩) dX12_readClause_124 (fun H locs hP hD hS => ?_)
            refine g5_rs [(b_nl, (arI G 96 (upd (upd k75_nl (8 * u_nc).toNatClampNeg k4_1) ((8 * u_nc) + 3).toNatClampNeg u_co))), (b_op, (arI G 400 v_op)), (b_ar, (arI G 400 v_ar)), (b_pi, (arI G 400 v_pi)), (b_pa, (arI G 400 v_pa)), (b_ws, (arJ G 8 v_ws)), (b_hw, (arJ G 4 v_hw)), (b_o, (oc12 u_th u_sa b_rf b_ro b_im b_ke u_fd b_tp u_td z14 z15 z16 z17 u_fa u_bd (u_nc + 1) b_nl u_co b_op b_ar u_le b_pi b_pa u_pd u_od b_ws b_hw u_la b_se b_re u_bk u_va u_su u_ce u_ho u_wy u_bt u_ps b_pt u_tg u_sn b_ip u_ic b_ah b_be b_me u_wd b_tr b_ld u_st b_wn u_id)), (b_tp, (arI G 400 v_tp))] hP hD (fun hP hD => ?_)
            refine lv_iload_n hx hb dX12_readClause_125 rfl (lv_at hl 2 rfl) ?_
            refine lv_iconst (v := 2) hx hb dX12_readClause_126 (by decide) ?_
            refine lv_icmp_ge (tgt := 135) hx hb dX12_readClause_127 (by decide) (fun c_26 => ?_) (fun c_26 => ?_)
            ·
              have i_26 : k4_1.toInt ≥ 2 := by have z := g5_ge (a := k4_1.toInt) (b := 2) (by rfl) (by decide) c_26; omega
              refine lv_aload_n hx hb dX12_readClause_135 rfl (lv_at hl 3 rfl) ?_
              refine va_get (D := G.1) (ci := 12) (v := .ref b_nl) (C := RX12) (T := TX12) (N := 52) hx hb hts inG_X12 hown hK hP 7 rfl rfl 16 (by decide) (hts _ fl_X12_30) (fun _ h9 => h9) rfl dX12_readClause_136 ?_
              refine lv_iload_n hx hb dX12_readClause_139 rfl (lv_at hl 1 rfl) ?_
              refine lv_iconst (v := 4) hx hb dX12_readClause_140 (by decide) ?_
              refine lv_iadd hx hb dX12_readClause_141 ?_
              have t_27 : ((8 * u_nc) + 4).toInt = (8 * u_nc).toInt + 4 := g5_iadd (a := (8 * u_nc).toInt) (b := 4) (by rfl) (by decide) (by omega) (by omega)
              refine lv_aload_n hx hb dX12_readClause_142 rfl (lv_at hl 3 rfl) ?_
              refine va_get (D := G.1) (ci := 12) (v := .int u_co) (C := RX12) (T := TX12) (N := 52) hx hb hts inG_X12 hown hK hP 7 rfl rfl 17 (by decide) (hts _ fl_X12_237) (fun _ h9 => h9) rfl dX12_readClause_143 ?_
              refine va_iast hx hb hK hP hD hS 0 0 rfl rfl (i := ((8 * u_nc) + 4)) (x := u_co) (vp_in_iff.mpr ⟨by omega, by omega⟩) dX12_readClause_146 (fun H locs hP hD hS => ?_)
              refine g5_rs [(b_nl, (arI G 96 (upd (upd (upd k75_nl (8 * u_nc).toNatClampNeg k4_1) ((8 * u_nc) + 3).toNatClampNeg u_co) ((8 * u_nc) + 4).toNatClampNeg u_co))), (b_op, (arI G 400 v_op)), (b_ar, (arI G 400 v_ar)), (b_pi, (arI G 400 v_pi)), (b_pa, (arI G 400 v_pa)), (b_ws, (arJ G 8 v_ws)), (b_hw, (arJ G 4 v_hw)), (b_o, (oc12 u_th u_sa b_rf b_ro b_im b_ke u_fd b_tp u_td z14 z15 z16 z17 u_fa u_bd (u_nc + 1) b_nl u_co b_op b_ar u_le b_pi b_pa u_pd u_od b_ws b_hw u_la b_se b_re u_bk u_va u_su u_ce u_ho u_wy u_bt u_ps b_pt u_tg u_sn b_ip u_ic b_ah b_be b_me u_wd b_tr b_ld u_st b_wn u_id)), (b_tp, (arI G 400 v_tp))] hP hD (fun hP hD => ?_)
              refine lv_aload_n hx hb dX12_readClause_147 rfl (lv_at hl 3 rfl) ?_
              refine va_get (D := G.1) (ci := 12) (v := .ref b_nl) (C := RX12) (T := TX12) (N := 52) hx hb hts inG_X12 hown hK hP 7 rfl rfl 16 (by decide) (hts _ fl_X12_30) (fun _ h9 => h9) rfl dX12_readClause_148 ?_
              refine lv_iload_n hx hb dX12_readClause_151 rfl (lv_at hl 1 rfl) ?_
              refine lv_iconst (v := 5) hx hb dX12_readClause_152 (by decide) ?_
              refine lv_iadd hx hb dX12_readClause_153 ?_
              have t_28 : ((8 * u_nc) + 5).toInt = (8 * u_nc).toInt + 5 := g5_iadd (a := (8 * u_nc).toInt) (b := 5) (by rfl) (by decide) (by omega) (by omega)
              refine lv_aload_n hx hb dX12_readClause_154 rfl (lv_at hl 3 rfl) ?_
              refine va_get (D := G.1) (ci := 12) (v := .int u_co) (C := RX12) (T := TX12) (N := 52) hx hb hts inG_X12 hown hK hP 7 rfl rfl 17 (by decide) (hts _ fl_X12_237) (fun _ h9 => h9) rfl dX12_readClause_155 ?_
              refine va_iast hx hb hK hP hD hS 0 0 rfl rfl (i := ((8 * u_nc) + 5)) (x := u_co) (vp_in_iff.mpr ⟨by omega, by omega⟩) dX12_readClause_158 (fun H locs hP hD hS => ?_)
              refine g5_rs [(b_nl, (arI G 96 (upd (upd (upd (upd k75_nl (8 * u_nc).toNatClampNeg k4_1) ((8 * u_nc) + 3).toNatClampNeg u_co) ((8 * u_nc) + 4).toNatClampNeg u_co) ((8 * u_nc) + 5).toNatClampNeg u_co))), (b_op, (arI G 400 v_op)), (b_ar, (arI G 400 v_ar)), (b_pi, (arI G 400 v_pi)), (b_pa, (arI G 400 v_pa)), (b_ws, (arJ G 8 v_ws)), (b_hw, (arJ G 4 v_hw)), (b_o, (oc12 u_th u_sa b_rf b_ro b_im b_ke u_fd b_tp u_td z14 z15 z16 z17 u_fa u_bd (u_nc + 1) b_nl u_co b_op b_ar u_le b_pi b_pa u_pd u_od b_ws b_hw u_la b_se b_re u_bk u_va u_su u_ce u_ho u_wy u_bt u_ps b_pt u_tg u_sn b_ip u_ic b_ah b_be b_me u_wd b_tr b_ld u_st b_wn u_id)), (b_tp, (arI G 400 v_tp))] hP hD (fun hP hD => ?_)
              refine lv_aload_n hx hb dX12_readClause_159 rfl (lv_at hl 3 rfl) ?_
              refine va_get (D := G.1) (ci := 12) (v := .int u_bd) (C := RX12) (T := TX12) (N := 52) hx hb hts inG_X12 hown hK hP 7 rfl rfl 14 (by decide) (hts _ fl_X12_205) (fun _ h9 => h9) rfl dX12_readClause_160 ?_
              refine lv_if_ne (tgt := 185) hx hb dX12_readClause_163 (by decide) (fun c_29 => ?_) (fun c_29 => ?_)
              ·
                have i_29 : u_bd.toInt ≠ 0 := by have z := g5_ne (a := u_bd.toInt) (b := 0) (by rfl) (by decide) c_29; omega
                omega
              ·
                have i_29 : u_bd.toInt = 0 := by have z := g5_neN (a := u_bd.toInt) (b := 0) (by rfl) (by decide) c_29; omega
                refine lv_aload_n hx hb dX12_readClause_166 rfl (lv_at hl 3 rfl) ?_
                refine lv_ldc2 (v := 294) hx hb hown (hts _ kl_X12_318) dX12_readClause_167 ?_
                obtain ⟨hPc, hDc, hFc⟩ := g5_sub3 (wc := [(b_o, (oc12 u_th u_sa b_rf b_ro b_im b_ke u_fd b_tp u_td z14 z15 z16 z17 u_fa u_bd (u_nc + 1) b_nl u_co b_op b_ar u_le b_pi b_pa u_pd u_od b_ws b_hw u_la b_se b_re u_bk u_va u_su u_ce u_ho u_wy u_bt u_ps b_pt u_tg u_sn b_ip u_ic b_ah b_be b_me u_wd b_tr b_ld u_st b_wn u_id))]) hP hD hS hA [7] (by decide) rfl
                refine va_calli (va_runV (As := [.long 294]) (rest := []) ⟨hx, hb, hml, hown, hts⟩ (n_isWord l G b_o b_rf b_ro b_im b_ke b_tp b_nl b_op b_ar b_pi b_pa b_ws b_hw b_se b_re b_pt b_ip b_ah b_be b_me b_tr b_ld b_wn H.size u_th u_sa u_fd u_td z14 z15 z16 u_fa u_bd (u_nc + 1) u_co u_le u_pd u_od u_la u_bk u_ce u_ho u_wy u_bt u_ps u_tg u_sn u_ic u_wd u_id z17 u_va u_su u_st 294 h_u_td i_10 i_11 ⟨by omega, by omega⟩ ⟨by omega, by omega⟩ h_u_co h_u_pd h_u_la h_u_bk h_u_ce h_u_ho h_u_wy h_u_bt h_u_ps h_u_ic h_u_id) (cwV 1 hts gV_X12_254 rfl rfl rfl hv_X12_isWord ⟨Nat.le_of_ble_eq_true rfl, Nat.le_of_ble_eq_true rfl⟩) (g5_preV hPc hK hDc hN hT hS hFc (ci := 12) (q0 := 0) rfl rfl) rfl rfl hl.1 rfl (lv_room (Nat.le_of_ble_eq_true rfl)) dX12_readClause_170 ⟨Nat.le_of_ble_eq_true rfl, Nat.le_of_ble_eq_true rfl⟩) hS (fun q _ h => hFc q h) hFc (fun r u t H1 locs ht hvm hw hB hz1 hk1 hS => ?_)
                obtain ⟨hP1, hD1⟩ := hB
                rw [ht] at hP1
                rcases hw with ⟨i_30, rfl, rfl⟩ | ⟨rfl, rfl⟩
                ·
                  have i_30 : z16.toInt = 1 := i_30
                  obtain ⟨hP, hD⟩ := va_join (wr := [(b_nl, (arI G 96 (upd (upd (upd (upd k75_nl (8 * u_nc).toNatClampNeg k4_1) ((8 * u_nc) + 3).toNatClampNeg u_co) ((8 * u_nc) + 4).toNatClampNeg u_co) ((8 * u_nc) + 5).toNatClampNeg u_co))), (b_op, (arI G 400 v_op)), (b_ar, (arI G 400 v_ar)), (b_pi, (arI G 400 v_pi)), (b_pa, (arI G 400 v_pa)), (b_ws, (arJ G 8 v_ws)), (b_hw, (arJ G 4 v_hw)), (b_tp, (arI G 400 v_tp))]) hP hD [7] [0, 1, 2, 3, 4, 5, 6, 8] rfl rfl (by decide) (by decide) hk1 hFc hP1 hD1
                  generalize H1 = H at hP hS ⊢
                  refine g5_rs [(b_nl, (arI G 96 (upd (upd (upd (upd k75_nl (8 * u_nc).toNatClampNeg k4_1) ((8 * u_nc) + 3).toNatClampNeg u_co) ((8 * u_nc) + 4).toNatClampNeg u_co) ((8 * u_nc) + 5).toNatClampNeg u_co))), (b_op, (arI G 400 v_op)), (b_ar, (arI G 400 v_ar)), (b_pi, (arI G 400 v_pi)), (b_pa, (arI G 400 v_pa)), (b_ws, (arJ G 8 v_ws)), (b_hw, (arJ G 4 v_hw)), (b_tp, (arI G 400 v_tp)), (b_o, (oc12 u_th u_sa b_rf b_ro b_im b_ke u_fd b_tp u_td z14 z15 z16 z17 u_fa u_bd (u_nc + 1) b_nl u_co b_op b_ar u_le b_pi b_pa u_pd u_od b_ws b_hw u_la b_se b_re u_bk u_va u_su u_ce u_ho u_wy u_bt u_ps b_pt u_tg u_sn b_ip u_ic b_ah b_be b_me u_wd b_tr b_ld u_st b_wn u_id))] hP hD (fun hP hD => ?_)
                  refine lv_if_eq (tgt := 185) hx hb dX12_readClause_173 (by decide) (fun c_31 => ?_) (fun c_31 => ?_)
                  ·
                    exact absurd c_31 (by decide)
                  ·
                    have hlt8 : z14.toInt < z15.toInt := tks_lt i_13 (by omega)
                    refine lv_aload_n hx hb dX12_readClause_176 rfl (lv_at hl 3 rfl) ?_
                    obtain ⟨hPc, hDc, hFc⟩ := g5_sub3 (wc := [(b_o, (oc12 u_th u_sa b_rf b_ro b_im b_ke u_fd b_tp u_td z14 z15 z16 z17 u_fa u_bd (u_nc + 1) b_nl u_co b_op b_ar u_le b_pi b_pa u_pd u_od b_ws b_hw u_la b_se b_re u_bk u_va u_su u_ce u_ho u_wy u_bt u_ps b_pt u_tg u_sn b_ip u_ic b_ah b_be b_me u_wd b_tr b_ld u_st b_wn u_id)), (b_tp, (arI G 400 v_tp))]) hP hD hS hA [8, 7] (by decide) rfl
                    refine va_callv (va_runV (As := []) (rest := []) ⟨hx, hb, hml, hown, hts⟩ (n_next l G b_o b_tp b_rf b_ro b_im b_ke b_nl b_op b_ar b_pi b_pa b_ws b_hw b_se b_re b_pt b_ip b_ah b_be b_me b_tr b_ld b_wn H.size u_th u_sa u_fd u_td z14 z15 z16 u_fa u_bd (u_nc + 1) u_co u_le u_pd u_od u_la u_bk u_ce u_ho u_wy u_bt u_ps u_tg u_sn u_ic u_wd u_id z17 u_va u_su u_st v_tp h_u_td i_10 i_11 ⟨by omega, by omega⟩ ⟨by omega, by omega⟩ h_u_co h_u_pd h_u_la h_u_bk h_u_ce h_u_ho h_u_wy h_u_bt h_u_ps h_u_ic h_u_id (by omega)) (cwV 0 hts gV_X12_208 rfl rfl rfl hv_X12_next ⟨Nat.le_of_ble_eq_true rfl, Nat.le_of_ble_eq_true rfl⟩) (g5_preV hPc hK hDc hN hT hS hFc (ci := 12) (q0 := 0) rfl rfl) rfl rfl hl.1 rfl (lv_room (Nat.le_of_ble_eq_true rfl)) dX12_readClause_177 ⟨Nat.le_of_ble_eq_true rfl, Nat.le_of_ble_eq_true rfl⟩) hS (fun q _ h => hFc q h) hFc (fun u t H1 locs ht hvm hw hB hz1 hk1 hS => ?_)
                    obtain ⟨hP1, hD1⟩ := hB
                    rw [ht] at hP1
                    obtain ⟨z36, z37, z38, z39, i_32, i_33, i_34, i_35, rfl⟩ := hw
                    have i_32 : 0 ≤ z36.toInt ∧ z36.toInt ≤ 400 := i_32
                    have i_33 : 0 ≤ z37.toInt ∧ z37.toInt ≤ 400 := i_33
                    have i_34 : z15.toInt ≤ z36.toInt ∧ z36.toInt ≤ z37.toInt ∧ z37.toInt ≤ u_td.toInt := i_34
                    have i_35 : TKs z38.toInt z36.toInt z37.toInt := i_35
                    obtain ⟨hP, hD⟩ := va_join (wr := [(b_nl, (arI G 96 (upd (upd (upd (upd k75_nl (8 * u_nc).toNatClampNeg k4_1) ((8 * u_nc) + 3).toNatClampNeg u_co) ((8 * u_nc) + 4).toNatClampNeg u_co) ((8 * u_nc) + 5).toNatClampNeg u_co))), (b_op, (arI G 400 v_op)), (b_ar, (arI G 400 v_ar)), (b_pi, (arI G 400 v_pi)), (b_pa, (arI G 400 v_pa)), (b_ws, (arJ G 8 v_ws)), (b_hw, (arJ G 4 v_hw))]) hP hD [8, 7] [0, 1, 2, 3, 4, 5, 6] rfl rfl (by decide) (by decide) hk1 hFc hP1 hD1
                    generalize H1 = H at hP hS ⊢
                    refine g5_rs [(b_nl, (arI G 96 (upd (upd (upd (upd k75_nl (8 * u_nc).toNatClampNeg k4_1) ((8 * u_nc) + 3).toNatClampNeg u_co) ((8 * u_nc) + 4).toNatClampNeg u_co) ((8 * u_nc) + 5).toNatClampNeg u_co))), (b_op, (arI G 400 v_op)), (b_ar, (arI G 400 v_ar)), (b_pi, (arI G 400 v_pi)), (b_pa, (arI G 400 v_pa)), (b_ws, (arJ G 8 v_ws)), (b_hw, (arJ G 4 v_hw)), (b_o, (oc12 u_th u_sa b_rf b_ro b_im b_ke u_fd b_tp u_td z36 z37 z38 z39 u_fa u_bd (u_nc + 1) b_nl u_co b_op b_ar u_le b_pi b_pa u_pd u_od b_ws b_hw u_la b_se b_re u_bk u_va u_su u_ce u_ho u_wy u_bt u_ps b_pt u_tg u_sn b_ip u_ic b_ah b_be b_me u_wd b_tr b_ld u_st b_wn u_id)), (b_tp, (arI G 400 v_tp))] hP hD (fun hP hD => ?_)
                    refine lv_aload_n hx hb dX12_readClause_180 rfl (lv_at hl 3 rfl) ?_
                    refine lv_iconst (v := 1) hx hb dX12_readClause_181 (by decide) ?_
                    obtain ⟨hPc, hDc, hFc⟩ := g5_sub3 (wc := [(b_o, (oc12 u_th u_sa b_rf b_ro b_im b_ke u_fd b_tp u_td z36 z37 z38 z39 u_fa u_bd (u_nc + 1) b_nl u_co b_op b_ar u_le b_pi b_pa u_pd u_od b_ws b_hw u_la b_se b_re u_bk u_va u_su u_ce u_ho u_wy u_bt u_ps b_pt u_tg u_sn b_ip u_ic b_ah b_be b_me u_wd b_tr b_ld u_st b_wn u_id)), (b_tp, (arI G 400 v_tp)), (b_op, (arI G 400 v_op)), (b_ar, (arI G 400 v_ar)), (b_pi, (arI G 400 v_pi)), (b_pa, (arI G 400 v_pa)), (b_ws, (arJ G 8 v_ws))]) hP hD hS hA [7, 8, 1, 2, 3, 4, 5] (by decide) rfl
                    refine va_callv (va_runV (As := [.int 1]) (rest := []) ⟨hx, hb, hml, hown, hts⟩ (n_readExpression l G b_o b_tp b_op b_ar b_pi b_pa b_ws b_rf b_ro b_im b_ke b_nl b_hw b_se b_re b_pt b_ip b_ah b_be b_me b_tr b_ld b_wn H.size u_th u_sa u_fd u_td z36 z37 z38 u_fa u_bd (u_nc + 1) u_co u_le u_pd u_od u_la u_bk u_ce u_ho u_wy u_bt u_ps u_tg u_sn u_ic u_wd u_id 1 z39 u_va u_su u_st v_tp v_op v_ar v_pi v_pa v_ws h_u_td i_32 i_33 h_u_bd ⟨by omega, by omega⟩ h_u_co h_u_pd h_u_la h_u_bk h_u_ce h_u_ho h_u_wy h_u_bt h_u_ps h_u_ic h_u_id ⟨by decide, by decide⟩ (by omega) (i_35) (by omega)) (cwV 1 hts gV_X12_315 rfl rfl rfl hv_X12_readExpression ⟨Nat.le_of_ble_eq_true rfl, Nat.le_of_ble_eq_true rfl⟩) (g5_preV hPc hK hDc hN hT hS hFc (ci := 12) (q0 := 0) rfl rfl) rfl rfl hl.1 rfl (lv_room (Nat.le_of_ble_eq_true rfl)) dX12_readClause_182 ⟨Nat.le_of_ble_eq_true rfl, Nat.le_of_ble_eq_true rfl⟩) hS (fun q _ h => hFc q h) hFc (fun u t H1 locs ht hvm hw hB hz1 hk1 hS => ?_)
                    obtain ⟨hP1, hD1⟩ := hB
                    rw [ht] at hP1
                    obtain ⟨z50, z51, z52, z53, z54, z55, z56, z57, z58, z59, z60, z61, z62, z63, i_40, i_41, i_42, i_43, i_44, i_45, i_46, i_47, i_48, i_49, rfl⟩ := hw
                    have i_40 : 0 ≤ z50.toInt ∧ z50.toInt ≤ 400 := i_40
                    have i_41 : 0 ≤ z51.toInt ∧ z51.toInt ≤ 400 := i_41
                    have i_42 : 0 ≤ z55.toInt ∧ z55.toInt ≤ 1 := i_42
                    have i_43 : 0 ≤ z56.toInt ∧ z56.toInt ≤ 400 := i_43
                    have i_44 : 0 ≤ z58.toInt ∧ z58.toInt ≤ 400 := i_44
                    have i_45 : z36.toInt ≤ z50.toInt ∧ z50.toInt ≤ z51.toInt ∧ z51.toInt ≤ u_td.toInt := i_45
                    have i_46 : TKs z52.toInt z50.toInt z51.toInt := i_46
                    have i_47 : KP v_op v_ar z60 z61 u_co.toInt := i_47
                    have i_48 : u_co.toInt ≤ z56.toInt ∧ z56.toInt ≤ z50.toInt := i_48
                    have i_49 : z55.toInt = 0 → cdN z60 z61 u_co.toInt z56.toInt := i_49
                    obtain ⟨hP, hD⟩ := va_join (wr := [(b_nl, (arI G 96 (upd (upd (upd (upd k75_nl (8 * u_nc).toNatClampNeg k4_1) ((8 * u_nc) + 3).toNatClampNeg u_co) ((8 * u_nc) + 4).toNatClampNeg u_co) ((8 * u_nc) + 5).toNatClampNeg u_co))), (b_hw, (arJ G 4 v_hw))]) hP hD [7, 8, 1, 2, 3, 4, 5] [0, 6] rfl rfl (by decide) (by decide) hk1 hFc hP1 hD1
                    generalize H1 = H at hP hS ⊢
                    refine g5_rs [(b_nl, (arI G 96 (upd (upd (upd (upd k75_nl (8 * u_nc).toNatClampNeg k4_1) ((8 * u_nc) + 3).toNatClampNeg u_co) ((8 * u_nc) + 4).toNatClampNeg u_co) ((8 * u_nc) + 5).toNatClampNeg u_co))), (b_hw, (arJ G 4 v_hw)), (b_o, (oc12 u_th u_sa b_rf b_ro b_im b_ke u_fd b_tp u_td z50 z51 z52 z53 z54 z55 (u_nc + 1) b_nl z56 b_op b_ar z57 b_pi b_pa z58 z59 b_ws b_hw u_la b_se b_re u_bk u_va u_su u_ce u_ho u_wy u_bt u_ps b_pt u_tg u_sn b_ip u_ic b_ah b_be b_me u_wd b_tr b_ld u_st b_wn u_id)), (b_tp, (arI G 400 v_tp)), (b_op, (arI G 400 z60)), (b_ar, (arI G 400 z61)), (b_pi, (arI G 400 z62)), (b_pa, (arI G 400 z63)), (b_ws, (arJ G 8 v_ws))] hP hD (fun hP hD => ?_)
                    refine lv_aload_n hx hb dX12_readClause_185 rfl (lv_at hl 3 rfl) ?_
                    refine va_get (D := G.1) (ci := 12) (v := .ref b_nl) (C := RX12) (T := TX12) (N := 52) hx hb hts inG_X12 hown hK hP 2 rfl rfl 16 (by decide) (hts _ fl_X12_30) (fun _ h9 => h9) rfl dX12_readClause_186 ?_
                    refine lv_iload_n hx hb dX12_readClause_189 rfl (lv_at hl 1 rfl) ?_
                    refine lv_bipush (v := 6) hx hb dX12_readClause_190 (by decide) ?_
                    refine lv_iadd hx hb dX12_readClause_192 ?_
                    have t_64 : ((8 * u_nc) + 6).toInt = (8 * u_nc).toInt + 6 := g5_iadd (a := (8 * u_nc).toInt) (b := 6) (by rfl) (by decide) (by omega) (by omega)
                    refine lv_aload_n hx hb dX12_readClause_193 rfl (lv_at hl 3 rfl) ?_
                    refine va_get (D := G.1) (ci := 12) (v := .int z56) (C := RX12) (T := TX12) (N := 52) hx hb hts inG_X12 hown hK hP 2 rfl rfl 17 (by decide) (hts _ fl_X12_237) (fun _ h9 => h9) rfl dX12_readClause_194 ?_
                    refine va_iast hx hb hK hP hD hS 0 0 rfl rfl (i := ((8 * u_nc) + 6)) (x := z56) (vp_in_iff.mpr ⟨by omega, by omega⟩) dX12_readClause_197 (fun H locs hP hD hS => ?_)
                    refine g5_rs [(b_nl, (arI G 96 (upd (upd (upd (upd (upd k75_nl (8 * u_nc).toNatClampNeg k4_1) ((8 * u_nc) + 3).toNatClampNeg u_co) ((8 * u_nc) + 4).toNatClampNeg u_co) ((8 * u_nc) + 5).toNatClampNeg u_co) ((8 * u_nc) + 6).toNatClampNeg z56))), (b_hw, (arJ G 4 v_hw)), (b_o, (oc12 u_th u_sa b_rf b_ro b_im b_ke u_fd b_tp u_td z50 z51 z52 z53 z54 z55 (u_nc + 1) b_nl z56 b_op b_ar z57 b_pi b_pa z58 z59 b_ws b_hw u_la b_se b_re u_bk u_va u_su u_ce u_ho u_wy u_bt u_ps b_pt u_tg u_sn b_ip u_ic b_ah b_be b_me u_wd b_tr b_ld u_st b_wn u_id)), (b_tp, (arI G 400 v_tp)), (b_op, (arI G 400 z60)), (b_ar, (arI G 400 z61)), (b_pi, (arI G 400 z62)), (b_pa, (arI G 400 z63)), (b_ws, (arJ G 8 v_ws))] hP hD (fun hP hD => ?_)
                    exact W.vret hx hb hr (fun t ht hW => ⟨⟨[(b_o, (oc12 u_th u_sa b_rf b_ro b_im b_ke u_fd b_tp u_td z50 z51 z52 z53 z54 z55 (u_nc + 1) b_nl z56 b_op b_ar z57 b_pi b_pa z58 z59 b_ws b_hw u_la b_se b_re u_bk u_va u_su u_ce u_ho u_wy u_bt u_ps b_pt u_tg u_sn b_ip u_ic b_ah b_be b_me u_wd b_tr b_ld u_st b_wn u_id)), (b_tp, (arI G 400 v_tp)), (b_nl, (arI G 96 (upd (upd (upd (upd (upd k75_nl (8 * u_nc).toNatClampNeg k4_1) ((8 * u_nc) + 3).toNatClampNeg u_co) ((8 * u_nc) + 4).toNatClampNeg u_co) ((8 * u_nc) + 5).toNatClampNeg u_co) ((8 * u_nc) + 6).toNatClampNeg z56))), (b_op, (arI G 400 z60)), (b_ar, (arI G 400 z61)), (b_pi, (arI G 400 z62)), (b_pa, (arI G 400 z63)), (b_ws, (arJ G 8 v_ws)), (b_hw, (arJ G 4 v_hw))], rfl, Or.inr (⟨z50, z51, z52, z53, z54, z55, (u_nc + 1), z56, z57, z58, z59, (upd (upd (upd (upd (upd k75_nl (8 * u_nc).toNatClampNeg k4_1) ((8 * u_nc) + 3).toNatClampNeg u_co) ((8 * u_nc) + 4).toNatClampNeg u_co) ((8 * u_nc) + 5).toNatClampNeg u_co) ((8 * u_nc) + 6).toNatClampNeg z56), z60, z61, z62, z63, i_40, i_41, i_42, ⟨by omega, by omega⟩, i_43, i_44, by omega, i_46, by omega, fun q9 => lwj_new e_l i_21 i_47 (by omega) (by omega) (by omega) (by omega) (by omega) (by omega) (by omega) (by omega) (by omega) (by omega) ⟨by omega, by omega⟩ (fun q8 => absurd q8 (by omega)) (i_49 q9), rfl⟩), by rw [ht]; exact hP.sub [2, 3, 0, 4, 5, 6, 7, 8, 1] rfl, hD.sub [2, 3, 0, 4, 5, 6, 7, 8, 1] (by decide) rfl⟩, hS.F ht⟩) hS.2.2 dX12_readClause_198
                ·
                  obtain ⟨hP, hD⟩ := va_join (wr := [(b_nl, (arI G 96 (upd (upd (upd (upd k75_nl (8 * u_nc).toNatClampNeg k4_1) ((8 * u_nc) + 3).toNatClampNeg u_co) ((8 * u_nc) + 4).toNatClampNeg u_co) ((8 * u_nc) + 5).toNatClampNeg u_co))), (b_op, (arI G 400 v_op)), (b_ar, (arI G 400 v_ar)), (b_pi, (arI G 400 v_pi)), (b_pa, (arI G 400 v_pa)), (b_ws, (arJ G 8 v_ws)), (b_hw, (arJ G 4 v_hw)), (b_tp, (arI G 400 v_tp))]) hP hD [7] [0, 1, 2, 3, 4, 5, 6, 8] rfl rfl (by decide) (by decide) hk1 hFc hP1 hD1
                  generalize H1 = H at hP hS ⊢
                  refine g5_rs [(b_nl, (arI G 96 (upd (upd (upd (upd k75_nl (8 * u_nc).toNatClampNeg k4_1) ((8 * u_nc) + 3).toNatClampNeg u_co) ((8 * u_nc) + 4).toNatClampNeg u_co) ((8 * u_nc) + 5).toNatClampNeg u_co))), (b_op, (arI G 400 v_op)), (b_ar, (arI G 400 v_ar)), (b_pi, (arI G 400 v_pi)), (b_pa, (arI G 400 v_pa)), (b_ws, (arJ G 8 v_ws)), (b_hw, (arJ G 4 v_hw)), (b_tp, (arI G 400 v_tp)), (b_o, (oc12 u_th u_sa b_rf b_ro b_im b_ke u_fd b_tp u_td z14 z15 z16 z17 u_fa u_bd (u_nc + 1) b_nl u_co b_op b_ar u_le b_pi b_pa u_pd u_od b_ws b_hw u_la b_se b_re u_bk u_va u_su u_ce u_ho u_wy u_bt u_ps b_pt u_tg u_sn b_ip u_ic b_ah b_be b_me u_wd b_tr b_ld u_st b_wn u_id))] hP hD (fun hP hD => ?_)
                  refine lv_if_eq (tgt := 185) hx hb dX12_readClause_173 (by decide) (fun c_65 => ?_) (fun c_65 => ?_)
                  ·
                    refine lv_aload_n hx hb dX12_readClause_185 rfl (lv_at hl 3 rfl) ?_
                    refine va_get (D := G.1) (ci := 12) (v := .ref b_nl) (C := RX12) (T := TX12) (N := 52) hx hb hts inG_X12 hown hK hP 8 rfl rfl 16 (by decide) (hts _ fl_X12_30) (fun _ h9 => h9) rfl dX12_readClause_186 ?_
                    refine lv_iload_n hx hb dX12_readClause_189 rfl (lv_at hl 1 rfl) ?_
                    refine lv_bipush (v := 6) hx hb dX12_readClause_190 (by decide) ?_
                    refine lv_iadd hx hb dX12_readClause_192 ?_
                    have t_66 : ((8 * u_nc) + 6).toInt = (8 * u_nc).toInt + 6 := g5_iadd (a := (8 * u_nc).toInt) (b := 6) (by rfl) (by decide) (by omega) (by omega)
                    refine lv_aload_n hx hb dX12_readClause_193 rfl (lv_at hl 3 rfl) ?_
                    refine va_get (D := G.1) (ci := 12) (v := .int u_co) (C := RX12) (T := TX12) (N := 52) hx hb hts inG_X12 hown hK hP 8 rfl rfl 17 (by decide) (hts _ fl_X12_237) (fun _ h9 => h9) rfl dX12_readClause_194 ?_
                    refine va_iast hx hb hK hP hD hS 0 0 rfl rfl (i := ((8 * u_nc) + 6)) (x := u_co) (vp_in_iff.mpr ⟨by omega, by omega⟩) dX12_readClause_197 (fun H locs hP hD hS => ?_)
                    refine g5_rs [(b_nl, (arI G 96 (upd (upd (upd (upd (upd k75_nl (8 * u_nc).toNatClampNeg k4_1) ((8 * u_nc) + 3).toNatClampNeg u_co) ((8 * u_nc) + 4).toNatClampNeg u_co) ((8 * u_nc) + 5).toNatClampNeg u_co) ((8 * u_nc) + 6).toNatClampNeg u_co))), (b_op, (arI G 400 v_op)), (b_ar, (arI G 400 v_ar)), (b_pi, (arI G 400 v_pi)), (b_pa, (arI G 400 v_pa)), (b_ws, (arJ G 8 v_ws)), (b_hw, (arJ G 4 v_hw)), (b_tp, (arI G 400 v_tp)), (b_o, (oc12 u_th u_sa b_rf b_ro b_im b_ke u_fd b_tp u_td z14 z15 z16 z17 u_fa u_bd (u_nc + 1) b_nl u_co b_op b_ar u_le b_pi b_pa u_pd u_od b_ws b_hw u_la b_se b_re u_bk u_va u_su u_ce u_ho u_wy u_bt u_ps b_pt u_tg u_sn b_ip u_ic b_ah b_be b_me u_wd b_tr b_ld u_st b_wn u_id))] hP hD (fun hP hD => ?_)
                    exact W.vret hx hb hr (fun t ht hW => ⟨⟨[(b_o, (oc12 u_th u_sa b_rf b_ro b_im b_ke u_fd b_tp u_td z14 z15 z16 z17 u_fa u_bd (u_nc + 1) b_nl u_co b_op b_ar u_le b_pi b_pa u_pd u_od b_ws b_hw u_la b_se b_re u_bk u_va u_su u_ce u_ho u_wy u_bt u_ps b_pt u_tg u_sn b_ip u_ic b_ah b_be b_me u_wd b_tr b_ld u_st b_wn u_id)), (b_tp, (arI G 400 v_tp)), (b_nl, (arI G 96 (upd (upd (upd (upd (upd k75_nl (8 * u_nc).toNatClampNeg k4_1) ((8 * u_nc) + 3).toNatClampNeg u_co) ((8 * u_nc) + 4).toNatClampNeg u_co) ((8 * u_nc) + 5).toNatClampNeg u_co) ((8 * u_nc) + 6).toNatClampNeg u_co))), (b_op, (arI G 400 v_op)), (b_ar, (arI G 400 v_ar)), (b_pi, (arI G 400 v_pi)), (b_pa, (arI G 400 v_pa)), (b_ws, (arJ G 8 v_ws)), (b_hw, (arJ G 4 v_hw))], rfl, Or.inr (⟨z14, z15, z16, z17, u_fa, u_bd, (u_nc + 1), u_co, u_le, u_pd, u_od, (upd (upd (upd (upd (upd k75_nl (8 * u_nc).toNatClampNeg k4_1) ((8 * u_nc) + 3).toNatClampNeg u_co) ((8 * u_nc) + 4).toNatClampNeg u_co) ((8 * u_nc) + 5).toNatClampNeg u_co) ((8 * u_nc) + 6).toNatClampNeg u_co), v_op, v_ar, v_pi, v_pa, i_10, i_11, ⟨by omega, by omega⟩, ⟨by omega, by omega⟩, h_u_co, h_u_pd, by omega, i_13, by omega, fun q9 => lwj_new e_l i_21 kp_rf (by omega) (by omega) (by omega) (by omega) (by omega) (by omega) (by omega) (by omega) (by omega) (by omega) ⟨by omega, by omega⟩ (fun q8 => absurd q8 (by omega)) cdN_empty, rfl⟩), by rw [ht]; exact hP.sub [8, 7, 0, 1, 2, 3, 4, 5, 6] rfl, hD.sub [8, 7, 0, 1, 2, 3, 4, 5, 6] (by decide) rfl⟩, hS.F ht⟩) hS.2.2 dX12_readClause_198
                  ·
                    exact absurd c_65 (by decide)
            ·
              have i_26 : k4_1.toInt < 2 := by have z := g5_geN (a := k4_1.toInt) (b := 2) (by rfl) (by decide) c_26; omega
              refine lv_aload_n hx hb dX12_readClause_130 rfl (lv_at hl 3 rfl) ?_
              refine lv_iconst (v := 0) hx hb dX12_readClause_131 (by decide) ?_
              obtain ⟨hPc, hDc, hFc⟩ := g5_sub3 (wc := [(b_o, (oc12 u_th u_sa b_rf b_ro b_im b_ke u_fd b_tp u_td z14 z15 z16 z17 u_fa u_bd (u_nc + 1) b_nl u_co b_op b_ar u_le b_pi b_pa u_pd u_od b_ws b_hw u_la b_se b_re u_bk u_va u_su u_ce u_ho u_wy u_bt u_ps b_pt u_tg u_sn b_ip u_ic b_ah b_be b_me u_wd b_tr b_ld u_st b_wn u_id)), (b_tp, (arI G 400 v_tp)), (b_op, (arI G 400 v_op)), (b_ar, (arI G 400 v_ar)), (b_pi, (arI G 400 v_pi)), (b_pa, (arI G 400 v_pa)), (b_ws, (arJ G 8 v_ws))]) hP hD hS hA [7, 8, 1, 2, 3, 4, 5] (by decide) rfl
              refine va_callv (va_runV (As := [.int 0]) (rest := []) ⟨hx, hb, hml, hown, hts⟩ (n_readExpression l G b_o b_tp b_op b_ar b_pi b_pa b_ws b_rf b_ro b_im b_ke b_nl b_hw b_se b_re b_pt b_ip b_ah b_be b_me b_tr b_ld b_wn H.size u_th u_sa u_fd u_td z14 z15 z16 u_fa u_bd (u_nc + 1) u_co u_le u_pd u_od u_la u_bk u_ce u_ho u_wy u_bt u_ps u_tg u_sn u_ic u_wd u_id 0 z17 u_va u_su u_st v_tp v_op v_ar v_pi v_pa v_ws h_u_td i_10 i_11 h_u_bd ⟨by omega, by omega⟩ h_u_co h_u_pd h_u_la h_u_bk h_u_ce h_u_ho h_u_wy h_u_bt h_u_ps h_u_ic h_u_id ⟨by decide, by decide⟩ (by omega) (i_13) (by omega)) (cwV 1 hts gV_X12_315 rfl rfl rfl hv_X12_readExpression ⟨Nat.le_of_ble_eq_true rfl, Nat.le_of_ble_eq_true rfl⟩) (g5_preV hPc hK hDc hN hT hS hFc (ci := 12) (q0 := 0) rfl rfl) rfl rfl hl.1 rfl (lv_room (Nat.le_of_ble_eq_true rfl)) dX12_readClause_132 ⟨Nat.le_of_ble_eq_true rfl, Nat.le_of_ble_eq_true rfl⟩) hS (fun q _ h => hFc q h) hFc (fun u t H1 locs ht hvm hw hB hz1 hk1 hS => ?_)
              obtain ⟨hP1, hD1⟩ := hB
              rw [ht] at hP1
              obtain ⟨z77, z78, z79, z80, z81, z82, z83, z84, z85, z86, z87, z88, z89, z90, i_67, i_68, i_69, i_70, i_71, i_72, i_73, i_74, i_75, i_76, rfl⟩ := hw
              have i_67 : 0 ≤ z77.toInt ∧ z77.toInt ≤ 400 := i_67
              have i_68 : 0 ≤ z78.toInt ∧ z78.toInt ≤ 400 := i_68
              have i_69 : 0 ≤ z82.toInt ∧ z82.toInt ≤ 1 := i_69
              have i_70 : 0 ≤ z83.toInt ∧ z83.toInt ≤ 400 := i_70
              have i_71 : 0 ≤ z85.toInt ∧ z85.toInt ≤ 400 := i_71
              have i_72 : z14.toInt ≤ z77.toInt ∧ z77.toInt ≤ z78.toInt ∧ z78.toInt ≤ u_td.toInt := i_72
              have i_73 : TKs z79.toInt z77.toInt z78.toInt := i_73
              have i_74 : KP v_op v_ar z87 z88 u_co.toInt := i_74
              have i_75 : u_co.toInt ≤ z83.toInt ∧ z83.toInt ≤ z77.toInt := i_75
              have i_76 : z82.toInt = 0 → cdN z87 z88 u_co.toInt z83.toInt := i_76
              obtain ⟨hP, hD⟩ := va_join (wr := [(b_nl, (arI G 96 (upd (upd k75_nl (8 * u_nc).toNatClampNeg k4_1) ((8 * u_nc) + 3).toNatClampNeg u_co))), (b_hw, (arJ G 4 v_hw))]) hP hD [7, 8, 1, 2, 3, 4, 5] [0, 6] rfl rfl (by decide) (by decide) hk1 hFc hP1 hD1
              generalize H1 = H at hP hS ⊢
              refine g5_rs [(b_nl, (arI G 96 (upd (upd k75_nl (8 * u_nc).toNatClampNeg k4_1) ((8 * u_nc) + 3).toNatClampNeg u_co))), (b_hw, (arJ G 4 v_hw)), (b_o, (oc12 u_th u_sa b_rf b_ro b_im b_ke u_fd b_tp u_td z77 z78 z79 z80 z81 z82 (u_nc + 1) b_nl z83 b_op b_ar z84 b_pi b_pa z85 z86 b_ws b_hw u_la b_se b_re u_bk u_va u_su u_ce u_ho u_wy u_bt u_ps b_pt u_tg u_sn b_ip u_ic b_ah b_be b_me u_wd b_tr b_ld u_st b_wn u_id)), (b_tp, (arI G 400 v_tp)), (b_op, (arI G 400 z87)), (b_ar, (arI G 400 z88)), (b_pi, (arI G 400 z89)), (b_pa, (arI G 400 z90)), (b_ws, (arJ G 8 v_ws))] hP hD (fun hP hD => ?_)
              refine lv_aload_n hx hb dX12_readClause_135 rfl (lv_at hl 3 rfl) ?_
              refine va_get (D := G.1) (ci := 12) (v := .ref b_nl) (C := RX12) (T := TX12) (N := 52) hx hb hts inG_X12 hown hK hP 2 rfl rfl 16 (by decide) (hts _ fl_X12_30) (fun _ h9 => h9) rfl dX12_readClause_136 ?_
              refine lv_iload_n hx hb dX12_readClause_139 rfl (lv_at hl 1 rfl) ?_
              refine lv_iconst (v := 4) hx hb dX12_readClause_140 (by decide) ?_
              refine lv_iadd hx hb dX12_readClause_141 ?_
              have t_91 : ((8 * u_nc) + 4).toInt = (8 * u_nc).toInt + 4 := g5_iadd (a := (8 * u_nc).toInt) (b := 4) (by rfl) (by decide) (by omega) (by omega)
              refine lv_aload_n hx hb dX12_readClause_142 rfl (lv_at hl 3 rfl) ?_
              refine va_get (D := G.1) (ci := 12) (v := .int z83) (C := RX12) (T := TX12) (N := 52) hx hb hts inG_X12 hown hK hP 2 rfl rfl 17 (by decide) (hts _ fl_X12_237) (fun _ h9 => h9) rfl dX12_readClause_143 ?_
              refine va_iast hx hb hK hP hD hS 0 0 rfl rfl (i := ((8 * u_nc) + 4)) (x := z83) (vp_in_iff.mpr ⟨by omega, by omega⟩) dX12_readClause_146 (fun H locs hP hD hS => ?_)
              refine g5_rs [(b_nl, (arI G 96 (upd (upd (upd k75_nl (8 * u_nc).toNatClampNeg k4_1) ((8 * u_nc) + 3).toNatClampNeg u_co) ((8 * u_nc) + 4).toNatClampNeg z83))), (b_hw, (arJ G 4 v_hw)), (b_o, (oc12 u_th u_sa b_rf b_ro b_im b_ke u_fd b_tp u_td z77 z78 z79 z80 z81 z82 (u_nc + 1) b_nl z83 b_op b_ar z84 b_pi b_pa z85 z86 b_ws b_hw u_la b_se b_re u_bk u_va u_su u_ce u_ho u_wy u_bt u_ps b_pt u_tg u_sn b_ip u_ic b_ah b_be b_me u_wd b_tr b_ld u_st b_wn u_id)), (b_tp, (arI G 400 v_tp)), (b_op, (arI G 400 z87)), (b_ar, (arI G 400 z88)), (b_pi, (arI G 400 z89)), (b_pa, (arI G 400 z90)), (b_ws, (arJ G 8 v_ws))] hP hD (fun hP hD => ?_)
              refine lv_aload_n hx hb dX12_readClause_147 rfl (lv_at hl 3 rfl) ?_
              refine va_get (D := G.1) (ci := 12) (v := .ref b_nl) (C := RX12) (T := TX12) (N := 52) hx hb hts inG_X12 hown hK hP 2 rfl rfl 16 (by decide) (hts _ fl_X12_30) (fun _ h9 => h9) rfl dX12_readClause_148 ?_
              refine lv_iload_n hx hb dX12_readClause_151 rfl (lv_at hl 1 rfl) ?_
              refine lv_iconst (v := 5) hx hb dX12_readClause_152 (by decide) ?_
              refine lv_iadd hx hb dX12_readClause_153 ?_
              have t_92 : ((8 * u_nc) + 5).toInt = (8 * u_nc).toInt + 5 := g5_iadd (a := (8 * u_nc).toInt) (b := 5) (by rfl) (by decide) (by omega) (by omega)
              refine lv_aload_n hx hb dX12_readClause_154 rfl (lv_at hl 3 rfl) ?_
              refine va_get (D := G.1) (ci := 12) (v := .int z83) (C := RX12) (T := TX12) (N := 52) hx hb hts inG_X12 hown hK hP 2 rfl rfl 17 (by decide) (hts _ fl_X12_237) (fun _ h9 => h9) rfl dX12_readClause_155 ?_
              refine va_iast hx hb hK hP hD hS 0 0 rfl rfl (i := ((8 * u_nc) + 5)) (x := z83) (vp_in_iff.mpr ⟨by omega, by omega⟩) dX12_readClause_158 (fun H locs hP hD hS => ?_)
              refine g5_rs [(b_nl, (arI G 96 (upd (upd (upd (upd k75_nl (8 * u_nc).toNatClampNeg k4_1) ((8 * u_nc) + 3).toNatClampNeg u_co) ((8 * u_nc) + 4).toNatClampNeg z83) ((8 * u_nc) + 5).toNatClampNeg z83))), (b_hw, (arJ G 4 v_hw)), (b_o, (oc12 u_th u_sa b_rf b_ro b_im b_ke u_fd b_tp u_td z77 z78 z79 z80 z81 z82 (u_nc + 1) b_nl z83 b_op b_ar z84 b_pi b_pa z85 z86 b_ws b_hw u_la b_se b_re u_bk u_va u_su u_ce u_ho u_wy u_bt u_ps b_pt u_tg u_sn b_ip u_ic b_ah b_be b_me u_wd b_tr b_ld u_st b_wn u_id)), (b_tp, (arI G 400 v_tp)), (b_op, (arI G 400 z87)), (b_ar, (arI G 400 z88)), (b_pi, (arI G 400 z89)), (b_pa, (arI G 400 z90)), (b_ws, (arJ G 8 v_ws))] hP hD (fun hP hD => ?_)
              refine lv_aload_n hx hb dX12_readClause_159 rfl (lv_at hl 3 rfl) ?_
              refine va_get (D := G.1) (ci := 12) (v := .int z82) (C := RX12) (T := TX12) (N := 52) hx hb hts inG_X12 hown hK hP 2 rfl rfl 14 (by decide) (hts _ fl_X12_205) (fun _ h9 => h9) rfl dX12_readClause_160 ?_
              refine lv_if_ne (tgt := 185) hx hb dX12_readClause_163 (by decide) (fun c_93 => ?_) (fun c_93 => ?_)
              ·
                have n_93 : gNe (z82.toInt) (0) := by have z := g5_ne (a := z82.toInt) (b := 0) (by rfl) (by decide) c_93; unfold gNe; omega
                have i_93 : z82.toInt ≥ 1 := by have z := g5_ne (a := z82.toInt) (b := 0) (by rfl) (by decide) c_93; omega
                refine lv_aload_n hx hb dX12_readClause_185 rfl (lv_at hl 3 rfl) ?_
                refine va_get (D := G.1) (ci := 12) (v := .ref b_nl) (C := RX12) (T := TX12) (N := 52) hx hb hts inG_X12 hown hK hP 2 rfl rfl 16 (by decide) (hts _ fl_X12_30) (fun _ h9 => h9) rfl dX12_readClause_186 ?_
                refine lv_iload_n hx hb dX12_readClause_189 rfl (lv_at hl 1 rfl) ?_
                refine lv_bipush (v := 6) hx hb dX12_readClause_190 (by decide) ?_
                refine lv_iadd hx hb dX12_readClause_192 ?_
                have t_94 : ((8 * u_nc) + 6).toInt = (8 * u_nc).toInt + 6 := g5_iadd (a := (8 * u_nc).toInt) (b := 6) (by rfl) (by decide) (by omega) (by omega)
                refine lv_aload_n hx hb dX12_readClause_193 rfl (lv_at hl 3 rfl) ?_
                refine va_get (D := G.1) (ci := 12) (v := .int z83) (C := RX12) (T := TX12) (N := 52) hx hb hts inG_X12 hown hK hP 2 rfl rfl 17 (by decide) (hts _ fl_X12_237) (fun _ h9 => h9) rfl dX12_readClause_194 ?_
                refine va_iast hx hb hK hP hD hS 0 0 rfl rfl (i := ((8 * u_nc) + 6)) (x := z83) (vp_in_iff.mpr ⟨by omega, by omega⟩) dX12_readClause_197 (fun H locs hP hD hS => ?_)
                refine g5_rs [(b_nl, (arI G 96 (upd (upd (upd (upd (upd k75_nl (8 * u_nc).toNatClampNeg k4_1) ((8 * u_nc) + 3).toNatClampNeg u_co) ((8 * u_nc) + 4).toNatClampNeg z83) ((8 * u_nc) + 5).toNatClampNeg z83) ((8 * u_nc) + 6).toNatClampNeg z83))), (b_hw, (arJ G 4 v_hw)), (b_o, (oc12 u_th u_sa b_rf b_ro b_im b_ke u_fd b_tp u_td z77 z78 z79 z80 z81 z82 (u_nc + 1) b_nl z83 b_op b_ar z84 b_pi b_pa z85 z86 b_ws b_hw u_la b_se b_re u_bk u_va u_su u_ce u_ho u_wy u_bt u_ps b_pt u_tg u_sn b_ip u_ic b_ah b_be b_me u_wd b_tr b_ld u_st b_wn u_id)), (b_tp, (arI G 400 v_tp)), (b_op, (arI G 400 z87)), (b_ar, (arI G 400 z88)), (b_pi, (arI G 400 z89)), (b_pa, (arI G 400 z90)), (b_ws, (arJ G 8 v_ws))] hP hD (fun hP hD => ?_)
                exact W.vret hx hb hr (fun t ht hW => ⟨⟨[(b_o, (oc12 u_th u_sa b_rf b_ro b_im b_ke u_fd b_tp u_td z77 z78 z79 z80 z81 z82 (u_nc + 1) b_nl z83 b_op b_ar z84 b_pi b_pa z85 z86 b_ws b_hw u_la b_se b_re u_bk u_va u_su u_ce u_ho u_wy u_bt u_ps b_pt u_tg u_sn b_ip u_ic b_ah b_be b_me u_wd b_tr b_ld u_st b_wn u_id)), (b_tp, (arI G 400 v_tp)), (b_nl, (arI G 96 (upd (upd (upd (upd (upd k75_nl (8 * u_nc).toNatClampNeg k4_1) ((8 * u_nc) + 3).toNatClampNeg u_co) ((8 * u_nc) + 4).toNatClampNeg z83) ((8 * u_nc) + 5).toNatClampNeg z83) ((8 * u_nc) + 6).toNatClampNeg z83))), (b_op, (arI G 400 z87)), (b_ar, (arI G 400 z88)), (b_pi, (arI G 400 z89)), (b_pa, (arI G 400 z90)), (b_ws, (arJ G 8 v_ws)), (b_hw, (arJ G 4 v_hw))], rfl, Or.inr (⟨z77, z78, z79, z80, z81, z82, (u_nc + 1), z83, z84, z85, z86, (upd (upd (upd (upd (upd k75_nl (8 * u_nc).toNatClampNeg k4_1) ((8 * u_nc) + 3).toNatClampNeg u_co) ((8 * u_nc) + 4).toNatClampNeg z83) ((8 * u_nc) + 5).toNatClampNeg z83) ((8 * u_nc) + 6).toNatClampNeg z83), z87, z88, z89, z90, i_67, i_68, i_69, ⟨by omega, by omega⟩, i_70, i_71, by omega, i_73, by omega, fun q9 => absurd q9 (by omega), rfl⟩), by rw [ht]; exact hP.sub [2, 3, 0, 4, 5, 6, 7, 8, 1] rfl, hD.sub [2, 3, 0, 4, 5, 6, 7, 8, 1] (by decide) rfl⟩, hS.F ht⟩) hS.2.2 dX12_readClause_198
              ·
                have i_93 : z82.toInt = 0 := by have z := g5_neN (a := z82.toInt) (b := 0) (by rfl) (by decide) c_93; omega
                refine lv_aload_n hx hb dX12_readClause_166 rfl (lv_at hl 3 rfl) ?_
                refine lv_ldc2 (v := 294) hx hb hown (hts _ kl_X12_318) dX12_readClause_167 ?_
                obtain ⟨hPc, hDc, hFc⟩ := g5_sub3 (wc := [(b_o, (oc12 u_th u_sa b_rf b_ro b_im b_ke u_fd b_tp u_td z77 z78 z79 z80 z81 z82 (u_nc + 1) b_nl z83 b_op b_ar z84 b_pi b_pa z85 z86 b_ws b_hw u_la b_se b_re u_bk u_va u_su u_ce u_ho u_wy u_bt u_ps b_pt u_tg u_sn b_ip u_ic b_ah b_be b_me u_wd b_tr b_ld u_st b_wn u_id))]) hP hD hS hA [2] (by decide) rfl
                refine va_calli (va_runV (As := [.long 294]) (rest := []) ⟨hx, hb, hml, hown, hts⟩ (n_isWord l G b_o b_rf b_ro b_im b_ke b_tp b_nl b_op b_ar b_pi b_pa b_ws b_hw b_se b_re b_pt b_ip b_ah b_be b_me b_tr b_ld b_wn H.size u_th u_sa u_fd u_td z77 z78 z79 z81 z82 (u_nc + 1) z83 z84 z85 z86 u_la u_bk u_ce u_ho u_wy u_bt u_ps u_tg u_sn u_ic u_wd u_id z80 u_va u_su u_st 294 h_u_td i_67 i_68 i_69 ⟨by omega, by omega⟩ i_70 i_71 h_u_la h_u_bk h_u_ce h_u_ho h_u_wy h_u_bt h_u_ps h_u_ic h_u_id) (cwV 1 hts gV_X12_254 rfl rfl rfl hv_X12_isWord ⟨Nat.le_of_ble_eq_true rfl, Nat.le_of_ble_eq_true rfl⟩) (g5_preV hPc hK hDc hN hT hS hFc (ci := 12) (q0 := 0) rfl rfl) rfl rfl hl.1 rfl (lv_room (Nat.le_of_ble_eq_true rfl)) dX12_readClause_170 ⟨Nat.le_of_ble_eq_true rfl, Nat.le_of_ble_eq_true rfl⟩) hS (fun q _ h => hFc q h) hFc (fun r u t H1 locs ht hvm hw hB hz1 hk1 hS => ?_)
                obtain ⟨hP1, hD1⟩ := hB
                rw [ht] at hP1
                rcases hw with ⟨i_95, rfl, rfl⟩ | ⟨rfl, rfl⟩
                ·
                  have i_95 : z79.toInt = 1 := i_95
                  obtain ⟨hP, hD⟩ := va_join (wr := [(b_nl, (arI G 96 (upd (upd (upd (upd k75_nl (8 * u_nc).toNatClampNeg k4_1) ((8 * u_nc) + 3).toNatClampNeg u_co) ((8 * u_nc) + 4).toNatClampNeg z83) ((8 * u_nc) + 5).toNatClampNeg z83))), (b_hw, (arJ G 4 v_hw)), (b_tp, (arI G 400 v_tp)), (b_op, (arI G 400 z87)), (b_ar, (arI G 400 z88)), (b_pi, (arI G 400 z89)), (b_pa, (arI G 400 z90)), (b_ws, (arJ G 8 v_ws))]) hP hD [2] [0, 1, 3, 4, 5, 6, 7, 8] rfl rfl (by decide) (by decide) hk1 hFc hP1 hD1
                  generalize H1 = H at hP hS ⊢
                  refine g5_rs [(b_nl, (arI G 96 (upd (upd (upd (upd k75_nl (8 * u_nc).toNatClampNeg k4_1) ((8 * u_nc) + 3).toNatClampNeg u_co) ((8 * u_nc) + 4).toNatClampNeg z83) ((8 * u_nc) + 5).toNatClampNeg z83))), (b_hw, (arJ G 4 v_hw)), (b_tp, (arI G 400 v_tp)), (b_op, (arI G 400 z87)), (b_ar, (arI G 400 z88)), (b_pi, (arI G 400 z89)), (b_pa, (arI G 400 z90)), (b_ws, (arJ G 8 v_ws)), (b_o, (oc12 u_th u_sa b_rf b_ro b_im b_ke u_fd b_tp u_td z77 z78 z79 z80 z81 z82 (u_nc + 1) b_nl z83 b_op b_ar z84 b_pi b_pa z85 z86 b_ws b_hw u_la b_se b_re u_bk u_va u_su u_ce u_ho u_wy u_bt u_ps b_pt u_tg u_sn b_ip u_ic b_ah b_be b_me u_wd b_tr b_ld u_st b_wn u_id))] hP hD (fun hP hD => ?_)
                  refine lv_if_eq (tgt := 185) hx hb dX12_readClause_173 (by decide) (fun c_96 => ?_) (fun c_96 => ?_)
                  ·
                    exact absurd c_96 (by decide)
                  ·
                    have hlt8 : z77.toInt < z78.toInt := tks_lt i_73 (by omega)
                    refine lv_aload_n hx hb dX12_readClause_176 rfl (lv_at hl 3 rfl) ?_
                    obtain ⟨hPc, hDc, hFc⟩ := g5_sub3 (wc := [(b_o, (oc12 u_th u_sa b_rf b_ro b_im b_ke u_fd b_tp u_td z77 z78 z79 z80 z81 z82 (u_nc + 1) b_nl z83 b_op b_ar z84 b_pi b_pa z85 z86 b_ws b_hw u_la b_se b_re u_bk u_va u_su u_ce u_ho u_wy u_bt u_ps b_pt u_tg u_sn b_ip u_ic b_ah b_be b_me u_wd b_tr b_ld u_st b_wn u_id)), (b_tp, (arI G 400 v_tp))]) hP hD hS hA [8, 2] (by decide) rfl
                    refine va_callv (va_runV (As := []) (rest := []) ⟨hx, hb, hml, hown, hts⟩ (n_next l G b_o b_tp b_rf b_ro b_im b_ke b_nl b_op b_ar b_pi b_pa b_ws b_hw b_se b_re b_pt b_ip b_ah b_be b_me b_tr b_ld b_wn H.size u_th u_sa u_fd u_td z77 z78 z79 z81 z82 (u_nc + 1) z83 z84 z85 z86 u_la u_bk u_ce u_ho u_wy u_bt u_ps u_tg u_sn u_ic u_wd u_id z80 u_va u_su u_st v_tp h_u_td i_67 i_68 i_69 ⟨by omega, by omega⟩ i_70 i_71 h_u_la h_u_bk h_u_ce h_u_ho h_u_wy h_u_bt h_u_ps h_u_ic h_u_id (by omega)) (cwV 0 hts gV_X12_208 rfl rfl rfl hv_X12_next ⟨Nat.le_of_ble_eq_true rfl, Nat.le_of_ble_eq_true rfl⟩) (g5_preV hPc hK hDc hN hT hS hFc (ci := 12) (q0 := 0) rfl rfl) rfl rfl hl.1 rfl (lv_room (Nat.le_of_ble_eq_true rfl)) dX12_readClause_177 ⟨Nat.le_of_ble_eq_true rfl, Nat.le_of_ble_eq_true rfl⟩) hS (fun q _ h => hFc q h) hFc (fun u t H1 locs ht hvm hw hB hz1 hk1 hS => ?_)
                    obtain ⟨hP1, hD1⟩ := hB
                    rw [ht] at hP1
                    obtain ⟨z101, z102, z103, z104, i_97, i_98, i_99, i_100, rfl⟩ := hw
                    have i_97 : 0 ≤ z101.toInt ∧ z101.toInt ≤ 400 := i_97
                    have i_98 : 0 ≤ z102.toInt ∧ z102.toInt ≤ 400 := i_98
                    have i_99 : z78.toInt ≤ z101.toInt ∧ z101.toInt ≤ z102.toInt ∧ z102.toInt ≤ u_td.toInt := i_99
                    have i_100 : TKs z103.toInt z101.toInt z102.toInt := i_100
                    obtain ⟨hP, hD⟩ := va_join (wr := [(b_nl, (arI G 96 (upd (upd (upd (upd k75_nl (8 * u_nc).toNatClampNeg k4_1) ((8 * u_nc) + 3).toNatClampNeg u_co) ((8 * u_nc) + 4).toNatClampNeg z83) ((8 * u_nc) + 5).toNatClampNeg z83))), (b_hw, (arJ G 4 v_hw)), (b_op, (arI G 400 z87)), (b_ar, (arI G 400 z88)), (b_pi, (arI G 400 z89)), (b_pa, (arI G 400 z90)), (b_ws, (arJ G 8 v_ws))]) hP hD [8, 2] [0, 1, 3, 4, 5, 6, 7] rfl rfl (by decide) (by decide) hk1 hFc hP1 hD1
                    generalize H1 = H at hP hS ⊢
                    refine g5_rs [(b_nl, (arI G 96 (upd (upd (upd (upd k75_nl (8 * u_nc).toNatClampNeg k4_1) ((8 * u_nc) + 3).toNatClampNeg u_co) ((8 * u_nc) + 4).toNatClampNeg z83) ((8 * u_nc) + 5).toNatClampNeg z83))), (b_hw, (arJ G 4 v_hw)), (b_op, (arI G 400 z87)), (b_ar, (arI G 400 z88)), (b_pi, (arI G 400 z89)), (b_pa, (arI G 400 z90)), (b_ws, (arJ G 8 v_ws)), (b_o, (oc12 u_th u_sa b_rf b_ro b_im b_ke u_fd b_tp u_td z101 z102 z103 z104 z81 z82 (u_nc + 1) b_nl z83 b_op b_ar z84 b_pi b_pa z85 z86 b_ws b_hw u_la b_se b_re u_bk u_va u_su u_ce u_ho u_wy u_bt u_ps b_pt u_tg u_sn b_ip u_ic b_ah b_be b_me u_wd b_tr b_ld u_st b_wn u_id)), (b_tp, (arI G 400 v_tp))] hP hD (fun hP hD => ?_)
                    refine lv_aload_n hx hb dX12_readClause_180 rfl (lv_at hl 3 rfl) ?_
                    refine lv_iconst (v := 1) hx hb dX12_readClause_181 (by decide) ?_
                    obtain ⟨hPc, hDc, hFc⟩ := g5_sub3 (wc := [(b_o, (oc12 u_th u_sa b_rf b_ro b_im b_ke u_fd b_tp u_td z101 z102 z103 z104 z81 z82 (u_nc + 1) b_nl z83 b_op b_ar z84 b_pi b_pa z85 z86 b_ws b_hw u_la b_se b_re u_bk u_va u_su u_ce u_ho u_wy u_bt u_ps b_pt u_tg u_sn b_ip u_ic b_ah b_be b_me u_wd b_tr b_ld u_st b_wn u_id)), (b_tp, (arI G 400 v_tp)), (b_op, (arI G 400 z87)), (b_ar, (arI G 400 z88)), (b_pi, (arI G 400 z89)), (b_pa, (arI G 400 z90)), (b_ws, (arJ G 8 v_ws))]) hP hD hS hA [7, 8, 2, 3, 4, 5, 6] (by decide) rfl
                    refine va_callv (va_runV (As := [.int 1]) (rest := []) ⟨hx, hb, hml, hown, hts⟩ (n_readExpression l G b_o b_tp b_op b_ar b_pi b_pa b_ws b_rf b_ro b_im b_ke b_nl b_hw b_se b_re b_pt b_ip b_ah b_be b_me b_tr b_ld b_wn H.size u_th u_sa u_fd u_td z101 z102 z103 z81 z82 (u_nc + 1) z83 z84 z85 z86 u_la u_bk u_ce u_ho u_wy u_bt u_ps u_tg u_sn u_ic u_wd u_id 1 z104 u_va u_su u_st v_tp z87 z88 z89 z90 v_ws h_u_td i_97 i_98 ⟨by omega, by omega⟩ ⟨by omega, by omega⟩ i_70 i_71 h_u_la h_u_bk h_u_ce h_u_ho h_u_wy h_u_bt h_u_ps h_u_ic h_u_id ⟨by decide, by decide⟩ (by omega) (i_100) (by omega)) (cwV 1 hts gV_X12_315 rfl rfl rfl hv_X12_readExpression ⟨Nat.le_of_ble_eq_true rfl, Nat.le_of_ble_eq_true rfl⟩) (g5_preV hPc hK hDc hN hT hS hFc (ci := 12) (q0 := 0) rfl rfl) rfl rfl hl.1 rfl (lv_room (Nat.le_of_ble_eq_true rfl)) dX12_readClause_182 ⟨Nat.le_of_ble_eq_true rfl, Nat.le_of_ble_eq_true rfl⟩) hS (fun q _ h => hFc q h) hFc (fun u t H1 locs ht hvm hw hB hz1 hk1 hS => ?_)
                    obtain ⟨hP1, hD1⟩ := hB
                    rw [ht] at hP1
                    obtain ⟨z115, z116, z117, z118, z119, z120, z121, z122, z123, z124, z125, z126, z127, z128, i_105, i_106, i_107, i_108, i_109, i_110, i_111, i_112, i_113, i_114, rfl⟩ := hw
                    have i_105 : 0 ≤ z115.toInt ∧ z115.toInt ≤ 400 := i_105
                    have i_106 : 0 ≤ z116.toInt ∧ z116.toInt ≤ 400 := i_106
                    have i_107 : 0 ≤ z120.toInt ∧ z120.toInt ≤ 1 := i_107
                    have i_108 : 0 ≤ z121.toInt ∧ z121.toInt ≤ 400 := i_108
                    have i_109 : 0 ≤ z123.toInt ∧ z123.toInt ≤ 400 := i_109
                    have i_110 : z101.toInt ≤ z115.toInt ∧ z115.toInt ≤ z116.toInt ∧ z116.toInt ≤ u_td.toInt := i_110
                    have i_111 : TKs z117.toInt z115.toInt z116.toInt := i_111
                    have i_112 : KP z87 z88 z125 z126 z83.toInt := i_112
                    have i_113 : z83.toInt ≤ z121.toInt ∧ z121.toInt ≤ z115.toInt := i_113
                    have i_114 : z120.toInt = 0 → cdN z125 z126 z83.toInt z121.toInt := i_114
                    obtain ⟨hP, hD⟩ := va_join (wr := [(b_nl, (arI G 96 (upd (upd (upd (upd k75_nl (8 * u_nc).toNatClampNeg k4_1) ((8 * u_nc) + 3).toNatClampNeg u_co) ((8 * u_nc) + 4).toNatClampNeg z83) ((8 * u_nc) + 5).toNatClampNeg z83))), (b_hw, (arJ G 4 v_hw))]) hP hD [7, 8, 2, 3, 4, 5, 6] [0, 1] rfl rfl (by decide) (by decide) hk1 hFc hP1 hD1
                    generalize H1 = H at hP hS ⊢
                    refine g5_rs [(b_nl, (arI G 96 (upd (upd (upd (upd k75_nl (8 * u_nc).toNatClampNeg k4_1) ((8 * u_nc) + 3).toNatClampNeg u_co) ((8 * u_nc) + 4).toNatClampNeg z83) ((8 * u_nc) + 5).toNatClampNeg z83))), (b_hw, (arJ G 4 v_hw)), (b_o, (oc12 u_th u_sa b_rf b_ro b_im b_ke u_fd b_tp u_td z115 z116 z117 z118 z119 z120 (u_nc + 1) b_nl z121 b_op b_ar z122 b_pi b_pa z123 z124 b_ws b_hw u_la b_se b_re u_bk u_va u_su u_ce u_ho u_wy u_bt u_ps b_pt u_tg u_sn b_ip u_ic b_ah b_be b_me u_wd b_tr b_ld u_st b_wn u_id)), (b_tp, (arI G 400 v_tp)), (b_op, (arI G 400 z125)), (b_ar, (arI G 400 z126)), (b_pi, (arI G 400 z127)), (b_pa, (arI G 400 z128)), (b_ws, (arJ G 8 v_ws))] hP hD (fun hP hD => ?_)
                    refine lv_aload_n hx hb dX12_readClause_185 rfl (lv_at hl 3 rfl) ?_
                    refine va_get (D := G.1) (ci := 12) (v := .ref b_nl) (C := RX12) (T := TX12) (N := 52) hx hb hts inG_X12 hown hK hP 2 rfl rfl 16 (by decide) (hts _ fl_X12_30) (fun _ h9 => h9) rfl dX12_readClause_186 ?_
                    refine lv_iload_n hx hb dX12_readClause_189 rfl (lv_at hl 1 rfl) ?_
                    refine lv_bipush (v := 6) hx hb dX12_readClause_190 (by decide) ?_
                    refine lv_iadd hx hb dX12_readClause_192 ?_
                    have t_129 : ((8 * u_nc) + 6).toInt = (8 * u_nc).toInt + 6 := g5_iadd (a := (8 * u_nc).toInt) (b := 6) (by rfl) (by decide) (by omega) (by omega)
                    refine lv_aload_n hx hb dX12_readClause_193 rfl (lv_at hl 3 rfl) ?_
                    refine va_get (D := G.1) (ci := 12) (v := .int z121) (C := RX12) (T := TX12) (N := 52) hx hb hts inG_X12 hown hK hP 2 rfl rfl 17 (by decide) (hts _ fl_X12_237) (fun _ h9 => h9) rfl dX12_readClause_194 ?_
                    refine va_iast hx hb hK hP hD hS 0 0 rfl rfl (i := ((8 * u_nc) + 6)) (x := z121) (vp_in_iff.mpr ⟨by omega, by omega⟩) dX12_readClause_197 (fun H locs hP hD hS => ?_)
                    refine g5_rs [(b_nl, (arI G 96 (upd (upd (upd (upd (upd k75_nl (8 * u_nc).toNatClampNeg k4_1) ((8 * u_nc) + 3).toNatClampNeg u_co) ((8 * u_nc) + 4).toNatClampNeg z83) ((8 * u_nc) + 5).toNatClampNeg z83) ((8 * u_nc) + 6).toNatClampNeg z121))), (b_hw, (arJ G 4 v_hw)), (b_o, (oc12 u_th u_sa b_rf b_ro b_im b_ke u_fd b_tp u_td z115 z116 z117 z118 z119 z120 (u_nc + 1) b_nl z121 b_op b_ar z122 b_pi b_pa z123 z124 b_ws b_hw u_la b_se b_re u_bk u_va u_su u_ce u_ho u_wy u_bt u_ps b_pt u_tg u_sn b_ip u_ic b_ah b_be b_me u_wd b_tr b_ld u_st b_wn u_id)), (b_tp, (arI G 400 v_tp)), (b_op, (arI G 400 z125)), (b_ar, (arI G 400 z126)), (b_pi, (arI G 400 z127)), (b_pa, (arI G 400 z128)), (b_ws, (arJ G 8 v_ws))] hP hD (fun hP hD => ?_)
                    exact W.vret hx hb hr (fun t ht hW => ⟨⟨[(b_o, (oc12 u_th u_sa b_rf b_ro b_im b_ke u_fd b_tp u_td z115 z116 z117 z118 z119 z120 (u_nc + 1) b_nl z121 b_op b_ar z122 b_pi b_pa z123 z124 b_ws b_hw u_la b_se b_re u_bk u_va u_su u_ce u_ho u_wy u_bt u_ps b_pt u_tg u_sn b_ip u_ic b_ah b_be b_me u_wd b_tr b_ld u_st b_wn u_id)), (b_tp, (arI G 400 v_tp)), (b_nl, (arI G 96 (upd (upd (upd (upd (upd k75_nl (8 * u_nc).toNatClampNeg k4_1) ((8 * u_nc) + 3).toNatClampNeg u_co) ((8 * u_nc) + 4).toNatClampNeg z83) ((8 * u_nc) + 5).toNatClampNeg z83) ((8 * u_nc) + 6).toNatClampNeg z121))), (b_op, (arI G 400 z125)), (b_ar, (arI G 400 z126)), (b_pi, (arI G 400 z127)), (b_pa, (arI G 400 z128)), (b_ws, (arJ G 8 v_ws)), (b_hw, (arJ G 4 v_hw))], rfl, Or.inr (⟨z115, z116, z117, z118, z119, z120, (u_nc + 1), z121, z122, z123, z124, (upd (upd (upd (upd (upd k75_nl (8 * u_nc).toNatClampNeg k4_1) ((8 * u_nc) + 3).toNatClampNeg u_co) ((8 * u_nc) + 4).toNatClampNeg z83) ((8 * u_nc) + 5).toNatClampNeg z83) ((8 * u_nc) + 6).toNatClampNeg z121), z125, z126, z127, z128, i_105, i_106, i_107, ⟨by omega, by omega⟩, i_108, i_109, by omega, i_111, by omega, fun q9 => lwj_new e_l i_21 (kp_tr i_74 i_112 (by omega)) (by omega) (by omega) (by omega) (by omega) (by omega) (by omega) (by omega) (by omega) (by omega) (by omega) ⟨by omega, by omega⟩ (fun _ => cdN_congr (i_76 (by omega)) i_112) (i_114 q9), rfl⟩), by rw [ht]; exact hP.sub [2, 3, 0, 4, 5, 6, 7, 8, 1] rfl, hD.sub [2, 3, 0, 4, 5, 6, 7, 8, 1] (by decide) rfl⟩, hS.F ht⟩) hS.2.2 dX12_readClause_198
                ·
                  obtain ⟨hP, hD⟩ := va_join (wr := [(b_nl, (arI G 96 (upd (upd (upd (upd k75_nl (8 * u_nc).toNatClampNeg k4_1) ((8 * u_nc) + 3).toNatClampNeg u_co) ((8 * u_nc) + 4).toNatClampNeg z83) ((8 * u_nc) + 5).toNatClampNeg z83))), (b_hw, (arJ G 4 v_hw)), (b_tp, (arI G 400 v_tp)), (b_op, (arI G 400 z87)), (b_ar, (arI G 400 z88)), (b_pi, (arI G 400 z89)), (b_pa, (arI G 400 z90)), (b_ws, (arJ G 8 v_ws))]) hP hD [2] [0, 1, 3, 4, 5, 6, 7, 8] rfl rfl (by decide) (by decide) hk1 hFc hP1 hD1
                  generalize H1 = H at hP hS ⊢
                  refine g5_rs [(b_nl, (arI G 96 (upd (upd (upd (upd k75_nl (8 * u_nc).toNatClampNeg k4_1) ((8 * u_nc) + 3).toNatClampNeg u_co) ((8 * u_nc) + 4).toNatClampNeg z83) ((8 * u_nc) + 5).toNatClampNeg z83))), (b_hw, (arJ G 4 v_hw)), (b_tp, (arI G 400 v_tp)), (b_op, (arI G 400 z87)), (b_ar, (arI G 400 z88)), (b_pi, (arI G 400 z89)), (b_pa, (arI G 400 z90)), (b_ws, (arJ G 8 v_ws)), (b_o, (oc12 u_th u_sa b_rf b_ro b_im b_ke u_fd b_tp u_td z77 z78 z79 z80 z81 z82 (u_nc + 1) b_nl z83 b_op b_ar z84 b_pi b_pa z85 z86 b_ws b_hw u_la b_se b_re u_bk u_va u_su u_ce u_ho u_wy u_bt u_ps b_pt u_tg u_sn b_ip u_ic b_ah b_be b_me u_wd b_tr b_ld u_st b_wn u_id))] hP hD (fun hP hD => ?_)
                  refine lv_if_eq (tgt := 185) hx hb dX12_readClause_173 (by decide) (fun c_130 => ?_) (fun c_130 => ?_)
                  ·
                    refine lv_aload_n hx hb dX12_readClause_185 rfl (lv_at hl 3 rfl) ?_
                    refine va_get (D := G.1) (ci := 12) (v := .ref b_nl) (C := RX12) (T := TX12) (N := 52) hx hb hts inG_X12 hown hK hP 8 rfl rfl 16 (by decide) (hts _ fl_X12_30) (fun _ h9 => h9) rfl dX12_readClause_186 ?_
                    refine lv_iload_n hx hb dX12_readClause_189 rfl (lv_at hl 1 rfl) ?_
                    refine lv_bipush (v := 6) hx hb dX12_readClause_190 (by decide) ?_
                    refine lv_iadd hx hb dX12_readClause_192 ?_
                    have t_131 : ((8 * u_nc) + 6).toInt = (8 * u_nc).toInt + 6 := g5_iadd (a := (8 * u_nc).toInt) (b := 6) (by rfl) (by decide) (by omega) (by omega)
                    refine lv_aload_n hx hb dX12_readClause_193 rfl (lv_at hl 3 rfl) ?_
                    refine va_get (D := G.1) (ci := 12) (v := .int z83) (C := RX12) (T := TX12) (N := 52) hx hb hts inG_X12 hown hK hP 8 rfl rfl 17 (by decide) (hts _ fl_X12_237) (fun _ h9 => h9) rfl dX12_readClause_194 ?_
                    refine va_iast hx hb hK hP hD hS 0 0 rfl rfl (i := ((8 * u_nc) + 6)) (x := z83) (vp_in_iff.mpr ⟨by omega, by omega⟩) dX12_readClause_197 (fun H locs hP hD hS => ?_)
                    refine g5_rs [(b_nl, (arI G 96 (upd (upd (upd (upd (upd k75_nl (8 * u_nc).toNatClampNeg k4_1) ((8 * u_nc) + 3).toNatClampNeg u_co) ((8 * u_nc) + 4).toNatClampNeg z83) ((8 * u_nc) + 5).toNatClampNeg z83) ((8 * u_nc) + 6).toNatClampNeg z83))), (b_hw, (arJ G 4 v_hw)), (b_tp, (arI G 400 v_tp)), (b_op, (arI G 400 z87)), (b_ar, (arI G 400 z88)), (b_pi, (arI G 400 z89)), (b_pa, (arI G 400 z90)), (b_ws, (arJ G 8 v_ws)), (b_o, (oc12 u_th u_sa b_rf b_ro b_im b_ke u_fd b_tp u_td z77 z78 z79 z80 z81 z82 (u_nc + 1) b_nl z83 b_op b_ar z84 b_pi b_pa z85 z86 b_ws b_hw u_la b_se b_re u_bk u_va u_su u_ce u_ho u_wy u_bt u_ps b_pt u_tg u_sn b_ip u_ic b_ah b_be b_me u_wd b_tr b_ld u_st b_wn u_id))] hP hD (fun hP hD => ?_)
                    exact W.vret hx hb hr (fun t ht hW => ⟨⟨[(b_o, (oc12 u_th u_sa b_rf b_ro b_im b_ke u_fd b_tp u_td z77 z78 z79 z80 z81 z82 (u_nc + 1) b_nl z83 b_op b_ar z84 b_pi b_pa z85 z86 b_ws b_hw u_la b_se b_re u_bk u_va u_su u_ce u_ho u_wy u_bt u_ps b_pt u_tg u_sn b_ip u_ic b_ah b_be b_me u_wd b_tr b_ld u_st b_wn u_id)), (b_tp, (arI G 400 v_tp)), (b_nl, (arI G 96 (upd (upd (upd (upd (upd k75_nl (8 * u_nc).toNatClampNeg k4_1) ((8 * u_nc) + 3).toNatClampNeg u_co) ((8 * u_nc) + 4).toNatClampNeg z83) ((8 * u_nc) + 5).toNatClampNeg z83) ((8 * u_nc) + 6).toNatClampNeg z83))), (b_op, (arI G 400 z87)), (b_ar, (arI G 400 z88)), (b_pi, (arI G 400 z89)), (b_pa, (arI G 400 z90)), (b_ws, (arJ G 8 v_ws)), (b_hw, (arJ G 4 v_hw))], rfl, Or.inr (⟨z77, z78, z79, z80, z81, z82, (u_nc + 1), z83, z84, z85, z86, (upd (upd (upd (upd (upd k75_nl (8 * u_nc).toNatClampNeg k4_1) ((8 * u_nc) + 3).toNatClampNeg u_co) ((8 * u_nc) + 4).toNatClampNeg z83) ((8 * u_nc) + 5).toNatClampNeg z83) ((8 * u_nc) + 6).toNatClampNeg z83), z87, z88, z89, z90, i_67, i_68, i_69, ⟨by omega, by omega⟩, i_70, i_71, by omega, i_73, by omega, fun q9 => lwj_new e_l i_21 i_74 (by omega) (by omega) (by omega) (by omega) (by omega) (by omega) (by omega) (by omega) (by omega) (by omega) ⟨by omega, by omega⟩ (fun _ => (i_76 (by omega))) cdN_empty, rfl⟩), by rw [ht]; exact hP.sub [8, 2, 0, 3, 4, 5, 6, 7, 1] rfl, hD.sub [8, 2, 0, 3, 4, 5, 6, 7, 1] (by decide) rfl⟩, hS.F ht⟩) hS.2.2 dX12_readClause_198
                  ·
                    exact absurd c_130 (by decide)
          ·
            have i_23 : k75_3.toInt < 8 := by have z := g5_geN (a := k75_3.toInt) (b := 8) (by rfl) (by decide) c_23; omega
            refine lv_aload_n hx hb dX12_readClause_81 rfl (lv_at hl 3 rfl) ?_
            refine va_get (D := G.1) (ci := 12) (v := .ref b_nl) (C := RX12) (T := TX12) (N := 52) hx hb hts inG_X12 hown hK hP 7 rfl rfl 16 (by decide) (hts _ fl_X12_30) (fun _ h9 => h9) rfl dX12_readClause_82 ?_
            refine lv_iload_n hx hb dX12_readClause_85 rfl (lv_at hl 1 rfl) ?_
            refine lv_iload_n hx hb dX12_readClause_86 rfl (lv_at hl 0 rfl) ?_
            refine lv_iadd hx hb dX12_readClause_87 ?_
            have t_132 : ((8 * u_nc) + k75_3).toInt = (8 * u_nc).toInt + k75_3.toInt := g5_iadd (a := (8 * u_nc).toInt) (b := k75_3.toInt) (by rfl) (by rfl) (by omega) (by omega)
            refine lv_iconst (v := 0) hx hb dX12_readClause_88 (by decide) ?_
            refine va_iast hx hb hK hP hD hS 0 0 rfl rfl (i := ((8 * u_nc) + k75_3)) (x := 0) (vp_in_iff.mpr ⟨by omega, by omega⟩) dX12_readClause_89 (fun H locs hP hD hS => ?_)
            refine g5_rs [(b_nl, (arI G 96 (upd k75_nl ((8 * u_nc) + k75_3).toNatClampNeg 0))), (b_op, (arI G 400 v_op)), (b_ar, (arI G 400 v_ar)), (b_pi, (arI G 400 v_pi)), (b_pa, (arI G 400 v_pa)), (b_ws, (arJ G 8 v_ws)), (b_hw, (arJ G 4 v_hw)), (b_o, (oc12 u_th u_sa b_rf b_ro b_im b_ke u_fd b_tp u_td z14 z15 z16 z17 u_fa u_bd u_nc b_nl u_co b_op b_ar u_le b_pi b_pa u_pd u_od b_ws b_hw u_la b_se b_re u_bk u_va u_su u_ce u_ho u_wy u_bt u_ps b_pt u_tg u_sn b_ip u_ic b_ah b_be b_me u_wd b_tr b_ld u_st b_wn u_id)), (b_tp, (arI G 400 v_tp))] hP hD (fun hP hD => ?_)
            refine lv_iinc (v := (k75_3 + 1)) (lv' := [(3, .int (k75_3 + 1)), (2, .int (8 * u_nc)), (1, .int k4_1), (0, .ref b_o)]) hx hb dX12_readClause_90 hl (k := 0) rfl rfl (by decide) rfl (fun ls hl => ?_)
            have t_133 : (k75_3 + 1).toInt = k75_3.toInt + 1 := g5_iadd (a := k75_3.toInt) (b := 1) rfl (by decide) (by omega) (by omega)
            refine lv_goto (tgt := 75) hx hb dX12_readClause_93 (by decide) ?_
            exact ih_75_22 ((k75_3 + 1), (upd k75_nl ((8 * u_nc) + k75_3).toNatClampNeg 0)) ls H locs (show Int.toNat (8 - (k75_3 + 1).toInt) < Int.toNat (8 - k75_3.toInt) from g_up (show k75_3.toInt < (k75_3 + 1).toInt by omega) (show k75_3.toInt < 8 by omega)) ⟨lv_sub hl [0, 1, 2, 3] rfl, hP, hD, hS, ⟨by omega, by omega⟩, cl_keep i_21 (by omega)⟩
        ·
          have i_18 : u_bd.toInt ≠ 0 := by have z := g5_eqN (a := u_bd.toInt) (b := 0) (by rfl) (by decide) c_18; omega
          omega
  ·
    have i_5 : k4_2.toInt < 4 := by have z := g5_geN (a := k4_2.toInt) (b := 4) (by rfl) (by decide) c_5; omega
    refine lv_aload_n hx hb dX12_readClause_9 rfl (lv_at hl 2 rfl) ?_
    refine lv_aload_n hx hb dX12_readClause_10 rfl (lv_at hl 2 rfl) ?_
    refine va_get (D := G.1) (ci := 12) (v := .ref b_hw) (C := RX12) (T := TX12) (N := 52) hx hb hts inG_X12 hown hK hP 0 rfl rfl 26 (by decide) (hts _ fl_X12_73) (fun _ h9 => h9) rfl dX12_readClause_11 ?_
    refine lv_iload_n hx hb dX12_readClause_14 rfl (lv_at hl 1 rfl) ?_
    refine va_lald hx hb hK hP 8 1 rfl rfl (i := k4_2) (vp_in_iff.mpr ⟨by omega, by omega⟩) dX12_readClause_15 ?_
    obtain ⟨hPc, hDc, hFc⟩ := g5_sub3 (wc := [(b_o, (oc12 u_th u_sa b_rf b_ro b_im b_ke u_fd b_tp u_td u_fr u_to u_so u_wo u_fa u_bd u_nc b_nl u_co b_op b_ar u_le b_pi b_pa u_pd u_od b_ws b_hw u_la b_se b_re u_bk u_va u_su u_ce u_ho u_wy u_bt u_ps b_pt u_tg u_sn b_ip u_ic b_ah b_be b_me u_wd b_tr b_ld u_st b_wn u_id))]) hP hD hS hA [0] (by decide) rfl
    refine va_calli (va_runV (As := [.long (v_hw k4_2.toNatClampNeg)]) (rest := []) ⟨hx, hb, hml, hown, hts⟩ (n_isWord l G b_o b_rf b_ro b_im b_ke b_tp b_nl b_op b_ar b_pi b_pa b_ws b_hw b_se b_re b_pt b_ip b_ah b_be b_me b_tr b_ld b_wn H.size u_th u_sa u_fd u_td u_fr u_to u_so u_fa u_bd u_nc u_co u_le u_pd u_od u_la u_bk u_ce u_ho u_wy u_bt u_ps u_tg u_sn u_ic u_wd u_id u_wo u_va u_su u_st (v_hw k4_2.toNatClampNeg) h_u_td h_u_fr h_u_to ⟨by omega, by omega⟩ h_u_nc h_u_co h_u_pd h_u_la h_u_bk h_u_ce h_u_ho h_u_wy h_u_bt h_u_ps h_u_ic h_u_id) (cwV 1 hts gV_X12_254 rfl rfl rfl hv_X12_isWord ⟨Nat.le_of_ble_eq_true rfl, Nat.le_of_ble_eq_true rfl⟩) (g5_preV hPc hK hDc hN hT hS hFc (ci := 12) (q0 := 0) rfl rfl) rfl rfl hl.1 rfl (lv_room (Nat.le_of_ble_eq_true rfl)) dX12_readClause_16 ⟨Nat.le_of_ble_eq_true rfl, Nat.le_of_ble_eq_true rfl⟩) hS (fun q _ h => hFc q h) hFc (fun r u t H1 locs ht hvm hw hB hz1 hk1 hS => ?_)
    obtain ⟨hP1, hD1⟩ := hB
    rw [ht] at hP1
    rcases hw with ⟨i_134, rfl, rfl⟩ | ⟨rfl, rfl⟩
    ·
      have i_134 : u_so.toInt = 1 := i_134
      obtain ⟨hP, hD⟩ := va_join (wr := [(b_tp, (arI G 400 v_tp)), (b_nl, (arI G 96 v_nl)), (b_op, (arI G 400 v_op)), (b_ar, (arI G 400 v_ar)), (b_pi, (arI G 400 v_pi)), (b_pa, (arI G 400 v_pa)), (b_ws, (arJ G 8 v_ws)), (b_hw, (arJ G 4 v_hw))]) hP hD [0] [1, 2, 3, 4, 5, 6, 7, 8] rfl rfl (by decide) (by decide) hk1 hFc hP1 hD1
      generalize H1 = H at hP hS ⊢
      refine g5_rs [(b_tp, (arI G 400 v_tp)), (b_nl, (arI G 96 v_nl)), (b_op, (arI G 400 v_op)), (b_ar, (arI G 400 v_ar)), (b_pi, (arI G 400 v_pi)), (b_pa, (arI G 400 v_pa)), (b_ws, (arJ G 8 v_ws)), (b_hw, (arJ G 4 v_hw)), (b_o, (oc12 u_th u_sa b_rf b_ro b_im b_ke u_fd b_tp u_td u_fr u_to u_so u_wo u_fa u_bd u_nc b_nl u_co b_op b_ar u_le b_pi b_pa u_pd u_od b_ws b_hw u_la b_se b_re u_bk u_va u_su u_ce u_ho u_wy u_bt u_ps b_pt u_tg u_sn b_ip u_ic b_ah b_be b_me u_wd b_tr b_ld u_st b_wn u_id))] hP hD (fun hP hD => ?_)
      refine lv_if_eq (tgt := 26) hx hb dX12_readClause_19 (by decide) (fun c_135 => ?_) (fun c_135 => ?_)
      ·
        exact absurd c_135 (by decide)
      ·
        refine lv_iload_n hx hb dX12_readClause_22 rfl (lv_at hl 1 rfl) ?_
        refine lv_goto (tgt := 27) hx hb dX12_readClause_23 (by decide) ?_
        refine lv_istore_n (lv' := [(1, .int k4_2), (2, .int k4_2), (0, .ref b_o)]) hx hb dX12_readClause_27 rfl hl (by decide) rfl (fun ls hl => ?_)
        refine lv_iinc (v := (k4_2 + 1)) (lv' := [(2, .int (k4_2 + 1)), (1, .int k4_2), (0, .ref b_o)]) hx hb dX12_readClause_28 hl (k := 1) rfl rfl (by decide) rfl (fun ls hl => ?_)
        have t_136 : (k4_2 + 1).toInt = k4_2.toInt + 1 := g5_iadd (a := k4_2.toInt) (b := 1) rfl (by decide) (by omega) (by omega)
        refine lv_goto (tgt := 4) hx hb dX12_readClause_31 (by decide) ?_
        exact ih_4_4 ((k4_2 + 1), k4_2) ls H locs (show Int.toNat (4 - (k4_2 + 1).toInt) < Int.toNat (4 - k4_2.toInt) from g_up (show k4_2.toInt < (k4_2 + 1).toInt by omega) (show k4_2.toInt < 4 by omega)) ⟨lv_sub hl [1, 0, 2] rfl, hP.sub [8, 0, 1, 2, 3, 4, 5, 6, 7] rfl, hD.sub [8, 0, 1, 2, 3, 4, 5, 6, 7] (by decide) rfl, hS, ⟨by omega, by omega⟩, ⟨by omega, by omega⟩, Or.inr (by omega)⟩
    ·
      obtain ⟨hP, hD⟩ := va_join (wr := [(b_tp, (arI G 400 v_tp)), (b_nl, (arI G 96 v_nl)), (b_op, (arI G 400 v_op)), (b_ar, (arI G 400 v_ar)), (b_pi, (arI G 400 v_pi)), (b_pa, (arI G 400 v_pa)), (b_ws, (arJ G 8 v_ws)), (b_hw, (arJ G 4 v_hw))]) hP hD [0] [1, 2, 3, 4, 5, 6, 7, 8] rfl rfl (by decide) (by decide) hk1 hFc hP1 hD1
      generalize H1 = H at hP hS ⊢
      refine g5_rs [(b_tp, (arI G 400 v_tp)), (b_nl, (arI G 96 v_nl)), (b_op, (arI G 400 v_op)), (b_ar, (arI G 400 v_ar)), (b_pi, (arI G 400 v_pi)), (b_pa, (arI G 400 v_pa)), (b_ws, (arJ G 8 v_ws)), (b_hw, (arJ G 4 v_hw)), (b_o, (oc12 u_th u_sa b_rf b_ro b_im b_ke u_fd b_tp u_td u_fr u_to u_so u_wo u_fa u_bd u_nc b_nl u_co b_op b_ar u_le b_pi b_pa u_pd u_od b_ws b_hw u_la b_se b_re u_bk u_va u_su u_ce u_ho u_wy u_bt u_ps b_pt u_tg u_sn b_ip u_ic b_ah b_be b_me u_wd b_tr b_ld u_st b_wn u_id))] hP hD (fun hP hD => ?_)
      refine lv_if_eq (tgt := 26) hx hb dX12_readClause_19 (by decide) (fun c_137 => ?_) (fun c_137 => ?_)
      ·
        refine lv_iload_n hx hb dX12_readClause_26 rfl (lv_at hl 0 rfl) ?_
        refine lv_istore_n (lv' := [(1, .int k4_1), (2, .int k4_2), (0, .ref b_o)]) hx hb dX12_readClause_27 rfl hl (by decide) rfl (fun ls hl => ?_)
        refine lv_iinc (v := (k4_2 + 1)) (lv' := [(2, .int (k4_2 + 1)), (1, .int k4_1), (0, .ref b_o)]) hx hb dX12_readClause_28 hl (k := 1) rfl rfl (by decide) rfl (fun ls hl => ?_)
        have t_138 : (k4_2 + 1).toInt = k4_2.toInt + 1 := g5_iadd (a := k4_2.toInt) (b := 1) rfl (by decide) (by omega) (by omega)
        refine lv_goto (tgt := 4) hx hb dX12_readClause_31 (by decide) ?_
        exact ih_4_4 ((k4_2 + 1), k4_1) ls H locs (show Int.toNat (4 - (k4_2 + 1).toInt) < Int.toNat (4 - k4_2.toInt) from g_up (show k4_2.toInt < (k4_2 + 1).toInt by omega) (show k4_2.toInt < 4 by omega)) ⟨lv_sub hl [1, 0, 2] rfl, hP.sub [8, 0, 1, 2, 3, 4, 5, 6, 7] rfl, hD.sub [8, 0, 1, 2, 3, 4, 5, 6, 7] (by decide) rfl, hS, ⟨by omega, by omega⟩, i_2, i_3⟩
      ·
        exact absurd c_137 (by decide)
theorem dgX12_begin_0 : ∀ r ∈ ([(0, (.aload_n 0, 1)), (1, (.iconst 0, 1)), (2, (.putfield 202, 3)), (5, (.aload_n 0, 1)), (6, (.iconst 0, 1)), (7, (.putfield 205, 3)), (10, (.aload_n 0, 1)), (11, (.iconst (-1), 1)), (12, (.putfield 26, 3)), (15, (.aload_n 0, 1)), (16, (.invokevirtual 208, 3)), (19, (.return_, 1))] : List (Nat × (Instr × Nat))), decode cX12_begin r.1 = .ok r.2 := by decide +kernel
theorem dX12_begin_0 : decode cX12_begin 0 = .ok (.aload_n 0, 1) := dgX12_begin_0 (0, (.aload_n 0, 1)) (List.mem_of_getElem? (i := 0) rfl)
theorem dX12_begin_1 : decode cX12_begin 1 = .ok (.iconst 0, 1) := dgX12_begin_0 (1, (.iconst 0, 1)) (List.mem_of_getElem? (i := 1) rfl)
theorem dX12_begin_2 : decode cX12_begin 2 = .ok (.putfield 202, 3) := dgX12_begin_0 (2, (.putfield 202, 3)) (List.mem_of_getElem? (i := 2) rfl)
theorem dX12_begin_5 : decode cX12_begin 5 = .ok (.aload_n 0, 1) := dgX12_begin_0 (5, (.aload_n 0, 1)) (List.mem_of_getElem? (i := 3) rfl)
theorem dX12_begin_6 : decode cX12_begin 6 = .ok (.iconst 0, 1) := dgX12_begin_0 (6, (.iconst 0, 1)) (List.mem_of_getElem? (i := 4) rfl)
theorem dX12_begin_7 : decode cX12_begin 7 = .ok (.putfield 205, 3) := dgX12_begin_0 (7, (.putfield 205, 3)) (List.mem_of_getElem? (i := 5) rfl)
theorem dX12_begin_10 : decode cX12_begin 10 = .ok (.aload_n 0, 1) := dgX12_begin_0 (10, (.aload_n 0, 1)) (List.mem_of_getElem? (i := 6) rfl)
theorem dX12_begin_11 : decode cX12_begin 11 = .ok (.iconst (-1), 1) := dgX12_begin_0 (11, (.iconst (-1), 1)) (List.mem_of_getElem? (i := 7) rfl)
theorem dX12_begin_12 : decode cX12_begin 12 = .ok (.putfield 26, 3) := dgX12_begin_0 (12, (.putfield 26, 3)) (List.mem_of_getElem? (i := 8) rfl)
theorem dX12_begin_15 : decode cX12_begin 15 = .ok (.aload_n 0, 1) := dgX12_begin_0 (15, (.aload_n 0, 1)) (List.mem_of_getElem? (i := 9) rfl)
theorem dX12_begin_16 : decode cX12_begin 16 = .ok (.invokevirtual 208, 3) := dgX12_begin_0 (16, (.invokevirtual 208, 3)) (List.mem_of_getElem? (i := 10) rfl)
theorem dX12_begin_19 : decode cX12_begin 19 = .ok (.return_, 1) := dgX12_begin_0 (19, (.return_, 1)) (List.mem_of_getElem? (i := 11) rfl)
set_option maxHeartbeats 4000000 in
set_option maxRecDepth 100000 in
theorem n_begin (l : Launch) (G : g5_G) (b_o b_tp b_rf b_ro b_im b_ke b_nl b_op b_ar b_pi b_pa b_ws b_hw b_se b_re b_pt b_ip b_ah b_be b_me b_tr b_ld b_wn : Nat) (sz : Nat) (u_th : Int32) (u_sa : Int32) (u_fd : Int32) (u_td : Int32) (u_fr : Int32) (u_to : Int32) (u_so : Int32) (u_fa : Int32) (u_bd : Int32) (u_nc : Int32) (u_co : Int32) (u_le : Int32) (u_pd : Int32) (u_od : Int32) (u_la : Int32) (u_bk : Int32) (u_ce : Int32) (u_ho : Int32) (u_wy : Int32) (u_bt : Int32) (u_ps : Int32) (u_tg : Int32) (u_sn : Int32) (u_ic : Int32) (u_wd : Int32) (u_id : Int32) (u_wo : Int64) (u_va : Int64) (u_su : Int64) (u_st : Int64) (v_tp : Nat → Int32) (h_u_td : 0 ≤ u_td.toInt ∧ u_td.toInt ≤ 400) (h_u_fr : 0 ≤ u_fr.toInt ∧ u_fr.toInt ≤ 400) (h_u_to : 0 ≤ u_to.toInt ∧ u_to.toInt ≤ 400) (h_u_bd : 0 ≤ u_bd.toInt ∧ u_bd.toInt ≤ 1) (h_u_nc : 0 ≤ u_nc.toInt ∧ u_nc.toInt ≤ 12) (h_u_co : 0 ≤ u_co.toInt ∧ u_co.toInt ≤ 400) (h_u_pd : 0 ≤ u_pd.toInt ∧ u_pd.toInt ≤ 400) (h_u_la : 0 ≤ u_la.toInt ∧ u_la.toInt ≤ 4840) (h_u_bk : 0 ≤ u_bk.toInt ∧ u_bk.toInt ≤ 1) (h_u_ce : 0 ≤ u_ce.toInt ∧ u_ce.toInt ≤ 63) (h_u_ho : 0 ≤ u_ho.toInt ∧ u_ho.toInt ≤ 23) (h_u_wy : 0 ≤ u_wy.toInt ∧ u_wy.toInt ≤ 3) (h_u_bt : 0 ≤ u_bt.toInt ∧ u_bt.toInt ≤ 1000000) (h_u_ps : 0 ≤ u_ps.toInt ∧ u_ps.toInt ≤ 200) (h_u_ic : 0 ≤ u_ic.toInt ∧ u_ic.toInt ≤ 1) (h_u_id : 0 ≤ u_id.toInt ∧ u_id.toInt ≤ 1) : Met l yX12_begin (wsG yX12_begin cX12_begin 1 none) ({ frames := 2, cells := 0, slots := 0, locals := 40 }) (va_Pc [.ref b_o] (g5_P G [(b_o, (oc12 u_th u_sa b_rf b_ro b_im b_ke u_fd b_tp u_td u_fr u_to u_so u_wo u_fa u_bd u_nc b_nl u_co b_op b_ar u_le b_pi b_pa u_pd u_od b_ws b_hw u_la b_se b_re u_bk u_va u_su u_ce u_ho u_wy u_bt u_ps b_pt u_tg u_sn b_ip u_ic b_ah b_be b_me u_wd b_tr b_ld u_st b_wn u_id)), (b_tp, (arI G 400 v_tp))] sz)) (va_Qv (fun (u : va_W) => (∃ (o_fr : Int32) (o_to : Int32) (o_so : Int32) (o_wo : Int64), (0 ≤ o_fr.toInt ∧ o_fr.toInt ≤ 400) ∧ (0 ≤ o_to.toInt ∧ o_to.toInt ≤ 400) ∧ (o_fr.toInt ≤ o_to.toInt ∧ o_to.toInt ≤ u_td.toInt) ∧ (TKs o_so.toInt o_fr.toInt o_to.toInt) ∧ (u = [(b_o, (oc12 u_th u_sa b_rf b_ro b_im b_ke u_fd b_tp u_td o_fr o_to o_so o_wo (-1) 0 u_nc b_nl u_co b_op b_ar u_le b_pi b_pa u_pd u_od b_ws b_hw u_la b_se b_re u_bk u_va u_su u_ce u_ho u_wy u_bt u_ps b_pt u_tg u_sn b_ip u_ic b_ah b_be b_me u_wd b_tr b_ld u_st b_wn u_id)), (b_tp, (arI G 400 v_tp))]))) (g5_B G (va_A [(b_o, (oc12 u_th u_sa b_rf b_ro b_im b_ke u_fd b_tp u_td u_fr u_to u_so u_wo u_fa u_bd u_nc b_nl u_co b_op b_ar u_le b_pi b_pa u_pd u_od b_ws b_hw u_la b_se b_re u_bk u_va u_su u_ce u_ho u_wy u_bt u_ps b_pt u_tg u_sn b_ip u_ic b_ah b_be b_me u_wd b_tr b_ld u_st b_wn u_id)), (b_tp, (arI G 400 v_tp))] sz)) (va_A [(b_o, (oc12 u_th u_sa b_rf b_ro b_im b_ke u_fd b_tp u_td u_fr u_to u_so u_wo u_fa u_bd u_nc b_nl u_co b_op b_ar u_le b_pi b_pa u_pd u_od b_ws b_hw u_la b_se b_re u_bk u_va u_su u_ce u_ho u_wy u_bt u_ps b_pt u_tg u_sn b_ip u_ic b_ah b_be b_me u_wd b_tr b_ld u_st b_wn u_id)), (b_tp, (arI G 400 v_tp))] sz)) 0 0 (va_A [(b_o, (oc12 u_th u_sa b_rf b_ro b_im b_ke u_fd b_tp u_td u_fr u_to u_so u_wo u_fa u_bd u_nc b_nl u_co b_op b_ar u_le b_pi b_pa u_pd u_od b_ws b_hw u_la b_se b_re u_bk u_va u_su u_ce u_ho u_wy u_bt u_ps b_pt u_tg u_sn b_ip u_ic b_ah b_be b_me u_wd b_tr b_ld u_st b_wn u_id)), (b_tp, (arI G 400 v_tp))] sz) := by
  refine Met.ofW (cc := cX12_begin) (maxL := 1) (ret := none) (by decide) rfl ?_
  intro p e s m args below meth c s₁ B hml hv
  obtain ⟨rfl, hsz, hP, hK, hD0, hN, hT⟩ := hv
  have hx := B.exec
  have hb := B.bytes
  have hr := B.returns
  have hts : ∀ w ∈ tblG, w.before _ s = true := fun w h => atoms_spec (ws := (wsG yX12_begin cX12_begin 1 none)) B.pre w (List.mem_cons_of_mem _ h)
  have hown : s.vm.findClass RX12 = some m.cls := findClass_of_methodNamed B.named
  have hlocks := B.notSynchronized
  subst hsz
  have hD := hD0.self (sz := s.heap.size)
  generalize hAe : va_A [(b_o, (oc12 u_th u_sa b_rf b_ro b_im b_ke u_fd b_tp u_td u_fr u_to u_so u_wo u_fa u_bd u_nc b_nl u_co b_op b_ar u_le b_pi b_pa u_pd u_od b_ws b_hw u_la b_se b_re u_bk u_va u_su u_ce u_ho u_wy u_bt u_ps b_pt u_tg u_sn b_ip u_ic b_ah b_be b_me u_wd b_tr b_ld u_st b_wn u_id)), (b_tp, (arI G 400 v_tp))] s.heap.size = A at hD hT ⊢
  have hA : ∀ q : Nat, s.heap.size ≤ q → A q := fun q h => by rw [← hAe]; exact Or.inr h
  have hS : va_S A s.heap s.heap [] := va_S.rf
  have hP : va_P G.1 vwCl [(b_o, (oc12 u_th u_sa b_rf b_ro b_im b_ke u_fd b_tp u_td u_fr u_to u_so u_wo u_fa u_bd u_nc b_nl u_co b_op b_ar u_le b_pi b_pa u_pd u_od b_ws b_hw u_la b_se b_re u_bk u_va u_su u_ce u_ho u_wy u_bt u_ps b_pt u_tg u_sn b_ip u_ic b_ah b_be b_me u_wd b_tr b_ld u_st b_wn u_id)), (b_tp, (arI G 400 v_tp))] s.heap := hP
  have hl := lv_entry ([.ref b_o]) (n := 1) (Nat.le_of_ble_eq_true rfl)
  rw [lg_entry_eq]
  generalize (lg_sl ([.ref b_o]) ++ List.replicate (1 - (lg_sl ([.ref b_o])).length) Slot.unset).toArray = ls at hl ⊢
  have hl : lv_has ls 1 [(0, .ref b_o)] := hl
  have z00 : (0 : Int32).toInt = 0 := (by decide)
  refine lv_aload_n hx hb dX12_begin_0 rfl (lv_at hl 0 rfl) ?_
  refine lv_iconst (v := 0) hx hb dX12_begin_1 (by decide) ?_
  refine va_put (D := G.1) (ci := 12) (v := .int 0) (ty := .int) (C := RX12) (T := TX12) (N := 52) hx hb hts inG_X12 tyX12 tyX12_ok nmX12 hown hK hP hD hS 0 rfl rfl 10 (by decide) (hts _ fl_X12_202) (fun _ h9 => h9) rfl (by decide +kernel) rfl rfl (Nat.le_of_ble_eq_true rfl) dX12_begin_2 (fun H locs hP hD hS => ?_)
  refine g5_rs [(b_o, (oc12 u_th u_sa b_rf b_ro b_im b_ke u_fd b_tp u_td u_fr 0 u_so u_wo u_fa u_bd u_nc b_nl u_co b_op b_ar u_le b_pi b_pa u_pd u_od b_ws b_hw u_la b_se b_re u_bk u_va u_su u_ce u_ho u_wy u_bt u_ps b_pt u_tg u_sn b_ip u_ic b_ah b_be b_me u_wd b_tr b_ld u_st b_wn u_id)), (b_tp, (arI G 400 v_tp))] hP hD (fun hP hD => ?_)
  refine lv_aload_n hx hb dX12_begin_5 rfl (lv_at hl 0 rfl) ?_
  refine lv_iconst (v := 0) hx hb dX12_begin_6 (by decide) ?_
  refine va_put (D := G.1) (ci := 12) (v := .int 0) (ty := .boolean) (C := RX12) (T := TX12) (N := 52) hx hb hts inG_X12 tyX12 tyX12_ok nmX12 hown hK hP hD hS 0 rfl rfl 14 (by decide) (hts _ fl_X12_205) (fun _ h9 => h9) rfl (by decide +kernel) rfl rfl (Nat.le_of_ble_eq_true rfl) dX12_begin_7 (fun H locs hP hD hS => ?_)
  refine g5_rs [(b_o, (oc12 u_th u_sa b_rf b_ro b_im b_ke u_fd b_tp u_td u_fr 0 u_so u_wo u_fa 0 u_nc b_nl u_co b_op b_ar u_le b_pi b_pa u_pd u_od b_ws b_hw u_la b_se b_re u_bk u_va u_su u_ce u_ho u_wy u_bt u_ps b_pt u_tg u_sn b_ip u_ic b_ah b_be b_me u_wd b_tr b_ld u_st b_wn u_id)), (b_tp, (arI G 400 v_tp))] hP hD (fun hP hD => ?_)
  refine lv_aload_n hx hb dX12_begin_10 rfl (lv_at hl 0 rfl) ?_
  refine lv_iconst (v := (-1)) hx hb dX12_begin_11 (by decide) ?_
  refine va_put (D := G.1) (ci := 12) (v := .int (-1)) (ty := .int) (C := RX12) (T := TX12) (N := 52) hx hb hts inG_X12 tyX12 tyX12_ok nmX12 hown hK hP hD hS 0 rfl rfl 13 (by decide) (hts _ fl_X12_26) (fun _ h9 => h9) rfl (by decide +kernel) rfl rfl (Nat.le_of_ble_eq_true rfl) dX12_begin_12 (fun H locs hP hD hS => ?_)
  refine g5_rs [(b_o, (oc12 u_th u_sa b_rf b_ro b_im b_ke u_fd b_tp u_td u_fr 0 u_so u_wo (-1) 0 u_nc b_nl u_co b_op b_ar u_le b_pi b_pa u_pd u_od b_ws b_hw u_la b_se b_re u_bk u_va u_su u_ce u_ho u_wy u_bt u_ps b_pt u_tg u_sn b_ip u_ic b_ah b_be b_me u_wd b_tr b_ld u_st b_wn u_id)), (b_tp, (arI G 400 v_tp))] hP hD (fun hP hD => ?_)
  refine lv_aload_n hx hb dX12_begin_15 rfl (lv_at hl 0 rfl) ?_
  obtain ⟨hPc, hDc, hFc⟩ := g5_sub3 (wc := [(b_o, (oc12 u_th u_sa b_rf b_ro b_im b_ke u_fd b_tp u_td u_fr 0 u_so u_wo (-1) 0 u_nc b_nl u_co b_op b_ar u_le b_pi b_pa u_pd u_od b_ws b_hw u_la b_se b_re u_bk u_va u_su u_ce u_ho u_wy u_bt u_ps b_pt u_tg u_sn b_ip u_ic b_ah b_be b_me u_wd b_tr b_ld u_st b_wn u_id)), (b_tp, (arI G 400 v_tp))]) hP hD hS hA [0, 1] (by decide) rfl
  refine va_callv (va_runV (As := []) (rest := []) ⟨hx, hb, hml, hown, hts⟩ (n_next l G b_o b_tp b_rf b_ro b_im b_ke b_nl b_op b_ar b_pi b_pa b_ws b_hw b_se b_re b_pt b_ip b_ah b_be b_me b_tr b_ld b_wn H.size u_th u_sa u_fd u_td u_fr 0 u_so (-1) 0 u_nc u_co u_le u_pd u_od u_la u_bk u_ce u_ho u_wy u_bt u_ps u_tg u_sn u_ic u_wd u_id u_wo u_va u_su u_st v_tp h_u_td h_u_fr ⟨by decide, by decide⟩ ⟨by decide, by decide⟩ h_u_nc h_u_co h_u_pd h_u_la h_u_bk h_u_ce h_u_ho h_u_wy h_u_bt h_u_ps h_u_ic h_u_id (by omega)) (cwV 0 hts gV_X12_208 rfl rfl rfl hv_X12_next ⟨Nat.le_of_ble_eq_true rfl, Nat.le_of_ble_eq_true rfl⟩) (g5_preV hPc hK hDc hN hT hS hFc (ci := 12) (q0 := 0) rfl rfl) rfl rfl hl.1 rfl (lv_room (Nat.le_of_ble_eq_true rfl)) dX12_begin_16 ⟨Nat.le_of_ble_eq_true rfl, Nat.le_of_ble_eq_true rfl⟩) hS (fun q _ h => hFc q h) hFc (fun u t H1 locs ht hvm hw hB hz1 hk1 hS => ?_)
  obtain ⟨hP1, hD1⟩ := hB
  rw [ht] at hP1
  obtain ⟨z5, z6, z7, z8, i_1, i_2, i_3, i_4, rfl⟩ := hw
  have i_1 : 0 ≤ z5.toInt ∧ z5.toInt ≤ 400 := i_1
  have i_2 : 0 ≤ z6.toInt ∧ z6.toInt ≤ 400 := i_2
  have i_3 : (0 : Int32).toInt ≤ z5.toInt ∧ z5.toInt ≤ z6.toInt ∧ z6.toInt ≤ u_td.toInt := i_3
  have i_4 : TKs z7.toInt z5.toInt z6.toInt := i_4
  obtain ⟨hP, hD⟩ := va_join (wr := []) hP hD [0, 1] [] rfl rfl (by decide) (by decide) hk1 hFc hP1 hD1
  generalize H1 = H at hP hS ⊢
  refine g5_rs [(b_o, (oc12 u_th u_sa b_rf b_ro b_im b_ke u_fd b_tp u_td z5 z6 z7 z8 (-1) 0 u_nc b_nl u_co b_op b_ar u_le b_pi b_pa u_pd u_od b_ws b_hw u_la b_se b_re u_bk u_va u_su u_ce u_ho u_wy u_bt u_ps b_pt u_tg u_sn b_ip u_ic b_ah b_be b_me u_wd b_tr b_ld u_st b_wn u_id)), (b_tp, (arI G 400 v_tp))] hP hD (fun hP hD => ?_)
  exact W.vret hx hb hr (fun t ht hW => ⟨⟨[(b_o, (oc12 u_th u_sa b_rf b_ro b_im b_ke u_fd b_tp u_td z5 z6 z7 z8 (-1) 0 u_nc b_nl u_co b_op b_ar u_le b_pi b_pa u_pd u_od b_ws b_hw u_la b_se b_re u_bk u_va u_su u_ce u_ho u_wy u_bt u_ps b_pt u_tg u_sn b_ip u_ic b_ah b_be b_me u_wd b_tr b_ld u_st b_wn u_id)), (b_tp, (arI G 400 v_tp))], rfl, ⟨z5, z6, z7, z8, i_1, i_2, by omega, i_4, rfl⟩, by rw [ht]; exact hP.sub [0, 1] rfl, hD.sub [0, 1] (by decide) rfl⟩, hS.F ht⟩) hS.2.2 dX12_begin_19
theorem dgX12_law_0 : ∀ r ∈ ([(0, (.aload_n 0, 1)), (1, (.iconst 0, 1)), (2, (.putfield 107, 3)), (5, (.aload_n 0, 1)), (6, (.getfield 13, 3)), (9, (.iconst 2, 1)), (10, (.iaload, 1)), (11, (.bipush 6, 2)), (13, (.if_icmp .ne 15, 3)), (16, (.aload_n 0, 1)), (17, (.iconst 0, 1)), (18, (.putfield 192, 3)), (21, (.aload_n 0, 1)), (22, (.bipush (-5), 2)), (24, (.invokevirtual 125, 3)), (27, (.ireturn, 1)), (28, (.aload_n 0, 1)), (29, (.invokevirtual 320, 3)), (32, (.aload_n 0, 1)), (33, (.iconst 0, 1)), (34, (.putfield 312, 3)), (37, (.aload_n 0, 1)), (38, (.iconst 0, 1)), (39, (.putfield 237, 3)), (42, (.aload_n 0, 1)), (43, (.iconst 0, 1)), (44, (.putfield 264, 3)), (47, (.aload_n 0, 1)), (48, (.invokevirtual 323, 3)), (51, (.aload_n 0, 1)), (52, (.getfield 205, 3)), (55, (.ifCond .ne 23, 3)), (58, (.aload_n 0, 1)), (59, (.bipush 59, 2)), (61, (.invokevirtual 267, 3)), (64, (.ifCond .eq 14, 3)), (67, (.aload_n 0, 1)), (68, (.invokevirtual 208, 3)), (71, (.aload_n 0, 1)), (72, (.invokevirtual 323, 3))] : List (Nat × (Instr × Nat))), decode cX12_law r.1 = .ok r.2 := by decide +kernel
theorem dX12_law_0 : decode cX12_law 0 = .ok (.aload_n 0, 1) := dgX12_law_0 (0, (.aload_n 0, 1)) (List.mem_of_getElem? (i := 0) rfl)
theorem dX12_law_1 : decode cX12_law 1 = .ok (.iconst 0, 1) := dgX12_law_0 (1, (.iconst 0, 1)) (List.mem_of_getElem? (i := 1) rfl)
theorem dX12_law_2 : decode cX12_law 2 = .ok (.putfield 107, 3) := dgX12_law_0 (2, (.putfield 107, 3)) (List.mem_of_getElem? (i := 2) rfl)
theorem dX12_law_5 : decode cX12_law 5 = .ok (.aload_n 0, 1) := dgX12_law_0 (5, (.aload_n 0, 1)) (List.mem_of_getElem? (i := 3) rfl)
theorem dX12_law_6 : decode cX12_law 6 = .ok (.getfield 13, 3) := dgX12_law_0 (6, (.getfield 13, 3)) (List.mem_of_getElem? (i := 4) rfl)
theorem dX12_law_9 : decode cX12_law 9 = .ok (.iconst 2, 1) := dgX12_law_0 (9, (.iconst 2, 1)) (List.mem_of_getElem? (i := 5) rfl)
theorem dX12_law_10 : decode cX12_law 10 = .ok (.iaload, 1) := dgX12_law_0 (10, (.iaload, 1)) (List.mem_of_getElem? (i := 6) rfl)
theorem dX12_law_11 : decode cX12_law 11 = .ok (.bipush 6, 2) := dgX12_law_0 (11, (.bipush 6, 2)) (List.mem_of_getElem? (i := 7) rfl)
theorem dX12_law_13 : decode cX12_law 13 = .ok (.if_icmp .ne 15, 3) := dgX12_law_0 (13, (.if_icmp .ne 15, 3)) (List.mem_of_getElem? (i := 8) rfl)
theorem dX12_law_16 : decode cX12_law 16 = .ok (.aload_n 0, 1) := dgX12_law_0 (16, (.aload_n 0, 1)) (List.mem_of_getElem? (i := 9) rfl)
theorem dX12_law_17 : decode cX12_law 17 = .ok (.iconst 0, 1) := dgX12_law_0 (17, (.iconst 0, 1)) (List.mem_of_getElem? (i := 10) rfl)
theorem dX12_law_18 : decode cX12_law 18 = .ok (.putfield 192, 3) := dgX12_law_0 (18, (.putfield 192, 3)) (List.mem_of_getElem? (i := 11) rfl)
theorem dX12_law_21 : decode cX12_law 21 = .ok (.aload_n 0, 1) := dgX12_law_0 (21, (.aload_n 0, 1)) (List.mem_of_getElem? (i := 12) rfl)
theorem dX12_law_22 : decode cX12_law 22 = .ok (.bipush (-5), 2) := dgX12_law_0 (22, (.bipush (-5), 2)) (List.mem_of_getElem? (i := 13) rfl)
theorem dX12_law_24 : decode cX12_law 24 = .ok (.invokevirtual 125, 3) := dgX12_law_0 (24, (.invokevirtual 125, 3)) (List.mem_of_getElem? (i := 14) rfl)
theorem dX12_law_27 : decode cX12_law 27 = .ok (.ireturn, 1) := dgX12_law_0 (27, (.ireturn, 1)) (List.mem_of_getElem? (i := 15) rfl)
theorem dX12_law_28 : decode cX12_law 28 = .ok (.aload_n 0, 1) := dgX12_law_0 (28, (.aload_n 0, 1)) (List.mem_of_getElem? (i := 16) rfl)
theorem dX12_law_29 : decode cX12_law 29 = .ok (.invokevirtual 320, 3) := dgX12_law_0 (29, (.invokevirtual 320, 3)) (List.mem_of_getElem? (i := 17) rfl)
theorem dX12_law_32 : decode cX12_law 32 = .ok (.aload_n 0, 1) := dgX12_law_0 (32, (.aload_n 0, 1)) (List.mem_of_getElem? (i := 18) rfl)
theorem dX12_law_33 : decode cX12_law 33 = .ok (.iconst 0, 1) := dgX12_law_0 (33, (.iconst 0, 1)) (List.mem_of_getElem? (i := 19) rfl)
theorem dX12_law_34 : decode cX12_law 34 = .ok (.putfield 312, 3) := dgX12_law_0 (34, (.putfield 312, 3)) (List.mem_of_getElem? (i := 20) rfl)
theorem dX12_law_37 : decode cX12_law 37 = .ok (.aload_n 0, 1) := dgX12_law_0 (37, (.aload_n 0, 1)) (List.mem_of_getElem? (i := 21) rfl)
theorem dX12_law_38 : decode cX12_law 38 = .ok (.iconst 0, 1) := dgX12_law_0 (38, (.iconst 0, 1)) (List.mem_of_getElem? (i := 22) rfl)
theorem dX12_law_39 : decode cX12_law 39 = .ok (.putfield 237, 3) := dgX12_law_0 (39, (.putfield 237, 3)) (List.mem_of_getElem? (i := 23) rfl)
theorem dX12_law_42 : decode cX12_law 42 = .ok (.aload_n 0, 1) := dgX12_law_0 (42, (.aload_n 0, 1)) (List.mem_of_getElem? (i := 24) rfl)
theorem dX12_law_43 : decode cX12_law 43 = .ok (.iconst 0, 1) := dgX12_law_0 (43, (.iconst 0, 1)) (List.mem_of_getElem? (i := 25) rfl)
theorem dX12_law_44 : decode cX12_law 44 = .ok (.putfield 264, 3) := dgX12_law_0 (44, (.putfield 264, 3)) (List.mem_of_getElem? (i := 26) rfl)
theorem dX12_law_47 : decode cX12_law 47 = .ok (.aload_n 0, 1) := dgX12_law_0 (47, (.aload_n 0, 1)) (List.mem_of_getElem? (i := 27) rfl)
theorem dX12_law_48 : decode cX12_law 48 = .ok (.invokevirtual 323, 3) := dgX12_law_0 (48, (.invokevirtual 323, 3)) (List.mem_of_getElem? (i := 28) rfl)
theorem dX12_law_51 : decode cX12_law 51 = .ok (.aload_n 0, 1) := dgX12_law_0 (51, (.aload_n 0, 1)) (List.mem_of_getElem? (i := 29) rfl)
theorem dX12_law_52 : decode cX12_law 52 = .ok (.getfield 205, 3) := dgX12_law_0 (52, (.getfield 205, 3)) (List.mem_of_getElem? (i := 30) rfl)
theorem dX12_law_55 : decode cX12_law 55 = .ok (.ifCond .ne 23, 3) := dgX12_law_0 (55, (.ifCond .ne 23, 3)) (List.mem_of_getElem? (i := 31) rfl)
theorem dX12_law_58 : decode cX12_law 58 = .ok (.aload_n 0, 1) := dgX12_law_0 (58, (.aload_n 0, 1)) (List.mem_of_getElem? (i := 32) rfl)
theorem dX12_law_59 : decode cX12_law 59 = .ok (.bipush 59, 2) := dgX12_law_0 (59, (.bipush 59, 2)) (List.mem_of_getElem? (i := 33) rfl)
theorem dX12_law_61 : decode cX12_law 61 = .ok (.invokevirtual 267, 3) := dgX12_law_0 (61, (.invokevirtual 267, 3)) (List.mem_of_getElem? (i := 34) rfl)
theorem dX12_law_64 : decode cX12_law 64 = .ok (.ifCond .eq 14, 3) := dgX12_law_0 (64, (.ifCond .eq 14, 3)) (List.mem_of_getElem? (i := 35) rfl)
theorem dX12_law_67 : decode cX12_law 67 = .ok (.aload_n 0, 1) := dgX12_law_0 (67, (.aload_n 0, 1)) (List.mem_of_getElem? (i := 36) rfl)
theorem dX12_law_68 : decode cX12_law 68 = .ok (.invokevirtual 208, 3) := dgX12_law_0 (68, (.invokevirtual 208, 3)) (List.mem_of_getElem? (i := 37) rfl)
theorem dX12_law_71 : decode cX12_law 71 = .ok (.aload_n 0, 1) := dgX12_law_0 (71, (.aload_n 0, 1)) (List.mem_of_getElem? (i := 38) rfl)
theorem dX12_law_72 : decode cX12_law 72 = .ok (.invokevirtual 323, 3) := dgX12_law_0 (72, (.invokevirtual 323, 3)) (List.mem_of_getElem? (i := 39) rfl)
theorem dgX12_law_1 : ∀ r ∈ ([(75, (.goto (-24), 3)), (78, (.aload_n 0, 1)), (79, (.getfield 205, 3)), (82, (.ifCond .ne 15, 3)), (85, (.aload_n 0, 1)), (86, (.getfield 224, 3)), (89, (.ifCond .eq 8, 3)), (92, (.aload_n 0, 1)), (93, (.iconst 0, 1)), (94, (.invokevirtual 233, 3)), (97, (.aload_n 0, 1)), (98, (.iconst 0, 1)), (99, (.putfield 192, 3)), (102, (.aload_n 0, 1)), (103, (.getfield 205, 3)), (106, (.ifCond .eq 10, 3)), (109, (.aload_n 0, 1)), (110, (.bipush (-6), 2)), (112, (.invokevirtual 125, 3)), (115, (.ireturn, 1)), (116, (.sipush 340, 3)), (119, (.sipush 900, 3)), (122, (.aload_n 0, 1)), (123, (.getfield 13, 3)), (126, (.iconst 2, 1)), (127, (.iaload, 1)), (128, (.imul, 1)), (129, (.iadd, 1)), (130, (.istore_n 1, 1)), (131, (.aload_n 0, 1)), (132, (.getfield 13, 3)), (135, (.iload_n 1, 1)), (136, (.iconst 1, 1)), (137, (.iadd, 1)), (138, (.aload_n 0, 1)), (139, (.getfield 312, 3)), (142, (.iastore, 1)), (143, (.iconst 0, 1)), (144, (.istore_n 2, 1)), (145, (.iload_n 2, 1))] : List (Nat × (Instr × Nat))), decode cX12_law r.1 = .ok r.2 := by decide +kernel
theorem dX12_law_75 : decode cX12_law 75 = .ok (.goto (-24), 3) := dgX12_law_1 (75, (.goto (-24), 3)) (List.mem_of_getElem? (i := 0) rfl)
theorem dX12_law_78 : decode cX12_law 78 = .ok (.aload_n 0, 1) := dgX12_law_1 (78, (.aload_n 0, 1)) (List.mem_of_getElem? (i := 1) rfl)
theorem dX12_law_79 : decode cX12_law 79 = .ok (.getfield 205, 3) := dgX12_law_1 (79, (.getfield 205, 3)) (List.mem_of_getElem? (i := 2) rfl)
theorem dX12_law_82 : decode cX12_law 82 = .ok (.ifCond .ne 15, 3) := dgX12_law_1 (82, (.ifCond .ne 15, 3)) (List.mem_of_getElem? (i := 3) rfl)
theorem dX12_law_85 : decode cX12_law 85 = .ok (.aload_n 0, 1) := dgX12_law_1 (85, (.aload_n 0, 1)) (List.mem_of_getElem? (i := 4) rfl)
theorem dX12_law_86 : decode cX12_law 86 = .ok (.getfield 224, 3) := dgX12_law_1 (86, (.getfield 224, 3)) (List.mem_of_getElem? (i := 5) rfl)
theorem dX12_law_89 : decode cX12_law 89 = .ok (.ifCond .eq 8, 3) := dgX12_law_1 (89, (.ifCond .eq 8, 3)) (List.mem_of_getElem? (i := 6) rfl)
theorem dX12_law_92 : decode cX12_law 92 = .ok (.aload_n 0, 1) := dgX12_law_1 (92, (.aload_n 0, 1)) (List.mem_of_getElem? (i := 7) rfl)
theorem dX12_law_93 : decode cX12_law 93 = .ok (.iconst 0, 1) := dgX12_law_1 (93, (.iconst 0, 1)) (List.mem_of_getElem? (i := 8) rfl)
theorem dX12_law_94 : decode cX12_law 94 = .ok (.invokevirtual 233, 3) := dgX12_law_1 (94, (.invokevirtual 233, 3)) (List.mem_of_getElem? (i := 9) rfl)
theorem dX12_law_97 : decode cX12_law 97 = .ok (.aload_n 0, 1) := dgX12_law_1 (97, (.aload_n 0, 1)) (List.mem_of_getElem? (i := 10) rfl)
theorem dX12_law_98 : decode cX12_law 98 = .ok (.iconst 0, 1) := dgX12_law_1 (98, (.iconst 0, 1)) (List.mem_of_getElem? (i := 11) rfl)
theorem dX12_law_99 : decode cX12_law 99 = .ok (.putfield 192, 3) := dgX12_law_1 (99, (.putfield 192, 3)) (List.mem_of_getElem? (i := 12) rfl)
theorem dX12_law_102 : decode cX12_law 102 = .ok (.aload_n 0, 1) := dgX12_law_1 (102, (.aload_n 0, 1)) (List.mem_of_getElem? (i := 13) rfl)
theorem dX12_law_103 : decode cX12_law 103 = .ok (.getfield 205, 3) := dgX12_law_1 (103, (.getfield 205, 3)) (List.mem_of_getElem? (i := 14) rfl)
theorem dX12_law_106 : decode cX12_law 106 = .ok (.ifCond .eq 10, 3) := dgX12_law_1 (106, (.ifCond .eq 10, 3)) (List.mem_of_getElem? (i := 15) rfl)
theorem dX12_law_109 : decode cX12_law 109 = .ok (.aload_n 0, 1) := dgX12_law_1 (109, (.aload_n 0, 1)) (List.mem_of_getElem? (i := 16) rfl)
theorem dX12_law_110 : decode cX12_law 110 = .ok (.bipush (-6), 2) := dgX12_law_1 (110, (.bipush (-6), 2)) (List.mem_of_getElem? (i := 17) rfl)
theorem dX12_law_112 : decode cX12_law 112 = .ok (.invokevirtual 125, 3) := dgX12_law_1 (112, (.invokevirtual 125, 3)) (List.mem_of_getElem? (i := 18) rfl)
theorem dX12_law_115 : decode cX12_law 115 = .ok (.ireturn, 1) := dgX12_law_1 (115, (.ireturn, 1)) (List.mem_of_getElem? (i := 19) rfl)
theorem dX12_law_116 : decode cX12_law 116 = .ok (.sipush 340, 3) := dgX12_law_1 (116, (.sipush 340, 3)) (List.mem_of_getElem? (i := 20) rfl)
theorem dX12_law_119 : decode cX12_law 119 = .ok (.sipush 900, 3) := dgX12_law_1 (119, (.sipush 900, 3)) (List.mem_of_getElem? (i := 21) rfl)
theorem dX12_law_122 : decode cX12_law 122 = .ok (.aload_n 0, 1) := dgX12_law_1 (122, (.aload_n 0, 1)) (List.mem_of_getElem? (i := 22) rfl)
theorem dX12_law_123 : decode cX12_law 123 = .ok (.getfield 13, 3) := dgX12_law_1 (123, (.getfield 13, 3)) (List.mem_of_getElem? (i := 23) rfl)
theorem dX12_law_126 : decode cX12_law 126 = .ok (.iconst 2, 1) := dgX12_law_1 (126, (.iconst 2, 1)) (List.mem_of_getElem? (i := 24) rfl)
theorem dX12_law_127 : decode cX12_law 127 = .ok (.iaload, 1) := dgX12_law_1 (127, (.iaload, 1)) (List.mem_of_getElem? (i := 25) rfl)
theorem dX12_law_128 : decode cX12_law 128 = .ok (.imul, 1) := dgX12_law_1 (128, (.imul, 1)) (List.mem_of_getElem? (i := 26) rfl)
theorem dX12_law_129 : decode cX12_law 129 = .ok (.iadd, 1) := dgX12_law_1 (129, (.iadd, 1)) (List.mem_of_getElem? (i := 27) rfl)
theorem dX12_law_130 : decode cX12_law 130 = .ok (.istore_n 1, 1) := dgX12_law_1 (130, (.istore_n 1, 1)) (List.mem_of_getElem? (i := 28) rfl)
theorem dX12_law_131 : decode cX12_law 131 = .ok (.aload_n 0, 1) := dgX12_law_1 (131, (.aload_n 0, 1)) (List.mem_of_getElem? (i := 29) rfl)
theorem dX12_law_132 : decode cX12_law 132 = .ok (.getfield 13, 3) := dgX12_law_1 (132, (.getfield 13, 3)) (List.mem_of_getElem? (i := 30) rfl)
theorem dX12_law_135 : decode cX12_law 135 = .ok (.iload_n 1, 1) := dgX12_law_1 (135, (.iload_n 1, 1)) (List.mem_of_getElem? (i := 31) rfl)
theorem dX12_law_136 : decode cX12_law 136 = .ok (.iconst 1, 1) := dgX12_law_1 (136, (.iconst 1, 1)) (List.mem_of_getElem? (i := 32) rfl)
theorem dX12_law_137 : decode cX12_law 137 = .ok (.iadd, 1) := dgX12_law_1 (137, (.iadd, 1)) (List.mem_of_getElem? (i := 33) rfl)
theorem dX12_law_138 : decode cX12_law 138 = .ok (.aload_n 0, 1) := dgX12_law_1 (138, (.aload_n 0, 1)) (List.mem_of_getElem? (i := 34) rfl)
theorem dX12_law_139 : decode cX12_law 139 = .ok (.getfield 312, 3) := dgX12_law_1 (139, (.getfield 312, 3)) (List.mem_of_getElem? (i := 35) rfl)
theorem dX12_law_142 : decode cX12_law 142 = .ok (.iastore, 1) := dgX12_law_1 (142, (.iastore, 1)) (List.mem_of_getElem? (i := 36) rfl)
theorem dX12_law_143 : decode cX12_law 143 = .ok (.iconst 0, 1) := dgX12_law_1 (143, (.iconst 0, 1)) (List.mem_of_getElem? (i := 37) rfl)
theorem dX12_law_144 : decode cX12_law 144 = .ok (.istore_n 2, 1) := dgX12_law_1 (144, (.istore_n 2, 1)) (List.mem_of_getElem? (i := 38) rfl)
theorem dX12_law_145 : decode cX12_law 145 = .ok (.iload_n 2, 1) := dgX12_law_1 (145, (.iload_n 2, 1)) (List.mem_of_getElem? (i := 39) rfl)
theorem dgX12_law_2 : ∀ r ∈ ([(146, (.bipush 8, 2)), (148, (.aload_n 0, 1)), (149, (.getfield 312, 3)), (152, (.imul, 1)), (153, (.if_icmp .ge 25, 3)), (156, (.aload_n 0, 1)), (157, (.getfield 13, 3)), (160, (.iload_n 1, 1)), (161, (.iconst 2, 1)), (162, (.iadd, 1)), (163, (.iload_n 2, 1)), (164, (.iadd, 1)), (165, (.aload_n 0, 1)), (166, (.getfield 30, 3)), (169, (.iload_n 2, 1)), (170, (.iaload, 1)), (171, (.iastore, 1)), (172, (.iinc 2 1, 3)), (175, (.goto (-30), 3)), (178, (.iconst 0, 1)), (179, (.istore_n 2, 1)), (180, (.iload_n 2, 1)), (181, (.aload_n 0, 1)), (182, (.getfield 237, 3)), (185, (.if_icmp .ge 49, 3)), (188, (.aload_n 0, 1)), (189, (.getfield 13, 3)), (192, (.iload_n 1, 1)), (193, (.bipush 98, 2)), (195, (.iadd, 1)), (196, (.iconst 2, 1)), (197, (.iload_n 2, 1)), (198, (.imul, 1)), (199, (.iadd, 1)), (200, (.aload_n 0, 1)), (201, (.getfield 33, 3)), (204, (.iload_n 2, 1)), (205, (.iaload, 1)), (206, (.iastore, 1)), (207, (.aload_n 0, 1))] : List (Nat × (Instr × Nat))), decode cX12_law r.1 = .ok r.2 := by decide +kernel
theorem dX12_law_146 : decode cX12_law 146 = .ok (.bipush 8, 2) := dgX12_law_2 (146, (.bipush 8, 2)) (List.mem_of_getElem? (i := 0) rfl)
theorem dX12_law_148 : decode cX12_law 148 = .ok (.aload_n 0, 1) := dgX12_law_2 (148, (.aload_n 0, 1)) (List.mem_of_getElem? (i := 1) rfl)
theorem dX12_law_149 : decode cX12_law 149 = .ok (.getfield 312, 3) := dgX12_law_2 (149, (.getfield 312, 3)) (List.mem_of_getElem? (i := 2) rfl)
theorem dX12_law_152 : decode cX12_law 152 = .ok (.imul, 1) := dgX12_law_2 (152, (.imul, 1)) (List.mem_of_getElem? (i := 3) rfl)
theorem dX12_law_153 : decode cX12_law 153 = .ok (.if_icmp .ge 25, 3) := dgX12_law_2 (153, (.if_icmp .ge 25, 3)) (List.mem_of_getElem? (i := 4) rfl)
theorem dX12_law_156 : decode cX12_law 156 = .ok (.aload_n 0, 1) := dgX12_law_2 (156, (.aload_n 0, 1)) (List.mem_of_getElem? (i := 5) rfl)
theorem dX12_law_157 : decode cX12_law 157 = .ok (.getfield 13, 3) := dgX12_law_2 (157, (.getfield 13, 3)) (List.mem_of_getElem? (i := 6) rfl)
theorem dX12_law_160 : decode cX12_law 160 = .ok (.iload_n 1, 1) := dgX12_law_2 (160, (.iload_n 1, 1)) (List.mem_of_getElem? (i := 7) rfl)
theorem dX12_law_161 : decode cX12_law 161 = .ok (.iconst 2, 1) := dgX12_law_2 (161, (.iconst 2, 1)) (List.mem_of_getElem? (i := 8) rfl)
theorem dX12_law_162 : decode cX12_law 162 = .ok (.iadd, 1) := dgX12_law_2 (162, (.iadd, 1)) (List.mem_of_getElem? (i := 9) rfl)
theorem dX12_law_163 : decode cX12_law 163 = .ok (.iload_n 2, 1) := dgX12_law_2 (163, (.iload_n 2, 1)) (List.mem_of_getElem? (i := 10) rfl)
theorem dX12_law_164 : decode cX12_law 164 = .ok (.iadd, 1) := dgX12_law_2 (164, (.iadd, 1)) (List.mem_of_getElem? (i := 11) rfl)
theorem dX12_law_165 : decode cX12_law 165 = .ok (.aload_n 0, 1) := dgX12_law_2 (165, (.aload_n 0, 1)) (List.mem_of_getElem? (i := 12) rfl)
theorem dX12_law_166 : decode cX12_law 166 = .ok (.getfield 30, 3) := dgX12_law_2 (166, (.getfield 30, 3)) (List.mem_of_getElem? (i := 13) rfl)
theorem dX12_law_169 : decode cX12_law 169 = .ok (.iload_n 2, 1) := dgX12_law_2 (169, (.iload_n 2, 1)) (List.mem_of_getElem? (i := 14) rfl)
theorem dX12_law_170 : decode cX12_law 170 = .ok (.iaload, 1) := dgX12_law_2 (170, (.iaload, 1)) (List.mem_of_getElem? (i := 15) rfl)
theorem dX12_law_171 : decode cX12_law 171 = .ok (.iastore, 1) := dgX12_law_2 (171, (.iastore, 1)) (List.mem_of_getElem? (i := 16) rfl)
theorem dX12_law_172 : decode cX12_law 172 = .ok (.iinc 2 1, 3) := dgX12_law_2 (172, (.iinc 2 1, 3)) (List.mem_of_getElem? (i := 17) rfl)
theorem dX12_law_175 : decode cX12_law 175 = .ok (.goto (-30), 3) := dgX12_law_2 (175, (.goto (-30), 3)) (List.mem_of_getElem? (i := 18) rfl)
theorem dX12_law_178 : decode cX12_law 178 = .ok (.iconst 0, 1) := dgX12_law_2 (178, (.iconst 0, 1)) (List.mem_of_getElem? (i := 19) rfl)
theorem dX12_law_179 : decode cX12_law 179 = .ok (.istore_n 2, 1) := dgX12_law_2 (179, (.istore_n 2, 1)) (List.mem_of_getElem? (i := 20) rfl)
theorem dX12_law_180 : decode cX12_law 180 = .ok (.iload_n 2, 1) := dgX12_law_2 (180, (.iload_n 2, 1)) (List.mem_of_getElem? (i := 21) rfl)
theorem dX12_law_181 : decode cX12_law 181 = .ok (.aload_n 0, 1) := dgX12_law_2 (181, (.aload_n 0, 1)) (List.mem_of_getElem? (i := 22) rfl)
theorem dX12_law_182 : decode cX12_law 182 = .ok (.getfield 237, 3) := dgX12_law_2 (182, (.getfield 237, 3)) (List.mem_of_getElem? (i := 23) rfl)
theorem dX12_law_185 : decode cX12_law 185 = .ok (.if_icmp .ge 49, 3) := dgX12_law_2 (185, (.if_icmp .ge 49, 3)) (List.mem_of_getElem? (i := 24) rfl)
theorem dX12_law_188 : decode cX12_law 188 = .ok (.aload_n 0, 1) := dgX12_law_2 (188, (.aload_n 0, 1)) (List.mem_of_getElem? (i := 25) rfl)
theorem dX12_law_189 : decode cX12_law 189 = .ok (.getfield 13, 3) := dgX12_law_2 (189, (.getfield 13, 3)) (List.mem_of_getElem? (i := 26) rfl)
theorem dX12_law_192 : decode cX12_law 192 = .ok (.iload_n 1, 1) := dgX12_law_2 (192, (.iload_n 1, 1)) (List.mem_of_getElem? (i := 27) rfl)
theorem dX12_law_193 : decode cX12_law 193 = .ok (.bipush 98, 2) := dgX12_law_2 (193, (.bipush 98, 2)) (List.mem_of_getElem? (i := 28) rfl)
theorem dX12_law_195 : decode cX12_law 195 = .ok (.iadd, 1) := dgX12_law_2 (195, (.iadd, 1)) (List.mem_of_getElem? (i := 29) rfl)
theorem dX12_law_196 : decode cX12_law 196 = .ok (.iconst 2, 1) := dgX12_law_2 (196, (.iconst 2, 1)) (List.mem_of_getElem? (i := 30) rfl)
theorem dX12_law_197 : decode cX12_law 197 = .ok (.iload_n 2, 1) := dgX12_law_2 (197, (.iload_n 2, 1)) (List.mem_of_getElem? (i := 31) rfl)
theorem dX12_law_198 : decode cX12_law 198 = .ok (.imul, 1) := dgX12_law_2 (198, (.imul, 1)) (List.mem_of_getElem? (i := 32) rfl)
theorem dX12_law_199 : decode cX12_law 199 = .ok (.iadd, 1) := dgX12_law_2 (199, (.iadd, 1)) (List.mem_of_getElem? (i := 33) rfl)
theorem dX12_law_200 : decode cX12_law 200 = .ok (.aload_n 0, 1) := dgX12_law_2 (200, (.aload_n 0, 1)) (List.mem_of_getElem? (i := 34) rfl)
theorem dX12_law_201 : decode cX12_law 201 = .ok (.getfield 33, 3) := dgX12_law_2 (201, (.getfield 33, 3)) (List.mem_of_getElem? (i := 35) rfl)
theorem dX12_law_204 : decode cX12_law 204 = .ok (.iload_n 2, 1) := dgX12_law_2 (204, (.iload_n 2, 1)) (List.mem_of_getElem? (i := 36) rfl)
theorem dX12_law_205 : decode cX12_law 205 = .ok (.iaload, 1) := dgX12_law_2 (205, (.iaload, 1)) (List.mem_of_getElem? (i := 37) rfl)
theorem dX12_law_206 : decode cX12_law 206 = .ok (.iastore, 1) := dgX12_law_2 (206, (.iastore, 1)) (List.mem_of_getElem? (i := 38) rfl)
theorem dX12_law_207 : decode cX12_law 207 = .ok (.aload_n 0, 1) := dgX12_law_2 (207, (.aload_n 0, 1)) (List.mem_of_getElem? (i := 39) rfl)
theorem dgX12_law_3 : ∀ r ∈ ([(208, (.getfield 13, 3)), (211, (.iload_n 1, 1)), (212, (.bipush 98, 2)), (214, (.iadd, 1)), (215, (.iconst 2, 1)), (216, (.iload_n 2, 1)), (217, (.imul, 1)), (218, (.iadd, 1)), (219, (.iconst 1, 1)), (220, (.iadd, 1)), (221, (.aload_n 0, 1)), (222, (.getfield 36, 3)), (225, (.iload_n 2, 1)), (226, (.iaload, 1)), (227, (.iastore, 1)), (228, (.iinc 2 1, 3)), (231, (.goto (-51), 3)), (234, (.aload_n 0, 1)), (235, (.getfield 13, 3)), (238, (.iconst 2, 1)), (239, (.dup2, 1)), (240, (.iaload, 1)), (241, (.iconst 1, 1)), (242, (.iadd, 1)), (243, (.iastore, 1)), (244, (.aload_n 0, 1)), (245, (.aload_n 0, 1)), (246, (.getfield 13, 3)), (249, (.iconst 2, 1)), (250, (.iaload, 1)), (251, (.iconst 1, 1)), (252, (.isub, 1)), (253, (.invokevirtual 125, 3)), (256, (.ireturn, 1))] : List (Nat × (Instr × Nat))), decode cX12_law r.1 = .ok r.2 := by decide +kernel
theorem dX12_law_208 : decode cX12_law 208 = .ok (.getfield 13, 3) := dgX12_law_3 (208, (.getfield 13, 3)) (List.mem_of_getElem? (i := 0) rfl)
theorem dX12_law_211 : decode cX12_law 211 = .ok (.iload_n 1, 1) := dgX12_law_3 (211, (.iload_n 1, 1)) (List.mem_of_getElem? (i := 1) rfl)
theorem dX12_law_212 : decode cX12_law 212 = .ok (.bipush 98, 2) := dgX12_law_3 (212, (.bipush 98, 2)) (List.mem_of_getElem? (i := 2) rfl)
theorem dX12_law_214 : decode cX12_law 214 = .ok (.iadd, 1) := dgX12_law_3 (214, (.iadd, 1)) (List.mem_of_getElem? (i := 3) rfl)
theorem dX12_law_215 : decode cX12_law 215 = .ok (.iconst 2, 1) := dgX12_law_3 (215, (.iconst 2, 1)) (List.mem_of_getElem? (i := 4) rfl)
theorem dX12_law_216 : decode cX12_law 216 = .ok (.iload_n 2, 1) := dgX12_law_3 (216, (.iload_n 2, 1)) (List.mem_of_getElem? (i := 5) rfl)
theorem dX12_law_217 : decode cX12_law 217 = .ok (.imul, 1) := dgX12_law_3 (217, (.imul, 1)) (List.mem_of_getElem? (i := 6) rfl)
theorem dX12_law_218 : decode cX12_law 218 = .ok (.iadd, 1) := dgX12_law_3 (218, (.iadd, 1)) (List.mem_of_getElem? (i := 7) rfl)
theorem dX12_law_219 : decode cX12_law 219 = .ok (.iconst 1, 1) := dgX12_law_3 (219, (.iconst 1, 1)) (List.mem_of_getElem? (i := 8) rfl)
theorem dX12_law_220 : decode cX12_law 220 = .ok (.iadd, 1) := dgX12_law_3 (220, (.iadd, 1)) (List.mem_of_getElem? (i := 9) rfl)
theorem dX12_law_221 : decode cX12_law 221 = .ok (.aload_n 0, 1) := dgX12_law_3 (221, (.aload_n 0, 1)) (List.mem_of_getElem? (i := 10) rfl)
theorem dX12_law_222 : decode cX12_law 222 = .ok (.getfield 36, 3) := dgX12_law_3 (222, (.getfield 36, 3)) (List.mem_of_getElem? (i := 11) rfl)
theorem dX12_law_225 : decode cX12_law 225 = .ok (.iload_n 2, 1) := dgX12_law_3 (225, (.iload_n 2, 1)) (List.mem_of_getElem? (i := 12) rfl)
theorem dX12_law_226 : decode cX12_law 226 = .ok (.iaload, 1) := dgX12_law_3 (226, (.iaload, 1)) (List.mem_of_getElem? (i := 13) rfl)
theorem dX12_law_227 : decode cX12_law 227 = .ok (.iastore, 1) := dgX12_law_3 (227, (.iastore, 1)) (List.mem_of_getElem? (i := 14) rfl)
theorem dX12_law_228 : decode cX12_law 228 = .ok (.iinc 2 1, 3) := dgX12_law_3 (228, (.iinc 2 1, 3)) (List.mem_of_getElem? (i := 15) rfl)
theorem dX12_law_231 : decode cX12_law 231 = .ok (.goto (-51), 3) := dgX12_law_3 (231, (.goto (-51), 3)) (List.mem_of_getElem? (i := 16) rfl)
theorem dX12_law_234 : decode cX12_law 234 = .ok (.aload_n 0, 1) := dgX12_law_3 (234, (.aload_n 0, 1)) (List.mem_of_getElem? (i := 17) rfl)
theorem dX12_law_235 : decode cX12_law 235 = .ok (.getfield 13, 3) := dgX12_law_3 (235, (.getfield 13, 3)) (List.mem_of_getElem? (i := 18) rfl)
theorem dX12_law_238 : decode cX12_law 238 = .ok (.iconst 2, 1) := dgX12_law_3 (238, (.iconst 2, 1)) (List.mem_of_getElem? (i := 19) rfl)
theorem dX12_law_239 : decode cX12_law 239 = .ok (.dup2, 1) := dgX12_law_3 (239, (.dup2, 1)) (List.mem_of_getElem? (i := 20) rfl)
theorem dX12_law_240 : decode cX12_law 240 = .ok (.iaload, 1) := dgX12_law_3 (240, (.iaload, 1)) (List.mem_of_getElem? (i := 21) rfl)
theorem dX12_law_241 : decode cX12_law 241 = .ok (.iconst 1, 1) := dgX12_law_3 (241, (.iconst 1, 1)) (List.mem_of_getElem? (i := 22) rfl)
theorem dX12_law_242 : decode cX12_law 242 = .ok (.iadd, 1) := dgX12_law_3 (242, (.iadd, 1)) (List.mem_of_getElem? (i := 23) rfl)
theorem dX12_law_243 : decode cX12_law 243 = .ok (.iastore, 1) := dgX12_law_3 (243, (.iastore, 1)) (List.mem_of_getElem? (i := 24) rfl)
theorem dX12_law_244 : decode cX12_law 244 = .ok (.aload_n 0, 1) := dgX12_law_3 (244, (.aload_n 0, 1)) (List.mem_of_getElem? (i := 25) rfl)
theorem dX12_law_245 : decode cX12_law 245 = .ok (.aload_n 0, 1) := dgX12_law_3 (245, (.aload_n 0, 1)) (List.mem_of_getElem? (i := 26) rfl)
theorem dX12_law_246 : decode cX12_law 246 = .ok (.getfield 13, 3) := dgX12_law_3 (246, (.getfield 13, 3)) (List.mem_of_getElem? (i := 27) rfl)
theorem dX12_law_249 : decode cX12_law 249 = .ok (.iconst 2, 1) := dgX12_law_3 (249, (.iconst 2, 1)) (List.mem_of_getElem? (i := 28) rfl)
theorem dX12_law_250 : decode cX12_law 250 = .ok (.iaload, 1) := dgX12_law_3 (250, (.iaload, 1)) (List.mem_of_getElem? (i := 29) rfl)
theorem dX12_law_251 : decode cX12_law 251 = .ok (.iconst 1, 1) := dgX12_law_3 (251, (.iconst 1, 1)) (List.mem_of_getElem? (i := 30) rfl)
theorem dX12_law_252 : decode cX12_law 252 = .ok (.isub, 1) := dgX12_law_3 (252, (.isub, 1)) (List.mem_of_getElem? (i := 31) rfl)
theorem dX12_law_253 : decode cX12_law 253 = .ok (.invokevirtual 125, 3) := dgX12_law_3 (253, (.invokevirtual 125, 3)) (List.mem_of_getElem? (i := 32) rfl)
theorem dX12_law_256 : decode cX12_law 256 = .ok (.ireturn, 1) := dgX12_law_3 (256, (.ireturn, 1)) (List.mem_of_getElem? (i := 33) rfl)
theorem ml_X12_320 : Cond.methodLink RX12 320 yX12_begin ∈ tblG := tg 1500 (by decide +kernel) (by decide +kernel)
theorem im_X12_begin : Cond.instanceMethod yX12_begin ∈ tblG := tg 1502 (by decide +kernel) (by decide +kernel)
theorem se_X12_begin : Cond.selects RX12 yX12_begin yX12_begin ∈ tblG := tg 43 (by decide +kernel) (by decide +kernel)
theorem cd_X12_begin : Cond.code yX12_begin cX12_begin 1 none ∈ tblG := tg 1503 (by decide +kernel) (by decide +kernel)
theorem gW_X12_begin : GoodIn tblG (wsG yX12_begin cX12_begin 1 none) := tgi cd_X12_begin
theorem gV_X12_320 : GoodIn tblG (wsV RX12 320 RX12 yX12_begin (wsG yX12_begin cX12_begin 1 none)) := tgV ml_X12_320 im_X12_begin se_X12_begin ini_X12 gW_X12_begin
theorem hv_X12_begin : yX12_begin.cls = RX12 ∧ yX12_begin.cls ≠ "java/lang/invoke/MethodHandle" ∧ yX12_begin.cls ≠ "java/lang/invoke/VarHandle" ∧ (parseMethodDescriptor yX12_begin.desc).map (fun d => d.parameters.length) = some 0 := by decide +kernel
theorem ml_X12_323 : Cond.methodLink RX12 323 yX12_readClause ∈ tblG := tg 1517 (by decide +kernel) (by decide +kernel)
theorem im_X12_readClause : Cond.instanceMethod yX12_readClause ∈ tblG := tg 1519 (by decide +kernel) (by decide +kernel)
theorem se_X12_readClause : Cond.selects RX12 yX12_readClause yX12_readClause ∈ tblG := tg 45 (by decide +kernel) (by decide +kernel)
theorem cd_X12_readClause : Cond.code yX12_readClause cX12_readClause 4 none ∈ tblG := tg 1520 (by decide +kernel) (by decide +kernel)
theorem gW_X12_readClause : GoodIn tblG (wsG yX12_readClause cX12_readClause 4 none) := tgi cd_X12_readClause
theorem gV_X12_323 : GoodIn tblG (wsV RX12 323 RX12 yX12_readClause (wsG yX12_readClause cX12_readClause 4 none)) := tgV ml_X12_323 im_X12_readClause se_X12_readClause ini_X12 gW_X12_readClause
theorem hv_X12_readClause : yX12_readClause.cls = RX12 ∧ yX12_readClause.cls ≠ "java/lang/invoke/MethodHandle" ∧ yX12_readClause.cls ≠ "java/lang/invoke/VarHandle" ∧ (parseMethodDescriptor yX12_readClause.desc).map (fun d => d.parameters.length) = some 0 := by decide +kernel
set_option maxHeartbeats 4000000 in
set_option maxRecDepth 100000 in
theorem n_law (l : Launch) (G : g5_G) (b_o b_rf b_ro b_tp b_nl b_op b_ar b_pi b_pa b_ws b_hw b_im b_ke b_se b_re b_pt b_ip b_ah b_be b_me b_tr b_ld b_wn : Nat) (sz : Nat) (u_th : Int32) (u_sa : Int32) (u_fd : Int32) (u_td : Int32) (u_fr : Int32) (u_to : Int32) (u_so : Int32) (u_fa : Int32) (u_bd : Int32) (u_nc : Int32) (u_co : Int32) (u_le : Int32) (u_pd : Int32) (u_od : Int32) (u_la : Int32) (u_bk : Int32) (u_ce : Int32) (u_ho : Int32) (u_wy : Int32) (u_bt : Int32) (u_ps : Int32) (u_tg : Int32) (u_sn : Int32) (u_ic : Int32) (u_wd : Int32) (u_id : Int32) (u_wo : Int64) (u_va : Int64) (u_su : Int64) (u_st : Int64) (v_rf : Nat → Int32) (v_ro : Nat → Int32) (v_tp : Nat → Int32) (v_nl : Nat → Int32) (v_op : Nat → Int32) (v_ar : Nat → Int32) (v_pi : Nat → Int32) (v_pa : Nat → Int32) (v_ws : Nat → Int64) (v_hw : Nat → Int64) (h_u_td : 0 ≤ u_td.toInt ∧ u_td.toInt ≤ 400) (h_u_fr : 0 ≤ u_fr.toInt ∧ u_fr.toInt ≤ 400) (h_u_to : 0 ≤ u_to.toInt ∧ u_to.toInt ≤ 400) (h_u_bd : 0 ≤ u_bd.toInt ∧ u_bd.toInt ≤ 1) (h_u_nc : 0 ≤ u_nc.toInt ∧ u_nc.toInt ≤ 12) (h_u_co : 0 ≤ u_co.toInt ∧ u_co.toInt ≤ 400) (h_u_pd : 0 ≤ u_pd.toInt ∧ u_pd.toInt ≤ 400) (h_u_la : 0 ≤ u_la.toInt ∧ u_la.toInt ≤ 4840) (h_u_bk : 0 ≤ u_bk.toInt ∧ u_bk.toInt ≤ 1) (h_u_ce : 0 ≤ u_ce.toInt ∧ u_ce.toInt ≤ 63) (h_u_ho : 0 ≤ u_ho.toInt ∧ u_ho.toInt ≤ 23) (h_u_wy : 0 ≤ u_wy.toInt ∧ u_wy.toInt ≤ 3) (h_u_bt : 0 ≤ u_bt.toInt ∧ u_bt.toInt ≤ 1000000) (h_u_ps : 0 ≤ u_ps.toInt ∧ u_ps.toInt ≤ 200) (h_u_ic : 0 ≤ u_ic.toInt ∧ u_ic.toInt ≤ 1) (h_u_id : 0 ≤ u_id.toInt ∧ u_id.toInt ≤ 1) (r_ro : MI v_ro) : Met l yX12_law (wsG yX12_law cX12_law 3 (some .int)) ({ frames := 8, cells := 0, slots := 0, locals := 171 }) (va_Pc [.ref b_o] (g5_P G [(b_o, (oc12 u_th u_sa b_rf b_ro b_im b_ke u_fd b_tp u_td u_fr u_to u_so u_wo u_fa u_bd u_nc b_nl u_co b_op b_ar u_le b_pi b_pa u_pd u_od b_ws b_hw u_la b_se b_re u_bk u_va u_su u_ce u_ho u_wy u_bt u_ps b_pt u_tg u_sn b_ip u_ic b_ah b_be b_me u_wd b_tr b_ld u_st b_wn u_id)), (b_rf, (arI G 7 v_rf)), (b_ro, (arI G 5740 v_ro)), (b_tp, (arI G 400 v_tp)), (b_nl, (arI G 96 v_nl)), (b_op, (arI G 400 v_op)), (b_ar, (arI G 400 v_ar)), (b_pi, (arI G 400 v_pi)), (b_pa, (arI G 400 v_pa)), (b_ws, (arJ G 8 v_ws)), (b_hw, (arJ G 4 v_hw))] sz)) (va_Qi (fun (r : Int32) (u : va_W) => (∃ (o_r : Int32) (o_th : Int32) (o_sa : Int32) (o_td : Int32) (o_fr : Int32) (o_to : Int32) (o_so : Int32) (o_wo : Int64) (o_fa : Int32) (o_bd : Int32) (o_nc : Int32) (o_co : Int32) (o_le : Int32) (o_pd : Int32) (o_od : Int32) (o_ic : Int32) (o_rf : Nat → Int32) (o_ro : Nat → Int32) (o_nl : Nat → Int32) (o_op : Nat → Int32) (o_ar : Nat → Int32) (o_pi : Nat → Int32) (o_pa : Nat → Int32), (0 ≤ o_td.toInt ∧ o_td.toInt ≤ 400) ∧ (0 ≤ o_fr.toInt ∧ o_fr.toInt ≤ 400) ∧ (0 ≤ o_to.toInt ∧ o_to.toInt ≤ 400) ∧ (0 ≤ o_bd.toInt ∧ o_bd.toInt ≤ 1) ∧ (0 ≤ o_nc.toInt ∧ o_nc.toInt ≤ 12) ∧ (0 ≤ o_co.toInt ∧ o_co.toInt ≤ 400) ∧ (0 ≤ o_pd.toInt ∧ o_pd.toInt ≤ 400) ∧ (0 ≤ o_ic.toInt ∧ o_ic.toInt ≤ 1) ∧ (MI o_ro) ∧ (o_td.toInt = 0) ∧ (∀ j : Nat, j < 340 → j ≠ 2 → o_ro j = v_ro j) ∧ (r = o_r) ∧ (u = [(b_o, (oc12 o_th o_sa b_rf b_ro b_im b_ke u_fd b_tp o_td o_fr o_to o_so o_wo o_fa o_bd o_nc b_nl o_co b_op b_ar o_le b_pi b_pa o_pd o_od b_ws b_hw u_la b_se b_re u_bk u_va u_su u_ce u_ho u_wy u_bt u_ps b_pt u_tg u_sn b_ip o_ic b_ah b_be b_me u_wd b_tr b_ld u_st b_wn u_id)), (b_rf, (arI G 7 o_rf)), (b_ro, (arI G 5740 o_ro)), (b_tp, (arI G 400 v_tp)), (b_nl, (arI G 96 o_nl)), (b_op, (arI G 400 o_op)), (b_ar, (arI G 400 o_ar)), (b_pi, (arI G 400 o_pi)), (b_pa, (arI G 400 o_pa)), (b_ws, (arJ G 8 v_ws)), (b_hw, (arJ G 4 v_hw))]))) (g5_B G (va_A [(b_o, (oc12 u_th u_sa b_rf b_ro b_im b_ke u_fd b_tp u_td u_fr u_to u_so u_wo u_fa u_bd u_nc b_nl u_co b_op b_ar u_le b_pi b_pa u_pd u_od b_ws b_hw u_la b_se b_re u_bk u_va u_su u_ce u_ho u_wy u_bt u_ps b_pt u_tg u_sn b_ip u_ic b_ah b_be b_me u_wd b_tr b_ld u_st b_wn u_id)), (b_rf, (arI G 7 v_rf)), (b_ro, (arI G 5740 v_ro)), (b_tp, (arI G 400 v_tp)), (b_nl, (arI G 96 v_nl)), (b_op, (arI G 400 v_op)), (b_ar, (arI G 400 v_ar)), (b_pi, (arI G 400 v_pi)), (b_pa, (arI G 400 v_pa)), (b_ws, (arJ G 8 v_ws)), (b_hw, (arJ G 4 v_hw))] sz)) (va_A [(b_o, (oc12 u_th u_sa b_rf b_ro b_im b_ke u_fd b_tp u_td u_fr u_to u_so u_wo u_fa u_bd u_nc b_nl u_co b_op b_ar u_le b_pi b_pa u_pd u_od b_ws b_hw u_la b_se b_re u_bk u_va u_su u_ce u_ho u_wy u_bt u_ps b_pt u_tg u_sn b_ip u_ic b_ah b_be b_me u_wd b_tr b_ld u_st b_wn u_id)), (b_rf, (arI G 7 v_rf)), (b_ro, (arI G 5740 v_ro)), (b_tp, (arI G 400 v_tp)), (b_nl, (arI G 96 v_nl)), (b_op, (arI G 400 v_op)), (b_ar, (arI G 400 v_ar)), (b_pi, (arI G 400 v_pi)), (b_pa, (arI G 400 v_pa)), (b_ws, (arJ G 8 v_ws)), (b_hw, (arJ G 4 v_hw))] sz)) 0 0 (va_A [(b_o, (oc12 u_th u_sa b_rf b_ro b_im b_ke u_fd b_tp u_td u_fr u_to u_so u_wo u_fa u_bd u_nc b_nl u_co b_op b_ar u_le b_pi b_pa u_pd u_od b_ws b_hw u_la b_se b_re u_bk u_va u_su u_ce u_ho u_wy u_bt u_ps b_pt u_tg u_sn b_ip u_ic b_ah b_be b_me u_wd b_tr b_ld u_st b_wn u_id)), (b_rf, (arI G 7 v_rf)), (b_ro, (arI G 5740 v_ro)), (b_tp, (arI G 400 v_tp)), (b_nl, (arI G 96 v_nl)), (b_op, (arI G 400 v_op)), (b_ar, (arI G 400 v_ar)), (b_pi, (arI G 400 v_pi)), (b_pa, (arI G 400 v_pa)), (b_ws, (arJ G 8 v_ws)), (b_hw, (arJ G 4 v_hw))] sz) := by
  refine Met.ofW (cc := cX12_law) (maxL := 3) (ret := (some .int)) (by decide) rfl ?_
  intro p e s m args below meth c s₁ B hml hv
  obtain ⟨rfl, hsz, hP, hK, hD0, hN, hT⟩ := hv
  have hx := B.exec
  have hb := B.bytes
  have hr := B.returns
  have hts : ∀ w ∈ tblG, w.before _ s = true := fun w h => atoms_spec (ws := (wsG yX12_law cX12_law 3 (some .int))) B.pre w (List.mem_cons_of_mem _ h)
  have hown : s.vm.findClass RX12 = some m.cls := findClass_of_methodNamed B.named
  have hlocks := B.notSynchronized
  subst hsz
  have hD := hD0.self (sz := s.heap.size)
  generalize hAe : va_A [(b_o, (oc12 u_th u_sa b_rf b_ro b_im b_ke u_fd b_tp u_td u_fr u_to u_so u_wo u_fa u_bd u_nc b_nl u_co b_op b_ar u_le b_pi b_pa u_pd u_od b_ws b_hw u_la b_se b_re u_bk u_va u_su u_ce u_ho u_wy u_bt u_ps b_pt u_tg u_sn b_ip u_ic b_ah b_be b_me u_wd b_tr b_ld u_st b_wn u_id)), (b_rf, (arI G 7 v_rf)), (b_ro, (arI G 5740 v_ro)), (b_tp, (arI G 400 v_tp)), (b_nl, (arI G 96 v_nl)), (b_op, (arI G 400 v_op)), (b_ar, (arI G 400 v_ar)), (b_pi, (arI G 400 v_pi)), (b_pa, (arI G 400 v_pa)), (b_ws, (arJ G 8 v_ws)), (b_hw, (arJ G 4 v_hw))] s.heap.size = A at hD hT ⊢
  have hA : ∀ q : Nat, s.heap.size ≤ q → A q := fun q h => by rw [← hAe]; exact Or.inr h
  have hS : va_S A s.heap s.heap [] := va_S.rf
  have hP : va_P G.1 vwCl [(b_o, (oc12 u_th u_sa b_rf b_ro b_im b_ke u_fd b_tp u_td u_fr u_to u_so u_wo u_fa u_bd u_nc b_nl u_co b_op b_ar u_le b_pi b_pa u_pd u_od b_ws b_hw u_la b_se b_re u_bk u_va u_su u_ce u_ho u_wy u_bt u_ps b_pt u_tg u_sn b_ip u_ic b_ah b_be b_me u_wd b_tr b_ld u_st b_wn u_id)), (b_rf, (arI G 7 v_rf)), (b_ro, (arI G 5740 v_ro)), (b_tp, (arI G 400 v_tp)), (b_nl, (arI G 96 v_nl)), (b_op, (arI G 400 v_op)), (b_ar, (arI G 400 v_ar)), (b_pi, (arI G 400 v_pi)), (b_pa, (arI G 400 v_pa)), (b_ws, (arJ G 8 v_ws)), (b_hw, (arJ G 4 v_hw))] s.heap := hP
  have hl := lv_entry ([.ref b_o]) (n := 3) (Nat.le_of_ble_eq_true rfl)
  rw [lg_entry_eq]
  generalize (lg_sl ([.ref b_o]) ++ List.replicate (3 - (lg_sl ([.ref b_o])).length) Slot.unset).toArray = ls at hl ⊢
  have hl : lv_has ls 3 [(0, .ref b_o)] := hl
  refine lv_aload_n hx hb dX12_law_0 rfl (lv_at hl 0 rfl) ?_
  refine lv_iconst (v := 0) hx hb dX12_law_1 (by decide) ?_
  refine va_put (D := G.1) (ci := 12) (v := .int 0) (ty := .int) (C := RX12) (T := TX12) (N := 52) hx hb hts inG_X12 tyX12 tyX12_ok nmX12 hown hK hP hD hS 0 rfl rfl 0 (by decide) (hts _ fl_X12_107) (fun _ h9 => h9) rfl (by decide +kernel) rfl rfl (Nat.le_of_ble_eq_true rfl) dX12_law_2 (fun H locs hP hD hS => ?_)
  refine g5_rs [(b_o, (oc12 0 u_sa b_rf b_ro b_im b_ke u_fd b_tp u_td u_fr u_to u_so u_wo u_fa u_bd u_nc b_nl u_co b_op b_ar u_le b_pi b_pa u_pd u_od b_ws b_hw u_la b_se b_re u_bk u_va u_su u_ce u_ho u_wy u_bt u_ps b_pt u_tg u_sn b_ip u_ic b_ah b_be b_me u_wd b_tr b_ld u_st b_wn u_id)), (b_rf, (arI G 7 v_rf)), (b_ro, (arI G 5740 v_ro)), (b_tp, (arI G 400 v_tp)), (b_nl, (arI G 96 v_nl)), (b_op, (arI G 400 v_op)), (b_ar, (arI G 400 v_ar)), (b_pi, (arI G 400 v_pi)), (b_pa, (arI G 400 v_pa)), (b_ws, (arJ G 8 v_ws)), (b_hw, (arJ G 4 v_hw))] hP hD (fun hP hD => ?_)
  refine lv_aload_n hx hb dX12_law_5 rfl (lv_at hl 0 rfl) ?_
  refine va_get (D := G.1) (ci := 12) (v := .ref b_ro) (C := RX12) (T := TX12) (N := 52) hx hb hts inG_X12 hown hK hP 0 rfl rfl 3 (by decide) (hts _ fl_X12_13) (fun _ h9 => h9) rfl dX12_law_6 ?_
  refine lv_iconst (v := 2) hx hb dX12_law_9 (by decide) ?_
  refine va_iald hx hb hK hP 2 0 rfl rfl (i := 2) (by unfold vp_in; decide) dX12_law_10 ?_
  refine g5_ti (v := (v_ro 2)) rfl ?_
  have hr_1 : 0 ≤ (v_ro 2).toInt ∧ (v_ro 2).toInt ≤ 6 := mi_2 r_ro
  refine lv_bipush (v := 6) hx hb dX12_law_11 (by decide) ?_
  refine lv_icmp_ne (tgt := 28) hx hb dX12_law_13 (by decide) (fun c_2 => ?_) (fun c_2 => ?_)
  ·
    have n_2 : gNe ((v_ro 2).toInt) (6) := by have z := g5_ne (a := (v_ro 2).toInt) (b := 6) (by rfl) (by decide) c_2; unfold gNe; omega
    have i_2 : (v_ro 2).toInt ≤ 5 := by have z := g5_ne (a := (v_ro 2).toInt) (b := 6) (by rfl) (by decide) c_2; omega
    refine lv_aload_n hx hb dX12_law_28 rfl (lv_at hl 0 rfl) ?_
    obtain ⟨hPc, hDc, hFc⟩ := g5_sub3 (wc := [(b_o, (oc12 0 u_sa b_rf b_ro b_im b_ke u_fd b_tp u_td u_fr u_to u_so u_wo u_fa u_bd u_nc b_nl u_co b_op b_ar u_le b_pi b_pa u_pd u_od b_ws b_hw u_la b_se b_re u_bk u_va u_su u_ce u_ho u_wy u_bt u_ps b_pt u_tg u_sn b_ip u_ic b_ah b_be b_me u_wd b_tr b_ld u_st b_wn u_id)), (b_tp, (arI G 400 v_tp))]) hP hD hS hA [0, 3] (by decide) rfl
    refine va_callv (va_runV (As := []) (rest := []) ⟨hx, hb, hml, hown, hts⟩ (n_begin l G b_o b_tp b_rf b_ro b_im b_ke b_nl b_op b_ar b_pi b_pa b_ws b_hw b_se b_re b_pt b_ip b_ah b_be b_me b_tr b_ld b_wn H.size 0 u_sa u_fd u_td u_fr u_to u_so u_fa u_bd u_nc u_co u_le u_pd u_od u_la u_bk u_ce u_ho u_wy u_bt u_ps u_tg u_sn u_ic u_wd u_id u_wo u_va u_su u_st v_tp h_u_td h_u_fr h_u_to h_u_bd h_u_nc h_u_co h_u_pd h_u_la h_u_bk h_u_ce h_u_ho h_u_wy h_u_bt h_u_ps h_u_ic h_u_id) (cwV 0 hts gV_X12_320 rfl rfl rfl hv_X12_begin ⟨Nat.le_of_ble_eq_true rfl, Nat.le_of_ble_eq_true rfl⟩) (g5_preV hPc hK hDc hN hT hS hFc (ci := 12) (q0 := 0) rfl rfl) rfl rfl hl.1 rfl (lv_room (Nat.le_of_ble_eq_true rfl)) dX12_law_29 ⟨Nat.le_of_ble_eq_true rfl, Nat.le_of_ble_eq_true rfl⟩) hS (fun q _ h => hFc q h) hFc (fun u t H1 locs ht hvm hw hB hz1 hk1 hS => ?_)
    obtain ⟨hP1, hD1⟩ := hB
    rw [ht] at hP1
    obtain ⟨z7, z8, z9, z10, i_3, i_4, i_5, i_6, rfl⟩ := hw
    have i_3 : 0 ≤ z7.toInt ∧ z7.toInt ≤ 400 := i_3
    have i_4 : 0 ≤ z8.toInt ∧ z8.toInt ≤ 400 := i_4
    have i_5 : z7.toInt ≤ z8.toInt ∧ z8.toInt ≤ u_td.toInt := i_5
    have i_6 : TKs z9.toInt z7.toInt z8.toInt := i_6
    obtain ⟨hP, hD⟩ := va_join (wr := [(b_rf, (arI G 7 v_rf)), (b_ro, (arI G 5740 v_ro)), (b_nl, (arI G 96 v_nl)), (b_op, (arI G 400 v_op)), (b_ar, (arI G 400 v_ar)), (b_pi, (arI G 400 v_pi)), (b_pa, (arI G 400 v_pa)), (b_ws, (arJ G 8 v_ws)), (b_hw, (arJ G 4 v_hw))]) hP hD [0, 3] [1, 2, 4, 5, 6, 7, 8, 9, 10] rfl rfl (by decide) (by decide) hk1 hFc hP1 hD1
    generalize H1 = H at hP hS ⊢
    refine g5_rs [(b_rf, (arI G 7 v_rf)), (b_ro, (arI G 5740 v_ro)), (b_nl, (arI G 96 v_nl)), (b_op, (arI G 400 v_op)), (b_ar, (arI G 400 v_ar)), (b_pi, (arI G 400 v_pi)), (b_pa, (arI G 400 v_pa)), (b_ws, (arJ G 8 v_ws)), (b_hw, (arJ G 4 v_hw)), (b_o, (oc12 0 u_sa b_rf b_ro b_im b_ke u_fd b_tp u_td z7 z8 z9 z10 (-1) 0 u_nc b_nl u_co b_op b_ar u_le b_pi b_pa u_pd u_od b_ws b_hw u_la b_se b_re u_bk u_va u_su u_ce u_ho u_wy u_bt u_ps b_pt u_tg u_sn b_ip u_ic b_ah b_be b_me u_wd b_tr b_ld u_st b_wn u_id)), (b_tp, (arI G 400 v_tp))] hP hD (fun hP hD => ?_)
    refine lv_aload_n hx hb dX12_law_32 rfl (lv_at hl 0 rfl) ?_
    refine lv_iconst (v := 0) hx hb dX12_law_33 (by decide) ?_
    refine va_put (D := G.1) (ci := 12) (v := .int 0) (ty := .int) (C := RX12) (T := TX12) (N := 52) hx hb hts inG_X12 tyX12 tyX12_ok nmX12 hown hK hP hD hS 9 rfl rfl 15 (by decide) (hts _ fl_X12_312) (fun _ h9 => h9) rfl (by decide +kernel) rfl rfl (Nat.le_of_ble_eq_true rfl) dX12_law_34 (fun H locs hP hD hS => ?_)
    refine g5_rs [(b_rf, (arI G 7 v_rf)), (b_ro, (arI G 5740 v_ro)), (b_nl, (arI G 96 v_nl)), (b_op, (arI G 400 v_op)), (b_ar, (arI G 400 v_ar)), (b_pi, (arI G 400 v_pi)), (b_pa, (arI G 400 v_pa)), (b_ws, (arJ G 8 v_ws)), (b_hw, (arJ G 4 v_hw)), (b_o, (oc12 0 u_sa b_rf b_ro b_im b_ke u_fd b_tp u_td z7 z8 z9 z10 (-1) 0 0 b_nl u_co b_op b_ar u_le b_pi b_pa u_pd u_od b_ws b_hw u_la b_se b_re u_bk u_va u_su u_ce u_ho u_wy u_bt u_ps b_pt u_tg u_sn b_ip u_ic b_ah b_be b_me u_wd b_tr b_ld u_st b_wn u_id)), (b_tp, (arI G 400 v_tp))] hP hD (fun hP hD => ?_)
    refine lv_aload_n hx hb dX12_law_37 rfl (lv_at hl 0 rfl) ?_
    refine lv_iconst (v := 0) hx hb dX12_law_38 (by decide) ?_
    refine va_put (D := G.1) (ci := 12) (v := .int 0) (ty := .int) (C := RX12) (T := TX12) (N := 52) hx hb hts inG_X12 tyX12 tyX12_ok nmX12 hown hK hP hD hS 9 rfl rfl 17 (by decide) (hts _ fl_X12_237) (fun _ h9 => h9) rfl (by decide +kernel) rfl rfl (Nat.le_of_ble_eq_true rfl) dX12_law_39 (fun H locs hP hD hS => ?_)
    refine g5_rs [(b_rf, (arI G 7 v_rf)), (b_ro, (arI G 5740 v_ro)), (b_nl, (arI G 96 v_nl)), (b_op, (arI G 400 v_op)), (b_ar, (arI G 400 v_ar)), (b_pi, (arI G 400 v_pi)), (b_pa, (arI G 400 v_pa)), (b_ws, (arJ G 8 v_ws)), (b_hw, (arJ G 4 v_hw)), (b_o, (oc12 0 u_sa b_rf b_ro b_im b_ke u_fd b_tp u_td z7 z8 z9 z10 (-1) 0 0 b_nl 0 b_op b_ar u_le b_pi b_pa u_pd u_od b_ws b_hw u_la b_se b_re u_bk u_va u_su u_ce u_ho u_wy u_bt u_ps b_pt u_tg u_sn b_ip u_ic b_ah b_be b_me u_wd b_tr b_ld u_st b_wn u_id)), (b_tp, (arI G 400 v_tp))] hP hD (fun hP hD => ?_)
    refine lv_aload_n hx hb dX12_law_42 rfl (lv_at hl 0 rfl) ?_
    refine lv_iconst (v := 0) hx hb dX12_law_43 (by decide) ?_
    refine va_put (D := G.1) (ci := 12) (v := .int 0) (ty := .int) (C := RX12) (T := TX12) (N := 52) hx hb hts inG_X12 tyX12 tyX12_ok nmX12 hown hK hP hD hS 9 rfl rfl 20 (by decide) (hts _ fl_X12_264) (fun _ h9 => h9) rfl (by decide +kernel) rfl rfl (Nat.le_of_ble_eq_true rfl) dX12_law_44 (fun H locs hP hD hS => ?_)
    refine g5_rs [(b_rf, (arI G 7 v_rf)), (b_ro, (arI G 5740 v_ro)), (b_nl, (arI G 96 v_nl)), (b_op, (arI G 400 v_op)), (b_ar, (arI G 400 v_ar)), (b_pi, (arI G 400 v_pi)), (b_pa, (arI G 400 v_pa)), (b_ws, (arJ G 8 v_ws)), (b_hw, (arJ G 4 v_hw)), (b_o, (oc12 0 u_sa b_rf b_ro b_im b_ke u_fd b_tp u_td z7 z8 z9 z10 (-1) 0 0 b_nl 0 b_op b_ar 0 b_pi b_pa u_pd u_od b_ws b_hw u_la b_se b_re u_bk u_va u_su u_ce u_ho u_wy u_bt u_ps b_pt u_tg u_sn b_ip u_ic b_ah b_be b_me u_wd b_tr b_ld u_st b_wn u_id)), (b_tp, (arI G 400 v_tp))] hP hD (fun hP hD => ?_)
    have hE_11 : LWJ v_nl v_op v_ar (0 : Int32).toInt (0 : Int32).toInt := lwj_00 (by decide)
    have z00 : (0 : Int32).toInt = 0 := (by decide)
    refine lv_aload_n hx hb dX12_law_47 rfl (lv_at hl 0 rfl) ?_
    obtain ⟨hPc, hDc, hFc⟩ := g5_sub3 (wc := [(b_o, (oc12 0 u_sa b_rf b_ro b_im b_ke u_fd b_tp u_td z7 z8 z9 z10 (-1) 0 0 b_nl 0 b_op b_ar 0 b_pi b_pa u_pd u_od b_ws b_hw u_la b_se b_re u_bk u_va u_su u_ce u_ho u_wy u_bt u_ps b_pt u_tg u_sn b_ip u_ic b_ah b_be b_me u_wd b_tr b_ld u_st b_wn u_id)), (b_tp, (arI G 400 v_tp)), (b_nl, (arI G 96 v_nl)), (b_op, (arI G 400 v_op)), (b_ar, (arI G 400 v_ar)), (b_pi, (arI G 400 v_pi)), (b_pa, (arI G 400 v_pa)), (b_ws, (arJ G 8 v_ws)), (b_hw, (arJ G 4 v_hw))]) hP hD hS hA [9, 10, 2, 3, 4, 5, 6, 7, 8] (by decide) rfl
    refine va_callv (va_runV (As := []) (rest := []) ⟨hx, hb, hml, hown, hts⟩ (n_readClause l G b_o b_tp b_nl b_op b_ar b_pi b_pa b_ws b_hw b_rf b_ro b_im b_ke b_se b_re b_pt b_ip b_ah b_be b_me b_tr b_ld b_wn H.size 0 u_sa u_fd u_td z7 z8 z9 (-1) 0 0 0 0 u_pd u_od u_la u_bk u_ce u_ho u_wy u_bt u_ps u_tg u_sn u_ic u_wd u_id z10 u_va u_su u_st v_tp v_nl v_op v_ar v_pi v_pa v_ws v_hw h_u_td i_3 i_4 ⟨by decide, by decide⟩ ⟨by decide, by decide⟩ ⟨by decide, by decide⟩ h_u_pd h_u_la h_u_bk h_u_ce h_u_ho h_u_wy h_u_bt h_u_ps h_u_ic h_u_id (i_5) (i_6) (by omega) (hE_11)) (cwV 0 hts gV_X12_323 rfl rfl rfl hv_X12_readClause ⟨Nat.le_of_ble_eq_true rfl, Nat.le_of_ble_eq_true rfl⟩) (g5_preV hPc hK hDc hN hT hS hFc (ci := 12) (q0 := 0) rfl rfl) rfl rfl hl.1 rfl (lv_room (Nat.le_of_ble_eq_true rfl)) dX12_law_48 ⟨Nat.le_of_ble_eq_true rfl, Nat.le_of_ble_eq_true rfl⟩) hS (fun q _ h => hFc q h) hFc (fun u t H1 locs ht hvm hw hB hz1 hk1 hS => ?_)
    obtain ⟨hP1, hD1⟩ := hB
    rw [ht] at hP1
    rcases hw with rfl | ⟨z22, z23, z24, z25, z26, z27, z28, z29, z30, z31, z32, z33, z34, z35, z36, z37, i_12, i_13, i_14, i_15, i_16, i_17, i_18, i_19, i_20, i_21, rfl⟩
    ·
      obtain ⟨hP, hD⟩ := va_join (wr := [(b_rf, (arI G 7 v_rf)), (b_ro, (arI G 5740 v_ro))]) hP hD [9, 10, 2, 3, 4, 5, 6, 7, 8] [0, 1] rfl rfl (by decide) (by decide) hk1 hFc hP1 hD1
      generalize H1 = H at hP hS ⊢
      refine g5_rs [(b_rf, (arI G 7 v_rf)), (b_ro, (arI G 5740 v_ro)), (b_o, (oc12 0 u_sa b_rf b_ro b_im b_ke u_fd b_tp u_td z7 z8 z9 z10 z7 1 0 b_nl 0 b_op b_ar 0 b_pi b_pa u_pd u_od b_ws b_hw u_la b_se b_re u_bk u_va u_su u_ce u_ho u_wy u_bt u_ps b_pt u_tg u_sn b_ip u_ic b_ah b_be b_me u_wd b_tr b_ld u_st b_wn u_id)), (b_tp, (arI G 400 v_tp)), (b_nl, (arI G 96 v_nl)), (b_op, (arI G 400 v_op)), (b_ar, (arI G 400 v_ar)), (b_pi, (arI G 400 v_pi)), (b_pa, (arI G 400 v_pa)), (b_ws, (arJ G 8 v_ws)), (b_hw, (arJ G 4 v_hw))] hP hD (fun hP hD => ?_)
      refine g5_loop (α := (Int32) × (Int32) × (Int32) × (Int64) × (Int32) × (Int32) × (Int32) × (Int32) × (Int32) × (Int32) × (Int32) × (Nat → Int32) × (Nat → Int32) × (Nat → Int32) × (Nat → Int32) × (Nat → Int32)) (fun (q : (Int32) × (Int32) × (Int32) × (Int64) × (Int32) × (Int32) × (Int32) × (Int32) × (Int32) × (Int32) × (Int32) × (Nat → Int32) × (Nat → Int32) × (Nat → Int32) × (Nat → Int32) × (Nat → Int32)) (ls : Array Slot) (H : Heap) (locs : List Loc) => match q with | (k51_fr, k51_to, k51_so, k51_wo, k51_fa, k51_bd, k51_nc, k51_co, k51_le, k51_pd, k51_od, k51_nl, k51_op, k51_ar, k51_pi, k51_pa) => lv_has ls 3 [(0, .ref b_o)] ∧ va_P G.1 vwCl [(b_rf, (arI G 7 v_rf)), (b_ro, (arI G 5740 v_ro)), (b_o, (oc12 0 u_sa b_rf b_ro b_im b_ke u_fd b_tp u_td k51_fr k51_to k51_so k51_wo k51_fa k51_bd k51_nc b_nl k51_co b_op b_ar k51_le b_pi b_pa k51_pd k51_od b_ws b_hw u_la b_se b_re u_bk u_va u_su u_ce u_ho u_wy u_bt u_ps b_pt u_tg u_sn b_ip u_ic b_ah b_be b_me u_wd b_tr b_ld u_st b_wn u_id)), (b_tp, (arI G 400 v_tp)), (b_nl, (arI G 96 k51_nl)), (b_op, (arI G 400 k51_op)), (b_ar, (arI G 400 k51_ar)), (b_pi, (arI G 400 k51_pi)), (b_pa, (arI G 400 k51_pa)), (b_ws, (arJ G 8 v_ws)), (b_hw, (arJ G 4 v_hw))] H ∧ va_D A [(b_rf, (arI G 7 v_rf)), (b_ro, (arI G 5740 v_ro)), (b_o, (oc12 0 u_sa b_rf b_ro b_im b_ke u_fd b_tp u_td k51_fr k51_to k51_so k51_wo k51_fa k51_bd k51_nc b_nl k51_co b_op b_ar k51_le b_pi b_pa k51_pd k51_od b_ws b_hw u_la b_se b_re u_bk u_va u_su u_ce u_ho u_wy u_bt u_ps b_pt u_tg u_sn b_ip u_ic b_ah b_be b_me u_wd b_tr b_ld u_st b_wn u_id)), (b_tp, (arI G 400 v_tp)), (b_nl, (arI G 96 k51_nl)), (b_op, (arI G 400 k51_op)), (b_ar, (arI G 400 k51_ar)), (b_pi, (arI G 400 k51_pi)), (b_pa, (arI G 400 k51_pa)), (b_ws, (arJ G 8 v_ws)), (b_hw, (arJ G 4 v_hw))] ∧ va_S A s.heap H locs ∧ (0 ≤ k51_fr.toInt ∧ k51_fr.toInt ≤ 400) ∧ (0 ≤ k51_to.toInt ∧ k51_to.toInt ≤ 400) ∧ (0 ≤ k51_bd.toInt ∧ k51_bd.toInt ≤ 1) ∧ (0 ≤ k51_nc.toInt ∧ k51_nc.toInt ≤ 12) ∧ (0 ≤ k51_co.toInt ∧ k51_co.toInt ≤ 400) ∧ (0 ≤ k51_pd.toInt ∧ k51_pd.toInt ≤ 400) ∧ (k51_bd.toInt = 0 → LWJ k51_nl k51_op k51_ar k51_nc.toInt k51_co.toInt) ∧ (k51_fr.toInt ≤ k51_to.toInt ∧ k51_to.toInt ≤ u_td.toInt) ∧ (TKs k51_so.toInt k51_fr.toInt k51_to.toInt) ∧ (k51_co.toInt ≤ k51_fr.toInt)) (fun (q : (Int32) × (Int32) × (Int32) × (Int64) × (Int32) × (Int32) × (Int32) × (Int32) × (Int32) × (Int32) × (Int32) × (Nat → Int32) × (Nat → Int32) × (Nat → Int32) × (Nat → Int32) × (Nat → Int32)) => match q with | (k51_fr, k51_to, k51_so, k51_wo, k51_fa, k51_bd, k51_nc, k51_co, k51_le, k51_pd, k51_od, k51_nl, k51_op, k51_ar, k51_pi, k51_pa) => Int.toNat (400 - k51_fr.toInt)) (z7, z8, z9, z10, z7, 1, 0, 0, 0, u_pd, u_od, v_nl, v_op, v_ar, v_pi, v_pa) ⟨lv_sub hl [0] rfl, hP, hD, hS, i_3, i_4, ⟨by decide, by decide⟩, ⟨by decide, by decide⟩, ⟨by decide, by decide⟩, h_u_pd, fun q9 => absurd q9 (by decide), by omega, i_6, by omega⟩ ?_
      rintro ⟨k51_fr, k51_to, k51_so, k51_wo, k51_fa, k51_bd, k51_nc, k51_co, k51_le, k51_pd, k51_od, k51_nl, k51_op, k51_ar, k51_pi, k51_pa⟩ ls H locs ⟨hl, hP, hD, hS, i_38, i_39, i_40, i_41, i_42, i_43, i_44, i_45, i_46, i_47⟩ ih_51_48
      have hl : lv_has ls 3 [(0, .ref b_o)] := hl
      have i_38 : 0 ≤ k51_fr.toInt ∧ k51_fr.toInt ≤ 400 := i_38
      have i_39 : 0 ≤ k51_to.toInt ∧ k51_to.toInt ≤ 400 := i_39
      have i_40 : 0 ≤ k51_bd.toInt ∧ k51_bd.toInt ≤ 1 := i_40
      have i_41 : 0 ≤ k51_nc.toInt ∧ k51_nc.toInt ≤ 12 := i_41
      have i_42 : 0 ≤ k51_co.toInt ∧ k51_co.toInt ≤ 400 := i_42
      have i_43 : 0 ≤ k51_pd.toInt ∧ k51_pd.toInt ≤ 400 := i_43
      have i_44 : k51_bd.toInt = 0 → LWJ k51_nl k51_op k51_ar k51_nc.toInt k51_co.toInt := i_44
      have i_45 : k51_fr.toInt ≤ k51_to.toInt ∧ k51_to.toInt ≤ u_td.toInt := i_45
      have i_46 : TKs k51_so.toInt k51_fr.toInt k51_to.toInt := i_46
      have i_47 : k51_co.toInt ≤ k51_fr.toInt := i_47
      refine g5_rs [(b_rf, (arI G 7 v_rf)), (b_ro, (arI G 5740 v_ro)), (b_o, (oc12 0 u_sa b_rf b_ro b_im b_ke u_fd b_tp u_td k51_fr k51_to k51_so k51_wo k51_fa k51_bd k51_nc b_nl k51_co b_op b_ar k51_le b_pi b_pa k51_pd k51_od b_ws b_hw u_la b_se b_re u_bk u_va u_su u_ce u_ho u_wy u_bt u_ps b_pt u_tg u_sn b_ip u_ic b_ah b_be b_me u_wd b_tr b_ld u_st b_wn u_id)), (b_tp, (arI G 400 v_tp)), (b_nl, (arI G 96 k51_nl)), (b_op, (arI G 400 k51_op)), (b_ar, (arI G 400 k51_ar)), (b_pi, (arI G 400 k51_pi)), (b_pa, (arI G 400 k51_pa)), (b_ws, (arJ G 8 v_ws)), (b_hw, (arJ G 4 v_hw))] hP hD (fun hP hD => ?_)
      refine lv_aload_n hx hb dX12_law_51 rfl (lv_at hl 0 rfl) ?_
      refine va_get (D := G.1) (ci := 12) (v := .int k51_bd) (C := RX12) (T := TX12) (N := 52) hx hb hts inG_X12 hown hK hP 2 rfl rfl 14 (by decide) (hts _ fl_X12_205) (fun _ h9 => h9) rfl dX12_law_52 ?_
      refine lv_if_ne (tgt := 78) hx hb dX12_law_55 (by decide) (fun c_49 => ?_) (fun c_49 => ?_)
      ·
        have n_49 : gNe (k51_bd.toInt) (0) := by have z := g5_ne (a := k51_bd.toInt) (b := 0) (by rfl) (by decide) c_49; unfold gNe; omega
        have i_49 : k51_bd.toInt ≥ 1 := by have z := g5_ne (a := k51_bd.toInt) (b := 0) (by rfl) (by decide) c_49; omega
        refine lv_aload_n hx hb dX12_law_78 rfl (lv_at hl 0 rfl) ?_
        refine va_get (D := G.1) (ci := 12) (v := .int k51_bd) (C := RX12) (T := TX12) (N := 52) hx hb hts inG_X12 hown hK hP 2 rfl rfl 14 (by decide) (hts _ fl_X12_205) (fun _ h9 => h9) rfl dX12_law_79 ?_
        refine lv_if_ne (tgt := 97) hx hb dX12_law_82 (by decide) (fun c_50 => ?_) (fun c_50 => ?_)
        ·
          have n_50 : gNe (k51_bd.toInt) (0) := by have z := g5_ne (a := k51_bd.toInt) (b := 0) (by rfl) (by decide) c_50; unfold gNe; omega
          refine lv_aload_n hx hb dX12_law_97 rfl (lv_at hl 0 rfl) ?_
          refine lv_iconst (v := 0) hx hb dX12_law_98 (by decide) ?_
          refine va_put (D := G.1) (ci := 12) (v := .int 0) (ty := .int) (C := RX12) (T := TX12) (N := 52) hx hb hts inG_X12 tyX12 tyX12_ok nmX12 hown hK hP hD hS 2 rfl rfl 8 (by decide) (hts _ fl_X12_192) (fun _ h9 => h9) rfl (by decide +kernel) rfl rfl (Nat.le_of_ble_eq_true rfl) dX12_law_99 (fun H locs hP hD hS => ?_)
          refine g5_rs [(b_rf, (arI G 7 v_rf)), (b_ro, (arI G 5740 v_ro)), (b_o, (oc12 0 u_sa b_rf b_ro b_im b_ke u_fd b_tp 0 k51_fr k51_to k51_so k51_wo k51_fa k51_bd k51_nc b_nl k51_co b_op b_ar k51_le b_pi b_pa k51_pd k51_od b_ws b_hw u_la b_se b_re u_bk u_va u_su u_ce u_ho u_wy u_bt u_ps b_pt u_tg u_sn b_ip u_ic b_ah b_be b_me u_wd b_tr b_ld u_st b_wn u_id)), (b_tp, (arI G 400 v_tp)), (b_nl, (arI G 96 k51_nl)), (b_op, (arI G 400 k51_op)), (b_ar, (arI G 400 k51_ar)), (b_pi, (arI G 400 k51_pi)), (b_pa, (arI G 400 k51_pa)), (b_ws, (arJ G 8 v_ws)), (b_hw, (arJ G 4 v_hw))] hP hD (fun hP hD => ?_)
          refine lv_aload_n hx hb dX12_law_102 rfl (lv_at hl 0 rfl) ?_
          refine va_get (D := G.1) (ci := 12) (v := .int k51_bd) (C := RX12) (T := TX12) (N := 52) hx hb hts inG_X12 hown hK hP 2 rfl rfl 14 (by decide) (hts _ fl_X12_205) (fun _ h9 => h9) rfl dX12_law_103 ?_
          refine lv_if_eq (tgt := 116) hx hb dX12_law_106 (by decide) (fun c_51 => ?_) (fun c_51 => ?_)
          ·
            have i_51 : k51_bd.toInt = 0 := by have z := g5_eq (a := k51_bd.toInt) (b := 0) (by rfl) (by decide) c_51; omega
            omega
          ·
            have n_51 : gNe (k51_bd.toInt) (0) := by have z := g5_eqN (a := k51_bd.toInt) (b := 0) (by rfl) (by decide) c_51; unfold gNe; omega
            refine lv_aload_n hx hb dX12_law_109 rfl (lv_at hl 0 rfl) ?_
            refine lv_bipush (v := (-6)) hx hb dX12_law_110 (by decide) ?_
            obtain ⟨hPc, hDc, hFc⟩ := g5_sub3 (wc := [(b_o, (oc12 0 u_sa b_rf b_ro b_im b_ke u_fd b_tp 0 k51_fr k51_to k51_so k51_wo k51_fa k51_bd k51_nc b_nl k51_co b_op b_ar k51_le b_pi b_pa k51_pd k51_od b_ws b_hw u_la b_se b_re u_bk u_va u_su u_ce u_ho u_wy u_bt u_ps b_pt u_tg u_sn b_ip u_ic b_ah b_be b_me u_wd b_tr b_ld u_st b_wn u_id)), (b_rf, (arI G 7 v_rf))]) hP hD hS hA [2, 0] (by decide) rfl
            refine va_calli (va_runV (As := [.int (-6)]) (rest := []) ⟨hx, hb, hml, hown, hts⟩ (n_tell6 l G b_o b_rf b_ro b_im b_ke b_tp b_nl b_op b_ar b_pi b_pa b_ws b_hw b_se b_re b_pt b_ip b_ah b_be b_me b_tr b_ld b_wn H.size 0 u_sa u_fd 0 k51_fr k51_to k51_so k51_fa k51_bd k51_nc k51_co k51_le k51_pd k51_od u_la u_bk u_ce u_ho u_wy u_bt u_ps u_tg u_sn u_ic u_wd u_id k51_wo u_va u_su u_st v_rf ⟨by decide, by decide⟩ i_38 i_39 i_40 i_41 i_42 i_43 h_u_la h_u_bk h_u_ce h_u_ho h_u_wy h_u_bt h_u_ps h_u_ic h_u_id) (cwV 1 hts gV_X12_125 rfl rfl rfl hv_X12_tell ⟨Nat.le_of_ble_eq_true rfl, Nat.le_of_ble_eq_true rfl⟩) (g5_preV hPc hK hDc hN hT hS hFc (ci := 12) (q0 := 0) rfl rfl) rfl rfl hl.1 rfl (lv_room (Nat.le_of_ble_eq_true rfl)) dX12_law_112 ⟨Nat.le_of_ble_eq_true rfl, Nat.le_of_ble_eq_true rfl⟩) hS (fun q _ h => hFc q h) hFc (fun r u t H1 locs ht hvm hw hB hz1 hk1 hS => ?_)
            obtain ⟨hP1, hD1⟩ := hB
            rw [ht] at hP1
            obtain ⟨z53, z54, z55, i_52, rfl, rfl⟩ := hw
            have i_52 : 0 ≤ z54.toInt ∧ z54.toInt ≤ 1 := i_52
            obtain ⟨hP, hD⟩ := va_join (wr := [(b_ro, (arI G 5740 v_ro)), (b_tp, (arI G 400 v_tp)), (b_nl, (arI G 96 k51_nl)), (b_op, (arI G 400 k51_op)), (b_ar, (arI G 400 k51_ar)), (b_pi, (arI G 400 k51_pi)), (b_pa, (arI G 400 k51_pa)), (b_ws, (arJ G 8 v_ws)), (b_hw, (arJ G 4 v_hw))]) hP hD [2, 0] [1, 3, 4, 5, 6, 7, 8, 9, 10] rfl rfl (by decide) (by decide) hk1 hFc hP1 hD1
            generalize H1 = H at hP hS ⊢
            refine g5_rs [(b_ro, (arI G 5740 v_ro)), (b_tp, (arI G 400 v_tp)), (b_nl, (arI G 96 k51_nl)), (b_op, (arI G 400 k51_op)), (b_ar, (arI G 400 k51_ar)), (b_pi, (arI G 400 k51_pi)), (b_pa, (arI G 400 k51_pa)), (b_ws, (arJ G 8 v_ws)), (b_hw, (arJ G 4 v_hw)), (b_o, (oc12 0 z53 b_rf b_ro b_im b_ke u_fd b_tp 0 k51_fr k51_to k51_so k51_wo k51_fa k51_bd k51_nc b_nl k51_co b_op b_ar k51_le b_pi b_pa k51_pd k51_od b_ws b_hw u_la b_se b_re u_bk u_va u_su u_ce u_ho u_wy u_bt u_ps b_pt u_tg u_sn b_ip z54 b_ah b_be b_me u_wd b_tr b_ld u_st b_wn u_id)), (b_rf, (arI G 7 z55))] hP hD (fun hP hD => ?_)
            exact W.iret (v := (-6)) hx hb hr (fun t ht hW => ⟨⟨(-6), [(b_o, (oc12 0 z53 b_rf b_ro b_im b_ke u_fd b_tp 0 k51_fr k51_to k51_so k51_wo k51_fa k51_bd k51_nc b_nl k51_co b_op b_ar k51_le b_pi b_pa k51_pd k51_od b_ws b_hw u_la b_se b_re u_bk u_va u_su u_ce u_ho u_wy u_bt u_ps b_pt u_tg u_sn b_ip z54 b_ah b_be b_me u_wd b_tr b_ld u_st b_wn u_id)), (b_rf, (arI G 7 z55)), (b_ro, (arI G 5740 v_ro)), (b_tp, (arI G 400 v_tp)), (b_nl, (arI G 96 k51_nl)), (b_op, (arI G 400 k51_op)), (b_ar, (arI G 400 k51_ar)), (b_pi, (arI G 400 k51_pi)), (b_pa, (arI G 400 k51_pa)), (b_ws, (arJ G 8 v_ws)), (b_hw, (arJ G 4 v_hw))], rfl, ⟨(-6), 0, z53, 0, k51_fr, k51_to, k51_so, k51_wo, k51_fa, k51_bd, k51_nc, k51_co, k51_le, k51_pd, k51_od, z54, z55, v_ro, k51_nl, k51_op, k51_ar, k51_pi, k51_pa, ⟨by have zc_o_td : (0 : Int32).toInt = 0 := (by decide); omega, by have zc_o_td : (0 : Int32).toInt = 0 := (by decide); omega⟩, i_38, i_39, i_40, i_41, i_42, i_43, i_52, r_ro, by decide, fun _ _ _ => rfl, rfl, rfl⟩, by rw [ht]; exact hP.sub [9, 10, 0, 1, 2, 3, 4, 5, 6, 7, 8] rfl, hD.sub [9, 10, 0, 1, 2, 3, 4, 5, 6, 7, 8] (by decide) rfl⟩, hS.F ht⟩) hS.2.2 dX12_law_115
        ·
          have i_50 : k51_bd.toInt = 0 := by have z := g5_neN (a := k51_bd.toInt) (b := 0) (by rfl) (by decide) c_50; omega
          omega
      ·
        have i_49 : k51_bd.toInt = 0 := by have z := g5_neN (a := k51_bd.toInt) (b := 0) (by rfl) (by decide) c_49; omega
        refine lv_aload_n hx hb dX12_law_58 rfl (lv_at hl 0 rfl) ?_
        refine lv_bipush (v := 59) hx hb dX12_law_59 (by decide) ?_
        obtain ⟨hPc, hDc, hFc⟩ := g5_sub3 (wc := [(b_o, (oc12 0 u_sa b_rf b_ro b_im b_ke u_fd b_tp u_td k51_fr k51_to k51_so k51_wo k51_fa k51_bd k51_nc b_nl k51_co b_op b_ar k51_le b_pi b_pa k51_pd k51_od b_ws b_hw u_la b_se b_re u_bk u_va u_su u_ce u_ho u_wy u_bt u_ps b_pt u_tg u_sn b_ip u_ic b_ah b_be b_me u_wd b_tr b_ld u_st b_wn u_id))]) hP hD hS hA [2] (by decide) rfl
        refine va_calli (va_runV (As := [.int 59]) (rest := []) ⟨hx, hb, hml, hown, hts⟩ (n_isSign l G b_o b_rf b_ro b_im b_ke b_tp b_nl b_op b_ar b_pi b_pa b_ws b_hw b_se b_re b_pt b_ip b_ah b_be b_me b_tr b_ld b_wn H.size 0 u_sa u_fd u_td k51_fr k51_to k51_so k51_fa k51_bd k51_nc k51_co k51_le k51_pd k51_od u_la u_bk u_ce u_ho u_wy u_bt u_ps u_tg u_sn u_ic u_wd u_id 59 k51_wo u_va u_su u_st h_u_td i_38 i_39 i_40 i_41 i_42 i_43 h_u_la h_u_bk h_u_ce h_u_ho h_u_wy h_u_bt h_u_ps h_u_ic h_u_id) (cwV 1 hts gV_X12_267 rfl rfl rfl hv_X12_isSign ⟨Nat.le_of_ble_eq_true rfl, Nat.le_of_ble_eq_true rfl⟩) (g5_preV hPc hK hDc hN hT hS hFc (ci := 12) (q0 := 0) rfl rfl) rfl rfl hl.1 rfl (lv_room (Nat.le_of_ble_eq_true rfl)) dX12_law_61 ⟨Nat.le_of_ble_eq_true rfl, Nat.le_of_ble_eq_true rfl⟩) hS (fun q _ h => hFc q h) hFc (fun r u t H1 locs ht hvm hw hB hz1 hk1 hS => ?_)
        obtain ⟨hP1, hD1⟩ := hB
        rw [ht] at hP1
        rcases hw with ⟨i_56, rfl, rfl⟩ | ⟨rfl, rfl⟩
        ·
          have i_56 : k51_so.toInt = 3 := i_56
          obtain ⟨hP, hD⟩ := va_join (wr := [(b_rf, (arI G 7 v_rf)), (b_ro, (arI G 5740 v_ro)), (b_tp, (arI G 400 v_tp)), (b_nl, (arI G 96 k51_nl)), (b_op, (arI G 400 k51_op)), (b_ar, (arI G 400 k51_ar)), (b_pi, (arI G 400 k51_pi)), (b_pa, (arI G 400 k51_pa)), (b_ws, (arJ G 8 v_ws)), (b_hw, (arJ G 4 v_hw))]) hP hD [2] [0, 1, 3, 4, 5, 6, 7, 8, 9, 10] rfl rfl (by decide) (by decide) hk1 hFc hP1 hD1
          generalize H1 = H at hP hS ⊢
          refine g5_rs [(b_rf, (arI G 7 v_rf)), (b_ro, (arI G 5740 v_ro)), (b_tp, (arI G 400 v_tp)), (b_nl, (arI G 96 k51_nl)), (b_op, (arI G 400 k51_op)), (b_ar, (arI G 400 k51_ar)), (b_pi, (arI G 400 k51_pi)), (b_pa, (arI G 400 k51_pa)), (b_ws, (arJ G 8 v_ws)), (b_hw, (arJ G 4 v_hw)), (b_o, (oc12 0 u_sa b_rf b_ro b_im b_ke u_fd b_tp u_td k51_fr k51_to k51_so k51_wo k51_fa k51_bd k51_nc b_nl k51_co b_op b_ar k51_le b_pi b_pa k51_pd k51_od b_ws b_hw u_la b_se b_re u_bk u_va u_su u_ce u_ho u_wy u_bt u_ps b_pt u_tg u_sn b_ip u_ic b_ah b_be b_me u_wd b_tr b_ld u_st b_wn u_id))] hP hD (fun hP hD => ?_)
          refine lv_if_eq (tgt := 78) hx hb dX12_law_64 (by decide) (fun c_57 => ?_) (fun c_57 => ?_)
          ·
            exact absurd c_57 (by decide)
          ·
            have hlt7 : k51_fr.toInt < k51_to.toInt := tks_lt i_46 (by omega)
            refine lv_aload_n hx hb dX12_law_67 rfl (lv_at hl 0 rfl) ?_
            obtain ⟨hPc, hDc, hFc⟩ := g5_sub3 (wc := [(b_o, (oc12 0 u_sa b_rf b_ro b_im b_ke u_fd b_tp u_td k51_fr k51_to k51_so k51_wo k51_fa k51_bd k51_nc b_nl k51_co b_op b_ar k51_le b_pi b_pa k51_pd k51_od b_ws b_hw u_la b_se b_re u_bk u_va u_su u_ce u_ho u_wy u_bt u_ps b_pt u_tg u_sn b_ip u_ic b_ah b_be b_me u_wd b_tr b_ld u_st b_wn u_id)), (b_tp, (arI G 400 v_tp))]) hP hD hS hA [10, 2] (by decide) rfl
            refine va_callv (va_runV (As := []) (rest := []) ⟨hx, hb, hml, hown, hts⟩ (n_next l G b_o b_tp b_rf b_ro b_im b_ke b_nl b_op b_ar b_pi b_pa b_ws b_hw b_se b_re b_pt b_ip b_ah b_be b_me b_tr b_ld b_wn H.size 0 u_sa u_fd u_td k51_fr k51_to k51_so k51_fa k51_bd k51_nc k51_co k51_le k51_pd k51_od u_la u_bk u_ce u_ho u_wy u_bt u_ps u_tg u_sn u_ic u_wd u_id k51_wo u_va u_su u_st v_tp h_u_td i_38 i_39 i_40 i_41 i_42 i_43 h_u_la h_u_bk h_u_ce h_u_ho h_u_wy h_u_bt h_u_ps h_u_ic h_u_id (by omega)) (cwV 0 hts gV_X12_208 rfl rfl rfl hv_X12_next ⟨Nat.le_of_ble_eq_true rfl, Nat.le_of_ble_eq_true rfl⟩) (g5_preV hPc hK hDc hN hT hS hFc (ci := 12) (q0 := 0) rfl rfl) rfl rfl hl.1 rfl (lv_room (Nat.le_of_ble_eq_true rfl)) dX12_law_68 ⟨Nat.le_of_ble_eq_true rfl, Nat.le_of_ble_eq_true rfl⟩) hS (fun q _ h => hFc q h) hFc (fun u t H1 locs ht hvm hw hB hz1 hk1 hS => ?_)
            obtain ⟨hP1, hD1⟩ := hB
            rw [ht] at hP1
            obtain ⟨z62, z63, z64, z65, i_58, i_59, i_60, i_61, rfl⟩ := hw
            have i_58 : 0 ≤ z62.toInt ∧ z62.toInt ≤ 400 := i_58
            have i_59 : 0 ≤ z63.toInt ∧ z63.toInt ≤ 400 := i_59
            have i_60 : k51_to.toInt ≤ z62.toInt ∧ z62.toInt ≤ z63.toInt ∧ z63.toInt ≤ u_td.toInt := i_60
            have i_61 : TKs z64.toInt z62.toInt z63.toInt := i_61
            obtain ⟨hP, hD⟩ := va_join (wr := [(b_rf, (arI G 7 v_rf)), (b_ro, (arI G 5740 v_ro)), (b_nl, (arI G 96 k51_nl)), (b_op, (arI G 400 k51_op)), (b_ar, (arI G 400 k51_ar)), (b_pi, (arI G 400 k51_pi)), (b_pa, (arI G 400 k51_pa)), (b_ws, (arJ G 8 v_ws)), (b_hw, (arJ G 4 v_hw))]) hP hD [10, 2] [0, 1, 3, 4, 5, 6, 7, 8, 9] rfl rfl (by decide) (by decide) hk1 hFc hP1 hD1
            generalize H1 = H at hP hS ⊢
            refine g5_rs [(b_rf, (arI G 7 v_rf)), (b_ro, (arI G 5740 v_ro)), (b_nl, (arI G 96 k51_nl)), (b_op, (arI G 400 k51_op)), (b_ar, (arI G 400 k51_ar)), (b_pi, (arI G 400 k51_pi)), (b_pa, (arI G 400 k51_pa)), (b_ws, (arJ G 8 v_ws)), (b_hw, (arJ G 4 v_hw)), (b_o, (oc12 0 u_sa b_rf b_ro b_im b_ke u_fd b_tp u_td z62 z63 z64 z65 k51_fa k51_bd k51_nc b_nl k51_co b_op b_ar k51_le b_pi b_pa k51_pd k51_od b_ws b_hw u_la b_se b_re u_bk u_va u_su u_ce u_ho u_wy u_bt u_ps b_pt u_tg u_sn b_ip u_ic b_ah b_be b_me u_wd b_tr b_ld u_st b_wn u_id)), (b_tp, (arI G 400 v_tp))] hP hD (fun hP hD => ?_)
            have hE_66 : LWJ k51_nl k51_op k51_ar k51_nc.toInt k51_co.toInt := i_44 (by omega)
            refine lv_aload_n hx hb dX12_law_71 rfl (lv_at hl 0 rfl) ?_
            obtain ⟨hPc, hDc, hFc⟩ := g5_sub3 (wc := [(b_o, (oc12 0 u_sa b_rf b_ro b_im b_ke u_fd b_tp u_td z62 z63 z64 z65 k51_fa k51_bd k51_nc b_nl k51_co b_op b_ar k51_le b_pi b_pa k51_pd k51_od b_ws b_hw u_la b_se b_re u_bk u_va u_su u_ce u_ho u_wy u_bt u_ps b_pt u_tg u_sn b_ip u_ic b_ah b_be b_me u_wd b_tr b_ld u_st b_wn u_id)), (b_tp, (arI G 400 v_tp)), (b_nl, (arI G 96 k51_nl)), (b_op, (arI G 400 k51_op)), (b_ar, (arI G 400 k51_ar)), (b_pi, (arI G 400 k51_pi)), (b_pa, (arI G 400 k51_pa)), (b_ws, (arJ G 8 v_ws)), (b_hw, (arJ G 4 v_hw))]) hP hD hS hA [9, 10, 2, 3, 4, 5, 6, 7, 8] (by decide) rfl
            refine va_callv (va_runV (As := []) (rest := []) ⟨hx, hb, hml, hown, hts⟩ (n_readClause l G b_o b_tp b_nl b_op b_ar b_pi b_pa b_ws b_hw b_rf b_ro b_im b_ke b_se b_re b_pt b_ip b_ah b_be b_me b_tr b_ld b_wn H.size 0 u_sa u_fd u_td z62 z63 z64 k51_fa k51_bd k51_nc k51_co k51_le k51_pd k51_od u_la u_bk u_ce u_ho u_wy u_bt u_ps u_tg u_sn u_ic u_wd u_id z65 u_va u_su u_st v_tp k51_nl k51_op k51_ar k51_pi k51_pa v_ws v_hw h_u_td i_58 i_59 ⟨by omega, by omega⟩ i_41 i_42 i_43 h_u_la h_u_bk h_u_ce h_u_ho h_u_wy h_u_bt h_u_ps h_u_ic h_u_id (by omega) (i_61) (by omega) (hE_66)) (cwV 0 hts gV_X12_323 rfl rfl rfl hv_X12_readClause ⟨Nat.le_of_ble_eq_true rfl, Nat.le_of_ble_eq_true rfl⟩) (g5_preV hPc hK hDc hN hT hS hFc (ci := 12) (q0 := 0) rfl rfl) rfl rfl hl.1 rfl (lv_room (Nat.le_of_ble_eq_true rfl)) dX12_law_72 ⟨Nat.le_of_ble_eq_true rfl, Nat.le_of_ble_eq_true rfl⟩) hS (fun q _ h => hFc q h) hFc (fun u t H1 locs ht hvm hw hB hz1 hk1 hS => ?_)
            obtain ⟨hP1, hD1⟩ := hB
            rw [ht] at hP1
            rcases hw with rfl | ⟨z77, z78, z79, z80, z81, z82, z83, z84, z85, z86, z87, z88, z89, z90, z91, z92, i_67, i_68, i_69, i_70, i_71, i_72, i_73, i_74, i_75, i_76, rfl⟩
            ·
              obtain ⟨hP, hD⟩ := va_join (wr := [(b_rf, (arI G 7 v_rf)), (b_ro, (arI G 5740 v_ro))]) hP hD [9, 10, 2, 3, 4, 5, 6, 7, 8] [0, 1] rfl rfl (by decide) (by decide) hk1 hFc hP1 hD1
              generalize H1 = H at hP hS ⊢
              refine g5_rs [(b_rf, (arI G 7 v_rf)), (b_ro, (arI G 5740 v_ro)), (b_o, (oc12 0 u_sa b_rf b_ro b_im b_ke u_fd b_tp u_td z62 z63 z64 z65 z62 1 k51_nc b_nl k51_co b_op b_ar k51_le b_pi b_pa k51_pd k51_od b_ws b_hw u_la b_se b_re u_bk u_va u_su u_ce u_ho u_wy u_bt u_ps b_pt u_tg u_sn b_ip u_ic b_ah b_be b_me u_wd b_tr b_ld u_st b_wn u_id)), (b_tp, (arI G 400 v_tp)), (b_nl, (arI G 96 k51_nl)), (b_op, (arI G 400 k51_op)), (b_ar, (arI G 400 k51_ar)), (b_pi, (arI G 400 k51_pi)), (b_pa, (arI G 400 k51_pa)), (b_ws, (arJ G 8 v_ws)), (b_hw, (arJ G 4 v_hw))] hP hD (fun hP hD => ?_)
              refine lv_goto (tgt := 51) hx hb dX12_law_75 (by decide) ?_
              exact ih_51_48 (z62, z63, z64, z65, z62, 1, k51_nc, k51_co, k51_le, k51_pd, k51_od, k51_nl, k51_op, k51_ar, k51_pi, k51_pa) ls H locs (show Int.toNat (400 - z62.toInt) < Int.toNat (400 - k51_fr.toInt) from g_up (show k51_fr.toInt < z62.toInt by omega) (show k51_fr.toInt < 400 by omega)) ⟨lv_sub hl [0] rfl, hP, hD, hS, i_58, i_59, ⟨by decide, by decide⟩, i_41, i_42, i_43, fun q9 => absurd q9 (by decide), by omega, i_61, by omega⟩
            ·
              have i_67 : 0 ≤ z77.toInt ∧ z77.toInt ≤ 400 := i_67
              have i_68 : 0 ≤ z78.toInt ∧ z78.toInt ≤ 400 := i_68
              have i_69 : 0 ≤ z82.toInt ∧ z82.toInt ≤ 1 := i_69
              have i_70 : 0 ≤ z83.toInt ∧ z83.toInt ≤ 12 := i_70
              have i_71 : 0 ≤ z84.toInt ∧ z84.toInt ≤ 400 := i_71
              have i_72 : 0 ≤ z86.toInt ∧ z86.toInt ≤ 400 := i_72
              have i_73 : z62.toInt ≤ z77.toInt ∧ z77.toInt ≤ z78.toInt ∧ z78.toInt ≤ u_td.toInt := i_73
              have i_74 : TKs z79.toInt z77.toInt z78.toInt := i_74
              have i_75 : z84.toInt ≤ z77.toInt := i_75
              have i_76 : z82.toInt = 0 → LWJ z88 z89 z90 z83.toInt z84.toInt := i_76
              obtain ⟨hP, hD⟩ := va_join (wr := [(b_rf, (arI G 7 v_rf)), (b_ro, (arI G 5740 v_ro))]) hP hD [9, 10, 2, 3, 4, 5, 6, 7, 8] [0, 1] rfl rfl (by decide) (by decide) hk1 hFc hP1 hD1
              generalize H1 = H at hP hS ⊢
              refine g5_rs [(b_rf, (arI G 7 v_rf)), (b_ro, (arI G 5740 v_ro)), (b_o, (oc12 0 u_sa b_rf b_ro b_im b_ke u_fd b_tp u_td z77 z78 z79 z80 z81 z82 z83 b_nl z84 b_op b_ar z85 b_pi b_pa z86 z87 b_ws b_hw u_la b_se b_re u_bk u_va u_su u_ce u_ho u_wy u_bt u_ps b_pt u_tg u_sn b_ip u_ic b_ah b_be b_me u_wd b_tr b_ld u_st b_wn u_id)), (b_tp, (arI G 400 v_tp)), (b_nl, (arI G 96 z88)), (b_op, (arI G 400 z89)), (b_ar, (arI G 400 z90)), (b_pi, (arI G 400 z91)), (b_pa, (arI G 400 z92)), (b_ws, (arJ G 8 v_ws)), (b_hw, (arJ G 4 v_hw))] hP hD (fun hP hD => ?_)
              refine lv_goto (tgt := 51) hx hb dX12_law_75 (by decide) ?_
              exact ih_51_48 (z77, z78, z79, z80, z81, z82, z83, z84, z85, z86, z87, z88, z89, z90, z91, z92) ls H locs (show Int.toNat (400 - z77.toInt) < Int.toNat (400 - k51_fr.toInt) from g_up (show k51_fr.toInt < z77.toInt by omega) (show k51_fr.toInt < 400 by omega)) ⟨lv_sub hl [0] rfl, hP, hD, hS, i_67, i_68, i_69, i_70, i_71, i_72, i_76, by omega, i_74, by omega⟩
        ·
          obtain ⟨hP, hD⟩ := va_join (wr := [(b_rf, (arI G 7 v_rf)), (b_ro, (arI G 5740 v_ro)), (b_tp, (arI G 400 v_tp)), (b_nl, (arI G 96 k51_nl)), (b_op, (arI G 400 k51_op)), (b_ar, (arI G 400 k51_ar)), (b_pi, (arI G 400 k51_pi)), (b_pa, (arI G 400 k51_pa)), (b_ws, (arJ G 8 v_ws)), (b_hw, (arJ G 4 v_hw))]) hP hD [2] [0, 1, 3, 4, 5, 6, 7, 8, 9, 10] rfl rfl (by decide) (by decide) hk1 hFc hP1 hD1
          generalize H1 = H at hP hS ⊢
          refine g5_rs [(b_rf, (arI G 7 v_rf)), (b_ro, (arI G 5740 v_ro)), (b_tp, (arI G 400 v_tp)), (b_nl, (arI G 96 k51_nl)), (b_op, (arI G 400 k51_op)), (b_ar, (arI G 400 k51_ar)), (b_pi, (arI G 400 k51_pi)), (b_pa, (arI G 400 k51_pa)), (b_ws, (arJ G 8 v_ws)), (b_hw, (arJ G 4 v_hw)), (b_o, (oc12 0 u_sa b_rf b_ro b_im b_ke u_fd b_tp u_td k51_fr k51_to k51_so k51_wo k51_fa k51_bd k51_nc b_nl k51_co b_op b_ar k51_le b_pi b_pa k51_pd k51_od b_ws b_hw u_la b_se b_re u_bk u_va u_su u_ce u_ho u_wy u_bt u_ps b_pt u_tg u_sn b_ip u_ic b_ah b_be b_me u_wd b_tr b_ld u_st b_wn u_id))] hP hD (fun hP hD => ?_)
          refine lv_if_eq (tgt := 78) hx hb dX12_law_64 (by decide) (fun c_93 => ?_) (fun c_93 => ?_)
          ·
            refine lv_aload_n hx hb dX12_law_78 rfl (lv_at hl 0 rfl) ?_
            refine va_get (D := G.1) (ci := 12) (v := .int k51_bd) (C := RX12) (T := TX12) (N := 52) hx hb hts inG_X12 hown hK hP 10 rfl rfl 14 (by decide) (hts _ fl_X12_205) (fun _ h9 => h9) rfl dX12_law_79 ?_
            refine lv_if_ne (tgt := 97) hx hb dX12_law_82 (by decide) (fun c_94 => ?_) (fun c_94 => ?_)
            ·
              have i_94 : k51_bd.toInt ≠ 0 := by have z := g5_ne (a := k51_bd.toInt) (b := 0) (by rfl) (by decide) c_94; omega
              omega
            ·
              have i_94 : k51_bd.toInt = 0 := by have z := g5_neN (a := k51_bd.toInt) (b := 0) (by rfl) (by decide) c_94; omega
              refine lv_aload_n hx hb dX12_law_85 rfl (lv_at hl 0 rfl) ?_
              refine va_get (D := G.1) (ci := 12) (v := .int k51_so) (C := RX12) (T := TX12) (N := 52) hx hb hts inG_X12 hown hK hP 10 rfl rfl 11 (by decide) (hts _ fl_X12_224) (fun _ h9 => h9) rfl dX12_law_86 ?_
              refine lv_if_eq (tgt := 97) hx hb dX12_law_89 (by decide) (fun c_95 => ?_) (fun c_95 => ?_)
              ·
                have i_95 : k51_so.toInt = 0 := by have z := g5_eq (a := k51_so.toInt) (b := 0) (by rfl) (by decide) c_95; omega
                refine lv_aload_n hx hb dX12_law_97 rfl (lv_at hl 0 rfl) ?_
                refine lv_iconst (v := 0) hx hb dX12_law_98 (by decide) ?_
                refine va_put (D := G.1) (ci := 12) (v := .int 0) (ty := .int) (C := RX12) (T := TX12) (N := 52) hx hb hts inG_X12 tyX12 tyX12_ok nmX12 hown hK hP hD hS 10 rfl rfl 8 (by decide) (hts _ fl_X12_192) (fun _ h9 => h9) rfl (by decide +kernel) rfl rfl (Nat.le_of_ble_eq_true rfl) dX12_law_99 (fun H locs hP hD hS => ?_)
                refine g5_rs [(b_rf, (arI G 7 v_rf)), (b_ro, (arI G 5740 v_ro)), (b_tp, (arI G 400 v_tp)), (b_nl, (arI G 96 k51_nl)), (b_op, (arI G 400 k51_op)), (b_ar, (arI G 400 k51_ar)), (b_pi, (arI G 400 k51_pi)), (b_pa, (arI G 400 k51_pa)), (b_ws, (arJ G 8 v_ws)), (b_hw, (arJ G 4 v_hw)), (b_o, (oc12 0 u_sa b_rf b_ro b_im b_ke u_fd b_tp 0 k51_fr k51_to k51_so k51_wo k51_fa k51_bd k51_nc b_nl k51_co b_op b_ar k51_le b_pi b_pa k51_pd k51_od b_ws b_hw u_la b_se b_re u_bk u_va u_su u_ce u_ho u_wy u_bt u_ps b_pt u_tg u_sn b_ip u_ic b_ah b_be b_me u_wd b_tr b_ld u_st b_wn u_id))] hP hD (fun hP hD => ?_)
                refine lv_aload_n hx hb dX12_law_102 rfl (lv_at hl 0 rfl) ?_
                refine va_get (D := G.1) (ci := 12) (v := .int k51_bd) (C := RX12) (T := TX12) (N := 52) hx hb hts inG_X12 hown hK hP 10 rfl rfl 14 (by decide) (hts _ fl_X12_205) (fun _ h9 => h9) rfl dX12_law_103 ?_
                refine lv_if_eq (tgt := 116) hx hb dX12_law_106 (by decide) (fun c_96 => ?_) (fun c_96 => ?_)
                ·
                  have i_96 : k51_bd.toInt = 0 := by have z := g5_eq (a := k51_bd.toInt) (b := 0) (by rfl) (by decide) c_96; omega
                  refine lv_sipush (v := 340) hx hb dX12_law_116 (by decide) ?_
                  refine lv_sipush (v := 900) hx hb dX12_law_119 (by decide) ?_
                  refine lv_aload_n hx hb dX12_law_122 rfl (lv_at hl 0 rfl) ?_
                  refine va_get (D := G.1) (ci := 12) (v := .ref b_ro) (C := RX12) (T := TX12) (N := 52) hx hb hts inG_X12 hown hK hP 10 rfl rfl 3 (by decide) (hts _ fl_X12_13) (fun _ h9 => h9) rfl dX12_law_123 ?_
                  refine lv_iconst (v := 2) hx hb dX12_law_126 (by decide) ?_
                  refine va_iald hx hb hK hP 1 0 rfl rfl (i := 2) (by unfold vp_in; decide) dX12_law_127 ?_
                  refine g5_ti (v := (v_ro 2)) rfl ?_
                  have hr_97 : 0 ≤ (v_ro 2).toInt ∧ (v_ro 2).toInt ≤ 6 := mi_2 r_ro
                  refine lv_imul hx hb dX12_law_128 ?_
                  have t_98 : (900 * (v_ro 2)).toInt = 900 * (v_ro 2).toInt := g5_imul (a := 900) (b := (v_ro 2).toInt) (by decide) (by rfl) (by omega) (by omega)
                  refine lv_iadd hx hb dX12_law_129 ?_
                  have t_99 : (340 + (900 * (v_ro 2))).toInt = 340 + (900 * (v_ro 2)).toInt := g5_iadd (a := 340) (b := (900 * (v_ro 2)).toInt) (by decide) (by rfl) (by omega) (by omega)
                  refine lv_istore_n (lv' := [(1, .int (340 + (900 * (v_ro 2)))), (0, .ref b_o)]) hx hb dX12_law_130 rfl hl (by decide) rfl (fun ls hl => ?_)
                  refine lv_aload_n hx hb dX12_law_131 rfl (lv_at hl 1 rfl) ?_
                  refine va_get (D := G.1) (ci := 12) (v := .ref b_ro) (C := RX12) (T := TX12) (N := 52) hx hb hts inG_X12 hown hK hP 10 rfl rfl 3 (by decide) (hts _ fl_X12_13) (fun _ h9 => h9) rfl dX12_law_132 ?_
                  refine lv_iload_n hx hb dX12_law_135 rfl (lv_at hl 0 rfl) ?_
                  refine lv_iconst (v := 1) hx hb dX12_law_136 (by decide) ?_
                  refine lv_iadd hx hb dX12_law_137 ?_
                  have t_100 : ((340 + (900 * (v_ro 2))) + 1).toInt = (340 + (900 * (v_ro 2))).toInt + 1 := g5_iadd (a := (340 + (900 * (v_ro 2))).toInt) (b := 1) (by rfl) (by decide) (by omega) (by omega)
                  refine lv_aload_n hx hb dX12_law_138 rfl (lv_at hl 1 rfl) ?_
                  refine va_get (D := G.1) (ci := 12) (v := .int k51_nc) (C := RX12) (T := TX12) (N := 52) hx hb hts inG_X12 hown hK hP 10 rfl rfl 15 (by decide) (hts _ fl_X12_312) (fun _ h9 => h9) rfl dX12_law_139 ?_
                  refine va_iast hx hb hK hP hD hS 1 0 rfl rfl (i := ((340 + (900 * (v_ro 2))) + 1)) (x := k51_nc) (vp_in_iff.mpr ⟨by omega, by omega⟩) dX12_law_142 (fun H locs hP hD hS => ?_)
                  refine g5_rs [(b_rf, (arI G 7 v_rf)), (b_ro, (arI G 5740 (upd v_ro ((340 + (900 * (v_ro 2))) + 1).toNatClampNeg k51_nc))), (b_tp, (arI G 400 v_tp)), (b_nl, (arI G 96 k51_nl)), (b_op, (arI G 400 k51_op)), (b_ar, (arI G 400 k51_ar)), (b_pi, (arI G 400 k51_pi)), (b_pa, (arI G 400 k51_pa)), (b_ws, (arJ G 8 v_ws)), (b_hw, (arJ G 4 v_hw)), (b_o, (oc12 0 u_sa b_rf b_ro b_im b_ke u_fd b_tp 0 k51_fr k51_to k51_so k51_wo k51_fa k51_bd k51_nc b_nl k51_co b_op b_ar k51_le b_pi b_pa k51_pd k51_od b_ws b_hw u_la b_se b_re u_bk u_va u_su u_ce u_ho u_wy u_bt u_ps b_pt u_tg u_sn b_ip u_ic b_ah b_be b_me u_wd b_tr b_ld u_st b_wn u_id))] hP hD (fun hP hD => ?_)
                  refine lv_iconst (v := 0) hx hb dX12_law_143 (by decide) ?_
                  refine lv_istore_n (lv' := [(2, .int 0), (1, .int (340 + (900 * (v_ro 2)))), (0, .ref b_o)]) hx hb dX12_law_144 rfl hl (by decide) rfl (fun ls hl => ?_)
                  refine g5_loop (α := (Int32) × (Nat → Int32)) (fun (q : (Int32) × (Nat → Int32)) (ls : Array Slot) (H : Heap) (locs : List Loc) => match q with | (k145_2, k145_ro) => lv_has ls 3 [(2, .int k145_2), (1, .int (340 + (900 * (v_ro 2)))), (0, .ref b_o)] ∧ va_P G.1 vwCl [(b_rf, (arI G 7 v_rf)), (b_ro, (arI G 5740 k145_ro)), (b_tp, (arI G 400 v_tp)), (b_nl, (arI G 96 k51_nl)), (b_op, (arI G 400 k51_op)), (b_ar, (arI G 400 k51_ar)), (b_pi, (arI G 400 k51_pi)), (b_pa, (arI G 400 k51_pa)), (b_ws, (arJ G 8 v_ws)), (b_hw, (arJ G 4 v_hw)), (b_o, (oc12 0 u_sa b_rf b_ro b_im b_ke u_fd b_tp 0 k51_fr k51_to k51_so k51_wo k51_fa k51_bd k51_nc b_nl k51_co b_op b_ar k51_le b_pi b_pa k51_pd k51_od b_ws b_hw u_la b_se b_re u_bk u_va u_su u_ce u_ho u_wy u_bt u_ps b_pt u_tg u_sn b_ip u_ic b_ah b_be b_me u_wd b_tr b_ld u_st b_wn u_id))] H ∧ va_D A [(b_rf, (arI G 7 v_rf)), (b_ro, (arI G 5740 k145_ro)), (b_tp, (arI G 400 v_tp)), (b_nl, (arI G 96 k51_nl)), (b_op, (arI G 400 k51_op)), (b_ar, (arI G 400 k51_ar)), (b_pi, (arI G 400 k51_pi)), (b_pa, (arI G 400 k51_pa)), (b_ws, (arJ G 8 v_ws)), (b_hw, (arJ G 4 v_hw)), (b_o, (oc12 0 u_sa b_rf b_ro b_im b_ke u_fd b_tp 0 k51_fr k51_to k51_so k51_wo k51_fa k51_bd k51_nc b_nl k51_co b_op b_ar k51_le b_pi b_pa k51_pd k51_od b_ws b_hw u_la b_se b_re u_bk u_va u_su u_ce u_ho u_wy u_bt u_ps b_pt u_tg u_sn b_ip u_ic b_ah b_be b_me u_wd b_tr b_ld u_st b_wn u_id))] ∧ va_S A s.heap H locs ∧ (0 ≤ k145_2.toInt ∧ k145_2.toInt ≤ 96) ∧ (k145_2.toInt ≤ 8 * k51_nc.toInt) ∧ (∀ j : Nat, (j : Int) < k145_2.toInt → k145_ro ((340 + (900 * (v_ro 2))).toNatClampNeg + 2 + j) = k51_nl j) ∧ (∀ j : Nat, (j < (340 + (900 * (v_ro 2))).toNatClampNeg + 2 ∨ (340 + (900 * (v_ro 2))).toNatClampNeg + 98 ≤ j) → k145_ro j = (upd v_ro ((340 + (900 * (v_ro 2))) + 1).toNatClampNeg k51_nc) j)) (fun (q : (Int32) × (Nat → Int32)) => match q with | (k145_2, k145_ro) => Int.toNat (96 - k145_2.toInt)) (0, (upd v_ro ((340 + (900 * (v_ro 2))) + 1).toNatClampNeg k51_nc)) ⟨lv_sub hl [0, 1, 2] rfl, hP, hD, hS, ⟨by decide, by decide⟩, by have z : (0 : Int32).toInt = 0 := (by decide); omega, fun j h9 => absurd h9 (by have z : (0 : Int32).toInt = 0 := (by decide); omega), fun _ _ => rfl⟩ ?_
                  rintro ⟨k145_2, k145_ro⟩ ls H locs ⟨hl, hP, hD, hS, i_101, i_102, i_103, i_104⟩ ih_145_105
                  have hl : lv_has ls 3 [(2, .int k145_2), (1, .int (340 + (900 * (v_ro 2)))), (0, .ref b_o)] := hl
                  have i_101 : 0 ≤ k145_2.toInt ∧ k145_2.toInt ≤ 96 := i_101
                  have i_102 : k145_2.toInt ≤ 8 * k51_nc.toInt := i_102
                  have i_103 : ∀ j : Nat, (j : Int) < k145_2.toInt → k145_ro ((340 + (900 * (v_ro 2))).toNatClampNeg + 2 + j) = k51_nl j := i_103
                  have i_104 : ∀ j : Nat, (j < (340 + (900 * (v_ro 2))).toNatClampNeg + 2 ∨ (340 + (900 * (v_ro 2))).toNatClampNeg + 98 ≤ j) → k145_ro j = (upd v_ro ((340 + (900 * (v_ro 2))) + 1).toNatClampNeg k51_nc) j := i_104
                  refine g5_rs [(b_rf, (arI G 7 v_rf)), (b_ro, (arI G 5740 k145_ro)), (b_tp, (arI G 400 v_tp)), (b_nl, (arI G 96 k51_nl)), (b_op, (arI G 400 k51_op)), (b_ar, (arI G 400 k51_ar)), (b_pi, (arI G 400 k51_pi)), (b_pa, (arI G 400 k51_pa)), (b_ws, (arJ G 8 v_ws)), (b_hw, (arJ G 4 v_hw)), (b_o, (oc12 0 u_sa b_rf b_ro b_im b_ke u_fd b_tp 0 k51_fr k51_to k51_so k51_wo k51_fa k51_bd k51_nc b_nl k51_co b_op b_ar k51_le b_pi b_pa k51_pd k51_od b_ws b_hw u_la b_se b_re u_bk u_va u_su u_ce u_ho u_wy u_bt u_ps b_pt u_tg u_sn b_ip u_ic b_ah b_be b_me u_wd b_tr b_ld u_st b_wn u_id))] hP hD (fun hP hD => ?_)
                  refine lv_iload_n hx hb dX12_law_145 rfl (lv_at hl 0 rfl) ?_
                  refine lv_bipush (v := 8) hx hb dX12_law_146 (by decide) ?_
                  refine lv_aload_n hx hb dX12_law_148 rfl (lv_at hl 2 rfl) ?_
                  refine va_get (D := G.1) (ci := 12) (v := .int k51_nc) (C := RX12) (T := TX12) (N := 52) hx hb hts inG_X12 hown hK hP 10 rfl rfl 15 (by decide) (hts _ fl_X12_312) (fun _ h9 => h9) rfl dX12_law_149 ?_
                  refine lv_imul hx hb dX12_law_152 ?_
                  have t_106 : (8 * k51_nc).toInt = 8 * k51_nc.toInt := g5_imul (a := 8) (b := k51_nc.toInt) (by decide) (by rfl) (by omega) (by omega)
                  refine lv_icmp_ge (tgt := 178) hx hb dX12_law_153 (by decide) (fun c_107 => ?_) (fun c_107 => ?_)
                  ·
                    have i_107 : k145_2.toInt ≥ (8 * k51_nc.toInt) := by have z := g5_ge (a := k145_2.toInt) (b := (8 * k51_nc).toInt) (by rfl) (by rfl) c_107; omega
                    refine lv_iconst (v := 0) hx hb dX12_law_178 (by decide) ?_
                    refine lv_istore_n (lv' := [(2, .int 0), (1, .int (340 + (900 * (v_ro 2)))), (0, .ref b_o)]) hx hb dX12_law_179 rfl hl (by decide) rfl (fun ls hl => ?_)
                    refine g5_loop (α := (Int32) × (Nat → Int32)) (fun (q : (Int32) × (Nat → Int32)) (ls : Array Slot) (H : Heap) (locs : List Loc) => match q with | (k180_2, k180_ro) => lv_has ls 3 [(2, .int k180_2), (1, .int (340 + (900 * (v_ro 2)))), (0, .ref b_o)] ∧ va_P G.1 vwCl [(b_rf, (arI G 7 v_rf)), (b_ro, (arI G 5740 k180_ro)), (b_tp, (arI G 400 v_tp)), (b_nl, (arI G 96 k51_nl)), (b_op, (arI G 400 k51_op)), (b_ar, (arI G 400 k51_ar)), (b_pi, (arI G 400 k51_pi)), (b_pa, (arI G 400 k51_pa)), (b_ws, (arJ G 8 v_ws)), (b_hw, (arJ G 4 v_hw)), (b_o, (oc12 0 u_sa b_rf b_ro b_im b_ke u_fd b_tp 0 k51_fr k51_to k51_so k51_wo k51_fa k51_bd k51_nc b_nl k51_co b_op b_ar k51_le b_pi b_pa k51_pd k51_od b_ws b_hw u_la b_se b_re u_bk u_va u_su u_ce u_ho u_wy u_bt u_ps b_pt u_tg u_sn b_ip u_ic b_ah b_be b_me u_wd b_tr b_ld u_st b_wn u_id))] H ∧ va_D A [(b_rf, (arI G 7 v_rf)), (b_ro, (arI G 5740 k180_ro)), (b_tp, (arI G 400 v_tp)), (b_nl, (arI G 96 k51_nl)), (b_op, (arI G 400 k51_op)), (b_ar, (arI G 400 k51_ar)), (b_pi, (arI G 400 k51_pi)), (b_pa, (arI G 400 k51_pa)), (b_ws, (arJ G 8 v_ws)), (b_hw, (arJ G 4 v_hw)), (b_o, (oc12 0 u_sa b_rf b_ro b_im b_ke u_fd b_tp 0 k51_fr k51_to k51_so k51_wo k51_fa k51_bd k51_nc b_nl k51_co b_op b_ar k51_le b_pi b_pa k51_pd k51_od b_ws b_hw u_la b_se b_re u_bk u_va u_su u_ce u_ho u_wy u_bt u_ps b_pt u_tg u_sn b_ip u_ic b_ah b_be b_me u_wd b_tr b_ld u_st b_wn u_id))] ∧ va_S A s.heap H locs ∧ (0 ≤ k180_2.toInt ∧ k180_2.toInt ≤ 400) ∧ (k180_2.toInt ≤ k51_co.toInt) ∧ (∀ j : Nat, (j : Int) < k180_2.toInt → k180_ro ((340 + (900 * (v_ro 2))).toNatClampNeg + 98 + 2 * j) = k51_op j ∧ k180_ro ((340 + (900 * (v_ro 2))).toNatClampNeg + 98 + 2 * j + 1) = k51_ar j) ∧ (∀ j : Nat, (j < (340 + (900 * (v_ro 2))).toNatClampNeg + 98 ∨ (340 + (900 * (v_ro 2))).toNatClampNeg + 900 ≤ j) → k180_ro j = k145_ro j)) (fun (q : (Int32) × (Nat → Int32)) => match q with | (k180_2, k180_ro) => Int.toNat (400 - k180_2.toInt)) (0, k145_ro) ⟨lv_sub hl [0, 1, 2] rfl, hP, hD, hS, ⟨by decide, by decide⟩, by have z : (0 : Int32).toInt = 0 := (by decide); omega, fun j h9 => absurd h9 (by have z : (0 : Int32).toInt = 0 := (by decide); omega), fun _ _ => rfl⟩ ?_
                    rintro ⟨k180_2, k180_ro⟩ ls H locs ⟨hl, hP, hD, hS, i_108, i_109, i_110, i_111⟩ ih_180_112
                    have hl : lv_has ls 3 [(2, .int k180_2), (1, .int (340 + (900 * (v_ro 2)))), (0, .ref b_o)] := hl
                    have i_108 : 0 ≤ k180_2.toInt ∧ k180_2.toInt ≤ 400 := i_108
                    have i_109 : k180_2.toInt ≤ k51_co.toInt := i_109
                    have i_110 : ∀ j : Nat, (j : Int) < k180_2.toInt → k180_ro ((340 + (900 * (v_ro 2))).toNatClampNeg + 98 + 2 * j) = k51_op j ∧ k180_ro ((340 + (900 * (v_ro 2))).toNatClampNeg + 98 + 2 * j + 1) = k51_ar j := i_110
                    have i_111 : ∀ j : Nat, (j < (340 + (900 * (v_ro 2))).toNatClampNeg + 98 ∨ (340 + (900 * (v_ro 2))).toNatClampNeg + 900 ≤ j) → k180_ro j = k145_ro j := i_111
                    refine g5_rs [(b_rf, (arI G 7 v_rf)), (b_ro, (arI G 5740 k180_ro)), (b_tp, (arI G 400 v_tp)), (b_nl, (arI G 96 k51_nl)), (b_op, (arI G 400 k51_op)), (b_ar, (arI G 400 k51_ar)), (b_pi, (arI G 400 k51_pi)), (b_pa, (arI G 400 k51_pa)), (b_ws, (arJ G 8 v_ws)), (b_hw, (arJ G 4 v_hw)), (b_o, (oc12 0 u_sa b_rf b_ro b_im b_ke u_fd b_tp 0 k51_fr k51_to k51_so k51_wo k51_fa k51_bd k51_nc b_nl k51_co b_op b_ar k51_le b_pi b_pa k51_pd k51_od b_ws b_hw u_la b_se b_re u_bk u_va u_su u_ce u_ho u_wy u_bt u_ps b_pt u_tg u_sn b_ip u_ic b_ah b_be b_me u_wd b_tr b_ld u_st b_wn u_id))] hP hD (fun hP hD => ?_)
                    refine lv_iload_n hx hb dX12_law_180 rfl (lv_at hl 0 rfl) ?_
                    refine lv_aload_n hx hb dX12_law_181 rfl (lv_at hl 2 rfl) ?_
                    refine va_get (D := G.1) (ci := 12) (v := .int k51_co) (C := RX12) (T := TX12) (N := 52) hx hb hts inG_X12 hown hK hP 10 rfl rfl 17 (by decide) (hts _ fl_X12_237) (fun _ h9 => h9) rfl dX12_law_182 ?_
                    refine lv_icmp_ge (tgt := 234) hx hb dX12_law_185 (by decide) (fun c_113 => ?_) (fun c_113 => ?_)
                    ·
                      have i_113 : k180_2.toInt ≥ k51_co.toInt := by have z := g5_ge (a := k180_2.toInt) (b := k51_co.toInt) (by rfl) (by rfl) c_113; omega
                      refine lv_aload_n hx hb dX12_law_234 rfl (lv_at hl 2 rfl) ?_
                      refine va_get (D := G.1) (ci := 12) (v := .ref b_ro) (C := RX12) (T := TX12) (N := 52) hx hb hts inG_X12 hown hK hP 10 rfl rfl 3 (by decide) (hts _ fl_X12_13) (fun _ h9 => h9) rfl dX12_law_235 ?_
                      refine lv_iconst (v := 2) hx hb dX12_law_238 (by decide) ?_
                      refine lv_dup2_11 hx hb dX12_law_239 rfl rfl ?_
                      refine va_iald hx hb hK hP 1 0 rfl rfl (i := 2) (by unfold vp_in; decide) dX12_law_240 ?_
                      refine g5_ti (v := (k180_ro 2)) rfl ?_
                      have h29_114 : (k180_ro 2) = (v_ro 2) := by rw [i_111 2 (by have zz := g5_clamp (340 + (900 * (v_ro 2))); omega), i_104 2 (by have zz := g5_clamp (340 + (900 * (v_ro 2))); omega), upd_ne (by have zz := g5_clamp ((340 + (900 * (v_ro 2))) + 1); omega)]
                      refine g5_ti (v := (v_ro 2)) h29_114 ?_
                      refine lv_iconst (v := 1) hx hb dX12_law_241 (by decide) ?_
                      refine lv_iadd hx hb dX12_law_242 ?_
                      have t_115 : ((v_ro 2) + 1).toInt = (v_ro 2).toInt + 1 := g5_iadd (a := (v_ro 2).toInt) (b := 1) (by rfl) (by decide) (by omega) (by omega)
                      refine va_iast hx hb hK hP hD hS 1 0 rfl rfl (i := 2) (x := ((v_ro 2) + 1)) (by unfold vp_in; decide) dX12_law_243 (fun H locs hP hD hS => ?_)
                      refine g5_rs [(b_rf, (arI G 7 v_rf)), (b_ro, (arI G 5740 (upd k180_ro 2 ((v_ro 2) + 1)))), (b_tp, (arI G 400 v_tp)), (b_nl, (arI G 96 k51_nl)), (b_op, (arI G 400 k51_op)), (b_ar, (arI G 400 k51_ar)), (b_pi, (arI G 400 k51_pi)), (b_pa, (arI G 400 k51_pa)), (b_ws, (arJ G 8 v_ws)), (b_hw, (arJ G 4 v_hw)), (b_o, (oc12 0 u_sa b_rf b_ro b_im b_ke u_fd b_tp 0 k51_fr k51_to k51_so k51_wo k51_fa k51_bd k51_nc b_nl k51_co b_op b_ar k51_le b_pi b_pa k51_pd k51_od b_ws b_hw u_la b_se b_re u_bk u_va u_su u_ce u_ho u_wy u_bt u_ps b_pt u_tg u_sn b_ip u_ic b_ah b_be b_me u_wd b_tr b_ld u_st b_wn u_id))] hP hD (fun hP hD => ?_)
                      refine lv_aload_n hx hb dX12_law_244 rfl (lv_at hl 2 rfl) ?_
                      refine lv_aload_n hx hb dX12_law_245 rfl (lv_at hl 2 rfl) ?_
                      refine va_get (D := G.1) (ci := 12) (v := .ref b_ro) (C := RX12) (T := TX12) (N := 52) hx hb hts inG_X12 hown hK hP 10 rfl rfl 3 (by decide) (hts _ fl_X12_13) (fun _ h9 => h9) rfl dX12_law_246 ?_
                      refine lv_iconst (v := 2) hx hb dX12_law_249 (by decide) ?_
                      refine va_iald hx hb hK hP 1 0 rfl rfl (i := 2) (by unfold vp_in; decide) dX12_law_250 ?_
                      refine g5_ti (v := ((v_ro 2) + 1)) rfl ?_
                      refine lv_iconst (v := 1) hx hb dX12_law_251 (by decide) ?_
                      refine lv_isub hx hb dX12_law_252 ?_
                      have t_116 : (((v_ro 2) + 1) - 1).toInt = ((v_ro 2) + 1).toInt - 1 := g5_isub (a := ((v_ro 2) + 1).toInt) (b := 1) (by rfl) (by decide) (by omega) (by omega)
                      obtain ⟨hPc, hDc, hFc⟩ := g5_sub3 (wc := [(b_o, (oc12 0 u_sa b_rf b_ro b_im b_ke u_fd b_tp 0 k51_fr k51_to k51_so k51_wo k51_fa k51_bd k51_nc b_nl k51_co b_op b_ar k51_le b_pi b_pa k51_pd k51_od b_ws b_hw u_la b_se b_re u_bk u_va u_su u_ce u_ho u_wy u_bt u_ps b_pt u_tg u_sn b_ip u_ic b_ah b_be b_me u_wd b_tr b_ld u_st b_wn u_id)), (b_rf, (arI G 7 v_rf))]) hP hD hS hA [10, 0] (by decide) rfl
                      refine va_calli (va_runV (As := [.int (((v_ro 2) + 1) - 1)]) (rest := []) ⟨hx, hb, hml, hown, hts⟩ (n_tell l G b_o b_rf b_ro b_im b_ke b_tp b_nl b_op b_ar b_pi b_pa b_ws b_hw b_se b_re b_pt b_ip b_ah b_be b_me b_tr b_ld b_wn H.size 0 u_sa u_fd 0 k51_fr k51_to k51_so k51_fa k51_bd k51_nc k51_co k51_le k51_pd k51_od u_la u_bk u_ce u_ho u_wy u_bt u_ps u_tg u_sn u_ic u_wd u_id (((v_ro 2) + 1) - 1) k51_wo u_va u_su u_st v_rf ⟨by decide, by decide⟩ i_38 i_39 i_40 i_41 i_42 i_43 h_u_la h_u_bk h_u_ce h_u_ho h_u_wy h_u_bt h_u_ps h_u_ic h_u_id ⟨by omega, by omega⟩) (cwV 1 hts gV_X12_125 rfl rfl rfl hv_X12_tell ⟨Nat.le_of_ble_eq_true rfl, Nat.le_of_ble_eq_true rfl⟩) (g5_preV hPc hK hDc hN hT hS hFc (ci := 12) (q0 := 0) rfl rfl) rfl rfl hl.1 rfl (lv_room (Nat.le_of_ble_eq_true rfl)) dX12_law_253 ⟨Nat.le_of_ble_eq_true rfl, Nat.le_of_ble_eq_true rfl⟩) hS (fun q _ h => hFc q h) hFc (fun r u t H1 locs ht hvm hw hB hz1 hk1 hS => ?_)
                      obtain ⟨hP1, hD1⟩ := hB
                      rw [ht] at hP1
                      obtain ⟨z118, z119, z120, i_117, rfl, rfl⟩ := hw
                      have i_117 : 0 ≤ z119.toInt ∧ z119.toInt ≤ 1 := i_117
                      obtain ⟨hP, hD⟩ := va_join (wr := [(b_ro, (arI G 5740 (upd k180_ro 2 ((v_ro 2) + 1)))), (b_tp, (arI G 400 v_tp)), (b_nl, (arI G 96 k51_nl)), (b_op, (arI G 400 k51_op)), (b_ar, (arI G 400 k51_ar)), (b_pi, (arI G 400 k51_pi)), (b_pa, (arI G 400 k51_pa)), (b_ws, (arJ G 8 v_ws)), (b_hw, (arJ G 4 v_hw))]) hP hD [10, 0] [1, 2, 3, 4, 5, 6, 7, 8, 9] rfl rfl (by decide) (by decide) hk1 hFc hP1 hD1
                      generalize H1 = H at hP hS ⊢
                      refine g5_rs [(b_ro, (arI G 5740 (upd k180_ro 2 ((v_ro 2) + 1)))), (b_tp, (arI G 400 v_tp)), (b_nl, (arI G 96 k51_nl)), (b_op, (arI G 400 k51_op)), (b_ar, (arI G 400 k51_ar)), (b_pi, (arI G 400 k51_pi)), (b_pa, (arI G 400 k51_pa)), (b_ws, (arJ G 8 v_ws)), (b_hw, (arJ G 4 v_hw)), (b_o, (oc12 0 z118 b_rf b_ro b_im b_ke u_fd b_tp 0 k51_fr k51_to k51_so k51_wo k51_fa k51_bd k51_nc b_nl k51_co b_op b_ar k51_le b_pi b_pa k51_pd k51_od b_ws b_hw u_la b_se b_re u_bk u_va u_su u_ce u_ho u_wy u_bt u_ps b_pt u_tg u_sn b_ip z119 b_ah b_be b_me u_wd b_tr b_ld u_st b_wn u_id)), (b_rf, (arI G 7 z120))] hP hD (fun hP hD => ?_)
                      exact W.iret (v := (((v_ro 2) + 1) - 1)) hx hb hr (fun t ht hW => ⟨⟨(((v_ro 2) + 1) - 1), [(b_o, (oc12 0 z118 b_rf b_ro b_im b_ke u_fd b_tp 0 k51_fr k51_to k51_so k51_wo k51_fa k51_bd k51_nc b_nl k51_co b_op b_ar k51_le b_pi b_pa k51_pd k51_od b_ws b_hw u_la b_se b_re u_bk u_va u_su u_ce u_ho u_wy u_bt u_ps b_pt u_tg u_sn b_ip z119 b_ah b_be b_me u_wd b_tr b_ld u_st b_wn u_id)), (b_rf, (arI G 7 z120)), (b_ro, (arI G 5740 (upd k180_ro 2 ((v_ro 2) + 1)))), (b_tp, (arI G 400 v_tp)), (b_nl, (arI G 96 k51_nl)), (b_op, (arI G 400 k51_op)), (b_ar, (arI G 400 k51_ar)), (b_pi, (arI G 400 k51_pi)), (b_pa, (arI G 400 k51_pa)), (b_ws, (arJ G 8 v_ws)), (b_hw, (arJ G 4 v_hw))], rfl, ⟨(((v_ro 2) + 1) - 1), 0, z118, 0, k51_fr, k51_to, k51_so, k51_wo, k51_fa, k51_bd, k51_nc, k51_co, k51_le, k51_pd, k51_od, z119, z120, (upd k180_ro 2 ((v_ro 2) + 1)), k51_nl, k51_op, k51_ar, k51_pi, k51_pa, ⟨by have zc_o_td : (0 : Int32).toInt = 0 := (by decide); omega, by have zc_o_td : (0 : Int32).toInt = 0 := (by decide); omega⟩, i_38, i_39, i_40, i_41, i_42, i_43, i_117, mi_law r_ro (by omega) (by omega) (by omega) rfl ⟨by omega, by omega⟩ ⟨by omega, by omega⟩ i_103 i_104 (by omega) i_110 i_111 (by omega) (i_44 (by omega)) (by omega), by decide, fun j h1 h2 => by rw [upd_ne h2, i_111 j (by have zz := g5_clamp (340 + (900 * (v_ro 2))); omega), i_104 j (by have zz := g5_clamp (340 + (900 * (v_ro 2))); omega), upd_ne (by have zz := g5_clamp ((340 + (900 * (v_ro 2))) + 1); omega)], rfl, rfl⟩, by rw [ht]; exact hP.sub [9, 10, 0, 1, 2, 3, 4, 5, 6, 7, 8] rfl, hD.sub [9, 10, 0, 1, 2, 3, 4, 5, 6, 7, 8] (by decide) rfl⟩, hS.F ht⟩) hS.2.2 dX12_law_256
                    ·
                      have i_113 : k180_2.toInt < k51_co.toInt := by have z := g5_geN (a := k180_2.toInt) (b := k51_co.toInt) (by rfl) (by rfl) c_113; omega
                      refine lv_aload_n hx hb dX12_law_188 rfl (lv_at hl 2 rfl) ?_
                      refine va_get (D := G.1) (ci := 12) (v := .ref b_ro) (C := RX12) (T := TX12) (N := 52) hx hb hts inG_X12 hown hK hP 10 rfl rfl 3 (by decide) (hts _ fl_X12_13) (fun _ h9 => h9) rfl dX12_law_189 ?_
                      refine lv_iload_n hx hb dX12_law_192 rfl (lv_at hl 1 rfl) ?_
                      refine lv_bipush (v := 98) hx hb dX12_law_193 (by decide) ?_
                      refine lv_iadd hx hb dX12_law_195 ?_
                      have t_121 : ((340 + (900 * (v_ro 2))) + 98).toInt = (340 + (900 * (v_ro 2))).toInt + 98 := g5_iadd (a := (340 + (900 * (v_ro 2))).toInt) (b := 98) (by rfl) (by decide) (by omega) (by omega)
                      refine lv_iconst (v := 2) hx hb dX12_law_196 (by decide) ?_
                      refine lv_iload_n hx hb dX12_law_197 rfl (lv_at hl 0 rfl) ?_
                      refine lv_imul hx hb dX12_law_198 ?_
                      have t_122 : (2 * k180_2).toInt = 2 * k180_2.toInt := g5_imul (a := 2) (b := k180_2.toInt) (by decide) (by rfl) (by omega) (by omega)
                      refine lv_iadd hx hb dX12_law_199 ?_
                      have t_123 : (((340 + (900 * (v_ro 2))) + 98) + (2 * k180_2)).toInt = ((340 + (900 * (v_ro 2))) + 98).toInt + (2 * k180_2).toInt := g5_iadd (a := ((340 + (900 * (v_ro 2))) + 98).toInt) (b := (2 * k180_2).toInt) (by rfl) (by rfl) (by omega) (by omega)
                      refine lv_aload_n hx hb dX12_law_200 rfl (lv_at hl 2 rfl) ?_
                      refine va_get (D := G.1) (ci := 12) (v := .ref b_op) (C := RX12) (T := TX12) (N := 52) hx hb hts inG_X12 hown hK hP 10 rfl rfl 18 (by decide) (hts _ fl_X12_33) (fun _ h9 => h9) rfl dX12_law_201 ?_
                      refine lv_iload_n hx hb dX12_law_204 rfl (lv_at hl 0 rfl) ?_
                      refine va_iald hx hb hK hP 4 0 rfl rfl (i := k180_2) (vp_in_iff.mpr ⟨by omega, by omega⟩) dX12_law_205 ?_
                      refine va_iast hx hb hK hP hD hS 1 0 rfl rfl (i := (((340 + (900 * (v_ro 2))) + 98) + (2 * k180_2))) (x := (k51_op k180_2.toNatClampNeg)) (vp_in_iff.mpr ⟨by omega, by omega⟩) dX12_law_206 (fun H locs hP hD hS => ?_)
                      refine g5_rs [(b_rf, (arI G 7 v_rf)), (b_ro, (arI G 5740 (upd k180_ro (((340 + (900 * (v_ro 2))) + 98) + (2 * k180_2)).toNatClampNeg (k51_op k180_2.toNatClampNeg)))), (b_tp, (arI G 400 v_tp)), (b_nl, (arI G 96 k51_nl)), (b_op, (arI G 400 k51_op)), (b_ar, (arI G 400 k51_ar)), (b_pi, (arI G 400 k51_pi)), (b_pa, (arI G 400 k51_pa)), (b_ws, (arJ G 8 v_ws)), (b_hw, (arJ G 4 v_hw)), (b_o, (oc12 0 u_sa b_rf b_ro b_im b_ke u_fd b_tp 0 k51_fr k51_to k51_so k51_wo k51_fa k51_bd k51_nc b_nl k51_co b_op b_ar k51_le b_pi b_pa k51_pd k51_od b_ws b_hw u_la b_se b_re u_bk u_va u_su u_ce u_ho u_wy u_bt u_ps b_pt u_tg u_sn b_ip u_ic b_ah b_be b_me u_wd b_tr b_ld u_st b_wn u_id))] hP hD (fun hP hD => ?_)
                      refine lv_aload_n hx hb dX12_law_207 rfl (lv_at hl 2 rfl) ?_
                      refine va_get (D := G.1) (ci := 12) (v := .ref b_ro) (C := RX12) (T := TX12) (N := 52) hx hb hts inG_X12 hown hK hP 10 rfl rfl 3 (by decide) (hts _ fl_X12_13) (fun _ h9 => h9) rfl dX12_law_208 ?_
                      refine lv_iload_n hx hb dX12_law_211 rfl (lv_at hl 1 rfl) ?_
                      refine lv_bipush (v := 98) hx hb dX12_law_212 (by decide) ?_
                      refine lv_iadd hx hb dX12_law_214 ?_
                      have t_124 : ((340 + (900 * (v_ro 2))) + 98).toInt = (340 + (900 * (v_ro 2))).toInt + 98 := g5_iadd (a := (340 + (900 * (v_ro 2))).toInt) (b := 98) (by rfl) (by decide) (by omega) (by omega)
                      refine lv_iconst (v := 2) hx hb dX12_law_215 (by decide) ?_
                      refine lv_iload_n hx hb dX12_law_216 rfl (lv_at hl 0 rfl) ?_
                      refine lv_imul hx hb dX12_law_217 ?_
                      have t_125 : (2 * k180_2).toInt = 2 * k180_2.toInt := g5_imul (a := 2) (b := k180_2.toInt) (by decide) (by rfl) (by omega) (by omega)
                      refine lv_iadd hx hb dX12_law_218 ?_
                      have t_126 : (((340 + (900 * (v_ro 2))) + 98) + (2 * k180_2)).toInt = ((340 + (900 * (v_ro 2))) + 98).toInt + (2 * k180_2).toInt := g5_iadd (a := ((340 + (900 * (v_ro 2))) + 98).toInt) (b := (2 * k180_2).toInt) (by rfl) (by rfl) (by omega) (by omega)
                      refine lv_iconst (v := 1) hx hb dX12_law_219 (by decide) ?_
                      refine lv_iadd hx hb dX12_law_220 ?_
                      have t_127 : ((((340 + (900 * (v_ro 2))) + 98) + (2 * k180_2)) + 1).toInt = (((340 + (900 * (v_ro 2))) + 98) + (2 * k180_2)).toInt + 1 := g5_iadd (a := (((340 + (900 * (v_ro 2))) + 98) + (2 * k180_2)).toInt) (b := 1) (by rfl) (by decide) (by omega) (by omega)
                      refine lv_aload_n hx hb dX12_law_221 rfl (lv_at hl 2 rfl) ?_
                      refine va_get (D := G.1) (ci := 12) (v := .ref b_ar) (C := RX12) (T := TX12) (N := 52) hx hb hts inG_X12 hown hK hP 10 rfl rfl 19 (by decide) (hts _ fl_X12_36) (fun _ h9 => h9) rfl dX12_law_222 ?_
                      refine lv_iload_n hx hb dX12_law_225 rfl (lv_at hl 0 rfl) ?_
                      refine va_iald hx hb hK hP 5 0 rfl rfl (i := k180_2) (vp_in_iff.mpr ⟨by omega, by omega⟩) dX12_law_226 ?_
                      refine va_iast hx hb hK hP hD hS 1 0 rfl rfl (i := ((((340 + (900 * (v_ro 2))) + 98) + (2 * k180_2)) + 1)) (x := (k51_ar k180_2.toNatClampNeg)) (vp_in_iff.mpr ⟨by omega, by omega⟩) dX12_law_227 (fun H locs hP hD hS => ?_)
                      refine g5_rs [(b_rf, (arI G 7 v_rf)), (b_ro, (arI G 5740 (upd (upd k180_ro (((340 + (900 * (v_ro 2))) + 98) + (2 * k180_2)).toNatClampNeg (k51_op k180_2.toNatClampNeg)) ((((340 + (900 * (v_ro 2))) + 98) + (2 * k180_2)) + 1).toNatClampNeg (k51_ar k180_2.toNatClampNeg)))), (b_tp, (arI G 400 v_tp)), (b_nl, (arI G 96 k51_nl)), (b_op, (arI G 400 k51_op)), (b_ar, (arI G 400 k51_ar)), (b_pi, (arI G 400 k51_pi)), (b_pa, (arI G 400 k51_pa)), (b_ws, (arJ G 8 v_ws)), (b_hw, (arJ G 4 v_hw)), (b_o, (oc12 0 u_sa b_rf b_ro b_im b_ke u_fd b_tp 0 k51_fr k51_to k51_so k51_wo k51_fa k51_bd k51_nc b_nl k51_co b_op b_ar k51_le b_pi b_pa k51_pd k51_od b_ws b_hw u_la b_se b_re u_bk u_va u_su u_ce u_ho u_wy u_bt u_ps b_pt u_tg u_sn b_ip u_ic b_ah b_be b_me u_wd b_tr b_ld u_st b_wn u_id))] hP hD (fun hP hD => ?_)
                      refine lv_iinc (v := (k180_2 + 1)) (lv' := [(2, .int (k180_2 + 1)), (1, .int (340 + (900 * (v_ro 2)))), (0, .ref b_o)]) hx hb dX12_law_228 hl (k := 0) rfl rfl (by decide) rfl (fun ls hl => ?_)
                      have t_128 : (k180_2 + 1).toInt = k180_2.toInt + 1 := g5_iadd (a := k180_2.toInt) (b := 1) rfl (by decide) (by omega) (by omega)
                      refine lv_goto (tgt := 180) hx hb dX12_law_231 (by decide) ?_
                      exact ih_180_112 ((k180_2 + 1), (upd (upd k180_ro (((340 + (900 * (v_ro 2))) + 98) + (2 * k180_2)).toNatClampNeg (k51_op k180_2.toNatClampNeg)) ((((340 + (900 * (v_ro 2))) + 98) + (2 * k180_2)) + 1).toNatClampNeg (k51_ar k180_2.toNatClampNeg))) ls H locs (show Int.toNat (400 - (k180_2 + 1).toInt) < Int.toNat (400 - k180_2.toInt) from g_up (show k180_2.toInt < (k180_2 + 1).toInt by omega) (show k180_2.toInt < 400 by omega)) ⟨lv_sub hl [0, 1, 2] rfl, hP, hD, hS, ⟨by omega, by omega⟩, by omega, lw_d1 i_110 (by omega) (by omega) (by omega) (by omega) (by omega), lw_d2 (k := k180_2) i_111 ⟨by omega, by omega⟩ (by omega) (by omega) (by omega)⟩
                  ·
                    have i_107 : k145_2.toInt < (8 * k51_nc.toInt) := by have z := g5_geN (a := k145_2.toInt) (b := (8 * k51_nc).toInt) (by rfl) (by rfl) c_107; omega
                    refine lv_aload_n hx hb dX12_law_156 rfl (lv_at hl 2 rfl) ?_
                    refine va_get (D := G.1) (ci := 12) (v := .ref b_ro) (C := RX12) (T := TX12) (N := 52) hx hb hts inG_X12 hown hK hP 10 rfl rfl 3 (by decide) (hts _ fl_X12_13) (fun _ h9 => h9) rfl dX12_law_157 ?_
                    refine lv_iload_n hx hb dX12_law_160 rfl (lv_at hl 1 rfl) ?_
                    refine lv_iconst (v := 2) hx hb dX12_law_161 (by decide) ?_
                    refine lv_iadd hx hb dX12_law_162 ?_
                    have t_129 : ((340 + (900 * (v_ro 2))) + 2).toInt = (340 + (900 * (v_ro 2))).toInt + 2 := g5_iadd (a := (340 + (900 * (v_ro 2))).toInt) (b := 2) (by rfl) (by decide) (by omega) (by omega)
                    refine lv_iload_n hx hb dX12_law_163 rfl (lv_at hl 0 rfl) ?_
                    refine lv_iadd hx hb dX12_law_164 ?_
                    have t_130 : (((340 + (900 * (v_ro 2))) + 2) + k145_2).toInt = ((340 + (900 * (v_ro 2))) + 2).toInt + k145_2.toInt := g5_iadd (a := ((340 + (900 * (v_ro 2))) + 2).toInt) (b := k145_2.toInt) (by rfl) (by rfl) (by omega) (by omega)
                    refine lv_aload_n hx hb dX12_law_165 rfl (lv_at hl 2 rfl) ?_
                    refine va_get (D := G.1) (ci := 12) (v := .ref b_nl) (C := RX12) (T := TX12) (N := 52) hx hb hts inG_X12 hown hK hP 10 rfl rfl 16 (by decide) (hts _ fl_X12_30) (fun _ h9 => h9) rfl dX12_law_166 ?_
                    refine lv_iload_n hx hb dX12_law_169 rfl (lv_at hl 0 rfl) ?_
                    refine va_iald hx hb hK hP 3 0 rfl rfl (i := k145_2) (vp_in_iff.mpr ⟨by omega, by omega⟩) dX12_law_170 ?_
                    refine va_iast hx hb hK hP hD hS 1 0 rfl rfl (i := (((340 + (900 * (v_ro 2))) + 2) + k145_2)) (x := (k51_nl k145_2.toNatClampNeg)) (vp_in_iff.mpr ⟨by omega, by omega⟩) dX12_law_171 (fun H locs hP hD hS => ?_)
                    refine g5_rs [(b_rf, (arI G 7 v_rf)), (b_ro, (arI G 5740 (upd k145_ro (((340 + (900 * (v_ro 2))) + 2) + k145_2).toNatClampNeg (k51_nl k145_2.toNatClampNeg)))), (b_tp, (arI G 400 v_tp)), (b_nl, (arI G 96 k51_nl)), (b_op, (arI G 400 k51_op)), (b_ar, (arI G 400 k51_ar)), (b_pi, (arI G 400 k51_pi)), (b_pa, (arI G 400 k51_pa)), (b_ws, (arJ G 8 v_ws)), (b_hw, (arJ G 4 v_hw)), (b_o, (oc12 0 u_sa b_rf b_ro b_im b_ke u_fd b_tp 0 k51_fr k51_to k51_so k51_wo k51_fa k51_bd k51_nc b_nl k51_co b_op b_ar k51_le b_pi b_pa k51_pd k51_od b_ws b_hw u_la b_se b_re u_bk u_va u_su u_ce u_ho u_wy u_bt u_ps b_pt u_tg u_sn b_ip u_ic b_ah b_be b_me u_wd b_tr b_ld u_st b_wn u_id))] hP hD (fun hP hD => ?_)
                    refine lv_iinc (v := (k145_2 + 1)) (lv' := [(2, .int (k145_2 + 1)), (1, .int (340 + (900 * (v_ro 2)))), (0, .ref b_o)]) hx hb dX12_law_172 hl (k := 0) rfl rfl (by decide) rfl (fun ls hl => ?_)
                    have t_131 : (k145_2 + 1).toInt = k145_2.toInt + 1 := g5_iadd (a := k145_2.toInt) (b := 1) rfl (by decide) (by omega) (by omega)
                    refine lv_goto (tgt := 145) hx hb dX12_law_175 (by decide) ?_
                    exact ih_145_105 ((k145_2 + 1), (upd k145_ro (((340 + (900 * (v_ro 2))) + 2) + k145_2).toNatClampNeg (k51_nl k145_2.toNatClampNeg))) ls H locs (show Int.toNat (96 - (k145_2 + 1).toInt) < Int.toNat (96 - k145_2.toInt) from g_up (show k145_2.toInt < (k145_2 + 1).toInt by omega) (show k145_2.toInt < 96 by omega)) ⟨lv_sub hl [0, 1, 2] rfl, hP, hD, hS, ⟨by omega, by omega⟩, by omega, lw_c1 i_103 (by omega) (by omega) (by omega) (by omega), lw_c2 (k := k145_2) i_104 ⟨by omega, by omega⟩ (by omega) (by omega)⟩
                ·
                  have i_96 : k51_bd.toInt ≠ 0 := by have z := g5_eqN (a := k51_bd.toInt) (b := 0) (by rfl) (by decide) c_96; omega
                  omega
              ·
                have n_95 : gNe (k51_so.toInt) (0) := by have z := g5_eqN (a := k51_so.toInt) (b := 0) (by rfl) (by decide) c_95; unfold gNe; omega
                refine lv_aload_n hx hb dX12_law_92 rfl (lv_at hl 0 rfl) ?_
                refine lv_iconst (v := 0) hx hb dX12_law_93 (by decide) ?_
                obtain ⟨hPc, hDc, hFc⟩ := g5_sub3 (wc := [(b_o, (oc12 0 u_sa b_rf b_ro b_im b_ke u_fd b_tp u_td k51_fr k51_to k51_so k51_wo k51_fa k51_bd k51_nc b_nl k51_co b_op b_ar k51_le b_pi b_pa k51_pd k51_od b_ws b_hw u_la b_se b_re u_bk u_va u_su u_ce u_ho u_wy u_bt u_ps b_pt u_tg u_sn b_ip u_ic b_ah b_be b_me u_wd b_tr b_ld u_st b_wn u_id)), (b_tp, (arI G 400 v_tp))]) hP hD hS hA [10, 2] (by decide) rfl
                refine va_callv (va_runV (As := [.int 0]) (rest := []) ⟨hx, hb, hml, hown, hts⟩ (n_must0 l G b_o b_tp b_rf b_ro b_im b_ke b_nl b_op b_ar b_pi b_pa b_ws b_hw b_se b_re b_pt b_ip b_ah b_be b_me b_tr b_ld b_wn H.size 0 u_sa u_fd u_td k51_fr k51_to k51_so k51_fa k51_bd k51_nc k51_co k51_le k51_pd k51_od u_la u_bk u_ce u_ho u_wy u_bt u_ps u_tg u_sn u_ic u_wd u_id k51_wo u_va u_su u_st v_tp h_u_td i_38 i_39 ⟨by omega, by omega⟩ i_41 i_42 i_43 h_u_la h_u_bk h_u_ce h_u_ho h_u_wy h_u_bt h_u_ps h_u_ic h_u_id) (cwV 1 hts gV_X12_233 rfl rfl rfl hv_X12_must ⟨Nat.le_of_ble_eq_true rfl, Nat.le_of_ble_eq_true rfl⟩) (g5_preV hPc hK hDc hN hT hS hFc (ci := 12) (q0 := 0) rfl rfl) rfl rfl hl.1 rfl (lv_room (Nat.le_of_ble_eq_true rfl)) dX12_law_94 ⟨Nat.le_of_ble_eq_true rfl, Nat.le_of_ble_eq_true rfl⟩) hS (fun q _ h => hFc q h) hFc (fun u t H1 locs ht hvm hw hB hz1 hk1 hS => ?_)
                obtain ⟨hP1, hD1⟩ := hB
                rw [ht] at hP1
                obtain rfl := hw
                obtain ⟨hP, hD⟩ := va_join (wr := [(b_rf, (arI G 7 v_rf)), (b_ro, (arI G 5740 v_ro)), (b_nl, (arI G 96 k51_nl)), (b_op, (arI G 400 k51_op)), (b_ar, (arI G 400 k51_ar)), (b_pi, (arI G 400 k51_pi)), (b_pa, (arI G 400 k51_pa)), (b_ws, (arJ G 8 v_ws)), (b_hw, (arJ G 4 v_hw))]) hP hD [10, 2] [0, 1, 3, 4, 5, 6, 7, 8, 9] rfl rfl (by decide) (by decide) hk1 hFc hP1 hD1
                generalize H1 = H at hP hS ⊢
                refine g5_rs [(b_rf, (arI G 7 v_rf)), (b_ro, (arI G 5740 v_ro)), (b_nl, (arI G 96 k51_nl)), (b_op, (arI G 400 k51_op)), (b_ar, (arI G 400 k51_ar)), (b_pi, (arI G 400 k51_pi)), (b_pa, (arI G 400 k51_pa)), (b_ws, (arJ G 8 v_ws)), (b_hw, (arJ G 4 v_hw)), (b_o, (oc12 0 u_sa b_rf b_ro b_im b_ke u_fd b_tp u_td k51_fr k51_to k51_so k51_wo k51_fr 1 k51_nc b_nl k51_co b_op b_ar k51_le b_pi b_pa k51_pd k51_od b_ws b_hw u_la b_se b_re u_bk u_va u_su u_ce u_ho u_wy u_bt u_ps b_pt u_tg u_sn b_ip u_ic b_ah b_be b_me u_wd b_tr b_ld u_st b_wn u_id)), (b_tp, (arI G 400 v_tp))] hP hD (fun hP hD => ?_)
                refine lv_aload_n hx hb dX12_law_97 rfl (lv_at hl 0 rfl) ?_
                refine lv_iconst (v := 0) hx hb dX12_law_98 (by decide) ?_
                refine va_put (D := G.1) (ci := 12) (v := .int 0) (ty := .int) (C := RX12) (T := TX12) (N := 52) hx hb hts inG_X12 tyX12 tyX12_ok nmX12 hown hK hP hD hS 9 rfl rfl 8 (by decide) (hts _ fl_X12_192) (fun _ h9 => h9) rfl (by decide +kernel) rfl rfl (Nat.le_of_ble_eq_true rfl) dX12_law_99 (fun H locs hP hD hS => ?_)
                refine g5_rs [(b_rf, (arI G 7 v_rf)), (b_ro, (arI G 5740 v_ro)), (b_nl, (arI G 96 k51_nl)), (b_op, (arI G 400 k51_op)), (b_ar, (arI G 400 k51_ar)), (b_pi, (arI G 400 k51_pi)), (b_pa, (arI G 400 k51_pa)), (b_ws, (arJ G 8 v_ws)), (b_hw, (arJ G 4 v_hw)), (b_o, (oc12 0 u_sa b_rf b_ro b_im b_ke u_fd b_tp 0 k51_fr k51_to k51_so k51_wo k51_fr 1 k51_nc b_nl k51_co b_op b_ar k51_le b_pi b_pa k51_pd k51_od b_ws b_hw u_la b_se b_re u_bk u_va u_su u_ce u_ho u_wy u_bt u_ps b_pt u_tg u_sn b_ip u_ic b_ah b_be b_me u_wd b_tr b_ld u_st b_wn u_id)), (b_tp, (arI G 400 v_tp))] hP hD (fun hP hD => ?_)
                refine lv_aload_n hx hb dX12_law_102 rfl (lv_at hl 0 rfl) ?_
                refine va_get (D := G.1) (ci := 12) (v := .int 1) (C := RX12) (T := TX12) (N := 52) hx hb hts inG_X12 hown hK hP 9 rfl rfl 14 (by decide) (hts _ fl_X12_205) (fun _ h9 => h9) rfl dX12_law_103 ?_
                refine lv_if_eq (tgt := 116) hx hb dX12_law_106 (by decide) (fun c_132 => ?_) (fun c_132 => ?_)
                ·
                  exact absurd c_132 (by decide)
                ·
                  refine lv_aload_n hx hb dX12_law_109 rfl (lv_at hl 0 rfl) ?_
                  refine lv_bipush (v := (-6)) hx hb dX12_law_110 (by decide) ?_
                  obtain ⟨hPc, hDc, hFc⟩ := g5_sub3 (wc := [(b_o, (oc12 0 u_sa b_rf b_ro b_im b_ke u_fd b_tp 0 k51_fr k51_to k51_so k51_wo k51_fr 1 k51_nc b_nl k51_co b_op b_ar k51_le b_pi b_pa k51_pd k51_od b_ws b_hw u_la b_se b_re u_bk u_va u_su u_ce u_ho u_wy u_bt u_ps b_pt u_tg u_sn b_ip u_ic b_ah b_be b_me u_wd b_tr b_ld u_st b_wn u_id)), (b_rf, (arI G 7 v_rf))]) hP hD hS hA [9, 0] (by decide) rfl
                  refine va_calli (va_runV (As := [.int (-6)]) (rest := []) ⟨hx, hb, hml, hown, hts⟩ (n_tell6 l G b_o b_rf b_ro b_im b_ke b_tp b_nl b_op b_ar b_pi b_pa b_ws b_hw b_se b_re b_pt b_ip b_ah b_be b_me b_tr b_ld b_wn H.size 0 u_sa u_fd 0 k51_fr k51_to k51_so k51_fr 1 k51_nc k51_co k51_le k51_pd k51_od u_la u_bk u_ce u_ho u_wy u_bt u_ps u_tg u_sn u_ic u_wd u_id k51_wo u_va u_su u_st v_rf ⟨by decide, by decide⟩ i_38 i_39 ⟨by decide, by decide⟩ i_41 i_42 i_43 h_u_la h_u_bk h_u_ce h_u_ho h_u_wy h_u_bt h_u_ps h_u_ic h_u_id) (cwV 1 hts gV_X12_125 rfl rfl rfl hv_X12_tell ⟨Nat.le_of_ble_eq_true rfl, Nat.le_of_ble_eq_true rfl⟩) (g5_preV hPc hK hDc hN hT hS hFc (ci := 12) (q0 := 0) rfl rfl) rfl rfl hl.1 rfl (lv_room (Nat.le_of_ble_eq_true rfl)) dX12_law_112 ⟨Nat.le_of_ble_eq_true rfl, Nat.le_of_ble_eq_true rfl⟩) hS (fun q _ h => hFc q h) hFc (fun r u t H1 locs ht hvm hw hB hz1 hk1 hS => ?_)
                  obtain ⟨hP1, hD1⟩ := hB
                  rw [ht] at hP1
                  obtain ⟨z134, z135, z136, i_133, rfl, rfl⟩ := hw
                  have i_133 : 0 ≤ z135.toInt ∧ z135.toInt ≤ 1 := i_133
                  obtain ⟨hP, hD⟩ := va_join (wr := [(b_ro, (arI G 5740 v_ro)), (b_nl, (arI G 96 k51_nl)), (b_op, (arI G 400 k51_op)), (b_ar, (arI G 400 k51_ar)), (b_pi, (arI G 400 k51_pi)), (b_pa, (arI G 400 k51_pa)), (b_ws, (arJ G 8 v_ws)), (b_hw, (arJ G 4 v_hw)), (b_tp, (arI G 400 v_tp))]) hP hD [9, 0] [1, 2, 3, 4, 5, 6, 7, 8, 10] rfl rfl (by decide) (by decide) hk1 hFc hP1 hD1
                  generalize H1 = H at hP hS ⊢
                  refine g5_rs [(b_ro, (arI G 5740 v_ro)), (b_nl, (arI G 96 k51_nl)), (b_op, (arI G 400 k51_op)), (b_ar, (arI G 400 k51_ar)), (b_pi, (arI G 400 k51_pi)), (b_pa, (arI G 400 k51_pa)), (b_ws, (arJ G 8 v_ws)), (b_hw, (arJ G 4 v_hw)), (b_tp, (arI G 400 v_tp)), (b_o, (oc12 0 z134 b_rf b_ro b_im b_ke u_fd b_tp 0 k51_fr k51_to k51_so k51_wo k51_fr 1 k51_nc b_nl k51_co b_op b_ar k51_le b_pi b_pa k51_pd k51_od b_ws b_hw u_la b_se b_re u_bk u_va u_su u_ce u_ho u_wy u_bt u_ps b_pt u_tg u_sn b_ip z135 b_ah b_be b_me u_wd b_tr b_ld u_st b_wn u_id)), (b_rf, (arI G 7 z136))] hP hD (fun hP hD => ?_)
                  exact W.iret (v := (-6)) hx hb hr (fun t ht hW => ⟨⟨(-6), [(b_o, (oc12 0 z134 b_rf b_ro b_im b_ke u_fd b_tp 0 k51_fr k51_to k51_so k51_wo k51_fr 1 k51_nc b_nl k51_co b_op b_ar k51_le b_pi b_pa k51_pd k51_od b_ws b_hw u_la b_se b_re u_bk u_va u_su u_ce u_ho u_wy u_bt u_ps b_pt u_tg u_sn b_ip z135 b_ah b_be b_me u_wd b_tr b_ld u_st b_wn u_id)), (b_rf, (arI G 7 z136)), (b_ro, (arI G 5740 v_ro)), (b_tp, (arI G 400 v_tp)), (b_nl, (arI G 96 k51_nl)), (b_op, (arI G 400 k51_op)), (b_ar, (arI G 400 k51_ar)), (b_pi, (arI G 400 k51_pi)), (b_pa, (arI G 400 k51_pa)), (b_ws, (arJ G 8 v_ws)), (b_hw, (arJ G 4 v_hw))], rfl, ⟨(-6), 0, z134, 0, k51_fr, k51_to, k51_so, k51_wo, k51_fr, 1, k51_nc, k51_co, k51_le, k51_pd, k51_od, z135, z136, v_ro, k51_nl, k51_op, k51_ar, k51_pi, k51_pa, ⟨by have zc_o_td : (0 : Int32).toInt = 0 := (by decide); omega, by have zc_o_td : (0 : Int32).toInt = 0 := (by decide); omega⟩, i_38, i_39, ⟨by have zc_o_bd : (1 : Int32).toInt = 1 := (by decide); omega, by have zc_o_bd : (1 : Int32).toInt = 1 := (by decide); omega⟩, i_41, i_42, i_43, i_133, r_ro, by decide, fun _ _ _ => rfl, rfl, rfl⟩, by rw [ht]; exact hP.sub [9, 10, 0, 8, 1, 2, 3, 4, 5, 6, 7] rfl, hD.sub [9, 10, 0, 8, 1, 2, 3, 4, 5, 6, 7] (by decide) rfl⟩, hS.F ht⟩) hS.2.2 dX12_law_115
          ·
            exact absurd c_93 (by decide)
    ·
      have i_12 : 0 ≤ z22.toInt ∧ z22.toInt ≤ 400 := i_12
      have i_13 : 0 ≤ z23.toInt ∧ z23.toInt ≤ 400 := i_13
      have i_14 : 0 ≤ z27.toInt ∧ z27.toInt ≤ 1 := i_14
      have i_15 : 0 ≤ z28.toInt ∧ z28.toInt ≤ 12 := i_15
      have i_16 : 0 ≤ z29.toInt ∧ z29.toInt ≤ 400 := i_16
      have i_17 : 0 ≤ z31.toInt ∧ z31.toInt ≤ 400 := i_17
      have i_18 : z7.toInt ≤ z22.toInt ∧ z22.toInt ≤ z23.toInt ∧ z23.toInt ≤ u_td.toInt := i_18
      have i_19 : TKs z24.toInt z22.toInt z23.toInt := i_19
      have i_20 : z29.toInt ≤ z22.toInt := i_20
      have i_21 : z27.toInt = 0 → LWJ z33 z34 z35 z28.toInt z29.toInt := i_21
      obtain ⟨hP, hD⟩ := va_join (wr := [(b_rf, (arI G 7 v_rf)), (b_ro, (arI G 5740 v_ro))]) hP hD [9, 10, 2, 3, 4, 5, 6, 7, 8] [0, 1] rfl rfl (by decide) (by decide) hk1 hFc hP1 hD1
      generalize H1 = H at hP hS ⊢
      refine g5_rs [(b_rf, (arI G 7 v_rf)), (b_ro, (arI G 5740 v_ro)), (b_o, (oc12 0 u_sa b_rf b_ro b_im b_ke u_fd b_tp u_td z22 z23 z24 z25 z26 z27 z28 b_nl z29 b_op b_ar z30 b_pi b_pa z31 z32 b_ws b_hw u_la b_se b_re u_bk u_va u_su u_ce u_ho u_wy u_bt u_ps b_pt u_tg u_sn b_ip u_ic b_ah b_be b_me u_wd b_tr b_ld u_st b_wn u_id)), (b_tp, (arI G 400 v_tp)), (b_nl, (arI G 96 z33)), (b_op, (arI G 400 z34)), (b_ar, (arI G 400 z35)), (b_pi, (arI G 400 z36)), (b_pa, (arI G 400 z37)), (b_ws, (arJ G 8 v_ws)), (b_hw, (arJ G 4 v_hw))] hP hD (fun hP hD => ?_)
      refine g5_loop (α := (Int32) × (Int32) × (Int32) × (Int64) × (Int32) × (Int32) × (Int32) × (Int32) × (Int32) × (Int32) × (Int32) × (Nat → Int32) × (Nat → Int32) × (Nat → Int32) × (Nat → Int32) × (Nat → Int32)) (fun (q : (Int32) × (Int32) × (Int32) × (Int64) × (Int32) × (Int32) × (Int32) × (Int32) × (Int32) × (Int32) × (Int32) × (Nat → Int32) × (Nat → Int32) × (Nat → Int32) × (Nat → Int32) × (Nat → Int32)) (ls : Array Slot) (H : Heap) (locs : List Loc) => match q with | (k51_fr, k51_to, k51_so, k51_wo, k51_fa, k51_bd, k51_nc, k51_co, k51_le, k51_pd, k51_od, k51_nl, k51_op, k51_ar, k51_pi, k51_pa) => lv_has ls 3 [(0, .ref b_o)] ∧ va_P G.1 vwCl [(b_rf, (arI G 7 v_rf)), (b_ro, (arI G 5740 v_ro)), (b_o, (oc12 0 u_sa b_rf b_ro b_im b_ke u_fd b_tp u_td k51_fr k51_to k51_so k51_wo k51_fa k51_bd k51_nc b_nl k51_co b_op b_ar k51_le b_pi b_pa k51_pd k51_od b_ws b_hw u_la b_se b_re u_bk u_va u_su u_ce u_ho u_wy u_bt u_ps b_pt u_tg u_sn b_ip u_ic b_ah b_be b_me u_wd b_tr b_ld u_st b_wn u_id)), (b_tp, (arI G 400 v_tp)), (b_nl, (arI G 96 k51_nl)), (b_op, (arI G 400 k51_op)), (b_ar, (arI G 400 k51_ar)), (b_pi, (arI G 400 k51_pi)), (b_pa, (arI G 400 k51_pa)), (b_ws, (arJ G 8 v_ws)), (b_hw, (arJ G 4 v_hw))] H ∧ va_D A [(b_rf, (arI G 7 v_rf)), (b_ro, (arI G 5740 v_ro)), (b_o, (oc12 0 u_sa b_rf b_ro b_im b_ke u_fd b_tp u_td k51_fr k51_to k51_so k51_wo k51_fa k51_bd k51_nc b_nl k51_co b_op b_ar k51_le b_pi b_pa k51_pd k51_od b_ws b_hw u_la b_se b_re u_bk u_va u_su u_ce u_ho u_wy u_bt u_ps b_pt u_tg u_sn b_ip u_ic b_ah b_be b_me u_wd b_tr b_ld u_st b_wn u_id)), (b_tp, (arI G 400 v_tp)), (b_nl, (arI G 96 k51_nl)), (b_op, (arI G 400 k51_op)), (b_ar, (arI G 400 k51_ar)), (b_pi, (arI G 400 k51_pi)), (b_pa, (arI G 400 k51_pa)), (b_ws, (arJ G 8 v_ws)), (b_hw, (arJ G 4 v_hw))] ∧ va_S A s.heap H locs ∧ (0 ≤ k51_fr.toInt ∧ k51_fr.toInt ≤ 400) ∧ (0 ≤ k51_to.toInt ∧ k51_to.toInt ≤ 400) ∧ (0 ≤ k51_bd.toInt ∧ k51_bd.toInt ≤ 1) ∧ (0 ≤ k51_nc.toInt ∧ k51_nc.toInt ≤ 12) ∧ (0 ≤ k51_co.toInt ∧ k51_co.toInt ≤ 400) ∧ (0 ≤ k51_pd.toInt ∧ k51_pd.toInt ≤ 400) ∧ (k51_bd.toInt = 0 → LWJ k51_nl k51_op k51_ar k51_nc.toInt k51_co.toInt) ∧ (k51_fr.toInt ≤ k51_to.toInt ∧ k51_to.toInt ≤ u_td.toInt) ∧ (TKs k51_so.toInt k51_fr.toInt k51_to.toInt) ∧ (k51_co.toInt ≤ k51_fr.toInt)) (fun (q : (Int32) × (Int32) × (Int32) × (Int64) × (Int32) × (Int32) × (Int32) × (Int32) × (Int32) × (Int32) × (Int32) × (Nat → Int32) × (Nat → Int32) × (Nat → Int32) × (Nat → Int32) × (Nat → Int32)) => match q with | (k51_fr, k51_to, k51_so, k51_wo, k51_fa, k51_bd, k51_nc, k51_co, k51_le, k51_pd, k51_od, k51_nl, k51_op, k51_ar, k51_pi, k51_pa) => Int.toNat (400 - k51_fr.toInt)) (z22, z23, z24, z25, z26, z27, z28, z29, z30, z31, z32, z33, z34, z35, z36, z37) ⟨lv_sub hl [0] rfl, hP, hD, hS, i_12, i_13, i_14, i_15, i_16, i_17, i_21, by omega, i_19, by omega⟩ ?_
      rintro ⟨k51_fr, k51_to, k51_so, k51_wo, k51_fa, k51_bd, k51_nc, k51_co, k51_le, k51_pd, k51_od, k51_nl, k51_op, k51_ar, k51_pi, k51_pa⟩ ls H locs ⟨hl, hP, hD, hS, i_137, i_138, i_139, i_140, i_141, i_142, i_143, i_144, i_145, i_146⟩ ih_51_147
      have hl : lv_has ls 3 [(0, .ref b_o)] := hl
      have i_137 : 0 ≤ k51_fr.toInt ∧ k51_fr.toInt ≤ 400 := i_137
      have i_138 : 0 ≤ k51_to.toInt ∧ k51_to.toInt ≤ 400 := i_138
      have i_139 : 0 ≤ k51_bd.toInt ∧ k51_bd.toInt ≤ 1 := i_139
      have i_140 : 0 ≤ k51_nc.toInt ∧ k51_nc.toInt ≤ 12 := i_140
      have i_141 : 0 ≤ k51_co.toInt ∧ k51_co.toInt ≤ 400 := i_141
      have i_142 : 0 ≤ k51_pd.toInt ∧ k51_pd.toInt ≤ 400 := i_142
      have i_143 : k51_bd.toInt = 0 → LWJ k51_nl k51_op k51_ar k51_nc.toInt k51_co.toInt := i_143
      have i_144 : k51_fr.toInt ≤ k51_to.toInt ∧ k51_to.toInt ≤ u_td.toInt := i_144
      have i_145 : TKs k51_so.toInt k51_fr.toInt k51_to.toInt := i_145
      have i_146 : k51_co.toInt ≤ k51_fr.toInt := i_146
      refine g5_rs [(b_rf, (arI G 7 v_rf)), (b_ro, (arI G 5740 v_ro)), (b_o, (oc12 0 u_sa b_rf b_ro b_im b_ke u_fd b_tp u_td k51_fr k51_to k51_so k51_wo k51_fa k51_bd k51_nc b_nl k51_co b_op b_ar k51_le b_pi b_pa k51_pd k51_od b_ws b_hw u_la b_se b_re u_bk u_va u_su u_ce u_ho u_wy u_bt u_ps b_pt u_tg u_sn b_ip u_ic b_ah b_be b_me u_wd b_tr b_ld u_st b_wn u_id)), (b_tp, (arI G 400 v_tp)), (b_nl, (arI G 96 k51_nl)), (b_op, (arI G 400 k51_op)), (b_ar, (arI G 400 k51_ar)), (b_pi, (arI G 400 k51_pi)), (b_pa, (arI G 400 k51_pa)), (b_ws, (arJ G 8 v_ws)), (b_hw, (arJ G 4 v_hw))] hP hD (fun hP hD => ?_)
      refine lv_aload_n hx hb dX12_law_51 rfl (lv_at hl 0 rfl) ?_
      refine va_get (D := G.1) (ci := 12) (v := .int k51_bd) (C := RX12) (T := TX12) (N := 52) hx hb hts inG_X12 hown hK hP 2 rfl rfl 14 (by decide) (hts _ fl_X12_205) (fun _ h9 => h9) rfl dX12_law_52 ?_
      refine lv_if_ne (tgt := 78) hx hb dX12_law_55 (by decide) (fun c_148 => ?_) (fun c_148 => ?_)
      ·
        have n_148 : gNe (k51_bd.toInt) (0) := by have z := g5_ne (a := k51_bd.toInt) (b := 0) (by rfl) (by decide) c_148; unfold gNe; omega
        have i_148 : k51_bd.toInt ≥ 1 := by have z := g5_ne (a := k51_bd.toInt) (b := 0) (by rfl) (by decide) c_148; omega
        refine lv_aload_n hx hb dX12_law_78 rfl (lv_at hl 0 rfl) ?_
        refine va_get (D := G.1) (ci := 12) (v := .int k51_bd) (C := RX12) (T := TX12) (N := 52) hx hb hts inG_X12 hown hK hP 2 rfl rfl 14 (by decide) (hts _ fl_X12_205) (fun _ h9 => h9) rfl dX12_law_79 ?_
        refine lv_if_ne (tgt := 97) hx hb dX12_law_82 (by decide) (fun c_149 => ?_) (fun c_149 => ?_)
        ·
          have n_149 : gNe (k51_bd.toInt) (0) := by have z := g5_ne (a := k51_bd.toInt) (b := 0) (by rfl) (by decide) c_149; unfold gNe; omega
          refine lv_aload_n hx hb dX12_law_97 rfl (lv_at hl 0 rfl) ?_
          refine lv_iconst (v := 0) hx hb dX12_law_98 (by decide) ?_
          refine va_put (D := G.1) (ci := 12) (v := .int 0) (ty := .int) (C := RX12) (T := TX12) (N := 52) hx hb hts inG_X12 tyX12 tyX12_ok nmX12 hown hK hP hD hS 2 rfl rfl 8 (by decide) (hts _ fl_X12_192) (fun _ h9 => h9) rfl (by decide +kernel) rfl rfl (Nat.le_of_ble_eq_true rfl) dX12_law_99 (fun H locs hP hD hS => ?_)
          refine g5_rs [(b_rf, (arI G 7 v_rf)), (b_ro, (arI G 5740 v_ro)), (b_o, (oc12 0 u_sa b_rf b_ro b_im b_ke u_fd b_tp 0 k51_fr k51_to k51_so k51_wo k51_fa k51_bd k51_nc b_nl k51_co b_op b_ar k51_le b_pi b_pa k51_pd k51_od b_ws b_hw u_la b_se b_re u_bk u_va u_su u_ce u_ho u_wy u_bt u_ps b_pt u_tg u_sn b_ip u_ic b_ah b_be b_me u_wd b_tr b_ld u_st b_wn u_id)), (b_tp, (arI G 400 v_tp)), (b_nl, (arI G 96 k51_nl)), (b_op, (arI G 400 k51_op)), (b_ar, (arI G 400 k51_ar)), (b_pi, (arI G 400 k51_pi)), (b_pa, (arI G 400 k51_pa)), (b_ws, (arJ G 8 v_ws)), (b_hw, (arJ G 4 v_hw))] hP hD (fun hP hD => ?_)
          refine lv_aload_n hx hb dX12_law_102 rfl (lv_at hl 0 rfl) ?_
          refine va_get (D := G.1) (ci := 12) (v := .int k51_bd) (C := RX12) (T := TX12) (N := 52) hx hb hts inG_X12 hown hK hP 2 rfl rfl 14 (by decide) (hts _ fl_X12_205) (fun _ h9 => h9) rfl dX12_law_103 ?_
          refine lv_if_eq (tgt := 116) hx hb dX12_law_106 (by decide) (fun c_150 => ?_) (fun c_150 => ?_)
          ·
            have i_150 : k51_bd.toInt = 0 := by have z := g5_eq (a := k51_bd.toInt) (b := 0) (by rfl) (by decide) c_150; omega
            omega
          ·
            have n_150 : gNe (k51_bd.toInt) (0) := by have z := g5_eqN (a := k51_bd.toInt) (b := 0) (by rfl) (by decide) c_150; unfold gNe; omega
            refine lv_aload_n hx hb dX12_law_109 rfl (lv_at hl 0 rfl) ?_
            refine lv_bipush (v := (-6)) hx hb dX12_law_110 (by decide) ?_
            obtain ⟨hPc, hDc, hFc⟩ := g5_sub3 (wc := [(b_o, (oc12 0 u_sa b_rf b_ro b_im b_ke u_fd b_tp 0 k51_fr k51_to k51_so k51_wo k51_fa k51_bd k51_nc b_nl k51_co b_op b_ar k51_le b_pi b_pa k51_pd k51_od b_ws b_hw u_la b_se b_re u_bk u_va u_su u_ce u_ho u_wy u_bt u_ps b_pt u_tg u_sn b_ip u_ic b_ah b_be b_me u_wd b_tr b_ld u_st b_wn u_id)), (b_rf, (arI G 7 v_rf))]) hP hD hS hA [2, 0] (by decide) rfl
            refine va_calli (va_runV (As := [.int (-6)]) (rest := []) ⟨hx, hb, hml, hown, hts⟩ (n_tell6 l G b_o b_rf b_ro b_im b_ke b_tp b_nl b_op b_ar b_pi b_pa b_ws b_hw b_se b_re b_pt b_ip b_ah b_be b_me b_tr b_ld b_wn H.size 0 u_sa u_fd 0 k51_fr k51_to k51_so k51_fa k51_bd k51_nc k51_co k51_le k51_pd k51_od u_la u_bk u_ce u_ho u_wy u_bt u_ps u_tg u_sn u_ic u_wd u_id k51_wo u_va u_su u_st v_rf ⟨by decide, by decide⟩ i_137 i_138 i_139 i_140 i_141 i_142 h_u_la h_u_bk h_u_ce h_u_ho h_u_wy h_u_bt h_u_ps h_u_ic h_u_id) (cwV 1 hts gV_X12_125 rfl rfl rfl hv_X12_tell ⟨Nat.le_of_ble_eq_true rfl, Nat.le_of_ble_eq_true rfl⟩) (g5_preV hPc hK hDc hN hT hS hFc (ci := 12) (q0 := 0) rfl rfl) rfl rfl hl.1 rfl (lv_room (Nat.le_of_ble_eq_true rfl)) dX12_law_112 ⟨Nat.le_of_ble_eq_true rfl, Nat.le_of_ble_eq_true rfl⟩) hS (fun q _ h => hFc q h) hFc (fun r u t H1 locs ht hvm hw hB hz1 hk1 hS => ?_)
            obtain ⟨hP1, hD1⟩ := hB
            rw [ht] at hP1
            obtain ⟨z152, z153, z154, i_151, rfl, rfl⟩ := hw
            have i_151 : 0 ≤ z153.toInt ∧ z153.toInt ≤ 1 := i_151
            obtain ⟨hP, hD⟩ := va_join (wr := [(b_ro, (arI G 5740 v_ro)), (b_tp, (arI G 400 v_tp)), (b_nl, (arI G 96 k51_nl)), (b_op, (arI G 400 k51_op)), (b_ar, (arI G 400 k51_ar)), (b_pi, (arI G 400 k51_pi)), (b_pa, (arI G 400 k51_pa)), (b_ws, (arJ G 8 v_ws)), (b_hw, (arJ G 4 v_hw))]) hP hD [2, 0] [1, 3, 4, 5, 6, 7, 8, 9, 10] rfl rfl (by decide) (by decide) hk1 hFc hP1 hD1
            generalize H1 = H at hP hS ⊢
            refine g5_rs [(b_ro, (arI G 5740 v_ro)), (b_tp, (arI G 400 v_tp)), (b_nl, (arI G 96 k51_nl)), (b_op, (arI G 400 k51_op)), (b_ar, (arI G 400 k51_ar)), (b_pi, (arI G 400 k51_pi)), (b_pa, (arI G 400 k51_pa)), (b_ws, (arJ G 8 v_ws)), (b_hw, (arJ G 4 v_hw)), (b_o, (oc12 0 z152 b_rf b_ro b_im b_ke u_fd b_tp 0 k51_fr k51_to k51_so k51_wo k51_fa k51_bd k51_nc b_nl k51_co b_op b_ar k51_le b_pi b_pa k51_pd k51_od b_ws b_hw u_la b_se b_re u_bk u_va u_su u_ce u_ho u_wy u_bt u_ps b_pt u_tg u_sn b_ip z153 b_ah b_be b_me u_wd b_tr b_ld u_st b_wn u_id)), (b_rf, (arI G 7 z154))] hP hD (fun hP hD => ?_)
            exact W.iret (v := (-6)) hx hb hr (fun t ht hW => ⟨⟨(-6), [(b_o, (oc12 0 z152 b_rf b_ro b_im b_ke u_fd b_tp 0 k51_fr k51_to k51_so k51_wo k51_fa k51_bd k51_nc b_nl k51_co b_op b_ar k51_le b_pi b_pa k51_pd k51_od b_ws b_hw u_la b_se b_re u_bk u_va u_su u_ce u_ho u_wy u_bt u_ps b_pt u_tg u_sn b_ip z153 b_ah b_be b_me u_wd b_tr b_ld u_st b_wn u_id)), (b_rf, (arI G 7 z154)), (b_ro, (arI G 5740 v_ro)), (b_tp, (arI G 400 v_tp)), (b_nl, (arI G 96 k51_nl)), (b_op, (arI G 400 k51_op)), (b_ar, (arI G 400 k51_ar)), (b_pi, (arI G 400 k51_pi)), (b_pa, (arI G 400 k51_pa)), (b_ws, (arJ G 8 v_ws)), (b_hw, (arJ G 4 v_hw))], rfl, ⟨(-6), 0, z152, 0, k51_fr, k51_to, k51_so, k51_wo, k51_fa, k51_bd, k51_nc, k51_co, k51_le, k51_pd, k51_od, z153, z154, v_ro, k51_nl, k51_op, k51_ar, k51_pi, k51_pa, ⟨by have zc_o_td : (0 : Int32).toInt = 0 := (by decide); omega, by have zc_o_td : (0 : Int32).toInt = 0 := (by decide); omega⟩, i_137, i_138, i_139, i_140, i_141, i_142, i_151, r_ro, by decide, fun _ _ _ => rfl, rfl, rfl⟩, by rw [ht]; exact hP.sub [9, 10, 0, 1, 2, 3, 4, 5, 6, 7, 8] rfl, hD.sub [9, 10, 0, 1, 2, 3, 4, 5, 6, 7, 8] (by decide) rfl⟩, hS.F ht⟩) hS.2.2 dX12_law_115
        ·
          have i_149 : k51_bd.toInt = 0 := by have z := g5_neN (a := k51_bd.toInt) (b := 0) (by rfl) (by decide) c_149; omega
          omega
      ·
        have i_148 : k51_bd.toInt = 0 := by have z := g5_neN (a := k51_bd.toInt) (b := 0) (by rfl) (by decide) c_148; omega
        refine lv_aload_n hx hb dX12_law_58 rfl (lv_at hl 0 rfl) ?_
        refine lv_bipush (v := 59) hx hb dX12_law_59 (by decide) ?_
        obtain ⟨hPc, hDc, hFc⟩ := g5_sub3 (wc := [(b_o, (oc12 0 u_sa b_rf b_ro b_im b_ke u_fd b_tp u_td k51_fr k51_to k51_so k51_wo k51_fa k51_bd k51_nc b_nl k51_co b_op b_ar k51_le b_pi b_pa k51_pd k51_od b_ws b_hw u_la b_se b_re u_bk u_va u_su u_ce u_ho u_wy u_bt u_ps b_pt u_tg u_sn b_ip u_ic b_ah b_be b_me u_wd b_tr b_ld u_st b_wn u_id))]) hP hD hS hA [2] (by decide) rfl
        refine va_calli (va_runV (As := [.int 59]) (rest := []) ⟨hx, hb, hml, hown, hts⟩ (n_isSign l G b_o b_rf b_ro b_im b_ke b_tp b_nl b_op b_ar b_pi b_pa b_ws b_hw b_se b_re b_pt b_ip b_ah b_be b_me b_tr b_ld b_wn H.size 0 u_sa u_fd u_td k51_fr k51_to k51_so k51_fa k51_bd k51_nc k51_co k51_le k51_pd k51_od u_la u_bk u_ce u_ho u_wy u_bt u_ps u_tg u_sn u_ic u_wd u_id 59 k51_wo u_va u_su u_st h_u_td i_137 i_138 i_139 i_140 i_141 i_142 h_u_la h_u_bk h_u_ce h_u_ho h_u_wy h_u_bt h_u_ps h_u_ic h_u_id) (cwV 1 hts gV_X12_267 rfl rfl rfl hv_X12_isSign ⟨Nat.le_of_ble_eq_true rfl, Nat.le_of_ble_eq_true rfl⟩) (g5_preV hPc hK hDc hN hT hS hFc (ci := 12) (q0 := 0) rfl rfl) rfl rfl hl.1 rfl (lv_room (Nat.le_of_ble_eq_true rfl)) dX12_law_61 ⟨Nat.le_of_ble_eq_true rfl, Nat.le_of_ble_eq_true rfl⟩) hS (fun q _ h => hFc q h) hFc (fun r u t H1 locs ht hvm hw hB hz1 hk1 hS => ?_)
        obtain ⟨hP1, hD1⟩ := hB
        rw [ht] at hP1
        rcases hw with ⟨i_155, rfl, rfl⟩ | ⟨rfl, rfl⟩
        ·
          have i_155 : k51_so.toInt = 3 := i_155
          obtain ⟨hP, hD⟩ := va_join (wr := [(b_rf, (arI G 7 v_rf)), (b_ro, (arI G 5740 v_ro)), (b_tp, (arI G 400 v_tp)), (b_nl, (arI G 96 k51_nl)), (b_op, (arI G 400 k51_op)), (b_ar, (arI G 400 k51_ar)), (b_pi, (arI G 400 k51_pi)), (b_pa, (arI G 400 k51_pa)), (b_ws, (arJ G 8 v_ws)), (b_hw, (arJ G 4 v_hw))]) hP hD [2] [0, 1, 3, 4, 5, 6, 7, 8, 9, 10] rfl rfl (by decide) (by decide) hk1 hFc hP1 hD1
          generalize H1 = H at hP hS ⊢
          refine g5_rs [(b_rf, (arI G 7 v_rf)), (b_ro, (arI G 5740 v_ro)), (b_tp, (arI G 400 v_tp)), (b_nl, (arI G 96 k51_nl)), (b_op, (arI G 400 k51_op)), (b_ar, (arI G 400 k51_ar)), (b_pi, (arI G 400 k51_pi)), (b_pa, (arI G 400 k51_pa)), (b_ws, (arJ G 8 v_ws)), (b_hw, (arJ G 4 v_hw)), (b_o, (oc12 0 u_sa b_rf b_ro b_im b_ke u_fd b_tp u_td k51_fr k51_to k51_so k51_wo k51_fa k51_bd k51_nc b_nl k51_co b_op b_ar k51_le b_pi b_pa k51_pd k51_od b_ws b_hw u_la b_se b_re u_bk u_va u_su u_ce u_ho u_wy u_bt u_ps b_pt u_tg u_sn b_ip u_ic b_ah b_be b_me u_wd b_tr b_ld u_st b_wn u_id))] hP hD (fun hP hD => ?_)
          refine lv_if_eq (tgt := 78) hx hb dX12_law_64 (by decide) (fun c_156 => ?_) (fun c_156 => ?_)
          ·
            exact absurd c_156 (by decide)
          ·
            have hlt7 : k51_fr.toInt < k51_to.toInt := tks_lt i_145 (by omega)
            refine lv_aload_n hx hb dX12_law_67 rfl (lv_at hl 0 rfl) ?_
            obtain ⟨hPc, hDc, hFc⟩ := g5_sub3 (wc := [(b_o, (oc12 0 u_sa b_rf b_ro b_im b_ke u_fd b_tp u_td k51_fr k51_to k51_so k51_wo k51_fa k51_bd k51_nc b_nl k51_co b_op b_ar k51_le b_pi b_pa k51_pd k51_od b_ws b_hw u_la b_se b_re u_bk u_va u_su u_ce u_ho u_wy u_bt u_ps b_pt u_tg u_sn b_ip u_ic b_ah b_be b_me u_wd b_tr b_ld u_st b_wn u_id)), (b_tp, (arI G 400 v_tp))]) hP hD hS hA [10, 2] (by decide) rfl
            refine va_callv (va_runV (As := []) (rest := []) ⟨hx, hb, hml, hown, hts⟩ (n_next l G b_o b_tp b_rf b_ro b_im b_ke b_nl b_op b_ar b_pi b_pa b_ws b_hw b_se b_re b_pt b_ip b_ah b_be b_me b_tr b_ld b_wn H.size 0 u_sa u_fd u_td k51_fr k51_to k51_so k51_fa k51_bd k51_nc k51_co k51_le k51_pd k51_od u_la u_bk u_ce u_ho u_wy u_bt u_ps u_tg u_sn u_ic u_wd u_id k51_wo u_va u_su u_st v_tp h_u_td i_137 i_138 i_139 i_140 i_141 i_142 h_u_la h_u_bk h_u_ce h_u_ho h_u_wy h_u_bt h_u_ps h_u_ic h_u_id (by omega)) (cwV 0 hts gV_X12_208 rfl rfl rfl hv_X12_next ⟨Nat.le_of_ble_eq_true rfl, Nat.le_of_ble_eq_true rfl⟩) (g5_preV hPc hK hDc hN hT hS hFc (ci := 12) (q0 := 0) rfl rfl) rfl rfl hl.1 rfl (lv_room (Nat.le_of_ble_eq_true rfl)) dX12_law_68 ⟨Nat.le_of_ble_eq_true rfl, Nat.le_of_ble_eq_true rfl⟩) hS (fun q _ h => hFc q h) hFc (fun u t H1 locs ht hvm hw hB hz1 hk1 hS => ?_)
            obtain ⟨hP1, hD1⟩ := hB
            rw [ht] at hP1
            obtain ⟨z161, z162, z163, z164, i_157, i_158, i_159, i_160, rfl⟩ := hw
            have i_157 : 0 ≤ z161.toInt ∧ z161.toInt ≤ 400 := i_157
            have i_158 : 0 ≤ z162.toInt ∧ z162.toInt ≤ 400 := i_158
            have i_159 : k51_to.toInt ≤ z161.toInt ∧ z161.toInt ≤ z162.toInt ∧ z162.toInt ≤ u_td.toInt := i_159
            have i_160 : TKs z163.toInt z161.toInt z162.toInt := i_160
            obtain ⟨hP, hD⟩ := va_join (wr := [(b_rf, (arI G 7 v_rf)), (b_ro, (arI G 5740 v_ro)), (b_nl, (arI G 96 k51_nl)), (b_op, (arI G 400 k51_op)), (b_ar, (arI G 400 k51_ar)), (b_pi, (arI G 400 k51_pi)), (b_pa, (arI G 400 k51_pa)), (b_ws, (arJ G 8 v_ws)), (b_hw, (arJ G 4 v_hw))]) hP hD [10, 2] [0, 1, 3, 4, 5, 6, 7, 8, 9] rfl rfl (by decide) (by decide) hk1 hFc hP1 hD1
            generalize H1 = H at hP hS ⊢
            refine g5_rs [(b_rf, (arI G 7 v_rf)), (b_ro, (arI G 5740 v_ro)), (b_nl, (arI G 96 k51_nl)), (b_op, (arI G 400 k51_op)), (b_ar, (arI G 400 k51_ar)), (b_pi, (arI G 400 k51_pi)), (b_pa, (arI G 400 k51_pa)), (b_ws, (arJ G 8 v_ws)), (b_hw, (arJ G 4 v_hw)), (b_o, (oc12 0 u_sa b_rf b_ro b_im b_ke u_fd b_tp u_td z161 z162 z163 z164 k51_fa k51_bd k51_nc b_nl k51_co b_op b_ar k51_le b_pi b_pa k51_pd k51_od b_ws b_hw u_la b_se b_re u_bk u_va u_su u_ce u_ho u_wy u_bt u_ps b_pt u_tg u_sn b_ip u_ic b_ah b_be b_me u_wd b_tr b_ld u_st b_wn u_id)), (b_tp, (arI G 400 v_tp))] hP hD (fun hP hD => ?_)
            have hE_165 : LWJ k51_nl k51_op k51_ar k51_nc.toInt k51_co.toInt := i_143 (by omega)
            refine lv_aload_n hx hb dX12_law_71 rfl (lv_at hl 0 rfl) ?_
            obtain ⟨hPc, hDc, hFc⟩ := g5_sub3 (wc := [(b_o, (oc12 0 u_sa b_rf b_ro b_im b_ke u_fd b_tp u_td z161 z162 z163 z164 k51_fa k51_bd k51_nc b_nl k51_co b_op b_ar k51_le b_pi b_pa k51_pd k51_od b_ws b_hw u_la b_se b_re u_bk u_va u_su u_ce u_ho u_wy u_bt u_ps b_pt u_tg u_sn b_ip u_ic b_ah b_be b_me u_wd b_tr b_ld u_st b_wn u_id)), (b_tp, (arI G 400 v_tp)), (b_nl, (arI G 96 k51_nl)), (b_op, (arI G 400 k51_op)), (b_ar, (arI G 400 k51_ar)), (b_pi, (arI G 400 k51_pi)), (b_pa, (arI G 400 k51_pa)), (b_ws, (arJ G 8 v_ws)), (b_hw, (arJ G 4 v_hw))]) hP hD hS hA [9, 10, 2, 3, 4, 5, 6, 7, 8] (by decide) rfl
            refine va_callv (va_runV (As := []) (rest := []) ⟨hx, hb, hml, hown, hts⟩ (n_readClause l G b_o b_tp b_nl b_op b_ar b_pi b_pa b_ws b_hw b_rf b_ro b_im b_ke b_se b_re b_pt b_ip b_ah b_be b_me b_tr b_ld b_wn H.size 0 u_sa u_fd u_td z161 z162 z163 k51_fa k51_bd k51_nc k51_co k51_le k51_pd k51_od u_la u_bk u_ce u_ho u_wy u_bt u_ps u_tg u_sn u_ic u_wd u_id z164 u_va u_su u_st v_tp k51_nl k51_op k51_ar k51_pi k51_pa v_ws v_hw h_u_td i_157 i_158 ⟨by omega, by omega⟩ i_140 i_141 i_142 h_u_la h_u_bk h_u_ce h_u_ho h_u_wy h_u_bt h_u_ps h_u_ic h_u_id (by omega) (i_160) (by omega) (hE_165)) (cwV 0 hts gV_X12_323 rfl rfl rfl hv_X12_readClause ⟨Nat.le_of_ble_eq_true rfl, Nat.le_of_ble_eq_true rfl⟩) (g5_preV hPc hK hDc hN hT hS hFc (ci := 12) (q0 := 0) rfl rfl) rfl rfl hl.1 rfl (lv_room (Nat.le_of_ble_eq_true rfl)) dX12_law_72 ⟨Nat.le_of_ble_eq_true rfl, Nat.le_of_ble_eq_true rfl⟩) hS (fun q _ h => hFc q h) hFc (fun u t H1 locs ht hvm hw hB hz1 hk1 hS => ?_)
            obtain ⟨hP1, hD1⟩ := hB
            rw [ht] at hP1
            rcases hw with rfl | ⟨z176, z177, z178, z179, z180, z181, z182, z183, z184, z185, z186, z187, z188, z189, z190, z191, i_166, i_167, i_168, i_169, i_170, i_171, i_172, i_173, i_174, i_175, rfl⟩
            ·
              obtain ⟨hP, hD⟩ := va_join (wr := [(b_rf, (arI G 7 v_rf)), (b_ro, (arI G 5740 v_ro))]) hP hD [9, 10, 2, 3, 4, 5, 6, 7, 8] [0, 1] rfl rfl (by decide) (by decide) hk1 hFc hP1 hD1
              generalize H1 = H at hP hS ⊢
              refine g5_rs [(b_rf, (arI G 7 v_rf)), (b_ro, (arI G 5740 v_ro)), (b_o, (oc12 0 u_sa b_rf b_ro b_im b_ke u_fd b_tp u_td z161 z162 z163 z164 z161 1 k51_nc b_nl k51_co b_op b_ar k51_le b_pi b_pa k51_pd k51_od b_ws b_hw u_la b_se b_re u_bk u_va u_su u_ce u_ho u_wy u_bt u_ps b_pt u_tg u_sn b_ip u_ic b_ah b_be b_me u_wd b_tr b_ld u_st b_wn u_id)), (b_tp, (arI G 400 v_tp)), (b_nl, (arI G 96 k51_nl)), (b_op, (arI G 400 k51_op)), (b_ar, (arI G 400 k51_ar)), (b_pi, (arI G 400 k51_pi)), (b_pa, (arI G 400 k51_pa)), (b_ws, (arJ G 8 v_ws)), (b_hw, (arJ G 4 v_hw))] hP hD (fun hP hD => ?_)
              refine lv_goto (tgt := 51) hx hb dX12_law_75 (by decide) ?_
              exact ih_51_147 (z161, z162, z163, z164, z161, 1, k51_nc, k51_co, k51_le, k51_pd, k51_od, k51_nl, k51_op, k51_ar, k51_pi, k51_pa) ls H locs (show Int.toNat (400 - z161.toInt) < Int.toNat (400 - k51_fr.toInt) from g_up (show k51_fr.toInt < z161.toInt by omega) (show k51_fr.toInt < 400 by omega)) ⟨lv_sub hl [0] rfl, hP, hD, hS, i_157, i_158, ⟨by decide, by decide⟩, i_140, i_141, i_142, fun q9 => absurd q9 (by decide), by omega, i_160, by omega⟩
            ·
              have i_166 : 0 ≤ z176.toInt ∧ z176.toInt ≤ 400 := i_166
              have i_167 : 0 ≤ z177.toInt ∧ z177.toInt ≤ 400 := i_167
              have i_168 : 0 ≤ z181.toInt ∧ z181.toInt ≤ 1 := i_168
              have i_169 : 0 ≤ z182.toInt ∧ z182.toInt ≤ 12 := i_169
              have i_170 : 0 ≤ z183.toInt ∧ z183.toInt ≤ 400 := i_170
              have i_171 : 0 ≤ z185.toInt ∧ z185.toInt ≤ 400 := i_171
              have i_172 : z161.toInt ≤ z176.toInt ∧ z176.toInt ≤ z177.toInt ∧ z177.toInt ≤ u_td.toInt := i_172
              have i_173 : TKs z178.toInt z176.toInt z177.toInt := i_173
              have i_174 : z183.toInt ≤ z176.toInt := i_174
              have i_175 : z181.toInt = 0 → LWJ z187 z188 z189 z182.toInt z183.toInt := i_175
              obtain ⟨hP, hD⟩ := va_join (wr := [(b_rf, (arI G 7 v_rf)), (b_ro, (arI G 5740 v_ro))]) hP hD [9, 10, 2, 3, 4, 5, 6, 7, 8] [0, 1] rfl rfl (by decide) (by decide) hk1 hFc hP1 hD1
              generalize H1 = H at hP hS ⊢
              refine g5_rs [(b_rf, (arI G 7 v_rf)), (b_ro, (arI G 5740 v_ro)), (b_o, (oc12 0 u_sa b_rf b_ro b_im b_ke u_fd b_tp u_td z176 z177 z178 z179 z180 z181 z182 b_nl z183 b_op b_ar z184 b_pi b_pa z185 z186 b_ws b_hw u_la b_se b_re u_bk u_va u_su u_ce u_ho u_wy u_bt u_ps b_pt u_tg u_sn b_ip u_ic b_ah b_be b_me u_wd b_tr b_ld u_st b_wn u_id)), (b_tp, (arI G 400 v_tp)), (b_nl, (arI G 96 z187)), (b_op, (arI G 400 z188)), (b_ar, (arI G 400 z189)), (b_pi, (arI G 400 z190)), (b_pa, (arI G 400 z191)), (b_ws, (arJ G 8 v_ws)), (b_hw, (arJ G 4 v_hw))] hP hD (fun hP hD => ?_)
              refine lv_goto (tgt := 51) hx hb dX12_law_75 (by decide) ?_
              exact ih_51_147 (z176, z177, z178, z179, z180, z181, z182, z183, z184, z185, z186, z187, z188, z189, z190, z191) ls H locs (show Int.toNat (400 - z176.toInt) < Int.toNat (400 - k51_fr.toInt) from g_up (show k51_fr.toInt < z176.toInt by omega) (show k51_fr.toInt < 400 by omega)) ⟨lv_sub hl [0] rfl, hP, hD, hS, i_166, i_167, i_168, i_169, i_170, i_171, i_175, by omega, i_173, by omega⟩
        ·
          obtain ⟨hP, hD⟩ := va_join (wr := [(b_rf, (arI G 7 v_rf)), (b_ro, (arI G 5740 v_ro)), (b_tp, (arI G 400 v_tp)), (b_nl, (arI G 96 k51_nl)), (b_op, (arI G 400 k51_op)), (b_ar, (arI G 400 k51_ar)), (b_pi, (arI G 400 k51_pi)), (b_pa, (arI G 400 k51_pa)), (b_ws, (arJ G 8 v_ws)), (b_hw, (arJ G 4 v_hw))]) hP hD [2] [0, 1, 3, 4, 5, 6, 7, 8, 9, 10] rfl rfl (by decide) (by decide) hk1 hFc hP1 hD1
          generalize H1 = H at hP hS ⊢
          refine g5_rs [(b_rf, (arI G 7 v_rf)), (b_ro, (arI G 5740 v_ro)), (b_tp, (arI G 400 v_tp)), (b_nl, (arI G 96 k51_nl)), (b_op, (arI G 400 k51_op)), (b_ar, (arI G 400 k51_ar)), (b_pi, (arI G 400 k51_pi)), (b_pa, (arI G 400 k51_pa)), (b_ws, (arJ G 8 v_ws)), (b_hw, (arJ G 4 v_hw)), (b_o, (oc12 0 u_sa b_rf b_ro b_im b_ke u_fd b_tp u_td k51_fr k51_to k51_so k51_wo k51_fa k51_bd k51_nc b_nl k51_co b_op b_ar k51_le b_pi b_pa k51_pd k51_od b_ws b_hw u_la b_se b_re u_bk u_va u_su u_ce u_ho u_wy u_bt u_ps b_pt u_tg u_sn b_ip u_ic b_ah b_be b_me u_wd b_tr b_ld u_st b_wn u_id))] hP hD (fun hP hD => ?_)
          refine lv_if_eq (tgt := 78) hx hb dX12_law_64 (by decide) (fun c_192 => ?_) (fun c_192 => ?_)
          ·
            refine lv_aload_n hx hb dX12_law_78 rfl (lv_at hl 0 rfl) ?_
            refine va_get (D := G.1) (ci := 12) (v := .int k51_bd) (C := RX12) (T := TX12) (N := 52) hx hb hts inG_X12 hown hK hP 10 rfl rfl 14 (by decide) (hts _ fl_X12_205) (fun _ h9 => h9) rfl dX12_law_79 ?_
            refine lv_if_ne (tgt := 97) hx hb dX12_law_82 (by decide) (fun c_193 => ?_) (fun c_193 => ?_)
            ·
              have i_193 : k51_bd.toInt ≠ 0 := by have z := g5_ne (a := k51_bd.toInt) (b := 0) (by rfl) (by decide) c_193; omega
              omega
            ·
              have i_193 : k51_bd.toInt = 0 := by have z := g5_neN (a := k51_bd.toInt) (b := 0) (by rfl) (by decide) c_193; omega
              refine lv_aload_n hx hb dX12_law_85 rfl (lv_at hl 0 rfl) ?_
              refine va_get (D := G.1) (ci := 12) (v := .int k51_so) (C := RX12) (T := TX12) (N := 52) hx hb hts inG_X12 hown hK hP 10 rfl rfl 11 (by decide) (hts _ fl_X12_224) (fun _ h9 => h9) rfl dX12_law_86 ?_
              refine lv_if_eq (tgt := 97) hx hb dX12_law_89 (by decide) (fun c_194 => ?_) (fun c_194 => ?_)
              ·
                have i_194 : k51_so.toInt = 0 := by have z := g5_eq (a := k51_so.toInt) (b := 0) (by rfl) (by decide) c_194; omega
                refine lv_aload_n hx hb dX12_law_97 rfl (lv_at hl 0 rfl) ?_
                refine lv_iconst (v := 0) hx hb dX12_law_98 (by decide) ?_
                refine va_put (D := G.1) (ci := 12) (v := .int 0) (ty := .int) (C := RX12) (T := TX12) (N := 52) hx hb hts inG_X12 tyX12 tyX12_ok nmX12 hown hK hP hD hS 10 rfl rfl 8 (by decide) (hts _ fl_X12_192) (fun _ h9 => h9) rfl (by decide +kernel) rfl rfl (Nat.le_of_ble_eq_true rfl) dX12_law_99 (fun H locs hP hD hS => ?_)
                refine g5_rs [(b_rf, (arI G 7 v_rf)), (b_ro, (arI G 5740 v_ro)), (b_tp, (arI G 400 v_tp)), (b_nl, (arI G 96 k51_nl)), (b_op, (arI G 400 k51_op)), (b_ar, (arI G 400 k51_ar)), (b_pi, (arI G 400 k51_pi)), (b_pa, (arI G 400 k51_pa)), (b_ws, (arJ G 8 v_ws)), (b_hw, (arJ G 4 v_hw)), (b_o, (oc12 0 u_sa b_rf b_ro b_im b_ke u_fd b_tp 0 k51_fr k51_to k51_so k51_wo k51_fa k51_bd k51_nc b_nl k51_co b_op b_ar k51_le b_pi b_pa k51_pd k51_od b_ws b_hw u_la b_se b_re u_bk u_va u_su u_ce u_ho u_wy u_bt u_ps b_pt u_tg u_sn b_ip u_ic b_ah b_be b_me u_wd b_tr b_ld u_st b_wn u_id))] hP hD (fun hP hD => ?_)
                refine lv_aload_n hx hb dX12_law_102 rfl (lv_at hl 0 rfl) ?_
                refine va_get (D := G.1) (ci := 12) (v := .int k51_bd) (C := RX12) (T := TX12) (N := 52) hx hb hts inG_X12 hown hK hP 10 rfl rfl 14 (by decide) (hts _ fl_X12_205) (fun _ h9 => h9) rfl dX12_law_103 ?_
                refine lv_if_eq (tgt := 116) hx hb dX12_law_106 (by decide) (fun c_195 => ?_) (fun c_195 => ?_)
                ·
                  have i_195 : k51_bd.toInt = 0 := by have z := g5_eq (a := k51_bd.toInt) (b := 0) (by rfl) (by decide) c_195; omega
                  refine lv_sipush (v := 340) hx hb dX12_law_116 (by decide) ?_
                  refine lv_sipush (v := 900) hx hb dX12_law_119 (by decide) ?_
                  refine lv_aload_n hx hb dX12_law_122 rfl (lv_at hl 0 rfl) ?_
                  refine va_get (D := G.1) (ci := 12) (v := .ref b_ro) (C := RX12) (T := TX12) (N := 52) hx hb hts inG_X12 hown hK hP 10 rfl rfl 3 (by decide) (hts _ fl_X12_13) (fun _ h9 => h9) rfl dX12_law_123 ?_
                  refine lv_iconst (v := 2) hx hb dX12_law_126 (by decide) ?_
                  refine va_iald hx hb hK hP 1 0 rfl rfl (i := 2) (by unfold vp_in; decide) dX12_law_127 ?_
                  refine g5_ti (v := (v_ro 2)) rfl ?_
                  have hr_196 : 0 ≤ (v_ro 2).toInt ∧ (v_ro 2).toInt ≤ 6 := mi_2 r_ro
                  refine lv_imul hx hb dX12_law_128 ?_
                  have t_197 : (900 * (v_ro 2)).toInt = 900 * (v_ro 2).toInt := g5_imul (a := 900) (b := (v_ro 2).toInt) (by decide) (by rfl) (by omega) (by omega)
                  refine lv_iadd hx hb dX12_law_129 ?_
                  have t_198 : (340 + (900 * (v_ro 2))).toInt = 340 + (900 * (v_ro 2)).toInt := g5_iadd (a := 340) (b := (900 * (v_ro 2)).toInt) (by decide) (by rfl) (by omega) (by omega)
                  refine lv_istore_n (lv' := [(1, .int (340 + (900 * (v_ro 2)))), (0, .ref b_o)]) hx hb dX12_law_130 rfl hl (by decide) rfl (fun ls hl => ?_)
                  refine lv_aload_n hx hb dX12_law_131 rfl (lv_at hl 1 rfl) ?_
                  refine va_get (D := G.1) (ci := 12) (v := .ref b_ro) (C := RX12) (T := TX12) (N := 52) hx hb hts inG_X12 hown hK hP 10 rfl rfl 3 (by decide) (hts _ fl_X12_13) (fun _ h9 => h9) rfl dX12_law_132 ?_
                  refine lv_iload_n hx hb dX12_law_135 rfl (lv_at hl 0 rfl) ?_
                  refine lv_iconst (v := 1) hx hb dX12_law_136 (by decide) ?_
                  refine lv_iadd hx hb dX12_law_137 ?_
                  have t_199 : ((340 + (900 * (v_ro 2))) + 1).toInt = (340 + (900 * (v_ro 2))).toInt + 1 := g5_iadd (a := (340 + (900 * (v_ro 2))).toInt) (b := 1) (by rfl) (by decide) (by omega) (by omega)
                  refine lv_aload_n hx hb dX12_law_138 rfl (lv_at hl 1 rfl) ?_
                  refine va_get (D := G.1) (ci := 12) (v := .int k51_nc) (C := RX12) (T := TX12) (N := 52) hx hb hts inG_X12 hown hK hP 10 rfl rfl 15 (by decide) (hts _ fl_X12_312) (fun _ h9 => h9) rfl dX12_law_139 ?_
                  refine va_iast hx hb hK hP hD hS 1 0 rfl rfl (i := ((340 + (900 * (v_ro 2))) + 1)) (x := k51_nc) (vp_in_iff.mpr ⟨by omega, by omega⟩) dX12_law_142 (fun H locs hP hD hS => ?_)
                  refine g5_rs [(b_rf, (arI G 7 v_rf)), (b_ro, (arI G 5740 (upd v_ro ((340 + (900 * (v_ro 2))) + 1).toNatClampNeg k51_nc))), (b_tp, (arI G 400 v_tp)), (b_nl, (arI G 96 k51_nl)), (b_op, (arI G 400 k51_op)), (b_ar, (arI G 400 k51_ar)), (b_pi, (arI G 400 k51_pi)), (b_pa, (arI G 400 k51_pa)), (b_ws, (arJ G 8 v_ws)), (b_hw, (arJ G 4 v_hw)), (b_o, (oc12 0 u_sa b_rf b_ro b_im b_ke u_fd b_tp 0 k51_fr k51_to k51_so k51_wo k51_fa k51_bd k51_nc b_nl k51_co b_op b_ar k51_le b_pi b_pa k51_pd k51_od b_ws b_hw u_la b_se b_re u_bk u_va u_su u_ce u_ho u_wy u_bt u_ps b_pt u_tg u_sn b_ip u_ic b_ah b_be b_me u_wd b_tr b_ld u_st b_wn u_id))] hP hD (fun hP hD => ?_)
                  refine lv_iconst (v := 0) hx hb dX12_law_143 (by decide) ?_
                  refine lv_istore_n (lv' := [(2, .int 0), (1, .int (340 + (900 * (v_ro 2)))), (0, .ref b_o)]) hx hb dX12_law_144 rfl hl (by decide) rfl (fun ls hl => ?_)
                  refine g5_loop (α := (Int32) × (Nat → Int32)) (fun (q : (Int32) × (Nat → Int32)) (ls : Array Slot) (H : Heap) (locs : List Loc) => match q with | (k145_2, k145_ro) => lv_has ls 3 [(2, .int k145_2), (1, .int (340 + (900 * (v_ro 2)))), (0, .ref b_o)] ∧ va_P G.1 vwCl [(b_rf, (arI G 7 v_rf)), (b_ro, (arI G 5740 k145_ro)), (b_tp, (arI G 400 v_tp)), (b_nl, (arI G 96 k51_nl)), (b_op, (arI G 400 k51_op)), (b_ar, (arI G 400 k51_ar)), (b_pi, (arI G 400 k51_pi)), (b_pa, (arI G 400 k51_pa)), (b_ws, (arJ G 8 v_ws)), (b_hw, (arJ G 4 v_hw)), (b_o, (oc12 0 u_sa b_rf b_ro b_im b_ke u_fd b_tp 0 k51_fr k51_to k51_so k51_wo k51_fa k51_bd k51_nc b_nl k51_co b_op b_ar k51_le b_pi b_pa k51_pd k51_od b_ws b_hw u_la b_se b_re u_bk u_va u_su u_ce u_ho u_wy u_bt u_ps b_pt u_tg u_sn b_ip u_ic b_ah b_be b_me u_wd b_tr b_ld u_st b_wn u_id))] H ∧ va_D A [(b_rf, (arI G 7 v_rf)), (b_ro, (arI G 5740 k145_ro)), (b_tp, (arI G 400 v_tp)), (b_nl, (arI G 96 k51_nl)), (b_op, (arI G 400 k51_op)), (b_ar, (arI G 400 k51_ar)), (b_pi, (arI G 400 k51_pi)), (b_pa, (arI G 400 k51_pa)), (b_ws, (arJ G 8 v_ws)), (b_hw, (arJ G 4 v_hw)), (b_o, (oc12 0 u_sa b_rf b_ro b_im b_ke u_fd b_tp 0 k51_fr k51_to k51_so k51_wo k51_fa k51_bd k51_nc b_nl k51_co b_op b_ar k51_le b_pi b_pa k51_pd k51_od b_ws b_hw u_la b_se b_re u_bk u_va u_su u_ce u_ho u_wy u_bt u_ps b_pt u_tg u_sn b_ip u_ic b_ah b_be b_me u_wd b_tr b_ld u_st b_wn u_id))] ∧ va_S A s.heap H locs ∧ (0 ≤ k145_2.toInt ∧ k145_2.toInt ≤ 96) ∧ (k145_2.toInt ≤ 8 * k51_nc.toInt) ∧ (∀ j : Nat, (j : Int) < k145_2.toInt → k145_ro ((340 + (900 * (v_ro 2))).toNatClampNeg + 2 + j) = k51_nl j) ∧ (∀ j : Nat, (j < (340 + (900 * (v_ro 2))).toNatClampNeg + 2 ∨ (340 + (900 * (v_ro 2))).toNatClampNeg + 98 ≤ j) → k145_ro j = (upd v_ro ((340 + (900 * (v_ro 2))) + 1).toNatClampNeg k51_nc) j)) (fun (q : (Int32) × (Nat → Int32)) => match q with | (k145_2, k145_ro) => Int.toNat (96 - k145_2.toInt)) (0, (upd v_ro ((340 + (900 * (v_ro 2))) + 1).toNatClampNeg k51_nc)) ⟨lv_sub hl [0, 1, 2] rfl, hP, hD, hS, ⟨by decide, by decide⟩, by have z : (0 : Int32).toInt = 0 := (by decide); omega, fun j h9 => absurd h9 (by have z : (0 : Int32).toInt = 0 := (by decide); omega), fun _ _ => rfl⟩ ?_
                  rintro ⟨k145_2, k145_ro⟩ ls H locs ⟨hl, hP, hD, hS, i_200, i_201, i_202, i_203⟩ ih_145_204
                  have hl : lv_has ls 3 [(2, .int k145_2), (1, .int (340 + (900 * (v_ro 2)))), (0, .ref b_o)] := hl
                  have i_200 : 0 ≤ k145_2.toInt ∧ k145_2.toInt ≤ 96 := i_200
                  have i_201 : k145_2.toInt ≤ 8 * k51_nc.toInt := i_201
                  have i_202 : ∀ j : Nat, (j : Int) < k145_2.toInt → k145_ro ((340 + (900 * (v_ro 2))).toNatClampNeg + 2 + j) = k51_nl j := i_202
                  have i_203 : ∀ j : Nat, (j < (340 + (900 * (v_ro 2))).toNatClampNeg + 2 ∨ (340 + (900 * (v_ro 2))).toNatClampNeg + 98 ≤ j) → k145_ro j = (upd v_ro ((340 + (900 * (v_ro 2))) + 1).toNatClampNeg k51_nc) j := i_203
                  refine g5_rs [(b_rf, (arI G 7 v_rf)), (b_ro, (arI G 5740 k145_ro)), (b_tp, (arI G 400 v_tp)), (b_nl, (arI G 96 k51_nl)), (b_op, (arI G 400 k51_op)), (b_ar, (arI G 400 k51_ar)), (b_pi, (arI G 400 k51_pi)), (b_pa, (arI G 400 k51_pa)), (b_ws, (arJ G 8 v_ws)), (b_hw, (arJ G 4 v_hw)), (b_o, (oc12 0 u_sa b_rf b_ro b_im b_ke u_fd b_tp 0 k51_fr k51_to k51_so k51_wo k51_fa k51_bd k51_nc b_nl k51_co b_op b_ar k51_le b_pi b_pa k51_pd k51_od b_ws b_hw u_la b_se b_re u_bk u_va u_su u_ce u_ho u_wy u_bt u_ps b_pt u_tg u_sn b_ip u_ic b_ah b_be b_me u_wd b_tr b_ld u_st b_wn u_id))] hP hD (fun hP hD => ?_)
                  refine lv_iload_n hx hb dX12_law_145 rfl (lv_at hl 0 rfl) ?_
                  refine lv_bipush (v := 8) hx hb dX12_law_146 (by decide) ?_
                  refine lv_aload_n hx hb dX12_law_148 rfl (lv_at hl 2 rfl) ?_
                  refine va_get (D := G.1) (ci := 12) (v := .int k51_nc) (C := RX12) (T := TX12) (N := 52) hx hb hts inG_X12 hown hK hP 10 rfl rfl 15 (by decide) (hts _ fl_X12_312) (fun _ h9 => h9) rfl dX12_law_149 ?_
                  refine lv_imul hx hb dX12_law_152 ?_
                  have t_205 : (8 * k51_nc).toInt = 8 * k51_nc.toInt := g5_imul (a := 8) (b := k51_nc.toInt) (by decide) (by rfl) (by omega) (by omega)
                  refine lv_icmp_ge (tgt := 178) hx hb dX12_law_153 (by decide) (fun c_206 => ?_) (fun c_206 => ?_)
                  ·
                    have i_206 : k145_2.toInt ≥ (8 * k51_nc.toInt) := by have z := g5_ge (a := k145_2.toInt) (b := (8 * k51_nc).toInt) (by rfl) (by rfl) c_206; omega
                    refine lv_iconst (v := 0) hx hb dX12_law_178 (by decide) ?_
                    refine lv_istore_n (lv' := [(2, .int 0), (1, .int (340 + (900 * (v_ro 2)))), (0, .ref b_o)]) hx hb dX12_law_179 rfl hl (by decide) rfl (fun ls hl => ?_)
                    refine g5_loop (α := (Int32) × (Nat → Int32)) (fun (q : (Int32) × (Nat → Int32)) (ls : Array Slot) (H : Heap) (locs : List Loc) => match q with | (k180_2, k180_ro) => lv_has ls 3 [(2, .int k180_2), (1, .int (340 + (900 * (v_ro 2)))), (0, .ref b_o)] ∧ va_P G.1 vwCl [(b_rf, (arI G 7 v_rf)), (b_ro, (arI G 5740 k180_ro)), (b_tp, (arI G 400 v_tp)), (b_nl, (arI G 96 k51_nl)), (b_op, (arI G 400 k51_op)), (b_ar, (arI G 400 k51_ar)), (b_pi, (arI G 400 k51_pi)), (b_pa, (arI G 400 k51_pa)), (b_ws, (arJ G 8 v_ws)), (b_hw, (arJ G 4 v_hw)), (b_o, (oc12 0 u_sa b_rf b_ro b_im b_ke u_fd b_tp 0 k51_fr k51_to k51_so k51_wo k51_fa k51_bd k51_nc b_nl k51_co b_op b_ar k51_le b_pi b_pa k51_pd k51_od b_ws b_hw u_la b_se b_re u_bk u_va u_su u_ce u_ho u_wy u_bt u_ps b_pt u_tg u_sn b_ip u_ic b_ah b_be b_me u_wd b_tr b_ld u_st b_wn u_id))] H ∧ va_D A [(b_rf, (arI G 7 v_rf)), (b_ro, (arI G 5740 k180_ro)), (b_tp, (arI G 400 v_tp)), (b_nl, (arI G 96 k51_nl)), (b_op, (arI G 400 k51_op)), (b_ar, (arI G 400 k51_ar)), (b_pi, (arI G 400 k51_pi)), (b_pa, (arI G 400 k51_pa)), (b_ws, (arJ G 8 v_ws)), (b_hw, (arJ G 4 v_hw)), (b_o, (oc12 0 u_sa b_rf b_ro b_im b_ke u_fd b_tp 0 k51_fr k51_to k51_so k51_wo k51_fa k51_bd k51_nc b_nl k51_co b_op b_ar k51_le b_pi b_pa k51_pd k51_od b_ws b_hw u_la b_se b_re u_bk u_va u_su u_ce u_ho u_wy u_bt u_ps b_pt u_tg u_sn b_ip u_ic b_ah b_be b_me u_wd b_tr b_ld u_st b_wn u_id))] ∧ va_S A s.heap H locs ∧ (0 ≤ k180_2.toInt ∧ k180_2.toInt ≤ 400) ∧ (k180_2.toInt ≤ k51_co.toInt) ∧ (∀ j : Nat, (j : Int) < k180_2.toInt → k180_ro ((340 + (900 * (v_ro 2))).toNatClampNeg + 98 + 2 * j) = k51_op j ∧ k180_ro ((340 + (900 * (v_ro 2))).toNatClampNeg + 98 + 2 * j + 1) = k51_ar j) ∧ (∀ j : Nat, (j < (340 + (900 * (v_ro 2))).toNatClampNeg + 98 ∨ (340 + (900 * (v_ro 2))).toNatClampNeg + 900 ≤ j) → k180_ro j = k145_ro j)) (fun (q : (Int32) × (Nat → Int32)) => match q with | (k180_2, k180_ro) => Int.toNat (400 - k180_2.toInt)) (0, k145_ro) ⟨lv_sub hl [0, 1, 2] rfl, hP, hD, hS, ⟨by decide, by decide⟩, by have z : (0 : Int32).toInt = 0 := (by decide); omega, fun j h9 => absurd h9 (by have z : (0 : Int32).toInt = 0 := (by decide); omega), fun _ _ => rfl⟩ ?_
                    rintro ⟨k180_2, k180_ro⟩ ls H locs ⟨hl, hP, hD, hS, i_207, i_208, i_209, i_210⟩ ih_180_211
                    have hl : lv_has ls 3 [(2, .int k180_2), (1, .int (340 + (900 * (v_ro 2)))), (0, .ref b_o)] := hl
                    have i_207 : 0 ≤ k180_2.toInt ∧ k180_2.toInt ≤ 400 := i_207
                    have i_208 : k180_2.toInt ≤ k51_co.toInt := i_208
                    have i_209 : ∀ j : Nat, (j : Int) < k180_2.toInt → k180_ro ((340 + (900 * (v_ro 2))).toNatClampNeg + 98 + 2 * j) = k51_op j ∧ k180_ro ((340 + (900 * (v_ro 2))).toNatClampNeg + 98 + 2 * j + 1) = k51_ar j := i_209
                    have i_210 : ∀ j : Nat, (j < (340 + (900 * (v_ro 2))).toNatClampNeg + 98 ∨ (340 + (900 * (v_ro 2))).toNatClampNeg + 900 ≤ j) → k180_ro j = k145_ro j := i_210
                    refine g5_rs [(b_rf, (arI G 7 v_rf)), (b_ro, (arI G 5740 k180_ro)), (b_tp, (arI G 400 v_tp)), (b_nl, (arI G 96 k51_nl)), (b_op, (arI G 400 k51_op)), (b_ar, (arI G 400 k51_ar)), (b_pi, (arI G 400 k51_pi)), (b_pa, (arI G 400 k51_pa)), (b_ws, (arJ G 8 v_ws)), (b_hw, (arJ G 4 v_hw)), (b_o, (oc12 0 u_sa b_rf b_ro b_im b_ke u_fd b_tp 0 k51_fr k51_to k51_so k51_wo k51_fa k51_bd k51_nc b_nl k51_co b_op b_ar k51_le b_pi b_pa k51_pd k51_od b_ws b_hw u_la b_se b_re u_bk u_va u_su u_ce u_ho u_wy u_bt u_ps b_pt u_tg u_sn b_ip u_ic b_ah b_be b_me u_wd b_tr b_ld u_st b_wn u_id))] hP hD (fun hP hD => ?_)
                    refine lv_iload_n hx hb dX12_law_180 rfl (lv_at hl 0 rfl) ?_
                    refine lv_aload_n hx hb dX12_law_181 rfl (lv_at hl 2 rfl) ?_
                    refine va_get (D := G.1) (ci := 12) (v := .int k51_co) (C := RX12) (T := TX12) (N := 52) hx hb hts inG_X12 hown hK hP 10 rfl rfl 17 (by decide) (hts _ fl_X12_237) (fun _ h9 => h9) rfl dX12_law_182 ?_
                    refine lv_icmp_ge (tgt := 234) hx hb dX12_law_185 (by decide) (fun c_212 => ?_) (fun c_212 => ?_)
                    ·
                      have i_212 : k180_2.toInt ≥ k51_co.toInt := by have z := g5_ge (a := k180_2.toInt) (b := k51_co.toInt) (by rfl) (by rfl) c_212; omega
                      refine lv_aload_n hx hb dX12_law_234 rfl (lv_at hl 2 rfl) ?_
                      refine va_get (D := G.1) (ci := 12) (v := .ref b_ro) (C := RX12) (T := TX12) (N := 52) hx hb hts inG_X12 hown hK hP 10 rfl rfl 3 (by decide) (hts _ fl_X12_13) (fun _ h9 => h9) rfl dX12_law_235 ?_
                      refine lv_iconst (v := 2) hx hb dX12_law_238 (by decide) ?_
                      refine lv_dup2_11 hx hb dX12_law_239 rfl rfl ?_
                      refine va_iald hx hb hK hP 1 0 rfl rfl (i := 2) (by unfold vp_in; decide) dX12_law_240 ?_
                      refine g5_ti (v := (k180_ro 2)) rfl ?_
                      have h29_213 : (k180_ro 2) = (v_ro 2) := by rw [i_210 2 (by have zz := g5_clamp (340 + (900 * (v_ro 2))); omega), i_203 2 (by have zz := g5_clamp (340 + (900 * (v_ro 2))); omega), upd_ne (by have zz := g5_clamp ((340 + (900 * (v_ro 2))) + 1); omega)]
                      refine g5_ti (v := (v_ro 2)) h29_213 ?_
                      refine lv_iconst (v := 1) hx hb dX12_law_241 (by decide) ?_
                      refine lv_iadd hx hb dX12_law_242 ?_
                      have t_214 : ((v_ro 2) + 1).toInt = (v_ro 2).toInt + 1 := g5_iadd (a := (v_ro 2).toInt) (b := 1) (by rfl) (by decide) (by omega) (by omega)
                      refine va_iast hx hb hK hP hD hS 1 0 rfl rfl (i := 2) (x := ((v_ro 2) + 1)) (by unfold vp_in; decide) dX12_law_243 (fun H locs hP hD hS => ?_)
                      refine g5_rs [(b_rf, (arI G 7 v_rf)), (b_ro, (arI G 5740 (upd k180_ro 2 ((v_ro 2) + 1)))), (b_tp, (arI G 400 v_tp)), (b_nl, (arI G 96 k51_nl)), (b_op, (arI G 400 k51_op)), (b_ar, (arI G 400 k51_ar)), (b_pi, (arI G 400 k51_pi)), (b_pa, (arI G 400 k51_pa)), (b_ws, (arJ G 8 v_ws)), (b_hw, (arJ G 4 v_hw)), (b_o, (oc12 0 u_sa b_rf b_ro b_im b_ke u_fd b_tp 0 k51_fr k51_to k51_so k51_wo k51_fa k51_bd k51_nc b_nl k51_co b_op b_ar k51_le b_pi b_pa k51_pd k51_od b_ws b_hw u_la b_se b_re u_bk u_va u_su u_ce u_ho u_wy u_bt u_ps b_pt u_tg u_sn b_ip u_ic b_ah b_be b_me u_wd b_tr b_ld u_st b_wn u_id))] hP hD (fun hP hD => ?_)
                      refine lv_aload_n hx hb dX12_law_244 rfl (lv_at hl 2 rfl) ?_
                      refine lv_aload_n hx hb dX12_law_245 rfl (lv_at hl 2 rfl) ?_
                      refine va_get (D := G.1) (ci := 12) (v := .ref b_ro) (C := RX12) (T := TX12) (N := 52) hx hb hts inG_X12 hown hK hP 10 rfl rfl 3 (by decide) (hts _ fl_X12_13) (fun _ h9 => h9) rfl dX12_law_246 ?_
                      refine lv_iconst (v := 2) hx hb dX12_law_249 (by decide) ?_
                      refine va_iald hx hb hK hP 1 0 rfl rfl (i := 2) (by unfold vp_in; decide) dX12_law_250 ?_
                      refine g5_ti (v := ((v_ro 2) + 1)) rfl ?_
                      refine lv_iconst (v := 1) hx hb dX12_law_251 (by decide) ?_
                      refine lv_isub hx hb dX12_law_252 ?_
                      have t_215 : (((v_ro 2) + 1) - 1).toInt = ((v_ro 2) + 1).toInt - 1 := g5_isub (a := ((v_ro 2) + 1).toInt) (b := 1) (by rfl) (by decide) (by omega) (by omega)
                      obtain ⟨hPc, hDc, hFc⟩ := g5_sub3 (wc := [(b_o, (oc12 0 u_sa b_rf b_ro b_im b_ke u_fd b_tp 0 k51_fr k51_to k51_so k51_wo k51_fa k51_bd k51_nc b_nl k51_co b_op b_ar k51_le b_pi b_pa k51_pd k51_od b_ws b_hw u_la b_se b_re u_bk u_va u_su u_ce u_ho u_wy u_bt u_ps b_pt u_tg u_sn b_ip u_ic b_ah b_be b_me u_wd b_tr b_ld u_st b_wn u_id)), (b_rf, (arI G 7 v_rf))]) hP hD hS hA [10, 0] (by decide) rfl
                      refine va_calli (va_runV (As := [.int (((v_ro 2) + 1) - 1)]) (rest := []) ⟨hx, hb, hml, hown, hts⟩ (n_tell l G b_o b_rf b_ro b_im b_ke b_tp b_nl b_op b_ar b_pi b_pa b_ws b_hw b_se b_re b_pt b_ip b_ah b_be b_me b_tr b_ld b_wn H.size 0 u_sa u_fd 0 k51_fr k51_to k51_so k51_fa k51_bd k51_nc k51_co k51_le k51_pd k51_od u_la u_bk u_ce u_ho u_wy u_bt u_ps u_tg u_sn u_ic u_wd u_id (((v_ro 2) + 1) - 1) k51_wo u_va u_su u_st v_rf ⟨by decide, by decide⟩ i_137 i_138 i_139 i_140 i_141 i_142 h_u_la h_u_bk h_u_ce h_u_ho h_u_wy h_u_bt h_u_ps h_u_ic h_u_id ⟨by omega, by omega⟩) (cwV 1 hts gV_X12_125 rfl rfl rfl hv_X12_tell ⟨Nat.le_of_ble_eq_true rfl, Nat.le_of_ble_eq_true rfl⟩) (g5_preV hPc hK hDc hN hT hS hFc (ci := 12) (q0 := 0) rfl rfl) rfl rfl hl.1 rfl (lv_room (Nat.le_of_ble_eq_true rfl)) dX12_law_253 ⟨Nat.le_of_ble_eq_true rfl, Nat.le_of_ble_eq_true rfl⟩) hS (fun q _ h => hFc q h) hFc (fun r u t H1 locs ht hvm hw hB hz1 hk1 hS => ?_)
                      obtain ⟨hP1, hD1⟩ := hB
                      rw [ht] at hP1
                      obtain ⟨z217, z218, z219, i_216, rfl, rfl⟩ := hw
                      have i_216 : 0 ≤ z218.toInt ∧ z218.toInt ≤ 1 := i_216
                      obtain ⟨hP, hD⟩ := va_join (wr := [(b_ro, (arI G 5740 (upd k180_ro 2 ((v_ro 2) + 1)))), (b_tp, (arI G 400 v_tp)), (b_nl, (arI G 96 k51_nl)), (b_op, (arI G 400 k51_op)), (b_ar, (arI G 400 k51_ar)), (b_pi, (arI G 400 k51_pi)), (b_pa, (arI G 400 k51_pa)), (b_ws, (arJ G 8 v_ws)), (b_hw, (arJ G 4 v_hw))]) hP hD [10, 0] [1, 2, 3, 4, 5, 6, 7, 8, 9] rfl rfl (by decide) (by decide) hk1 hFc hP1 hD1
                      generalize H1 = H at hP hS ⊢
                      refine g5_rs [(b_ro, (arI G 5740 (upd k180_ro 2 ((v_ro 2) + 1)))), (b_tp, (arI G 400 v_tp)), (b_nl, (arI G 96 k51_nl)), (b_op, (arI G 400 k51_op)), (b_ar, (arI G 400 k51_ar)), (b_pi, (arI G 400 k51_pi)), (b_pa, (arI G 400 k51_pa)), (b_ws, (arJ G 8 v_ws)), (b_hw, (arJ G 4 v_hw)), (b_o, (oc12 0 z217 b_rf b_ro b_im b_ke u_fd b_tp 0 k51_fr k51_to k51_so k51_wo k51_fa k51_bd k51_nc b_nl k51_co b_op b_ar k51_le b_pi b_pa k51_pd k51_od b_ws b_hw u_la b_se b_re u_bk u_va u_su u_ce u_ho u_wy u_bt u_ps b_pt u_tg u_sn b_ip z218 b_ah b_be b_me u_wd b_tr b_ld u_st b_wn u_id)), (b_rf, (arI G 7 z219))] hP hD (fun hP hD => ?_)
                      exact W.iret (v := (((v_ro 2) + 1) - 1)) hx hb hr (fun t ht hW => ⟨⟨(((v_ro 2) + 1) - 1), [(b_o, (oc12 0 z217 b_rf b_ro b_im b_ke u_fd b_tp 0 k51_fr k51_to k51_so k51_wo k51_fa k51_bd k51_nc b_nl k51_co b_op b_ar k51_le b_pi b_pa k51_pd k51_od b_ws b_hw u_la b_se b_re u_bk u_va u_su u_ce u_ho u_wy u_bt u_ps b_pt u_tg u_sn b_ip z218 b_ah b_be b_me u_wd b_tr b_ld u_st b_wn u_id)), (b_rf, (arI G 7 z219)), (b_ro, (arI G 5740 (upd k180_ro 2 ((v_ro 2) + 1)))), (b_tp, (arI G 400 v_tp)), (b_nl, (arI G 96 k51_nl)), (b_op, (arI G 400 k51_op)), (b_ar, (arI G 400 k51_ar)), (b_pi, (arI G 400 k51_pi)), (b_pa, (arI G 400 k51_pa)), (b_ws, (arJ G 8 v_ws)), (b_hw, (arJ G 4 v_hw))], rfl, ⟨(((v_ro 2) + 1) - 1), 0, z217, 0, k51_fr, k51_to, k51_so, k51_wo, k51_fa, k51_bd, k51_nc, k51_co, k51_le, k51_pd, k51_od, z218, z219, (upd k180_ro 2 ((v_ro 2) + 1)), k51_nl, k51_op, k51_ar, k51_pi, k51_pa, ⟨by have zc_o_td : (0 : Int32).toInt = 0 := (by decide); omega, by have zc_o_td : (0 : Int32).toInt = 0 := (by decide); omega⟩, i_137, i_138, i_139, i_140, i_141, i_142, i_216, mi_law r_ro (by omega) (by omega) (by omega) rfl ⟨by omega, by omega⟩ ⟨by omega, by omega⟩ i_202 i_203 (by omega) i_209 i_210 (by omega) (i_143 (by omega)) (by omega), by decide, fun j h1 h2 => by rw [upd_ne h2, i_210 j (by have zz := g5_clamp (340 + (900 * (v_ro 2))); omega), i_203 j (by have zz := g5_clamp (340 + (900 * (v_ro 2))); omega), upd_ne (by have zz := g5_clamp ((340 + (900 * (v_ro 2))) + 1); omega)], rfl, rfl⟩, by rw [ht]; exact hP.sub [9, 10, 0, 1, 2, 3, 4, 5, 6, 7, 8] rfl, hD.sub [9, 10, 0, 1, 2, 3, 4, 5, 6, 7, 8] (by decide) rfl⟩, hS.F ht⟩) hS.2.2 dX12_law_256
                    ·
                      have i_212 : k180_2.toInt < k51_co.toInt := by have z := g5_geN (a := k180_2.toInt) (b := k51_co.toInt) (by rfl) (by rfl) c_212; omega
                      refine lv_aload_n hx hb dX12_law_188 rfl (lv_at hl 2 rfl) ?_
                      refine va_get (D := G.1) (ci := 12) (v := .ref b_ro) (C := RX12) (T := TX12) (N := 52) hx hb hts inG_X12 hown hK hP 10 rfl rfl 3 (by decide) (hts _ fl_X12_13) (fun _ h9 => h9) rfl dX12_law_189 ?_
                      refine lv_iload_n hx hb dX12_law_192 rfl (lv_at hl 1 rfl) ?_
                      refine lv_bipush (v := 98) hx hb dX12_law_193 (by decide) ?_
                      refine lv_iadd hx hb dX12_law_195 ?_
                      have t_220 : ((340 + (900 * (v_ro 2))) + 98).toInt = (340 + (900 * (v_ro 2))).toInt + 98 := g5_iadd (a := (340 + (900 * (v_ro 2))).toInt) (b := 98) (by rfl) (by decide) (by omega) (by omega)
                      refine lv_iconst (v := 2) hx hb dX12_law_196 (by decide) ?_
                      refine lv_iload_n hx hb dX12_law_197 rfl (lv_at hl 0 rfl) ?_
                      refine lv_imul hx hb dX12_law_198 ?_
                      have t_221 : (2 * k180_2).toInt = 2 * k180_2.toInt := g5_imul (a := 2) (b := k180_2.toInt) (by decide) (by rfl) (by omega) (by omega)
                      refine lv_iadd hx hb dX12_law_199 ?_
                      have t_222 : (((340 + (900 * (v_ro 2))) + 98) + (2 * k180_2)).toInt = ((340 + (900 * (v_ro 2))) + 98).toInt + (2 * k180_2).toInt := g5_iadd (a := ((340 + (900 * (v_ro 2))) + 98).toInt) (b := (2 * k180_2).toInt) (by rfl) (by rfl) (by omega) (by omega)
                      refine lv_aload_n hx hb dX12_law_200 rfl (lv_at hl 2 rfl) ?_
                      refine va_get (D := G.1) (ci := 12) (v := .ref b_op) (C := RX12) (T := TX12) (N := 52) hx hb hts inG_X12 hown hK hP 10 rfl rfl 18 (by decide) (hts _ fl_X12_33) (fun _ h9 => h9) rfl dX12_law_201 ?_
                      refine lv_iload_n hx hb dX12_law_204 rfl (lv_at hl 0 rfl) ?_
                      refine va_iald hx hb hK hP 4 0 rfl rfl (i := k180_2) (vp_in_iff.mpr ⟨by omega, by omega⟩) dX12_law_205 ?_
                      refine va_iast hx hb hK hP hD hS 1 0 rfl rfl (i := (((340 + (900 * (v_ro 2))) + 98) + (2 * k180_2))) (x := (k51_op k180_2.toNatClampNeg)) (vp_in_iff.mpr ⟨by omega, by omega⟩) dX12_law_206 (fun H locs hP hD hS => ?_)
                      refine g5_rs [(b_rf, (arI G 7 v_rf)), (b_ro, (arI G 5740 (upd k180_ro (((340 + (900 * (v_ro 2))) + 98) + (2 * k180_2)).toNatClampNeg (k51_op k180_2.toNatClampNeg)))), (b_tp, (arI G 400 v_tp)), (b_nl, (arI G 96 k51_nl)), (b_op, (arI G 400 k51_op)), (b_ar, (arI G 400 k51_ar)), (b_pi, (arI G 400 k51_pi)), (b_pa, (arI G 400 k51_pa)), (b_ws, (arJ G 8 v_ws)), (b_hw, (arJ G 4 v_hw)), (b_o, (oc12 0 u_sa b_rf b_ro b_im b_ke u_fd b_tp 0 k51_fr k51_to k51_so k51_wo k51_fa k51_bd k51_nc b_nl k51_co b_op b_ar k51_le b_pi b_pa k51_pd k51_od b_ws b_hw u_la b_se b_re u_bk u_va u_su u_ce u_ho u_wy u_bt u_ps b_pt u_tg u_sn b_ip u_ic b_ah b_be b_me u_wd b_tr b_ld u_st b_wn u_id))] hP hD (fun hP hD => ?_)
                      refine lv_aload_n hx hb dX12_law_207 rfl (lv_at hl 2 rfl) ?_
                      refine va_get (D := G.1) (ci := 12) (v := .ref b_ro) (C := RX12) (T := TX12) (N := 52) hx hb hts inG_X12 hown hK hP 10 rfl rfl 3 (by decide) (hts _ fl_X12_13) (fun _ h9 => h9) rfl dX12_law_208 ?_
                      refine lv_iload_n hx hb dX12_law_211 rfl (lv_at hl 1 rfl) ?_
                      refine lv_bipush (v := 98) hx hb dX12_law_212 (by decide) ?_
                      refine lv_iadd hx hb dX12_law_214 ?_
                      have t_223 : ((340 + (900 * (v_ro 2))) + 98).toInt = (340 + (900 * (v_ro 2))).toInt + 98 := g5_iadd (a := (340 + (900 * (v_ro 2))).toInt) (b := 98) (by rfl) (by decide) (by omega) (by omega)
                      refine lv_iconst (v := 2) hx hb dX12_law_215 (by decide) ?_
                      refine lv_iload_n hx hb dX12_law_216 rfl (lv_at hl 0 rfl) ?_
                      refine lv_imul hx hb dX12_law_217 ?_
                      have t_224 : (2 * k180_2).toInt = 2 * k180_2.toInt := g5_imul (a := 2) (b := k180_2.toInt) (by decide) (by rfl) (by omega) (by omega)
                      refine lv_iadd hx hb dX12_law_218 ?_
                      have t_225 : (((340 + (900 * (v_ro 2))) + 98) + (2 * k180_2)).toInt = ((340 + (900 * (v_ro 2))) + 98).toInt + (2 * k180_2).toInt := g5_iadd (a := ((340 + (900 * (v_ro 2))) + 98).toInt) (b := (2 * k180_2).toInt) (by rfl) (by rfl) (by omega) (by omega)
                      refine lv_iconst (v := 1) hx hb dX12_law_219 (by decide) ?_
                      refine lv_iadd hx hb dX12_law_220 ?_
                      have t_226 : ((((340 + (900 * (v_ro 2))) + 98) + (2 * k180_2)) + 1).toInt = (((340 + (900 * (v_ro 2))) + 98) + (2 * k180_2)).toInt + 1 := g5_iadd (a := (((340 + (900 * (v_ro 2))) + 98) + (2 * k180_2)).toInt) (b := 1) (by rfl) (by decide) (by omega) (by omega)
                      refine lv_aload_n hx hb dX12_law_221 rfl (lv_at hl 2 rfl) ?_
                      refine va_get (D := G.1) (ci := 12) (v := .ref b_ar) (C := RX12) (T := TX12) (N := 52) hx hb hts inG_X12 hown hK hP 10 rfl rfl 19 (by decide) (hts _ fl_X12_36) (fun _ h9 => h9) rfl dX12_law_222 ?_
                      refine lv_iload_n hx hb dX12_law_225 rfl (lv_at hl 0 rfl) ?_
                      refine va_iald hx hb hK hP 5 0 rfl rfl (i := k180_2) (vp_in_iff.mpr ⟨by omega, by omega⟩) dX12_law_226 ?_
                      refine va_iast hx hb hK hP hD hS 1 0 rfl rfl (i := ((((340 + (900 * (v_ro 2))) + 98) + (2 * k180_2)) + 1)) (x := (k51_ar k180_2.toNatClampNeg)) (vp_in_iff.mpr ⟨by omega, by omega⟩) dX12_law_227 (fun H locs hP hD hS => ?_)
                      refine g5_rs [(b_rf, (arI G 7 v_rf)), (b_ro, (arI G 5740 (upd (upd k180_ro (((340 + (900 * (v_ro 2))) + 98) + (2 * k180_2)).toNatClampNeg (k51_op k180_2.toNatClampNeg)) ((((340 + (900 * (v_ro 2))) + 98) + (2 * k180_2)) + 1).toNatClampNeg (k51_ar k180_2.toNatClampNeg)))), (b_tp, (arI G 400 v_tp)), (b_nl, (arI G 96 k51_nl)), (b_op, (arI G 400 k51_op)), (b_ar, (arI G 400 k51_ar)), (b_pi, (arI G 400 k51_pi)), (b_pa, (arI G 400 k51_pa)), (b_ws, (arJ G 8 v_ws)), (b_hw, (arJ G 4 v_hw)), (b_o, (oc12 0 u_sa b_rf b_ro b_im b_ke u_fd b_tp 0 k51_fr k51_to k51_so k51_wo k51_fa k51_bd k51_nc b_nl k51_co b_op b_ar k51_le b_pi b_pa k51_pd k51_od b_ws b_hw u_la b_se b_re u_bk u_va u_su u_ce u_ho u_wy u_bt u_ps b_pt u_tg u_sn b_ip u_ic b_ah b_be b_me u_wd b_tr b_ld u_st b_wn u_id))] hP hD (fun hP hD => ?_)
                      refine lv_iinc (v := (k180_2 + 1)) (lv' := [(2, .int (k180_2 + 1)), (1, .int (340 + (900 * (v_ro 2)))), (0, .ref b_o)]) hx hb dX12_law_228 hl (k := 0) rfl rfl (by decide) rfl (fun ls hl => ?_)
                      have t_227 : (k180_2 + 1).toInt = k180_2.toInt + 1 := g5_iadd (a := k180_2.toInt) (b := 1) rfl (by decide) (by omega) (by omega)
                      refine lv_goto (tgt := 180) hx hb dX12_law_231 (by decide) ?_
                      exact ih_180_211 ((k180_2 + 1), (upd (upd k180_ro (((340 + (900 * (v_ro 2))) + 98) + (2 * k180_2)).toNatClampNeg (k51_op k180_2.toNatClampNeg)) ((((340 + (900 * (v_ro 2))) + 98) + (2 * k180_2)) + 1).toNatClampNeg (k51_ar k180_2.toNatClampNeg))) ls H locs (show Int.toNat (400 - (k180_2 + 1).toInt) < Int.toNat (400 - k180_2.toInt) from g_up (show k180_2.toInt < (k180_2 + 1).toInt by omega) (show k180_2.toInt < 400 by omega)) ⟨lv_sub hl [0, 1, 2] rfl, hP, hD, hS, ⟨by omega, by omega⟩, by omega, lw_d1 i_209 (by omega) (by omega) (by omega) (by omega) (by omega), lw_d2 (k := k180_2) i_210 ⟨by omega, by omega⟩ (by omega) (by omega) (by omega)⟩
                  ·
                    have i_206 : k145_2.toInt < (8 * k51_nc.toInt) := by have z := g5_geN (a := k145_2.toInt) (b := (8 * k51_nc).toInt) (by rfl) (by rfl) c_206; omega
                    refine lv_aload_n hx hb dX12_law_156 rfl (lv_at hl 2 rfl) ?_
                    refine va_get (D := G.1) (ci := 12) (v := .ref b_ro) (C := RX12) (T := TX12) (N := 52) hx hb hts inG_X12 hown hK hP 10 rfl rfl 3 (by decide) (hts _ fl_X12_13) (fun _ h9 => h9) rfl dX12_law_157 ?_
                    refine lv_iload_n hx hb dX12_law_160 rfl (lv_at hl 1 rfl) ?_
                    refine lv_iconst (v := 2) hx hb dX12_law_161 (by decide) ?_
                    refine lv_iadd hx hb dX12_law_162 ?_
                    have t_228 : ((340 + (900 * (v_ro 2))) + 2).toInt = (340 + (900 * (v_ro 2))).toInt + 2 := g5_iadd (a := (340 + (900 * (v_ro 2))).toInt) (b := 2) (by rfl) (by decide) (by omega) (by omega)
                    refine lv_iload_n hx hb dX12_law_163 rfl (lv_at hl 0 rfl) ?_
                    refine lv_iadd hx hb dX12_law_164 ?_
                    have t_229 : (((340 + (900 * (v_ro 2))) + 2) + k145_2).toInt = ((340 + (900 * (v_ro 2))) + 2).toInt + k145_2.toInt := g5_iadd (a := ((340 + (900 * (v_ro 2))) + 2).toInt) (b := k145_2.toInt) (by rfl) (by rfl) (by omega) (by omega)
                    refine lv_aload_n hx hb dX12_law_165 rfl (lv_at hl 2 rfl) ?_
                    refine va_get (D := G.1) (ci := 12) (v := .ref b_nl) (C := RX12) (T := TX12) (N := 52) hx hb hts inG_X12 hown hK hP 10 rfl rfl 16 (by decide) (hts _ fl_X12_30) (fun _ h9 => h9) rfl dX12_law_166 ?_
                    refine lv_iload_n hx hb dX12_law_169 rfl (lv_at hl 0 rfl) ?_
                    refine va_iald hx hb hK hP 3 0 rfl rfl (i := k145_2) (vp_in_iff.mpr ⟨by omega, by omega⟩) dX12_law_170 ?_
                    refine va_iast hx hb hK hP hD hS 1 0 rfl rfl (i := (((340 + (900 * (v_ro 2))) + 2) + k145_2)) (x := (k51_nl k145_2.toNatClampNeg)) (vp_in_iff.mpr ⟨by omega, by omega⟩) dX12_law_171 (fun H locs hP hD hS => ?_)
                    refine g5_rs [(b_rf, (arI G 7 v_rf)), (b_ro, (arI G 5740 (upd k145_ro (((340 + (900 * (v_ro 2))) + 2) + k145_2).toNatClampNeg (k51_nl k145_2.toNatClampNeg)))), (b_tp, (arI G 400 v_tp)), (b_nl, (arI G 96 k51_nl)), (b_op, (arI G 400 k51_op)), (b_ar, (arI G 400 k51_ar)), (b_pi, (arI G 400 k51_pi)), (b_pa, (arI G 400 k51_pa)), (b_ws, (arJ G 8 v_ws)), (b_hw, (arJ G 4 v_hw)), (b_o, (oc12 0 u_sa b_rf b_ro b_im b_ke u_fd b_tp 0 k51_fr k51_to k51_so k51_wo k51_fa k51_bd k51_nc b_nl k51_co b_op b_ar k51_le b_pi b_pa k51_pd k51_od b_ws b_hw u_la b_se b_re u_bk u_va u_su u_ce u_ho u_wy u_bt u_ps b_pt u_tg u_sn b_ip u_ic b_ah b_be b_me u_wd b_tr b_ld u_st b_wn u_id))] hP hD (fun hP hD => ?_)
                    refine lv_iinc (v := (k145_2 + 1)) (lv' := [(2, .int (k145_2 + 1)), (1, .int (340 + (900 * (v_ro 2)))), (0, .ref b_o)]) hx hb dX12_law_172 hl (k := 0) rfl rfl (by decide) rfl (fun ls hl => ?_)
                    have t_230 : (k145_2 + 1).toInt = k145_2.toInt + 1 := g5_iadd (a := k145_2.toInt) (b := 1) rfl (by decide) (by omega) (by omega)
                    refine lv_goto (tgt := 145) hx hb dX12_law_175 (by decide) ?_
                    exact ih_145_204 ((k145_2 + 1), (upd k145_ro (((340 + (900 * (v_ro 2))) + 2) + k145_2).toNatClampNeg (k51_nl k145_2.toNatClampNeg))) ls H locs (show Int.toNat (96 - (k145_2 + 1).toInt) < Int.toNat (96 - k145_2.toInt) from g_up (show k145_2.toInt < (k145_2 + 1).toInt by omega) (show k145_2.toInt < 96 by omega)) ⟨lv_sub hl [0, 1, 2] rfl, hP, hD, hS, ⟨by omega, by omega⟩, by omega, lw_c1 i_202 (by omega) (by omega) (by omega) (by omega), lw_c2 (k := k145_2) i_203 ⟨by omega, by omega⟩ (by omega) (by omega)⟩
                ·
                  have i_195 : k51_bd.toInt ≠ 0 := by have z := g5_eqN (a := k51_bd.toInt) (b := 0) (by rfl) (by decide) c_195; omega
                  omega
              ·
                have n_194 : gNe (k51_so.toInt) (0) := by have z := g5_eqN (a := k51_so.toInt) (b := 0) (by rfl) (by decide) c_194; unfold gNe; omega
                refine lv_aload_n hx hb dX12_law_92 rfl (lv_at hl 0 rfl) ?_
                refine lv_iconst (v := 0) hx hb dX12_law_93 (by decide) ?_
                obtain ⟨hPc, hDc, hFc⟩ := g5_sub3 (wc := [(b_o, (oc12 0 u_sa b_rf b_ro b_im b_ke u_fd b_tp u_td k51_fr k51_to k51_so k51_wo k51_fa k51_bd k51_nc b_nl k51_co b_op b_ar k51_le b_pi b_pa k51_pd k51_od b_ws b_hw u_la b_se b_re u_bk u_va u_su u_ce u_ho u_wy u_bt u_ps b_pt u_tg u_sn b_ip u_ic b_ah b_be b_me u_wd b_tr b_ld u_st b_wn u_id)), (b_tp, (arI G 400 v_tp))]) hP hD hS hA [10, 2] (by decide) rfl
                refine va_callv (va_runV (As := [.int 0]) (rest := []) ⟨hx, hb, hml, hown, hts⟩ (n_must0 l G b_o b_tp b_rf b_ro b_im b_ke b_nl b_op b_ar b_pi b_pa b_ws b_hw b_se b_re b_pt b_ip b_ah b_be b_me b_tr b_ld b_wn H.size 0 u_sa u_fd u_td k51_fr k51_to k51_so k51_fa k51_bd k51_nc k51_co k51_le k51_pd k51_od u_la u_bk u_ce u_ho u_wy u_bt u_ps u_tg u_sn u_ic u_wd u_id k51_wo u_va u_su u_st v_tp h_u_td i_137 i_138 ⟨by omega, by omega⟩ i_140 i_141 i_142 h_u_la h_u_bk h_u_ce h_u_ho h_u_wy h_u_bt h_u_ps h_u_ic h_u_id) (cwV 1 hts gV_X12_233 rfl rfl rfl hv_X12_must ⟨Nat.le_of_ble_eq_true rfl, Nat.le_of_ble_eq_true rfl⟩) (g5_preV hPc hK hDc hN hT hS hFc (ci := 12) (q0 := 0) rfl rfl) rfl rfl hl.1 rfl (lv_room (Nat.le_of_ble_eq_true rfl)) dX12_law_94 ⟨Nat.le_of_ble_eq_true rfl, Nat.le_of_ble_eq_true rfl⟩) hS (fun q _ h => hFc q h) hFc (fun u t H1 locs ht hvm hw hB hz1 hk1 hS => ?_)
                obtain ⟨hP1, hD1⟩ := hB
                rw [ht] at hP1
                obtain rfl := hw
                obtain ⟨hP, hD⟩ := va_join (wr := [(b_rf, (arI G 7 v_rf)), (b_ro, (arI G 5740 v_ro)), (b_nl, (arI G 96 k51_nl)), (b_op, (arI G 400 k51_op)), (b_ar, (arI G 400 k51_ar)), (b_pi, (arI G 400 k51_pi)), (b_pa, (arI G 400 k51_pa)), (b_ws, (arJ G 8 v_ws)), (b_hw, (arJ G 4 v_hw))]) hP hD [10, 2] [0, 1, 3, 4, 5, 6, 7, 8, 9] rfl rfl (by decide) (by decide) hk1 hFc hP1 hD1
                generalize H1 = H at hP hS ⊢
                refine g5_rs [(b_rf, (arI G 7 v_rf)), (b_ro, (arI G 5740 v_ro)), (b_nl, (arI G 96 k51_nl)), (b_op, (arI G 400 k51_op)), (b_ar, (arI G 400 k51_ar)), (b_pi, (arI G 400 k51_pi)), (b_pa, (arI G 400 k51_pa)), (b_ws, (arJ G 8 v_ws)), (b_hw, (arJ G 4 v_hw)), (b_o, (oc12 0 u_sa b_rf b_ro b_im b_ke u_fd b_tp u_td k51_fr k51_to k51_so k51_wo k51_fr 1 k51_nc b_nl k51_co b_op b_ar k51_le b_pi b_pa k51_pd k51_od b_ws b_hw u_la b_se b_re u_bk u_va u_su u_ce u_ho u_wy u_bt u_ps b_pt u_tg u_sn b_ip u_ic b_ah b_be b_me u_wd b_tr b_ld u_st b_wn u_id)), (b_tp, (arI G 400 v_tp))] hP hD (fun hP hD => ?_)
                refine lv_aload_n hx hb dX12_law_97 rfl (lv_at hl 0 rfl) ?_
                refine lv_iconst (v := 0) hx hb dX12_law_98 (by decide) ?_
                refine va_put (D := G.1) (ci := 12) (v := .int 0) (ty := .int) (C := RX12) (T := TX12) (N := 52) hx hb hts inG_X12 tyX12 tyX12_ok nmX12 hown hK hP hD hS 9 rfl rfl 8 (by decide) (hts _ fl_X12_192) (fun _ h9 => h9) rfl (by decide +kernel) rfl rfl (Nat.le_of_ble_eq_true rfl) dX12_law_99 (fun H locs hP hD hS => ?_)
                refine g5_rs [(b_rf, (arI G 7 v_rf)), (b_ro, (arI G 5740 v_ro)), (b_nl, (arI G 96 k51_nl)), (b_op, (arI G 400 k51_op)), (b_ar, (arI G 400 k51_ar)), (b_pi, (arI G 400 k51_pi)), (b_pa, (arI G 400 k51_pa)), (b_ws, (arJ G 8 v_ws)), (b_hw, (arJ G 4 v_hw)), (b_o, (oc12 0 u_sa b_rf b_ro b_im b_ke u_fd b_tp 0 k51_fr k51_to k51_so k51_wo k51_fr 1 k51_nc b_nl k51_co b_op b_ar k51_le b_pi b_pa k51_pd k51_od b_ws b_hw u_la b_se b_re u_bk u_va u_su u_ce u_ho u_wy u_bt u_ps b_pt u_tg u_sn b_ip u_ic b_ah b_be b_me u_wd b_tr b_ld u_st b_wn u_id)), (b_tp, (arI G 400 v_tp))] hP hD (fun hP hD => ?_)
                refine lv_aload_n hx hb dX12_law_102 rfl (lv_at hl 0 rfl) ?_
                refine va_get (D := G.1) (ci := 12) (v := .int 1) (C := RX12) (T := TX12) (N := 52) hx hb hts inG_X12 hown hK hP 9 rfl rfl 14 (by decide) (hts _ fl_X12_205) (fun _ h9 => h9) rfl dX12_law_103 ?_
                refine lv_if_eq (tgt := 116) hx hb dX12_law_106 (by decide) (fun c_231 => ?_) (fun c_231 => ?_)
                ·
                  exact absurd c_231 (by decide)
                ·
                  refine lv_aload_n hx hb dX12_law_109 rfl (lv_at hl 0 rfl) ?_
                  refine lv_bipush (v := (-6)) hx hb dX12_law_110 (by decide) ?_
                  obtain ⟨hPc, hDc, hFc⟩ := g5_sub3 (wc := [(b_o, (oc12 0 u_sa b_rf b_ro b_im b_ke u_fd b_tp 0 k51_fr k51_to k51_so k51_wo k51_fr 1 k51_nc b_nl k51_co b_op b_ar k51_le b_pi b_pa k51_pd k51_od b_ws b_hw u_la b_se b_re u_bk u_va u_su u_ce u_ho u_wy u_bt u_ps b_pt u_tg u_sn b_ip u_ic b_ah b_be b_me u_wd b_tr b_ld u_st b_wn u_id)), (b_rf, (arI G 7 v_rf))]) hP hD hS hA [9, 0] (by decide) rfl
                  refine va_calli (va_runV (As := [.int (-6)]) (rest := []) ⟨hx, hb, hml, hown, hts⟩ (n_tell6 l G b_o b_rf b_ro b_im b_ke b_tp b_nl b_op b_ar b_pi b_pa b_ws b_hw b_se b_re b_pt b_ip b_ah b_be b_me b_tr b_ld b_wn H.size 0 u_sa u_fd 0 k51_fr k51_to k51_so k51_fr 1 k51_nc k51_co k51_le k51_pd k51_od u_la u_bk u_ce u_ho u_wy u_bt u_ps u_tg u_sn u_ic u_wd u_id k51_wo u_va u_su u_st v_rf ⟨by decide, by decide⟩ i_137 i_138 ⟨by decide, by decide⟩ i_140 i_141 i_142 h_u_la h_u_bk h_u_ce h_u_ho h_u_wy h_u_bt h_u_ps h_u_ic h_u_id) (cwV 1 hts gV_X12_125 rfl rfl rfl hv_X12_tell ⟨Nat.le_of_ble_eq_true rfl, Nat.le_of_ble_eq_true rfl⟩) (g5_preV hPc hK hDc hN hT hS hFc (ci := 12) (q0 := 0) rfl rfl) rfl rfl hl.1 rfl (lv_room (Nat.le_of_ble_eq_true rfl)) dX12_law_112 ⟨Nat.le_of_ble_eq_true rfl, Nat.le_of_ble_eq_true rfl⟩) hS (fun q _ h => hFc q h) hFc (fun r u t H1 locs ht hvm hw hB hz1 hk1 hS => ?_)
                  obtain ⟨hP1, hD1⟩ := hB
                  rw [ht] at hP1
                  obtain ⟨z233, z234, z235, i_232, rfl, rfl⟩ := hw
                  have i_232 : 0 ≤ z234.toInt ∧ z234.toInt ≤ 1 := i_232
                  obtain ⟨hP, hD⟩ := va_join (wr := [(b_ro, (arI G 5740 v_ro)), (b_nl, (arI G 96 k51_nl)), (b_op, (arI G 400 k51_op)), (b_ar, (arI G 400 k51_ar)), (b_pi, (arI G 400 k51_pi)), (b_pa, (arI G 400 k51_pa)), (b_ws, (arJ G 8 v_ws)), (b_hw, (arJ G 4 v_hw)), (b_tp, (arI G 400 v_tp))]) hP hD [9, 0] [1, 2, 3, 4, 5, 6, 7, 8, 10] rfl rfl (by decide) (by decide) hk1 hFc hP1 hD1
                  generalize H1 = H at hP hS ⊢
                  refine g5_rs [(b_ro, (arI G 5740 v_ro)), (b_nl, (arI G 96 k51_nl)), (b_op, (arI G 400 k51_op)), (b_ar, (arI G 400 k51_ar)), (b_pi, (arI G 400 k51_pi)), (b_pa, (arI G 400 k51_pa)), (b_ws, (arJ G 8 v_ws)), (b_hw, (arJ G 4 v_hw)), (b_tp, (arI G 400 v_tp)), (b_o, (oc12 0 z233 b_rf b_ro b_im b_ke u_fd b_tp 0 k51_fr k51_to k51_so k51_wo k51_fr 1 k51_nc b_nl k51_co b_op b_ar k51_le b_pi b_pa k51_pd k51_od b_ws b_hw u_la b_se b_re u_bk u_va u_su u_ce u_ho u_wy u_bt u_ps b_pt u_tg u_sn b_ip z234 b_ah b_be b_me u_wd b_tr b_ld u_st b_wn u_id)), (b_rf, (arI G 7 z235))] hP hD (fun hP hD => ?_)
                  exact W.iret (v := (-6)) hx hb hr (fun t ht hW => ⟨⟨(-6), [(b_o, (oc12 0 z233 b_rf b_ro b_im b_ke u_fd b_tp 0 k51_fr k51_to k51_so k51_wo k51_fr 1 k51_nc b_nl k51_co b_op b_ar k51_le b_pi b_pa k51_pd k51_od b_ws b_hw u_la b_se b_re u_bk u_va u_su u_ce u_ho u_wy u_bt u_ps b_pt u_tg u_sn b_ip z234 b_ah b_be b_me u_wd b_tr b_ld u_st b_wn u_id)), (b_rf, (arI G 7 z235)), (b_ro, (arI G 5740 v_ro)), (b_tp, (arI G 400 v_tp)), (b_nl, (arI G 96 k51_nl)), (b_op, (arI G 400 k51_op)), (b_ar, (arI G 400 k51_ar)), (b_pi, (arI G 400 k51_pi)), (b_pa, (arI G 400 k51_pa)), (b_ws, (arJ G 8 v_ws)), (b_hw, (arJ G 4 v_hw))], rfl, ⟨(-6), 0, z233, 0, k51_fr, k51_to, k51_so, k51_wo, k51_fr, 1, k51_nc, k51_co, k51_le, k51_pd, k51_od, z234, z235, v_ro, k51_nl, k51_op, k51_ar, k51_pi, k51_pa, ⟨by have zc_o_td : (0 : Int32).toInt = 0 := (by decide); omega, by have zc_o_td : (0 : Int32).toInt = 0 := (by decide); omega⟩, i_137, i_138, ⟨by have zc_o_bd : (1 : Int32).toInt = 1 := (by decide); omega, by have zc_o_bd : (1 : Int32).toInt = 1 := (by decide); omega⟩, i_140, i_141, i_142, i_232, r_ro, by decide, fun _ _ _ => rfl, rfl, rfl⟩, by rw [ht]; exact hP.sub [9, 10, 0, 8, 1, 2, 3, 4, 5, 6, 7] rfl, hD.sub [9, 10, 0, 8, 1, 2, 3, 4, 5, 6, 7] (by decide) rfl⟩, hS.F ht⟩) hS.2.2 dX12_law_115
          ·
            exact absurd c_192 (by decide)
  ·
    have i_2 : (v_ro 2).toInt = 6 := by have z := g5_neN (a := (v_ro 2).toInt) (b := 6) (by rfl) (by decide) c_2; omega
    refine lv_aload_n hx hb dX12_law_16 rfl (lv_at hl 0 rfl) ?_
    refine lv_iconst (v := 0) hx hb dX12_law_17 (by decide) ?_
    refine va_put (D := G.1) (ci := 12) (v := .int 0) (ty := .int) (C := RX12) (T := TX12) (N := 52) hx hb hts inG_X12 tyX12 tyX12_ok nmX12 hown hK hP hD hS 0 rfl rfl 8 (by decide) (hts _ fl_X12_192) (fun _ h9 => h9) rfl (by decide +kernel) rfl rfl (Nat.le_of_ble_eq_true rfl) dX12_law_18 (fun H locs hP hD hS => ?_)
    refine g5_rs [(b_o, (oc12 0 u_sa b_rf b_ro b_im b_ke u_fd b_tp 0 u_fr u_to u_so u_wo u_fa u_bd u_nc b_nl u_co b_op b_ar u_le b_pi b_pa u_pd u_od b_ws b_hw u_la b_se b_re u_bk u_va u_su u_ce u_ho u_wy u_bt u_ps b_pt u_tg u_sn b_ip u_ic b_ah b_be b_me u_wd b_tr b_ld u_st b_wn u_id)), (b_rf, (arI G 7 v_rf)), (b_ro, (arI G 5740 v_ro)), (b_tp, (arI G 400 v_tp)), (b_nl, (arI G 96 v_nl)), (b_op, (arI G 400 v_op)), (b_ar, (arI G 400 v_ar)), (b_pi, (arI G 400 v_pi)), (b_pa, (arI G 400 v_pa)), (b_ws, (arJ G 8 v_ws)), (b_hw, (arJ G 4 v_hw))] hP hD (fun hP hD => ?_)
    refine lv_aload_n hx hb dX12_law_21 rfl (lv_at hl 0 rfl) ?_
    refine lv_bipush (v := (-5)) hx hb dX12_law_22 (by decide) ?_
    obtain ⟨hPc, hDc, hFc⟩ := g5_sub3 (wc := [(b_o, (oc12 0 u_sa b_rf b_ro b_im b_ke u_fd b_tp 0 u_fr u_to u_so u_wo u_fa u_bd u_nc b_nl u_co b_op b_ar u_le b_pi b_pa u_pd u_od b_ws b_hw u_la b_se b_re u_bk u_va u_su u_ce u_ho u_wy u_bt u_ps b_pt u_tg u_sn b_ip u_ic b_ah b_be b_me u_wd b_tr b_ld u_st b_wn u_id)), (b_rf, (arI G 7 v_rf))]) hP hD hS hA [0, 1] (by decide) rfl
    refine va_calli (va_runV (As := [.int (-5)]) (rest := []) ⟨hx, hb, hml, hown, hts⟩ (n_tell5 l G b_o b_rf b_ro b_im b_ke b_tp b_nl b_op b_ar b_pi b_pa b_ws b_hw b_se b_re b_pt b_ip b_ah b_be b_me b_tr b_ld b_wn H.size 0 u_sa u_fd 0 u_fr u_to u_so u_fa u_bd u_nc u_co u_le u_pd u_od u_la u_bk u_ce u_ho u_wy u_bt u_ps u_tg u_sn u_ic u_wd u_id u_wo u_va u_su u_st v_rf ⟨by decide, by decide⟩ h_u_fr h_u_to h_u_bd h_u_nc h_u_co h_u_pd h_u_la h_u_bk h_u_ce h_u_ho h_u_wy h_u_bt h_u_ps h_u_ic h_u_id) (cwV 1 hts gV_X12_125 rfl rfl rfl hv_X12_tell ⟨Nat.le_of_ble_eq_true rfl, Nat.le_of_ble_eq_true rfl⟩) (g5_preV hPc hK hDc hN hT hS hFc (ci := 12) (q0 := 0) rfl rfl) rfl rfl hl.1 rfl (lv_room (Nat.le_of_ble_eq_true rfl)) dX12_law_24 ⟨Nat.le_of_ble_eq_true rfl, Nat.le_of_ble_eq_true rfl⟩) hS (fun q _ h => hFc q h) hFc (fun r u t H1 locs ht hvm hw hB hz1 hk1 hS => ?_)
    obtain ⟨hP1, hD1⟩ := hB
    rw [ht] at hP1
    obtain ⟨z237, z238, z239, i_236, rfl, rfl⟩ := hw
    have i_236 : 0 ≤ z238.toInt ∧ z238.toInt ≤ 1 := i_236
    obtain ⟨hP, hD⟩ := va_join (wr := [(b_ro, (arI G 5740 v_ro)), (b_tp, (arI G 400 v_tp)), (b_nl, (arI G 96 v_nl)), (b_op, (arI G 400 v_op)), (b_ar, (arI G 400 v_ar)), (b_pi, (arI G 400 v_pi)), (b_pa, (arI G 400 v_pa)), (b_ws, (arJ G 8 v_ws)), (b_hw, (arJ G 4 v_hw))]) hP hD [0, 1] [2, 3, 4, 5, 6, 7, 8, 9, 10] rfl rfl (by decide) (by decide) hk1 hFc hP1 hD1
    generalize H1 = H at hP hS ⊢
    refine g5_rs [(b_ro, (arI G 5740 v_ro)), (b_tp, (arI G 400 v_tp)), (b_nl, (arI G 96 v_nl)), (b_op, (arI G 400 v_op)), (b_ar, (arI G 400 v_ar)), (b_pi, (arI G 400 v_pi)), (b_pa, (arI G 400 v_pa)), (b_ws, (arJ G 8 v_ws)), (b_hw, (arJ G 4 v_hw)), (b_o, (oc12 0 z237 b_rf b_ro b_im b_ke u_fd b_tp 0 u_fr u_to u_so u_wo u_fa u_bd u_nc b_nl u_co b_op b_ar u_le b_pi b_pa u_pd u_od b_ws b_hw u_la b_se b_re u_bk u_va u_su u_ce u_ho u_wy u_bt u_ps b_pt u_tg u_sn b_ip z238 b_ah b_be b_me u_wd b_tr b_ld u_st b_wn u_id)), (b_rf, (arI G 7 z239))] hP hD (fun hP hD => ?_)
    exact W.iret (v := (-5)) hx hb hr (fun t ht hW => ⟨⟨(-5), [(b_o, (oc12 0 z237 b_rf b_ro b_im b_ke u_fd b_tp 0 u_fr u_to u_so u_wo u_fa u_bd u_nc b_nl u_co b_op b_ar u_le b_pi b_pa u_pd u_od b_ws b_hw u_la b_se b_re u_bk u_va u_su u_ce u_ho u_wy u_bt u_ps b_pt u_tg u_sn b_ip z238 b_ah b_be b_me u_wd b_tr b_ld u_st b_wn u_id)), (b_rf, (arI G 7 z239)), (b_ro, (arI G 5740 v_ro)), (b_tp, (arI G 400 v_tp)), (b_nl, (arI G 96 v_nl)), (b_op, (arI G 400 v_op)), (b_ar, (arI G 400 v_ar)), (b_pi, (arI G 400 v_pi)), (b_pa, (arI G 400 v_pa)), (b_ws, (arJ G 8 v_ws)), (b_hw, (arJ G 4 v_hw))], rfl, ⟨(-5), 0, z237, 0, u_fr, u_to, u_so, u_wo, u_fa, u_bd, u_nc, u_co, u_le, u_pd, u_od, z238, z239, v_ro, v_nl, v_op, v_ar, v_pi, v_pa, ⟨by have zc_o_td : (0 : Int32).toInt = 0 := (by decide); omega, by have zc_o_td : (0 : Int32).toInt = 0 := (by decide); omega⟩, h_u_fr, h_u_to, h_u_bd, h_u_nc, h_u_co, h_u_pd, i_236, r_ro, by decide, fun _ _ _ => rfl, rfl, rfl⟩, by rw [ht]; exact hP.sub [9, 10, 0, 1, 2, 3, 4, 5, 6, 7, 8] rfl, hD.sub [9, 10, 0, 1, 2, 3, 4, 5, 6, 7, 8] (by decide) rfl⟩, hS.F ht⟩) hS.2.2 dX12_law_27
set_option maxHeartbeats 4000000 in
set_option maxRecDepth 100000 in
theorem n_goesOnP (l : Launch) (G : g5_G) (b_o b_ah b_me b_rf b_ro b_im b_ke b_tp b_nl b_op b_ar b_pi b_pa b_ws b_hw b_se b_re b_pt b_ip b_be b_tr b_ld b_wn : Nat) (sz : Nat) (u_th : Int32) (u_sa : Int32) (u_fd : Int32) (u_td : Int32) (u_fr : Int32) (u_to : Int32) (u_so : Int32) (u_fa : Int32) (u_bd : Int32) (u_nc : Int32) (u_co : Int32) (u_le : Int32) (u_pd : Int32) (u_od : Int32) (u_la : Int32) (u_bk : Int32) (u_ce : Int32) (u_ho : Int32) (u_wy : Int32) (u_bt : Int32) (u_ps : Int32) (u_tg : Int32) (u_sn : Int32) (u_ic : Int32) (u_wd : Int32) (u_id : Int32) (p_1 : Int32) (p_2 : Int32) (u_wo : Int64) (u_va : Int64) (u_su : Int64) (u_st : Int64) (v_ah : Nat → Int64) (v_me : Nat → Int32) (h_u_td : 0 ≤ u_td.toInt ∧ u_td.toInt ≤ 400) (h_u_fr : 0 ≤ u_fr.toInt ∧ u_fr.toInt ≤ 400) (h_u_to : 0 ≤ u_to.toInt ∧ u_to.toInt ≤ 400) (h_u_bd : 0 ≤ u_bd.toInt ∧ u_bd.toInt ≤ 1) (h_u_nc : 0 ≤ u_nc.toInt ∧ u_nc.toInt ≤ 12) (h_u_co : 0 ≤ u_co.toInt ∧ u_co.toInt ≤ 400) (h_u_pd : 0 ≤ u_pd.toInt ∧ u_pd.toInt ≤ 400) (h_u_la : 0 ≤ u_la.toInt ∧ u_la.toInt ≤ 4840) (h_u_bk : 0 ≤ u_bk.toInt ∧ u_bk.toInt ≤ 1) (h_u_ce : 0 ≤ u_ce.toInt ∧ u_ce.toInt ≤ 63) (h_u_ho : 0 ≤ u_ho.toInt ∧ u_ho.toInt ≤ 23) (h_u_wy : 0 ≤ u_wy.toInt ∧ u_wy.toInt ≤ 3) (h_u_bt : 0 ≤ u_bt.toInt ∧ u_bt.toInt ≤ 1000000) (h_u_ps : 0 ≤ u_ps.toInt ∧ u_ps.toInt ≤ 200) (h_u_ic : 0 ≤ u_ic.toInt ∧ u_ic.toInt ≤ 1) (h_u_id : 0 ≤ u_id.toInt ∧ u_id.toInt ≤ 1) (h_p_1 : 0 ≤ p_1.toInt ∧ p_1.toInt ≤ 22) (h_p_2 : 0 ≤ p_2.toInt ∧ p_2.toInt ≤ 63) (r_me : MEI v_me) : Met l yX12_goesOn (wsG yX12_goesOn cX12_goesOn 6 none) ({ frames := 2, cells := 0, slots := 0, locals := 45 }) (va_Pc [.ref b_o, .int p_1, .int p_2] (g5_P G [(b_o, (oc12 u_th u_sa b_rf b_ro b_im b_ke u_fd b_tp u_td u_fr u_to u_so u_wo u_fa u_bd u_nc b_nl u_co b_op b_ar u_le b_pi b_pa u_pd u_od b_ws b_hw u_la b_se b_re u_bk u_va u_su u_ce u_ho u_wy u_bt u_ps b_pt u_tg u_sn b_ip u_ic b_ah b_be b_me u_wd b_tr b_ld u_st b_wn u_id)), (b_ah, (arJ G 49152 v_ah)), (b_me, (arI G 1536 v_me))] sz)) (va_Qv (fun (u : va_W) => (∃ (o_ah : Nat → Int64), (AHK o_ah v_ah) ∧ (u = [(b_o, (oc12 u_th u_sa b_rf b_ro b_im b_ke u_fd b_tp u_td u_fr u_to u_so u_wo u_fa u_bd u_nc b_nl u_co b_op b_ar u_le b_pi b_pa u_pd u_od b_ws b_hw u_la b_se b_re u_bk u_va u_su u_ce u_ho u_wy u_bt u_ps b_pt u_tg u_sn b_ip u_ic b_ah b_be b_me u_wd b_tr b_ld u_st b_wn u_id)), (b_ah, (arJ G 49152 o_ah)), (b_me, (arI G 1536 v_me))]))) (g5_B G (va_A [(b_o, (oc12 u_th u_sa b_rf b_ro b_im b_ke u_fd b_tp u_td u_fr u_to u_so u_wo u_fa u_bd u_nc b_nl u_co b_op b_ar u_le b_pi b_pa u_pd u_od b_ws b_hw u_la b_se b_re u_bk u_va u_su u_ce u_ho u_wy u_bt u_ps b_pt u_tg u_sn b_ip u_ic b_ah b_be b_me u_wd b_tr b_ld u_st b_wn u_id)), (b_ah, (arJ G 49152 v_ah)), (b_me, (arI G 1536 v_me))] sz)) (va_A [(b_o, (oc12 u_th u_sa b_rf b_ro b_im b_ke u_fd b_tp u_td u_fr u_to u_so u_wo u_fa u_bd u_nc b_nl u_co b_op b_ar u_le b_pi b_pa u_pd u_od b_ws b_hw u_la b_se b_re u_bk u_va u_su u_ce u_ho u_wy u_bt u_ps b_pt u_tg u_sn b_ip u_ic b_ah b_be b_me u_wd b_tr b_ld u_st b_wn u_id)), (b_ah, (arJ G 49152 v_ah)), (b_me, (arI G 1536 v_me))] sz)) 0 0 (va_A [(b_o, (oc12 u_th u_sa b_rf b_ro b_im b_ke u_fd b_tp u_td u_fr u_to u_so u_wo u_fa u_bd u_nc b_nl u_co b_op b_ar u_le b_pi b_pa u_pd u_od b_ws b_hw u_la b_se b_re u_bk u_va u_su u_ce u_ho u_wy u_bt u_ps b_pt u_tg u_sn b_ip u_ic b_ah b_be b_me u_wd b_tr b_ld u_st b_wn u_id)), (b_ah, (arJ G 49152 v_ah)), (b_me, (arI G 1536 v_me))] sz) := by
  refine Met.ofW (cc := cX12_goesOn) (maxL := 6) (ret := none) (by decide) rfl ?_
  intro p e s m args below meth c s₁ B hml hv
  obtain ⟨rfl, hsz, hP, hK, hD0, hN, hT⟩ := hv
  have hx := B.exec
  have hb := B.bytes
  have hr := B.returns
  have hts : ∀ w ∈ tblG, w.before _ s = true := fun w h => atoms_spec (ws := (wsG yX12_goesOn cX12_goesOn 6 none)) B.pre w (List.mem_cons_of_mem _ h)
  have hown : s.vm.findClass RX12 = some m.cls := findClass_of_methodNamed B.named
  have hlocks := B.notSynchronized
  subst hsz
  have hD := hD0.self (sz := s.heap.size)
  generalize hAe : va_A [(b_o, (oc12 u_th u_sa b_rf b_ro b_im b_ke u_fd b_tp u_td u_fr u_to u_so u_wo u_fa u_bd u_nc b_nl u_co b_op b_ar u_le b_pi b_pa u_pd u_od b_ws b_hw u_la b_se b_re u_bk u_va u_su u_ce u_ho u_wy u_bt u_ps b_pt u_tg u_sn b_ip u_ic b_ah b_be b_me u_wd b_tr b_ld u_st b_wn u_id)), (b_ah, (arJ G 49152 v_ah)), (b_me, (arI G 1536 v_me))] s.heap.size = A at hD hT ⊢
  have hA : ∀ q : Nat, s.heap.size ≤ q → A q := fun q h => by rw [← hAe]; exact Or.inr h
  have hS : va_S A s.heap s.heap [] := va_S.rf
  have hP : va_P G.1 vwCl [(b_o, (oc12 u_th u_sa b_rf b_ro b_im b_ke u_fd b_tp u_td u_fr u_to u_so u_wo u_fa u_bd u_nc b_nl u_co b_op b_ar u_le b_pi b_pa u_pd u_od b_ws b_hw u_la b_se b_re u_bk u_va u_su u_ce u_ho u_wy u_bt u_ps b_pt u_tg u_sn b_ip u_ic b_ah b_be b_me u_wd b_tr b_ld u_st b_wn u_id)), (b_ah, (arJ G 49152 v_ah)), (b_me, (arI G 1536 v_me))] s.heap := hP
  have hl := lv_entry ([.ref b_o, .int p_1, .int p_2]) (n := 6) (Nat.le_of_ble_eq_true rfl)
  rw [lg_entry_eq]
  generalize (lg_sl ([.ref b_o, .int p_1, .int p_2]) ++ List.replicate (6 - (lg_sl ([.ref b_o, .int p_1, .int p_2])).length) Slot.unset).toArray = ls at hl ⊢
  have hl : lv_has ls 6 [(0, .ref b_o), (1, .int p_1), (2, .int p_2)] := hl
  refine lv_iconst (v := 0) hx hb dX12_goesOn_0 (by decide) ?_
  refine lv_istore_n (lv' := [(3, .int 0), (0, .ref b_o), (1, .int p_1), (2, .int p_2)]) hx hb dX12_goesOn_1 rfl hl (by decide) rfl (fun ls hl => ?_)
  refine g5_loop (α := (Int32) × (Nat → Int64)) (fun (q : (Int32) × (Nat → Int64)) (ls : Array Slot) (H : Heap) (locs : List Loc) => match q with | (k2_3, k2_ah) => lv_has ls 6 [(3, .int k2_3), (0, .ref b_o), (1, .int p_1), (2, .int p_2)] ∧ va_P G.1 vwCl [(b_o, (oc12 u_th u_sa b_rf b_ro b_im b_ke u_fd b_tp u_td u_fr u_to u_so u_wo u_fa u_bd u_nc b_nl u_co b_op b_ar u_le b_pi b_pa u_pd u_od b_ws b_hw u_la b_se b_re u_bk u_va u_su u_ce u_ho u_wy u_bt u_ps b_pt u_tg u_sn b_ip u_ic b_ah b_be b_me u_wd b_tr b_ld u_st b_wn u_id)), (b_ah, (arJ G 49152 k2_ah)), (b_me, (arI G 1536 v_me))] H ∧ va_D A [(b_o, (oc12 u_th u_sa b_rf b_ro b_im b_ke u_fd b_tp u_td u_fr u_to u_so u_wo u_fa u_bd u_nc b_nl u_co b_op b_ar u_le b_pi b_pa u_pd u_od b_ws b_hw u_la b_se b_re u_bk u_va u_su u_ce u_ho u_wy u_bt u_ps b_pt u_tg u_sn b_ip u_ic b_ah b_be b_me u_wd b_tr b_ld u_st b_wn u_id)), (b_ah, (arJ G 49152 k2_ah)), (b_me, (arI G 1536 v_me))] ∧ va_S A s.heap H locs ∧ (0 ≤ k2_3.toInt ∧ k2_3.toInt ≤ 5) ∧ (AHK k2_ah v_ah)) (fun (q : (Int32) × (Nat → Int64)) => match q with | (k2_3, k2_ah) => Int.toNat (5 - k2_3.toInt)) (0, v_ah) ⟨lv_sub hl [0, 1, 2, 3] rfl, hP, hD, hS, ⟨by decide, by decide⟩, ahk_rf⟩ ?_
  rintro ⟨k2_3, k2_ah⟩ ls H locs ⟨hl, hP, hD, hS, i_1, i_2⟩ ih_2_3
  have hl : lv_has ls 6 [(3, .int k2_3), (0, .ref b_o), (1, .int p_1), (2, .int p_2)] := hl
  have i_1 : 0 ≤ k2_3.toInt ∧ k2_3.toInt ≤ 5 := i_1
  have i_2 : AHK k2_ah v_ah := i_2
  refine g5_rs [(b_o, (oc12 u_th u_sa b_rf b_ro b_im b_ke u_fd b_tp u_td u_fr u_to u_so u_wo u_fa u_bd u_nc b_nl u_co b_op b_ar u_le b_pi b_pa u_pd u_od b_ws b_hw u_la b_se b_re u_bk u_va u_su u_ce u_ho u_wy u_bt u_ps b_pt u_tg u_sn b_ip u_ic b_ah b_be b_me u_wd b_tr b_ld u_st b_wn u_id)), (b_ah, (arJ G 49152 k2_ah)), (b_me, (arI G 1536 v_me))] hP hD (fun hP hD => ?_)
  refine lv_iload_n hx hb dX12_goesOn_2 rfl (lv_at hl 0 rfl) ?_
  refine lv_iconst (v := 5) hx hb dX12_goesOn_3 (by decide) ?_
  refine lv_icmp_ge (tgt := 101) hx hb dX12_goesOn_4 (by decide) (fun c_4 => ?_) (fun c_4 => ?_)
  ·
    have i_4 : k2_3.toInt ≥ 5 := by have z := g5_ge (a := k2_3.toInt) (b := 5) (by rfl) (by decide) c_4; omega
    exact W.vret hx hb hr (fun t ht hW => ⟨⟨[(b_o, (oc12 u_th u_sa b_rf b_ro b_im b_ke u_fd b_tp u_td u_fr u_to u_so u_wo u_fa u_bd u_nc b_nl u_co b_op b_ar u_le b_pi b_pa u_pd u_od b_ws b_hw u_la b_se b_re u_bk u_va u_su u_ce u_ho u_wy u_bt u_ps b_pt u_tg u_sn b_ip u_ic b_ah b_be b_me u_wd b_tr b_ld u_st b_wn u_id)), (b_ah, (arJ G 49152 k2_ah)), (b_me, (arI G 1536 v_me))], rfl, ⟨k2_ah, i_2, rfl⟩, by rw [ht]; exact hP.sub [0, 1, 2] rfl, hD.sub [0, 1, 2] (by decide) rfl⟩, hS.F ht⟩) hS.2.2 dX12_goesOn_101
  ·
    have i_4 : k2_3.toInt < 5 := by have z := g5_geN (a := k2_3.toInt) (b := 5) (by rfl) (by decide) c_4; omega
    refine lv_aload_n hx hb dX12_goesOn_7 rfl (lv_at hl 1 rfl) ?_
    refine lv_iload_n hx hb dX12_goesOn_8 rfl (lv_at hl 3 rfl) ?_
    refine lv_iload_n hx hb dX12_goesOn_9 rfl (lv_at hl 0 rfl) ?_
    refine lv_iload_n hx hb dX12_goesOn_10 rfl (lv_at hl 2 rfl) ?_
    refine lv_iconst (v := 1) hx hb dX12_goesOn_11 (by decide) ?_
    refine lv_iadd hx hb dX12_goesOn_12 ?_
    have t_5 : (p_1 + 1).toInt = p_1.toInt + 1 := g5_iadd (a := p_1.toInt) (b := 1) (by rfl) (by decide) (by omega) (by omega)
    obtain ⟨hPc, hDc, hFc⟩ := g5_sub3 (wc := [(b_o, (oc12 u_th u_sa b_rf b_ro b_im b_ke u_fd b_tp u_td u_fr u_to u_so u_wo u_fa u_bd u_nc b_nl u_co b_op b_ar u_le b_pi b_pa u_pd u_od b_ws b_hw u_la b_se b_re u_bk u_va u_su u_ce u_ho u_wy u_bt u_ps b_pt u_tg u_sn b_ip u_ic b_ah b_be b_me u_wd b_tr b_ld u_st b_wn u_id)), (b_me, (arI G 1536 v_me))]) hP hD hS hA [0, 2] (by decide) rfl
    refine va_calli (va_runV (As := [.int p_2, .int k2_3, .int (p_1 + 1)]) (rest := []) ⟨hx, hb, hml, hown, hts⟩ (n_step l G b_o b_me b_rf b_ro b_im b_ke b_tp b_nl b_op b_ar b_pi b_pa b_ws b_hw b_se b_re b_pt b_ip b_ah b_be b_tr b_ld b_wn H.size u_th u_sa u_fd u_td u_fr u_to u_so u_fa u_bd u_nc u_co u_le u_pd u_od u_la u_bk u_ce u_ho u_wy u_bt u_ps u_tg u_sn u_ic u_wd u_id p_2 k2_3 (p_1 + 1) u_wo u_va u_su u_st v_me h_u_td h_u_fr h_u_to h_u_bd h_u_nc h_u_co h_u_pd h_u_la h_u_bk h_u_ce h_u_ho h_u_wy h_u_bt h_u_ps h_u_ic h_u_id h_p_2 ⟨by omega, by omega⟩ ⟨by omega, by omega⟩ (r_me)) (cwV 3 hts gV_X12_437 rfl rfl rfl hv_X12_step ⟨Nat.le_of_ble_eq_true rfl, Nat.le_of_ble_eq_true rfl⟩) (g5_preV hPc hK hDc hN hT hS hFc (ci := 12) (q0 := 0) rfl rfl) rfl rfl hl.1 rfl (lv_room (Nat.le_of_ble_eq_true rfl)) dX12_goesOn_13 ⟨Nat.le_of_ble_eq_true rfl, Nat.le_of_ble_eq_true rfl⟩) hS (fun q _ h => hFc q h) hFc (fun r u t H1 locs ht hvm hw hB hz1 hk1 hS => ?_)
    obtain ⟨hP1, hD1⟩ := hB
    rw [ht] at hP1
    obtain ⟨z8, i_6, i_7, y9, rfl⟩ := hw
    have i_6 : (-1) ≤ z8.toInt ∧ z8.toInt ≤ 63 := i_6
    have i_7 : z8.toInt = -1 ∨ (v_me (64 * (p_1 + 1).toInt + z8.toInt).toNat).toInt < 64 := i_7
    obtain ⟨hP, hD⟩ := va_join (wr := [(b_ah, (arJ G 49152 k2_ah))]) hP hD [0, 2] [1] rfl rfl (by decide) (by decide) hk1 hFc hP1 hD1
    generalize H1 = H at hP hS ⊢
    refine g5_rs [(b_ah, (arJ G 49152 k2_ah)), (b_o, (oc12 u_th u_sa b_rf b_ro b_im b_ke u_fd b_tp u_td u_fr u_to u_so u_wo u_fa u_bd u_nc b_nl u_co b_op b_ar u_le b_pi b_pa u_pd u_od b_ws b_hw u_la b_se b_re u_bk u_va u_su u_ce u_ho u_wy u_bt u_ps b_pt u_tg u_sn b_ip u_ic b_ah b_be b_me u_wd b_tr b_ld u_st b_wn u_id)), (b_me, (arI G 1536 v_me))] hP hD (fun hP hD => ?_)
    refine g5_ti (v := z8) y9 ?_
    refine lv_istore (lv' := [(4, .int z8), (3, .int k2_3), (0, .ref b_o), (1, .int p_1), (2, .int p_2)]) hx hb dX12_goesOn_16 hl (by decide) rfl (fun ls hl => ?_)
    refine lv_iconst (v := 0) hx hb dX12_goesOn_18 (by decide) ?_
    refine lv_istore (lv' := [(5, .int 0), (4, .int z8), (3, .int k2_3), (0, .ref b_o), (1, .int p_1), (2, .int p_2)]) hx hb dX12_goesOn_19 hl (by decide) rfl (fun ls hl => ?_)
    refine g5_loop (α := (Int32) × (Nat → Int64)) (fun (q : (Int32) × (Nat → Int64)) (ls : Array Slot) (H : Heap) (locs : List Loc) => match q with | (k21_5, k21_ah) => lv_has ls 6 [(5, .int k21_5), (4, .int z8), (3, .int k2_3), (0, .ref b_o), (1, .int p_1), (2, .int p_2)] ∧ va_P G.1 vwCl [(b_ah, (arJ G 49152 k21_ah)), (b_o, (oc12 u_th u_sa b_rf b_ro b_im b_ke u_fd b_tp u_td u_fr u_to u_so u_wo u_fa u_bd u_nc b_nl u_co b_op b_ar u_le b_pi b_pa u_pd u_od b_ws b_hw u_la b_se b_re u_bk u_va u_su u_ce u_ho u_wy u_bt u_ps b_pt u_tg u_sn b_ip u_ic b_ah b_be b_me u_wd b_tr b_ld u_st b_wn u_id)), (b_me, (arI G 1536 v_me))] H ∧ va_D A [(b_ah, (arJ G 49152 k21_ah)), (b_o, (oc12 u_th u_sa b_rf b_ro b_im b_ke u_fd b_tp u_td u_fr u_to u_so u_wo u_fa u_bd u_nc b_nl u_co b_op b_ar u_le b_pi b_pa u_pd u_od b_ws b_hw u_la b_se b_re u_bk u_va u_su u_ce u_ho u_wy u_bt u_ps b_pt u_tg u_sn b_ip u_ic b_ah b_be b_me u_wd b_tr b_ld u_st b_wn u_id)), (b_me, (arI G 1536 v_me))] ∧ va_S A s.heap H locs ∧ (0 ≤ k21_5.toInt ∧ k21_5.toInt ≤ 32) ∧ (AHK k21_ah v_ah)) (fun (q : (Int32) × (Nat → Int64)) => match q with | (k21_5, k21_ah) => Int.toNat (32 - k21_5.toInt)) (0, k2_ah) ⟨lv_sub hl [0, 1, 2, 3, 4, 5] rfl, hP, hD, hS, ⟨by decide, by decide⟩, i_2⟩ ?_
    rintro ⟨k21_5, k21_ah⟩ ls H locs ⟨hl, hP, hD, hS, i_10, i_11⟩ ih_21_12
    have hl : lv_has ls 6 [(5, .int k21_5), (4, .int z8), (3, .int k2_3), (0, .ref b_o), (1, .int p_1), (2, .int p_2)] := hl
    have i_10 : 0 ≤ k21_5.toInt ∧ k21_5.toInt ≤ 32 := i_10
    have i_11 : AHK k21_ah v_ah := i_11
    refine g5_rs [(b_ah, (arJ G 49152 k21_ah)), (b_o, (oc12 u_th u_sa b_rf b_ro b_im b_ke u_fd b_tp u_td u_fr u_to u_so u_wo u_fa u_bd u_nc b_nl u_co b_op b_ar u_le b_pi b_pa u_pd u_od b_ws b_hw u_la b_se b_re u_bk u_va u_su u_ce u_ho u_wy u_bt u_ps b_pt u_tg u_sn b_ip u_ic b_ah b_be b_me u_wd b_tr b_ld u_st b_wn u_id)), (b_me, (arI G 1536 v_me))] hP hD (fun hP hD => ?_)
    refine lv_iload hx hb dX12_goesOn_21 (lv_at hl 0 rfl) ?_
    refine lv_bipush (v := 32) hx hb dX12_goesOn_23 (by decide) ?_
    refine lv_icmp_ge (tgt := 95) hx hb dX12_goesOn_25 (by decide) (fun c_13 => ?_) (fun c_13 => ?_)
    ·
      have i_13 : k21_5.toInt ≥ 32 := by have z := g5_ge (a := k21_5.toInt) (b := 32) (by rfl) (by decide) c_13; omega
      refine lv_iinc (v := (k2_3 + 1)) (lv' := [(3, .int (k2_3 + 1)), (5, .int k21_5), (4, .int z8), (0, .ref b_o), (1, .int p_1), (2, .int p_2)]) hx hb dX12_goesOn_95 hl (k := 2) rfl rfl (by decide) rfl (fun ls hl => ?_)
      have t_14 : (k2_3 + 1).toInt = k2_3.toInt + 1 := g5_iadd (a := k2_3.toInt) (b := 1) rfl (by decide) (by omega) (by omega)
      refine lv_goto (tgt := 2) hx hb dX12_goesOn_98 (by decide) ?_
      exact ih_2_3 ((k2_3 + 1), k21_ah) ls H locs (show Int.toNat (5 - (k2_3 + 1).toInt) < Int.toNat (5 - k2_3.toInt) from g_up (show k2_3.toInt < (k2_3 + 1).toInt by omega) (show k2_3.toInt < 5 by omega)) ⟨lv_sub hl [0, 3, 4, 5] rfl, hP.sub [1, 0, 2] rfl, hD.sub [1, 0, 2] (by decide) rfl, hS, ⟨by omega, by omega⟩, i_11⟩
    ·
      have i_13 : k21_5.toInt < 32 := by have z := g5_geN (a := k21_5.toInt) (b := 32) (by rfl) (by decide) c_13; omega
      refine lv_iload hx hb dX12_goesOn_28 (lv_at hl 1 rfl) ?_
      refine lv_iconst (v := (-1)) hx hb dX12_goesOn_30 (by decide) ?_
      refine lv_icmp_eq (tgt := 95) hx hb dX12_goesOn_31 (by decide) (fun c_15 => ?_) (fun c_15 => ?_)
      ·
        have i_15 : z8.toInt = (-1) := by have z := g5_eq (a := z8.toInt) (b := (-1)) (by rfl) (by decide) c_15; omega
        refine lv_iinc (v := (k2_3 + 1)) (lv' := [(3, .int (k2_3 + 1)), (5, .int k21_5), (4, .int z8), (0, .ref b_o), (1, .int p_1), (2, .int p_2)]) hx hb dX12_goesOn_95 hl (k := 2) rfl rfl (by decide) rfl (fun ls hl => ?_)
        have t_16 : (k2_3 + 1).toInt = k2_3.toInt + 1 := g5_iadd (a := k2_3.toInt) (b := 1) rfl (by decide) (by omega) (by omega)
        refine lv_goto (tgt := 2) hx hb dX12_goesOn_98 (by decide) ?_
        exact ih_2_3 ((k2_3 + 1), k21_ah) ls H locs (show Int.toNat (5 - (k2_3 + 1).toInt) < Int.toNat (5 - k2_3.toInt) from g_up (show k2_3.toInt < (k2_3 + 1).toInt by omega) (show k2_3.toInt < 5 by omega)) ⟨lv_sub hl [0, 3, 4, 5] rfl, hP.sub [1, 0, 2] rfl, hD.sub [1, 0, 2] (by decide) rfl, hS, ⟨by omega, by omega⟩, i_11⟩
      ·
        have n_15 : gNe (z8.toInt) ((-1)) := by have z := g5_eqN (a := z8.toInt) (b := (-1)) (by rfl) (by decide) c_15; unfold gNe; omega
        have i_15 : z8.toInt ≥ 0 := by have z := g5_eqN (a := z8.toInt) (b := (-1)) (by rfl) (by decide) c_15; omega
        refine lv_aload_n hx hb dX12_goesOn_34 rfl (lv_at hl 3 rfl) ?_
        refine va_get (D := G.1) (ci := 12) (v := .ref b_ah) (C := RX12) (T := TX12) (N := 52) hx hb hts inG_X12 hown hK hP 1 rfl rfl 43 (by decide) (hts _ fl_X12_89) (fun _ h9 => h9) rfl dX12_goesOn_35 ?_
        refine lv_bipush (v := 32) hx hb dX12_goesOn_38 (by decide) ?_
        refine lv_bipush (v := 64) hx hb dX12_goesOn_40 (by decide) ?_
        refine lv_iload_n hx hb dX12_goesOn_42 rfl (lv_at hl 4 rfl) ?_
        refine lv_iconst (v := 1) hx hb dX12_goesOn_43 (by decide) ?_
        refine lv_iadd hx hb dX12_goesOn_44 ?_
        have t_17 : (p_1 + 1).toInt = p_1.toInt + 1 := g5_iadd (a := p_1.toInt) (b := 1) (by rfl) (by decide) (by omega) (by omega)
        refine lv_imul hx hb dX12_goesOn_45 ?_
        have t_18 : (64 * (p_1 + 1)).toInt = 64 * (p_1 + 1).toInt := g5_imul (a := 64) (b := (p_1 + 1).toInt) (by decide) (by rfl) (by omega) (by omega)
        refine lv_iload hx hb dX12_goesOn_46 (lv_at hl 1 rfl) ?_
        refine lv_iadd hx hb dX12_goesOn_48 ?_
        have t_19 : ((64 * (p_1 + 1)) + z8).toInt = (64 * (p_1 + 1)).toInt + z8.toInt := g5_iadd (a := (64 * (p_1 + 1)).toInt) (b := z8.toInt) (by rfl) (by rfl) (by omega) (by omega)
        refine lv_imul hx hb dX12_goesOn_49 ?_
        have t_20 : (32 * ((64 * (p_1 + 1)) + z8)).toInt = 32 * ((64 * (p_1 + 1)) + z8).toInt := g5_imul (a := 32) (b := ((64 * (p_1 + 1)) + z8).toInt) (by decide) (by rfl) (by omega) (by omega)
        refine lv_iload hx hb dX12_goesOn_50 (lv_at hl 0 rfl) ?_
        refine lv_aload_n hx hb dX12_goesOn_52 rfl (lv_at hl 3 rfl) ?_
        refine va_get (D := G.1) (ci := 12) (v := .ref b_me) (C := RX12) (T := TX12) (N := 52) hx hb hts inG_X12 hown hK hP 1 rfl rfl 45 (by decide) (hts _ fl_X12_95) (fun _ h9 => h9) rfl dX12_goesOn_53 ?_
        refine lv_bipush (v := 64) hx hb dX12_goesOn_56 (by decide) ?_
        refine lv_iload_n hx hb dX12_goesOn_58 rfl (lv_at hl 4 rfl) ?_
        refine lv_iconst (v := 1) hx hb dX12_goesOn_59 (by decide) ?_
        refine lv_iadd hx hb dX12_goesOn_60 ?_
        have t_21 : (p_1 + 1).toInt = p_1.toInt + 1 := g5_iadd (a := p_1.toInt) (b := 1) (by rfl) (by decide) (by omega) (by omega)
        refine lv_imul hx hb dX12_goesOn_61 ?_
        have t_22 : (64 * (p_1 + 1)).toInt = 64 * (p_1 + 1).toInt := g5_imul (a := 64) (b := (p_1 + 1).toInt) (by decide) (by rfl) (by omega) (by omega)
        refine lv_iload hx hb dX12_goesOn_62 (lv_at hl 1 rfl) ?_
        refine lv_iadd hx hb dX12_goesOn_64 ?_
        have t_23 : ((64 * (p_1 + 1)) + z8).toInt = (64 * (p_1 + 1)).toInt + z8.toInt := g5_iadd (a := (64 * (p_1 + 1)).toInt) (b := z8.toInt) (by rfl) (by rfl) (by omega) (by omega)
        refine va_iald hx hb hK hP 2 0 rfl rfl (i := ((64 * (p_1 + 1)) + z8)) (vp_in_iff.mpr ⟨by omega, by omega⟩) dX12_goesOn_65 ?_
        have hr_24 : 0 ≤ (v_me ((64 * (p_1 + 1)) + z8).toNatClampNeg).toInt ∧ ((v_me ((64 * (p_1 + 1)) + z8).toNatClampNeg).toInt < 32 ∨ 64 ≤ (v_me ((64 * (p_1 + 1)) + z8).toNatClampNeg).toInt) ∧ (v_me ((64 * (p_1 + 1)) + z8).toNatClampNeg).toInt ≤ 127 := r_me (((64 * (p_1 + 1)) + z8).toNatClampNeg)
        have h64_25 : (v_me ((64 * (p_1 + 1)) + z8).toNatClampNeg).toInt < 64 := by have e9 : ((64 * (p_1 + 1)) + z8).toNatClampNeg = (64 * (p_1 + 1).toInt + z8.toInt).toNat := (by have zz := g5_clamp ((64 * (p_1 + 1)) + z8); omega); rw [e9]; rcases i_7 with q | q; omega; exact q
        refine lv_ior hx hb dX12_goesOn_66 ?_
        have ho_26 : 0 ≤ (k21_5 ||| (v_me ((64 * (p_1 + 1)) + z8).toNatClampNeg)).toInt ∧ (k21_5 ||| (v_me ((64 * (p_1 + 1)) + z8).toNatClampNeg)).toInt < 32 := me_low ⟨by omega, by omega⟩ ⟨by omega, by omega⟩
        refine lv_iadd hx hb dX12_goesOn_67 ?_
        have t_27 : ((32 * ((64 * (p_1 + 1)) + z8)) + (k21_5 ||| (v_me ((64 * (p_1 + 1)) + z8).toNatClampNeg))).toInt = (32 * ((64 * (p_1 + 1)) + z8)).toInt + (k21_5 ||| (v_me ((64 * (p_1 + 1)) + z8).toNatClampNeg)).toInt := g5_iadd (a := (32 * ((64 * (p_1 + 1)) + z8)).toInt) (b := (k21_5 ||| (v_me ((64 * (p_1 + 1)) + z8).toNatClampNeg)).toInt) (by rfl) (by rfl) (by omega) (by omega)
        refine lv_dup2_11 hx hb dX12_goesOn_68 rfl rfl ?_
        refine va_lald hx hb hK hP 0 1 rfl rfl (i := ((32 * ((64 * (p_1 + 1)) + z8)) + (k21_5 ||| (v_me ((64 * (p_1 + 1)) + z8).toNatClampNeg)))) (vp_in_iff.mpr ⟨by omega, by omega⟩) dX12_goesOn_69 ?_
        refine lv_aload_n hx hb dX12_goesOn_70 rfl (lv_at hl 3 rfl) ?_
        refine va_get (D := G.1) (ci := 12) (v := .ref b_ah) (C := RX12) (T := TX12) (N := 52) hx hb hts inG_X12 hown hK hP 1 rfl rfl 43 (by decide) (hts _ fl_X12_89) (fun _ h9 => h9) rfl dX12_goesOn_71 ?_
        refine lv_bipush (v := 32) hx hb dX12_goesOn_74 (by decide) ?_
        refine lv_bipush (v := 64) hx hb dX12_goesOn_76 (by decide) ?_
        refine lv_iload_n hx hb dX12_goesOn_78 rfl (lv_at hl 4 rfl) ?_
        refine lv_imul hx hb dX12_goesOn_79 ?_
        have t_28 : (64 * p_1).toInt = 64 * p_1.toInt := g5_imul (a := 64) (b := p_1.toInt) (by decide) (by rfl) (by omega) (by omega)
        refine lv_iload_n hx hb dX12_goesOn_80 rfl (lv_at hl 5 rfl) ?_
        refine lv_iadd hx hb dX12_goesOn_81 ?_
        have t_29 : ((64 * p_1) + p_2).toInt = (64 * p_1).toInt + p_2.toInt := g5_iadd (a := (64 * p_1).toInt) (b := p_2.toInt) (by rfl) (by rfl) (by omega) (by omega)
        refine lv_imul hx hb dX12_goesOn_82 ?_
        have t_30 : (32 * ((64 * p_1) + p_2)).toInt = 32 * ((64 * p_1) + p_2).toInt := g5_imul (a := 32) (b := ((64 * p_1) + p_2).toInt) (by decide) (by rfl) (by omega) (by omega)
        refine lv_iload hx hb dX12_goesOn_83 (lv_at hl 0 rfl) ?_
        refine lv_iadd hx hb dX12_goesOn_85 ?_
        have t_31 : ((32 * ((64 * p_1) + p_2)) + k21_5).toInt = (32 * ((64 * p_1) + p_2)).toInt + k21_5.toInt := g5_iadd (a := (32 * ((64 * p_1) + p_2)).toInt) (b := k21_5.toInt) (by rfl) (by rfl) (by omega) (by omega)
        refine va_lald hx hb hK hP 0 1 rfl rfl (i := ((32 * ((64 * p_1) + p_2)) + k21_5)) (vp_in_iff.mpr ⟨by omega, by omega⟩) dX12_goesOn_86 ?_
        refine lv_ladd hx hb dX12_goesOn_87 ?_
        refine va_last hx hb hK hP hD hS 0 1 rfl rfl (i := ((32 * ((64 * (p_1 + 1)) + z8)) + (k21_5 ||| (v_me ((64 * (p_1 + 1)) + z8).toNatClampNeg)))) (x := ((k21_ah ((32 * ((64 * (p_1 + 1)) + z8)) + (k21_5 ||| (v_me ((64 * (p_1 + 1)) + z8).toNatClampNeg))).toNatClampNeg) + (k21_ah ((32 * ((64 * p_1) + p_2)) + k21_5).toNatClampNeg))) (vp_in_iff.mpr ⟨by omega, by omega⟩) dX12_goesOn_88 (fun H locs hP hD hS => ?_)
        refine g5_rs [(b_ah, (arJ G 49152 (vp_updL k21_ah ((32 * ((64 * (p_1 + 1)) + z8)) + (k21_5 ||| (v_me ((64 * (p_1 + 1)) + z8).toNatClampNeg))).toNatClampNeg ((k21_ah ((32 * ((64 * (p_1 + 1)) + z8)) + (k21_5 ||| (v_me ((64 * (p_1 + 1)) + z8).toNatClampNeg))).toNatClampNeg) + (k21_ah ((32 * ((64 * p_1) + p_2)) + k21_5).toNatClampNeg))))), (b_o, (oc12 u_th u_sa b_rf b_ro b_im b_ke u_fd b_tp u_td u_fr u_to u_so u_wo u_fa u_bd u_nc b_nl u_co b_op b_ar u_le b_pi b_pa u_pd u_od b_ws b_hw u_la b_se b_re u_bk u_va u_su u_ce u_ho u_wy u_bt u_ps b_pt u_tg u_sn b_ip u_ic b_ah b_be b_me u_wd b_tr b_ld u_st b_wn u_id)), (b_me, (arI G 1536 v_me))] hP hD (fun hP hD => ?_)
        refine lv_iinc (v := (k21_5 + 1)) (lv' := [(5, .int (k21_5 + 1)), (4, .int z8), (3, .int k2_3), (0, .ref b_o), (1, .int p_1), (2, .int p_2)]) hx hb dX12_goesOn_89 hl (k := 0) rfl rfl (by decide) rfl (fun ls hl => ?_)
        have t_32 : (k21_5 + 1).toInt = k21_5.toInt + 1 := g5_iadd (a := k21_5.toInt) (b := 1) rfl (by decide) (by omega) (by omega)
        refine lv_goto (tgt := 21) hx hb dX12_goesOn_92 (by decide) ?_
        exact ih_21_12 ((k21_5 + 1), (vp_updL k21_ah ((32 * ((64 * (p_1 + 1)) + z8)) + (k21_5 ||| (v_me ((64 * (p_1 + 1)) + z8).toNatClampNeg))).toNatClampNeg ((k21_ah ((32 * ((64 * (p_1 + 1)) + z8)) + (k21_5 ||| (v_me ((64 * (p_1 + 1)) + z8).toNatClampNeg))).toNatClampNeg) + (k21_ah ((32 * ((64 * p_1) + p_2)) + k21_5).toNatClampNeg)))) ls H locs (show Int.toNat (32 - (k21_5 + 1).toInt) < Int.toNat (32 - k21_5.toInt) from g_up (show k21_5.toInt < (k21_5 + 1).toInt by omega) (show k21_5.toInt < 32 by omega)) ⟨lv_sub hl [0, 1, 2, 3, 4, 5] rfl, hP, hD, hS, ⟨by omega, by omega⟩, ahk_upd i_11 (by omega)⟩
