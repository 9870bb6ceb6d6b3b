theorem dgX12_readExpression_0 : ∀ r ∈ ([(0, (.aload_n 0, 1)), (1, (.iconst 0, 1)), (2, (.putfield 240, 3)), (5, (.aload_n 0, 1)), (6, (.iconst 0, 1)), (7, (.putfield 258, 3)), (10, (.iload_n 1, 1)), (11, (.ifCond .eq 7, 3)), (14, (.iconst 0, 1)), (15, (.goto 4, 3)), (18, (.iconst 1, 1)), (19, (.istore_n 2, 1)), (20, (.aload_n 0, 1)), (21, (.getfield 205, 3)), (24, (.ifCond .ne 52, 3)), (27, (.iload_n 2, 1)), (28, (.iconst 4, 1)), (29, (.if_icmp .eq 47, 3)), (32, (.iload_n 2, 1)), (33, (.ifCond .ne 10, 3)), (36, (.aload_n 0, 1)), (37, (.invokevirtual 302, 3)), (40, (.goto 32, 3)), (43, (.iload_n 2, 1)), (44, (.iconst 1, 1)), (45, (.if_icmp .ne 10, 3)), (48, (.aload_n 0, 1)), (49, (.invokevirtual 285, 3)), (52, (.goto 20, 3)), (55, (.iload_n 2, 1)), (56, (.iconst 3, 1)), (57, (.if_icmp .ne 11, 3)), (60, (.aload_n 0, 1)), (61, (.iload_n 1, 1)), (62, (.invokevirtual 305, 3)), (65, (.goto 7, 3)), (68, (.aload_n 0, 1)), (69, (.invokevirtual 309, 3)), (72, (.istore_n 2, 1)), (73, (.goto (-53), 3))] : List (Nat × (Instr × Nat))), decode cX12_readExpression r.1 = .ok r.2 := by decide +kernel
theorem dX12_readExpression_0 : decode cX12_readExpression 0 = .ok (.aload_n 0, 1) := dgX12_readExpression_0 (0, (.aload_n 0, 1)) (List.mem_of_getElem? (i := 0) rfl)
theorem dX12_readExpression_1 : decode cX12_readExpression 1 = .ok (.iconst 0, 1) := dgX12_readExpression_0 (1, (.iconst 0, 1)) (List.mem_of_getElem? (i := 1) rfl)
theorem dX12_readExpression_2 : decode cX12_readExpression 2 = .ok (.putfield 240, 3) := dgX12_readExpression_0 (2, (.putfield 240, 3)) (List.mem_of_getElem? (i := 2) rfl)
theorem dX12_readExpression_5 : decode cX12_readExpression 5 = .ok (.aload_n 0, 1) := dgX12_readExpression_0 (5, (.aload_n 0, 1)) (List.mem_of_getElem? (i := 3) rfl)
theorem dX12_readExpression_6 : decode cX12_readExpression 6 = .ok (.iconst 0, 1) := dgX12_readExpression_0 (6, (.iconst 0, 1)) (List.mem_of_getElem? (i := 4) rfl)
theorem dX12_readExpression_7 : decode cX12_readExpression 7 = .ok (.putfield 258, 3) := dgX12_readExpression_0 (7, (.putfield 258, 3)) (List.mem_of_getElem? (i := 5) rfl)
theorem dX12_readExpression_10 : decode cX12_readExpression 10 = .ok (.iload_n 1, 1) := dgX12_readExpression_0 (10, (.iload_n 1, 1)) (List.mem_of_getElem? (i := 6) rfl)
theorem dX12_readExpression_11 : decode cX12_readExpression 11 = .ok (.ifCond .eq 7, 3) := dgX12_readExpression_0 (11, (.ifCond .eq 7, 3)) (List.mem_of_getElem? (i := 7) rfl)
theorem dX12_readExpression_14 : decode cX12_readExpression 14 = .ok (.iconst 0, 1) := dgX12_readExpression_0 (14, (.iconst 0, 1)) (List.mem_of_getElem? (i := 8) rfl)
theorem dX12_readExpression_15 : decode cX12_readExpression 15 = .ok (.goto 4, 3) := dgX12_readExpression_0 (15, (.goto 4, 3)) (List.mem_of_getElem? (i := 9) rfl)
theorem dX12_readExpression_18 : decode cX12_readExpression 18 = .ok (.iconst 1, 1) := dgX12_readExpression_0 (18, (.iconst 1, 1)) (List.mem_of_getElem? (i := 10) rfl)
theorem dX12_readExpression_19 : decode cX12_readExpression 19 = .ok (.istore_n 2, 1) := dgX12_readExpression_0 (19, (.istore_n 2, 1)) (List.mem_of_getElem? (i := 11) rfl)
theorem dX12_readExpression_20 : decode cX12_readExpression 20 = .ok (.aload_n 0, 1) := dgX12_readExpression_0 (20, (.aload_n 0, 1)) (List.mem_of_getElem? (i := 12) rfl)
theorem dX12_readExpression_21 : decode cX12_readExpression 21 = .ok (.getfield 205, 3) := dgX12_readExpression_0 (21, (.getfield 205, 3)) (List.mem_of_getElem? (i := 13) rfl)
theorem dX12_readExpression_24 : decode cX12_readExpression 24 = .ok (.ifCond .ne 52, 3) := dgX12_readExpression_0 (24, (.ifCond .ne 52, 3)) (List.mem_of_getElem? (i := 14) rfl)
theorem dX12_readExpression_27 : decode cX12_readExpression 27 = .ok (.iload_n 2, 1) := dgX12_readExpression_0 (27, (.iload_n 2, 1)) (List.mem_of_getElem? (i := 15) rfl)
theorem dX12_readExpression_28 : decode cX12_readExpression 28 = .ok (.iconst 4, 1) := dgX12_readExpression_0 (28, (.iconst 4, 1)) (List.mem_of_getElem? (i := 16) rfl)
theorem dX12_readExpression_29 : decode cX12_readExpression 29 = .ok (.if_icmp .eq 47, 3) := dgX12_readExpression_0 (29, (.if_icmp .eq 47, 3)) (List.mem_of_getElem? (i := 17) rfl)
theorem dX12_readExpression_32 : decode cX12_readExpression 32 = .ok (.iload_n 2, 1) := dgX12_readExpression_0 (32, (.iload_n 2, 1)) (List.mem_of_getElem? (i := 18) rfl)
theorem dX12_readExpression_33 : decode cX12_readExpression 33 = .ok (.ifCond .ne 10, 3) := dgX12_readExpression_0 (33, (.ifCond .ne 10, 3)) (List.mem_of_getElem? (i := 19) rfl)
theorem dX12_readExpression_36 : decode cX12_readExpression 36 = .ok (.aload_n 0, 1) := dgX12_readExpression_0 (36, (.aload_n 0, 1)) (List.mem_of_getElem? (i := 20) rfl)
theorem dX12_readExpression_37 : decode cX12_readExpression 37 = .ok (.invokevirtual 302, 3) := dgX12_readExpression_0 (37, (.invokevirtual 302, 3)) (List.mem_of_getElem? (i := 21) rfl)
theorem dX12_readExpression_40 : decode cX12_readExpression 40 = .ok (.goto 32, 3) := dgX12_readExpression_0 (40, (.goto 32, 3)) (List.mem_of_getElem? (i := 22) rfl)
theorem dX12_readExpression_43 : decode cX12_readExpression 43 = .ok (.iload_n 2, 1) := dgX12_readExpression_0 (43, (.iload_n 2, 1)) (List.mem_of_getElem? (i := 23) rfl)
theorem dX12_readExpression_44 : decode cX12_readExpression 44 = .ok (.iconst 1, 1) := dgX12_readExpression_0 (44, (.iconst 1, 1)) (List.mem_of_getElem? (i := 24) rfl)
theorem dX12_readExpression_45 : decode cX12_readExpression 45 = .ok (.if_icmp .ne 10, 3) := dgX12_readExpression_0 (45, (.if_icmp .ne 10, 3)) (List.mem_of_getElem? (i := 25) rfl)
theorem dX12_readExpression_48 : decode cX12_readExpression 48 = .ok (.aload_n 0, 1) := dgX12_readExpression_0 (48, (.aload_n 0, 1)) (List.mem_of_getElem? (i := 26) rfl)
theorem dX12_readExpression_49 : decode cX12_readExpression 49 = .ok (.invokevirtual 285, 3) := dgX12_readExpression_0 (49, (.invokevirtual 285, 3)) (List.mem_of_getElem? (i := 27) rfl)
theorem dX12_readExpression_52 : decode cX12_readExpression 52 = .ok (.goto 20, 3) := dgX12_readExpression_0 (52, (.goto 20, 3)) (List.mem_of_getElem? (i := 28) rfl)
theorem dX12_readExpression_55 : decode cX12_readExpression 55 = .ok (.iload_n 2, 1) := dgX12_readExpression_0 (55, (.iload_n 2, 1)) (List.mem_of_getElem? (i := 29) rfl)
theorem dX12_readExpression_56 : decode cX12_readExpression 56 = .ok (.iconst 3, 1) := dgX12_readExpression_0 (56, (.iconst 3, 1)) (List.mem_of_getElem? (i := 30) rfl)
theorem dX12_readExpression_57 : decode cX12_readExpression 57 = .ok (.if_icmp .ne 11, 3) := dgX12_readExpression_0 (57, (.if_icmp .ne 11, 3)) (List.mem_of_getElem? (i := 31) rfl)
theorem dX12_readExpression_60 : decode cX12_readExpression 60 = .ok (.aload_n 0, 1) := dgX12_readExpression_0 (60, (.aload_n 0, 1)) (List.mem_of_getElem? (i := 32) rfl)
theorem dX12_readExpression_61 : decode cX12_readExpression 61 = .ok (.iload_n 1, 1) := dgX12_readExpression_0 (61, (.iload_n 1, 1)) (List.mem_of_getElem? (i := 33) rfl)
theorem dX12_readExpression_62 : decode cX12_readExpression 62 = .ok (.invokevirtual 305, 3) := dgX12_readExpression_0 (62, (.invokevirtual 305, 3)) (List.mem_of_getElem? (i := 34) rfl)
theorem dX12_readExpression_65 : decode cX12_readExpression 65 = .ok (.goto 7, 3) := dgX12_readExpression_0 (65, (.goto 7, 3)) (List.mem_of_getElem? (i := 35) rfl)
theorem dX12_readExpression_68 : decode cX12_readExpression 68 = .ok (.aload_n 0, 1) := dgX12_readExpression_0 (68, (.aload_n 0, 1)) (List.mem_of_getElem? (i := 36) rfl)
theorem dX12_readExpression_69 : decode cX12_readExpression 69 = .ok (.invokevirtual 309, 3) := dgX12_readExpression_0 (69, (.invokevirtual 309, 3)) (List.mem_of_getElem? (i := 37) rfl)
theorem dX12_readExpression_72 : decode cX12_readExpression 72 = .ok (.istore_n 2, 1) := dgX12_readExpression_0 (72, (.istore_n 2, 1)) (List.mem_of_getElem? (i := 38) rfl)
theorem dX12_readExpression_73 : decode cX12_readExpression 73 = .ok (.goto (-53), 3) := dgX12_readExpression_0 (73, (.goto (-53), 3)) (List.mem_of_getElem? (i := 39) rfl)
theorem dgX12_readExpression_1 : ∀ r ∈ ([(76, (.aload_n 0, 1)), (77, (.iconst 1, 1)), (78, (.invokevirtual 288, 3)), (81, (.return_, 1))] : List (Nat × (Instr × Nat))), decode cX12_readExpression r.1 = .ok r.2 := by decide +kernel
theorem dX12_readExpression_76 : decode cX12_readExpression 76 = .ok (.aload_n 0, 1) := dgX12_readExpression_1 (76, (.aload_n 0, 1)) (List.mem_of_getElem? (i := 0) rfl)
theorem dX12_readExpression_77 : decode cX12_readExpression 77 = .ok (.iconst 1, 1) := dgX12_readExpression_1 (77, (.iconst 1, 1)) (List.mem_of_getElem? (i := 1) rfl)
theorem dX12_readExpression_78 : decode cX12_readExpression 78 = .ok (.invokevirtual 288, 3) := dgX12_readExpression_1 (78, (.invokevirtual 288, 3)) (List.mem_of_getElem? (i := 2) rfl)
theorem dX12_readExpression_81 : decode cX12_readExpression 81 = .ok (.return_, 1) := dgX12_readExpression_1 (81, (.return_, 1)) (List.mem_of_getElem? (i := 3) rfl)
theorem ml_X12_309 : Cond.methodLink RX12 309 yX12_behindTest ∈ tblG := tg 1588 (by decide +kernel) (by decide +kernel)
theorem im_X12_behindTest : Cond.instanceMethod yX12_behindTest ∈ tblG := tg 1590 (by decide +kernel) (by decide +kernel)
theorem se_X12_behindTest : Cond.selects RX12 yX12_behindTest yX12_behindTest ∈ tblG := tg 61 (by decide +kernel) (by decide +kernel)
theorem cd_X12_behindTest : Cond.code yX12_behindTest cX12_behindTest 2 (some .int) ∈ tblG := tg 1591 (by decide +kernel) (by decide +kernel)
theorem gW_X12_behindTest : GoodIn tblG (wsG yX12_behindTest cX12_behindTest 2 (some .int)) := tgi cd_X12_behindTest
theorem gV_X12_309 : GoodIn tblG (wsV RX12 309 RX12 yX12_behindTest (wsG yX12_behindTest cX12_behindTest 2 (some .int))) := tgV ml_X12_309 im_X12_behindTest se_X12_behindTest ini_X12 gW_X12_behindTest
theorem hv_X12_behindTest : yX12_behindTest.cls = RX12 ∧ yX12_behindTest.cls ≠ "java/lang/invoke/MethodHandle" ∧ yX12_behindTest.cls ≠ "java/lang/invoke/VarHandle" ∧ (parseMethodDescriptor yX12_behindTest.desc).map (fun d => d.parameters.length) = some 0 := by decide +kernel
theorem ml_X12_305 : Cond.methodLink RX12 305 yX12_behindSum ∈ tblG := tg 1567 (by decide +kernel) (by decide +kernel)
theorem im_X12_behindSum : Cond.instanceMethod yX12_behindSum ∈ tblG := tg 1569 (by decide +kernel) (by decide +kernel)
theorem se_X12_behindSum : Cond.selects RX12 yX12_behindSum yX12_behindSum ∈ tblG := tg 57 (by decide +kernel) (by decide +kernel)
theorem cd_X12_behindSum : Cond.code yX12_behindSum cX12_behindSum 4 (some .int) ∈ tblG := tg 1570 (by decide +kernel) (by decide +kernel)
theorem gW_X12_behindSum : GoodIn tblG (wsG yX12_behindSum cX12_behindSum 4 (some .int)) := tgi cd_X12_behindSum
theorem gV_X12_305 : GoodIn tblG (wsV RX12 305 RX12 yX12_behindSum (wsG yX12_behindSum cX12_behindSum 4 (some .int))) := tgV ml_X12_305 im_X12_behindSum se_X12_behindSum ini_X12 gW_X12_behindSum
theorem hv_X12_behindSum : yX12_behindSum.cls = RX12 ∧ yX12_behindSum.cls ≠ "java/lang/invoke/MethodHandle" ∧ yX12_behindSum.cls ≠ "java/lang/invoke/VarHandle" ∧ (parseMethodDescriptor yX12_behindSum.desc).map (fun d => d.parameters.length) = some 1 := by decide +kernel
theorem ml_X12_302 : Cond.methodLink RX12 302 yX12_readPlain ∈ tblG := tg 1533 (by decide +kernel) (by decide +kernel)
theorem im_X12_readPlain : Cond.instanceMethod yX12_readPlain ∈ tblG := tg 1535 (by decide +kernel) (by decide +kernel)
theorem se_X12_readPlain : Cond.selects RX12 yX12_readPlain yX12_readPlain ∈ tblG := tg 49 (by decide +kernel) (by decide +kernel)
theorem cd_X12_readPlain : Cond.code yX12_readPlain cX12_readPlain 1 (some .int) ∈ tblG := tg 1536 (by decide +kernel) (by decide +kernel)
theorem gW_X12_readPlain : GoodIn tblG (wsG yX12_readPlain cX12_readPlain 1 (some .int)) := tgi cd_X12_readPlain
theorem gV_X12_302 : GoodIn tblG (wsV RX12 302 RX12 yX12_readPlain (wsG yX12_readPlain cX12_readPlain 1 (some .int))) := tgV ml_X12_302 im_X12_readPlain se_X12_readPlain ini_X12 gW_X12_readPlain
theorem hv_X12_readPlain : yX12_readPlain.cls = RX12 ∧ yX12_readPlain.cls ≠ "java/lang/invoke/MethodHandle" ∧ yX12_readPlain.cls ≠ "java/lang/invoke/VarHandle" ∧ (parseMethodDescriptor yX12_readPlain.desc).map (fun d => d.parameters.length) = some 0 := by decide +kernel
set_option maxHeartbeats 4000000 in
set_option maxRecDepth 100000 in
theorem n_readExpression (l : Launch) (G : g5_G) (b_o b_tp b_op b_ar b_pi b_pa b_ws b_rf b_ro b_im b_ke b_nl b_hw b_se b_re b_pt b_ip b_ah b_be b_me b_tr b_ld b_wn : Nat) (sz : Nat) (u_th : Int32) (u_sa : Int32) (u_fd : Int32) (u_td : Int32) (u_fr : Int32) (u_to : Int32) (u_so : Int32) (u_fa : Int32) (u_bd : Int32) (u_nc : Int32) (u_co : Int32) (u_le : Int32) (u_pd : Int32) (u_od : Int32) (u_la : Int32) (u_bk : Int32) (u_ce : Int32) (u_ho : Int32) (u_wy : Int32) (u_bt : Int32) (u_ps : Int32) (u_tg : Int32) (u_sn : Int32) (u_ic : Int32) (u_wd : Int32) (u_id : Int32) (p_1 : Int32) (u_wo : Int64) (u_va : Int64) (u_su : Int64) (u_st : Int64) (v_tp : Nat → Int32) (v_op : Nat → Int32) (v_ar : Nat → Int32) (v_pi : Nat → Int32) (v_pa : Nat → Int32) (v_ws : Nat → Int64) (h_u_td : 0 ≤ u_td.toInt ∧ u_td.toInt ≤ 400) (h_u_fr : 0 ≤ u_fr.toInt ∧ u_fr.toInt ≤ 400) (h_u_to : 0 ≤ u_to.toInt ∧ u_to.toInt ≤ 400) (h_u_bd : 0 ≤ u_bd.toInt ∧ u_bd.toInt ≤ 0) (h_u_nc : 0 ≤ u_nc.toInt ∧ u_nc.toInt ≤ 12) (h_u_co : 0 ≤ u_co.toInt ∧ u_co.toInt ≤ 400) (h_u_pd : 0 ≤ u_pd.toInt ∧ u_pd.toInt ≤ 400) (h_u_la : 0 ≤ u_la.toInt ∧ u_la.toInt ≤ 4840) (h_u_bk : 0 ≤ u_bk.toInt ∧ u_bk.toInt ≤ 1) (h_u_ce : 0 ≤ u_ce.toInt ∧ u_ce.toInt ≤ 63) (h_u_ho : 0 ≤ u_ho.toInt ∧ u_ho.toInt ≤ 23) (h_u_wy : 0 ≤ u_wy.toInt ∧ u_wy.toInt ≤ 3) (h_u_bt : 0 ≤ u_bt.toInt ∧ u_bt.toInt ≤ 1000000) (h_u_ps : 0 ≤ u_ps.toInt ∧ u_ps.toInt ≤ 200) (h_u_ic : 0 ≤ u_ic.toInt ∧ u_ic.toInt ≤ 1) (h_u_id : 0 ≤ u_id.toInt ∧ u_id.toInt ≤ 1) (h_p_1 : 0 ≤ p_1.toInt ∧ p_1.toInt ≤ 1) (e_t : u_fr.toInt ≤ u_to.toInt ∧ u_to.toInt ≤ u_td.toInt) (e_s : TKs u_so.toInt u_fr.toInt u_to.toInt) (e_c : u_co.toInt ≤ u_fr.toInt) : Met l yX12_readExpression (wsG yX12_readExpression cX12_readExpression 3 none) ({ frames := 6, cells := 0, slots := 0, locals := 126 }) (va_Pc [.ref b_o, .int p_1] (g5_P G [(b_o, (oc12 u_th u_sa b_rf b_ro b_im b_ke u_fd b_tp u_td u_fr u_to u_so u_wo u_fa u_bd u_nc b_nl u_co b_op b_ar u_le b_pi b_pa u_pd u_od b_ws b_hw u_la b_se b_re u_bk u_va u_su u_ce u_ho u_wy u_bt u_ps b_pt u_tg u_sn b_ip u_ic b_ah b_be b_me u_wd b_tr b_ld u_st b_wn u_id)), (b_tp, (arI G 400 v_tp)), (b_op, (arI G 400 v_op)), (b_ar, (arI G 400 v_ar)), (b_pi, (arI G 400 v_pi)), (b_pa, (arI G 400 v_pa)), (b_ws, (arJ G 8 v_ws))] sz)) (va_Qv (fun (u : va_W) => (∃ (o_fr : Int32) (o_to : Int32) (o_so : Int32) (o_wo : Int64) (o_fa : Int32) (o_bd : Int32) (o_co : Int32) (o_le : Int32) (o_pd : Int32) (o_od : Int32) (o_op : Nat → Int32) (o_ar : Nat → Int32) (o_pi : Nat → Int32) (o_pa : Nat → Int32), (0 ≤ o_fr.toInt ∧ o_fr.toInt ≤ 400) ∧ (0 ≤ o_to.toInt ∧ o_to.toInt ≤ 400) ∧ (0 ≤ o_bd.toInt ∧ o_bd.toInt ≤ 1) ∧ (0 ≤ o_co.toInt ∧ o_co.toInt ≤ 400) ∧ (0 ≤ o_pd.toInt ∧ o_pd.toInt ≤ 400) ∧ (u_fr.toInt ≤ o_fr.toInt ∧ o_fr.toInt ≤ o_to.toInt ∧ o_to.toInt ≤ u_td.toInt) ∧ (TKs o_so.toInt o_fr.toInt o_to.toInt) ∧ (KP v_op v_ar o_op o_ar u_co.toInt) ∧ (u_co.toInt ≤ o_co.toInt ∧ o_co.toInt ≤ o_fr.toInt) ∧ (o_bd.toInt = 0 → cdN o_op o_ar u_co.toInt o_co.toInt) ∧ (u = [(b_o, (oc12 u_th u_sa b_rf b_ro b_im b_ke u_fd b_tp u_td o_fr o_to o_so o_wo o_fa o_bd u_nc b_nl o_co b_op b_ar o_le b_pi b_pa o_pd o_od b_ws b_hw u_la b_se b_re u_bk u_va u_su u_ce u_ho u_wy u_bt u_ps b_pt u_tg u_sn b_ip u_ic b_ah b_be b_me u_wd b_tr b_ld u_st b_wn u_id)), (b_tp, (arI G 400 v_tp)), (b_op, (arI G 400 o_op)), (b_ar, (arI G 400 o_ar)), (b_pi, (arI G 400 o_pi)), (b_pa, (arI G 400 o_pa)), (b_ws, (arJ G 8 v_ws))]))) (g5_B G (va_A [(b_o, (oc12 u_th u_sa b_rf b_ro b_im b_ke u_fd b_tp u_td u_fr u_to u_so u_wo u_fa u_bd u_nc b_nl u_co b_op b_ar u_le b_pi b_pa u_pd u_od b_ws b_hw u_la b_se b_re u_bk u_va u_su u_ce u_ho u_wy u_bt u_ps b_pt u_tg u_sn b_ip u_ic b_ah b_be b_me u_wd b_tr b_ld u_st b_wn u_id)), (b_tp, (arI G 400 v_tp)), (b_op, (arI G 400 v_op)), (b_ar, (arI G 400 v_ar)), (b_pi, (arI G 400 v_pi)), (b_pa, (arI G 400 v_pa)), (b_ws, (arJ G 8 v_ws))] sz)) (va_A [(b_o, (oc12 u_th u_sa b_rf b_ro b_im b_ke u_fd b_tp u_td u_fr u_to u_so u_wo u_fa u_bd u_nc b_nl u_co b_op b_ar u_le b_pi b_pa u_pd u_od b_ws b_hw u_la b_se b_re u_bk u_va u_su u_ce u_ho u_wy u_bt u_ps b_pt u_tg u_sn b_ip u_ic b_ah b_be b_me u_wd b_tr b_ld u_st b_wn u_id)), (b_tp, (arI G 400 v_tp)), (b_op, (arI G 400 v_op)), (b_ar, (arI G 400 v_ar)), (b_pi, (arI G 400 v_pi)), (b_pa, (arI G 400 v_pa)), (b_ws, (arJ G 8 v_ws))] sz)) 0 0 (va_A [(b_o, (oc12 u_th u_sa b_rf b_ro b_im b_ke u_fd b_tp u_td u_fr u_to u_so u_wo u_fa u_bd u_nc b_nl u_co b_op b_ar u_le b_pi b_pa u_pd u_od b_ws b_hw u_la b_se b_re u_bk u_va u_su u_ce u_ho u_wy u_bt u_ps b_pt u_tg u_sn b_ip u_ic b_ah b_be b_me u_wd b_tr b_ld u_st b_wn u_id)), (b_tp, (arI G 400 v_tp)), (b_op, (arI G 400 v_op)), (b_ar, (arI G 400 v_ar)), (b_pi, (arI G 400 v_pi)), (b_pa, (arI G 400 v_pa)), (b_ws, (arJ G 8 v_ws))] sz) := by
  refine Met.ofW (cc := cX12_readExpression) (maxL := 3) (ret := none) (by decide) rfl ?_
  intro p e s m args below meth c s₁ B hml hv
  obtain ⟨rfl, hsz, hP, hK, hD0, hN, hT⟩ := hv
  have hx := B.exec
  have hb := B.bytes
  have hr := B.returns
  have hts : ∀ w ∈ tblG, w.before _ s = true := fun w h => atoms_spec (ws := (wsG yX12_readExpression cX12_readExpression 3 none)) B.pre w (List.mem_cons_of_mem _ h)
  have hown : s.vm.findClass RX12 = some m.cls := findClass_of_methodNamed B.named
  have hlocks := B.notSynchronized
  subst hsz
  have hD := hD0.self (sz := s.heap.size)
  generalize hAe : va_A [(b_o, (oc12 u_th u_sa b_rf b_ro b_im b_ke u_fd b_tp u_td u_fr u_to u_so u_wo u_fa u_bd u_nc b_nl u_co b_op b_ar u_le b_pi b_pa u_pd u_od b_ws b_hw u_la b_se b_re u_bk u_va u_su u_ce u_ho u_wy u_bt u_ps b_pt u_tg u_sn b_ip u_ic b_ah b_be b_me u_wd b_tr b_ld u_st b_wn u_id)), (b_tp, (arI G 400 v_tp)), (b_op, (arI G 400 v_op)), (b_ar, (arI G 400 v_ar)), (b_pi, (arI G 400 v_pi)), (b_pa, (arI G 400 v_pa)), (b_ws, (arJ G 8 v_ws))] s.heap.size = A at hD hT ⊢
  have hA : ∀ q : Nat, s.heap.size ≤ q → A q := fun q h => by rw [← hAe]; exact Or.inr h
  have hS : va_S A s.heap s.heap [] := va_S.rf
  have hP : va_P G.1 vwCl [(b_o, (oc12 u_th u_sa b_rf b_ro b_im b_ke u_fd b_tp u_td u_fr u_to u_so u_wo u_fa u_bd u_nc b_nl u_co b_op b_ar u_le b_pi b_pa u_pd u_od b_ws b_hw u_la b_se b_re u_bk u_va u_su u_ce u_ho u_wy u_bt u_ps b_pt u_tg u_sn b_ip u_ic b_ah b_be b_me u_wd b_tr b_ld u_st b_wn u_id)), (b_tp, (arI G 400 v_tp)), (b_op, (arI G 400 v_op)), (b_ar, (arI G 400 v_ar)), (b_pi, (arI G 400 v_pi)), (b_pa, (arI G 400 v_pa)), (b_ws, (arJ G 8 v_ws))] s.heap := hP
  have hl := lv_entry ([.ref b_o, .int p_1]) (n := 3) (Nat.le_of_ble_eq_true rfl)
  rw [lg_entry_eq]
  generalize (lg_sl ([.ref b_o, .int p_1]) ++ List.replicate (3 - (lg_sl ([.ref b_o, .int p_1])).length) Slot.unset).toArray = ls at hl ⊢
  have hl : lv_has ls 3 [(0, .ref b_o), (1, .int p_1)] := hl
  refine lv_aload_n hx hb dX12_readExpression_0 rfl (lv_at hl 0 rfl) ?_
  refine lv_iconst (v := 0) hx hb dX12_readExpression_1 (by decide) ?_
  refine va_put (D := G.1) (ci := 12) (v := .int 0) (ty := .int) (C := RX12) (T := TX12) (N := 52) hx hb hts inG_X12 tyX12 tyX12_ok nmX12 hown hK hP hD hS 0 rfl rfl 23 (by decide) (hts _ fl_X12_240) (fun _ h9 => h9) rfl (by decide +kernel) rfl rfl (Nat.le_of_ble_eq_true rfl) dX12_readExpression_2 (fun H locs hP hD hS => ?_)
  refine g5_rs [(b_o, (oc12 u_th u_sa b_rf b_ro b_im b_ke u_fd b_tp u_td u_fr u_to u_so u_wo u_fa u_bd u_nc b_nl u_co b_op b_ar u_le b_pi b_pa 0 u_od b_ws b_hw u_la b_se b_re u_bk u_va u_su u_ce u_ho u_wy u_bt u_ps b_pt u_tg u_sn b_ip u_ic b_ah b_be b_me u_wd b_tr b_ld u_st b_wn u_id)), (b_tp, (arI G 400 v_tp)), (b_op, (arI G 400 v_op)), (b_ar, (arI G 400 v_ar)), (b_pi, (arI G 400 v_pi)), (b_pa, (arI G 400 v_pa)), (b_ws, (arJ G 8 v_ws))] hP hD (fun hP hD => ?_)
  refine lv_aload_n hx hb dX12_readExpression_5 rfl (lv_at hl 0 rfl) ?_
  refine lv_iconst (v := 0) hx hb dX12_readExpression_6 (by decide) ?_
  refine va_put (D := G.1) (ci := 12) (v := .int 0) (ty := .int) (C := RX12) (T := TX12) (N := 52) hx hb hts inG_X12 tyX12 tyX12_ok nmX12 hown hK hP hD hS 0 rfl rfl 24 (by decide) (hts _ fl_X12_258) (fun _ h9 => h9) rfl (by decide +kernel) rfl rfl (Nat.le_of_ble_eq_true rfl) dX12_readExpression_7 (fun H locs hP hD hS => ?_)
  refine g5_rs [(b_o, (oc12 u_th u_sa b_rf b_ro b_im b_ke u_fd b_tp u_td u_fr u_to u_so u_wo u_fa u_bd u_nc b_nl u_co b_op b_ar u_le b_pi b_pa 0 0 b_ws b_hw u_la b_se b_re u_bk u_va u_su u_ce u_ho u_wy u_bt u_ps b_pt u_tg u_sn b_ip u_ic b_ah b_be b_me u_wd b_tr b_ld u_st b_wn u_id)), (b_tp, (arI G 400 v_tp)), (b_op, (arI G 400 v_op)), (b_ar, (arI G 400 v_ar)), (b_pi, (arI G 400 v_pi)), (b_pa, (arI G 400 v_pa)), (b_ws, (arJ G 8 v_ws))] hP hD (fun hP hD => ?_)
  refine lv_iload_n hx hb dX12_readExpression_10 rfl (lv_at hl 1 rfl) ?_
  refine lv_if_eq (tgt := 18) hx hb dX12_readExpression_11 (by decide) (fun c_1 => ?_) (fun c_1 => ?_)
  ·
    have i_1 : p_1.toInt = 0 := by have z := g5_eq (a := p_1.toInt) (b := 0) (by rfl) (by decide) c_1; omega
    refine lv_iconst (v := 1) hx hb dX12_readExpression_18 (by decide) ?_
    refine lv_istore_n (lv' := [(2, .int 1), (0, .ref b_o), (1, .int p_1)]) hx hb dX12_readExpression_19 rfl hl (by decide) rfl (fun ls hl => ?_)
    refine g5_loop (α := (Int32) × (Int32) × (Int32) × (Int32) × (Int64) × (Int32) × (Int32) × (Int32) × (Int32) × (Int32) × (Int32) × (Nat → Int32) × (Nat → Int32) × (Nat → Int32) × (Nat → Int32)) (fun (q : (Int32) × (Int32) × (Int32) × (Int32) × (Int64) × (Int32) × (Int32) × (Int32) × (Int32) × (Int32) × (Int32) × (Nat → Int32) × (Nat → Int32) × (Nat → Int32) × (Nat → Int32)) (ls : Array Slot) (H : Heap) (locs : List Loc) => match q with | (k20_2, k20_fr, k20_to, k20_so, k20_wo, k20_fa, k20_bd, k20_co, k20_le, k20_pd, k20_od, k20_op, k20_ar, k20_pi, k20_pa) => lv_has ls 3 [(2, .int k20_2), (0, .ref b_o), (1, .int p_1)] ∧ va_P G.1 vwCl [(b_o, (oc12 u_th u_sa b_rf b_ro b_im b_ke u_fd b_tp u_td k20_fr k20_to k20_so k20_wo k20_fa k20_bd u_nc b_nl k20_co b_op b_ar k20_le b_pi b_pa k20_pd k20_od b_ws b_hw u_la b_se b_re u_bk u_va u_su u_ce u_ho u_wy u_bt u_ps b_pt u_tg u_sn b_ip u_ic b_ah b_be b_me u_wd b_tr b_ld u_st b_wn u_id)), (b_tp, (arI G 400 v_tp)), (b_op, (arI G 400 k20_op)), (b_ar, (arI G 400 k20_ar)), (b_pi, (arI G 400 k20_pi)), (b_pa, (arI G 400 k20_pa)), (b_ws, (arJ G 8 v_ws))] H ∧ va_D A [(b_o, (oc12 u_th u_sa b_rf b_ro b_im b_ke u_fd b_tp u_td k20_fr k20_to k20_so k20_wo k20_fa k20_bd u_nc b_nl k20_co b_op b_ar k20_le b_pi b_pa k20_pd k20_od b_ws b_hw u_la b_se b_re u_bk u_va u_su u_ce u_ho u_wy u_bt u_ps b_pt u_tg u_sn b_ip u_ic b_ah b_be b_me u_wd b_tr b_ld u_st b_wn u_id)), (b_tp, (arI G 400 v_tp)), (b_op, (arI G 400 k20_op)), (b_ar, (arI G 400 k20_ar)), (b_pi, (arI G 400 k20_pi)), (b_pa, (arI G 400 k20_pa)), (b_ws, (arJ G 8 v_ws))] ∧ va_S A s.heap H locs ∧ (0 ≤ k20_2.toInt ∧ k20_2.toInt ≤ 4) ∧ (0 ≤ k20_fr.toInt ∧ k20_fr.toInt ≤ 400) ∧ (0 ≤ k20_to.toInt ∧ k20_to.toInt ≤ 400) ∧ (0 ≤ k20_bd.toInt ∧ k20_bd.toInt ≤ 1) ∧ (0 ≤ k20_co.toInt ∧ k20_co.toInt ≤ 400) ∧ (0 ≤ k20_pd.toInt ∧ k20_pd.toInt ≤ 400) ∧ (XJ v_op v_ar k20_op k20_ar k20_pi k20_pa u_co.toInt k20_co.toInt k20_pd.toInt k20_fr.toInt) ∧ (k20_bd.toInt = 0 → TJ k20_op k20_ar k20_pi k20_pa u_co.toInt k20_co.toInt k20_pd.toInt k20_2.toInt) ∧ (k20_fr.toInt ≤ k20_to.toInt ∧ k20_to.toInt ≤ u_td.toInt) ∧ (TKs k20_so.toInt k20_fr.toInt k20_to.toInt) ∧ (u_fr.toInt ≤ k20_fr.toInt)) (fun (q : (Int32) × (Int32) × (Int32) × (Int32) × (Int64) × (Int32) × (Int32) × (Int32) × (Int32) × (Int32) × (Int32) × (Nat → Int32) × (Nat → Int32) × (Nat → Int32) × (Nat → Int32)) => match q with | (k20_2, k20_fr, k20_to, k20_so, k20_wo, k20_fa, k20_bd, k20_co, k20_le, k20_pd, k20_od, k20_op, k20_ar, k20_pi, k20_pa) => Int.toNat (3 * (400 - k20_fr.toInt) + 3 * (1 - k20_bd.toInt) + twt k20_2.toInt)) (1, u_fr, u_to, u_so, u_wo, u_fa, u_bd, u_co, u_le, 0, 0, v_op, v_ar, v_pi, v_pa) ⟨lv_sub hl [0, 1, 2] rfl, hP, hD, hS, ⟨by decide, by decide⟩, h_u_fr, h_u_to, ⟨by omega, by omega⟩, h_u_co, ⟨by decide, by decide⟩, xj_0 (by decide) (by omega) (by omega), fun _ => tj_1 (hj_0 (by decide)) (by decide), by omega, e_s, Int.le_refl _⟩ ?_
    rintro ⟨k20_2, k20_fr, k20_to, k20_so, k20_wo, k20_fa, k20_bd, k20_co, k20_le, k20_pd, k20_od, k20_op, k20_ar, k20_pi, k20_pa⟩ ls H locs ⟨hl, hP, hD, hS, i_2, i_3, i_4, i_5, i_6, i_7, i_8, i_9, i_10, i_11, i_12⟩ ih_20_13
    have hl : lv_has ls 3 [(2, .int k20_2), (0, .ref b_o), (1, .int p_1)] := hl
    have i_2 : 0 ≤ k20_2.toInt ∧ k20_2.toInt ≤ 4 := i_2
    have i_3 : 0 ≤ k20_fr.toInt ∧ k20_fr.toInt ≤ 400 := i_3
    have i_4 : 0 ≤ k20_to.toInt ∧ k20_to.toInt ≤ 400 := i_4
    have i_5 : 0 ≤ k20_bd.toInt ∧ k20_bd.toInt ≤ 1 := i_5
    have i_6 : 0 ≤ k20_co.toInt ∧ k20_co.toInt ≤ 400 := i_6
    have i_7 : 0 ≤ k20_pd.toInt ∧ k20_pd.toInt ≤ 400 := i_7
    have i_8 : XJ v_op v_ar k20_op k20_ar k20_pi k20_pa u_co.toInt k20_co.toInt k20_pd.toInt k20_fr.toInt := i_8
    have i_9 : k20_bd.toInt = 0 → TJ k20_op k20_ar k20_pi k20_pa u_co.toInt k20_co.toInt k20_pd.toInt k20_2.toInt := i_9
    have i_10 : k20_fr.toInt ≤ k20_to.toInt ∧ k20_to.toInt ≤ u_td.toInt := i_10
    have i_11 : TKs k20_so.toInt k20_fr.toInt k20_to.toInt := i_11
    have i_12 : u_fr.toInt ≤ k20_fr.toInt := i_12
    refine g5_rs [(b_o, (oc12 u_th u_sa b_rf b_ro b_im b_ke u_fd b_tp u_td k20_fr k20_to k20_so k20_wo k20_fa k20_bd u_nc b_nl k20_co b_op b_ar k20_le b_pi b_pa k20_pd k20_od b_ws b_hw u_la b_se b_re u_bk u_va u_su u_ce u_ho u_wy u_bt u_ps b_pt u_tg u_sn b_ip u_ic b_ah b_be b_me u_wd b_tr b_ld u_st b_wn u_id)), (b_tp, (arI G 400 v_tp)), (b_op, (arI G 400 k20_op)), (b_ar, (arI G 400 k20_ar)), (b_pi, (arI G 400 k20_pi)), (b_pa, (arI G 400 k20_pa)), (b_ws, (arJ G 8 v_ws))] hP hD (fun hP hD => ?_)
    have w0 := twt_rg k20_2.toInt
    refine lv_aload_n hx hb dX12_readExpression_20 rfl (lv_at hl 1 rfl) ?_
    refine va_get (D := G.1) (ci := 12) (v := .int k20_bd) (C := RX12) (T := TX12) (N := 52) hx hb hts inG_X12 hown hK hP 0 rfl rfl 14 (by decide) (hts _ fl_X12_205) (fun _ h9 => h9) rfl dX12_readExpression_21 ?_
    refine lv_if_ne (tgt := 76) hx hb dX12_readExpression_24 (by decide) (fun c_14 => ?_) (fun c_14 => ?_)
    ·
      have n_14 : gNe (k20_bd.toInt) (0) := by have z := g5_ne (a := k20_bd.toInt) (b := 0) (by rfl) (by decide) c_14; unfold gNe; omega
      have i_14 : k20_bd.toInt ≥ 1 := by have z := g5_ne (a := k20_bd.toInt) (b := 0) (by rfl) (by decide) c_14; omega
      refine lv_aload_n hx hb dX12_readExpression_76 rfl (lv_at hl 1 rfl) ?_
      refine lv_iconst (v := 1) hx hb dX12_readExpression_77 (by decide) ?_
      obtain ⟨hPc, hDc, hFc⟩ := g5_sub3 (wc := [(b_o, (oc12 u_th u_sa b_rf b_ro b_im b_ke u_fd b_tp u_td k20_fr k20_to k20_so k20_wo k20_fa k20_bd u_nc b_nl k20_co b_op b_ar k20_le b_pi b_pa k20_pd k20_od b_ws b_hw u_la b_se b_re u_bk u_va u_su u_ce u_ho u_wy u_bt u_ps b_pt u_tg u_sn b_ip u_ic b_ah b_be b_me u_wd b_tr b_ld u_st b_wn u_id)), (b_op, (arI G 400 k20_op)), (b_ar, (arI G 400 k20_ar)), (b_pi, (arI G 400 k20_pi)), (b_pa, (arI G 400 k20_pa))]) hP hD hS hA [0, 2, 3, 4, 5] (by decide) rfl
      refine va_callv (va_runV (As := [.int 1]) (rest := []) ⟨hx, hb, hml, hown, hts⟩ (n_settleB l G b_o b_op b_ar b_pi b_pa b_rf b_ro b_im b_ke b_tp b_nl b_ws b_hw b_se b_re b_pt b_ip b_ah b_be b_me b_tr b_ld b_wn H.size u_th u_sa u_fd u_td k20_fr k20_to k20_so k20_fa k20_bd u_nc k20_co k20_le k20_pd k20_od u_la u_bk u_ce u_ho u_wy u_bt u_ps u_tg u_sn u_ic u_wd u_id 1 u_co k20_fr k20_wo u_va u_su u_st k20_op k20_ar k20_pi k20_pa v_op v_ar h_u_td i_3 i_4 i_5 h_u_nc i_6 i_7 h_u_la h_u_bk h_u_ce h_u_ho h_u_wy h_u_bt h_u_ps h_u_ic h_u_id ⟨by decide, by decide⟩ (by omega) (i_8)) (cwV 1 hts gV_X12_288 rfl rfl rfl hv_X12_settle ⟨Nat.le_of_ble_eq_true rfl, Nat.le_of_ble_eq_true rfl⟩) (g5_preV hPc hK hDc hN hT hS hFc (ci := 12) (q0 := 0) rfl rfl) rfl rfl hl.1 rfl (lv_room (Nat.le_of_ble_eq_true rfl)) dX12_readExpression_78 ⟨Nat.le_of_ble_eq_true rfl, Nat.le_of_ble_eq_true rfl⟩) hS (fun q _ h => hFc q h) hFc (fun u t H1 locs ht hvm hw hB hz1 hk1 hS => ?_)
      obtain ⟨hP1, hD1⟩ := hB
      rw [ht] at hP1
      obtain ⟨z21, z22, z23, z24, i_15, i_16, i_17, i_18, i_19, i_20, rfl⟩ := hw
      have i_15 : 0 ≤ z21.toInt ∧ z21.toInt ≤ 400 := i_15
      have i_16 : 0 ≤ z22.toInt ∧ z22.toInt ≤ 400 := i_16
      have i_17 : XJ v_op v_ar z23 z24 k20_pi k20_pa u_co.toInt z21.toInt z22.toInt k20_fr.toInt := i_17
      have i_18 : S1 k20_pi k20_pd.toInt z22.toInt := i_18
      have i_19 : S2 k20_pi z22.toInt (1 : Int32).toInt := i_19
      have i_20 : z22.toInt ≤ k20_pd.toInt := i_20
      obtain ⟨hP, hD⟩ := va_join (wr := [(b_tp, (arI G 400 v_tp)), (b_ws, (arJ G 8 v_ws))]) hP hD [0, 2, 3, 4, 5] [1, 6] rfl rfl (by decide) (by decide) hk1 hFc hP1 hD1
      generalize H1 = H at hP hS ⊢
      refine g5_rs [(b_tp, (arI G 400 v_tp)), (b_ws, (arJ G 8 v_ws)), (b_o, (oc12 u_th u_sa b_rf b_ro b_im b_ke u_fd b_tp u_td k20_fr k20_to k20_so k20_wo k20_fa k20_bd u_nc b_nl z21 b_op b_ar k20_le b_pi b_pa z22 k20_od b_ws b_hw u_la b_se b_re u_bk u_va u_su u_ce u_ho u_wy u_bt u_ps b_pt u_tg u_sn b_ip u_ic b_ah b_be b_me u_wd b_tr b_ld u_st b_wn u_id)), (b_op, (arI G 400 z23)), (b_ar, (arI G 400 z24)), (b_pi, (arI G 400 k20_pi)), (b_pa, (arI G 400 k20_pa))] hP hD (fun hP hD => ?_)
      have hmf7 := xj_mf i_17
      exact W.vret hx hb hr (fun t ht hW => ⟨⟨[(b_o, (oc12 u_th u_sa b_rf b_ro b_im b_ke u_fd b_tp u_td k20_fr k20_to k20_so k20_wo k20_fa k20_bd u_nc b_nl z21 b_op b_ar k20_le b_pi b_pa z22 k20_od b_ws b_hw u_la b_se b_re u_bk u_va u_su u_ce u_ho u_wy u_bt u_ps b_pt u_tg u_sn b_ip u_ic b_ah b_be b_me u_wd b_tr b_ld u_st b_wn u_id)), (b_tp, (arI G 400 v_tp)), (b_op, (arI G 400 z23)), (b_ar, (arI G 400 z24)), (b_pi, (arI G 400 k20_pi)), (b_pa, (arI G 400 k20_pa)), (b_ws, (arJ G 8 v_ws))], rfl, ⟨k20_fr, k20_to, k20_so, k20_wo, k20_fa, k20_bd, z21, k20_le, z22, k20_od, z23, z24, k20_pi, k20_pa, i_3, i_4, i_5, i_15, i_16, by omega, i_11, xj_kp i_17, by omega, fun q9 => absurd q9 (by omega), rfl⟩, by rw [ht]; exact hP.sub [2, 0, 3, 4, 5, 6, 1] rfl, hD.sub [2, 0, 3, 4, 5, 6, 1] (by decide) rfl⟩, hS.F ht⟩) hS.2.2 dX12_readExpression_81
    ·
      have i_14 : k20_bd.toInt = 0 := by have z := g5_neN (a := k20_bd.toInt) (b := 0) (by rfl) (by decide) c_14; omega
      refine lv_iload_n hx hb dX12_readExpression_27 rfl (lv_at hl 0 rfl) ?_
      refine lv_iconst (v := 4) hx hb dX12_readExpression_28 (by decide) ?_
      refine lv_icmp_eq (tgt := 76) hx hb dX12_readExpression_29 (by decide) (fun c_25 => ?_) (fun c_25 => ?_)
      ·
        have i_25 : k20_2.toInt = 4 := by have z := g5_eq (a := k20_2.toInt) (b := 4) (by rfl) (by decide) c_25; omega
        have hE_26 : HJ k20_op k20_ar k20_pi k20_pa u_co.toInt k20_co.toInt k20_pd.toInt 1 := tj_d1 (i_9 (by omega)) (by omega)
        refine lv_aload_n hx hb dX12_readExpression_76 rfl (lv_at hl 1 rfl) ?_
        refine lv_iconst (v := 1) hx hb dX12_readExpression_77 (by decide) ?_
        obtain ⟨hPc, hDc, hFc⟩ := g5_sub3 (wc := [(b_o, (oc12 u_th u_sa b_rf b_ro b_im b_ke u_fd b_tp u_td k20_fr k20_to k20_so k20_wo k20_fa k20_bd u_nc b_nl k20_co b_op b_ar k20_le b_pi b_pa k20_pd k20_od b_ws b_hw u_la b_se b_re u_bk u_va u_su u_ce u_ho u_wy u_bt u_ps b_pt u_tg u_sn b_ip u_ic b_ah b_be b_me u_wd b_tr b_ld u_st b_wn u_id)), (b_op, (arI G 400 k20_op)), (b_ar, (arI G 400 k20_ar)), (b_pi, (arI G 400 k20_pi)), (b_pa, (arI G 400 k20_pa))]) hP hD hS hA [0, 2, 3, 4, 5] (by decide) rfl
        refine va_callv (va_runV (As := [.int 1]) (rest := []) ⟨hx, hb, hml, hown, hts⟩ (n_settleH l G b_o b_op b_ar b_pi b_pa b_rf b_ro b_im b_ke b_tp b_nl b_ws b_hw b_se b_re b_pt b_ip b_ah b_be b_me b_tr b_ld b_wn H.size u_th u_sa u_fd u_td k20_fr k20_to k20_so k20_fa k20_bd u_nc k20_co k20_le k20_pd k20_od u_la u_bk u_ce u_ho u_wy u_bt u_ps u_tg u_sn u_ic u_wd u_id 1 u_co k20_fr k20_wo u_va u_su u_st k20_op k20_ar k20_pi k20_pa v_op v_ar h_u_td i_3 i_4 i_5 h_u_nc i_6 i_7 h_u_la h_u_bk h_u_ce h_u_ho h_u_wy h_u_bt h_u_ps h_u_ic h_u_id ⟨by decide, by decide⟩ (by omega) (i_8) (hE_26)) (cwV 1 hts gV_X12_288 rfl rfl rfl hv_X12_settle ⟨Nat.le_of_ble_eq_true rfl, Nat.le_of_ble_eq_true rfl⟩) (g5_preV hPc hK hDc hN hT hS hFc (ci := 12) (q0 := 0) rfl rfl) rfl rfl hl.1 rfl (lv_room (Nat.le_of_ble_eq_true rfl)) dX12_readExpression_78 ⟨Nat.le_of_ble_eq_true rfl, Nat.le_of_ble_eq_true rfl⟩) hS (fun q _ h => hFc q h) hFc (fun u t H1 locs ht hvm hw hB hz1 hk1 hS => ?_)
        obtain ⟨hP1, hD1⟩ := hB
        rw [ht] at hP1
        obtain ⟨z34, z35, z36, z37, i_27, i_28, i_29, i_30, i_31, i_32, i_33, rfl⟩ := hw
        have i_27 : 0 ≤ z34.toInt ∧ z34.toInt ≤ 400 := i_27
        have i_28 : 0 ≤ z35.toInt ∧ z35.toInt ≤ 400 := i_28
        have i_29 : XJ v_op v_ar z36 z37 k20_pi k20_pa u_co.toInt z34.toInt z35.toInt k20_fr.toInt := i_29
        have i_30 : HJ z36 z37 k20_pi k20_pa u_co.toInt z34.toInt z35.toInt 1 := i_30
        have i_31 : S1 k20_pi k20_pd.toInt z35.toInt := i_31
        have i_32 : S2 k20_pi z35.toInt (1 : Int32).toInt := i_32
        have i_33 : z35.toInt ≤ k20_pd.toInt := i_33
        obtain ⟨hP, hD⟩ := va_join (wr := [(b_tp, (arI G 400 v_tp)), (b_ws, (arJ G 8 v_ws))]) hP hD [0, 2, 3, 4, 5] [1, 6] rfl rfl (by decide) (by decide) hk1 hFc hP1 hD1
        generalize H1 = H at hP hS ⊢
        refine g5_rs [(b_tp, (arI G 400 v_tp)), (b_ws, (arJ G 8 v_ws)), (b_o, (oc12 u_th u_sa b_rf b_ro b_im b_ke u_fd b_tp u_td k20_fr k20_to k20_so k20_wo k20_fa k20_bd u_nc b_nl z34 b_op b_ar k20_le b_pi b_pa z35 k20_od b_ws b_hw u_la b_se b_re u_bk u_va u_su u_ce u_ho u_wy u_bt u_ps b_pt u_tg u_sn b_ip u_ic b_ah b_be b_me u_wd b_tr b_ld u_st b_wn u_id)), (b_op, (arI G 400 z36)), (b_ar, (arI G 400 z37)), (b_pi, (arI G 400 k20_pi)), (b_pa, (arI G 400 k20_pa))] hP hD (fun hP hD => ?_)
        have hmf7 := xj_mf i_29
        exact W.vret hx hb hr (fun t ht hW => ⟨⟨[(b_o, (oc12 u_th u_sa b_rf b_ro b_im b_ke u_fd b_tp u_td k20_fr k20_to k20_so k20_wo k20_fa k20_bd u_nc b_nl z34 b_op b_ar k20_le b_pi b_pa z35 k20_od b_ws b_hw u_la b_se b_re u_bk u_va u_su u_ce u_ho u_wy u_bt u_ps b_pt u_tg u_sn b_ip u_ic b_ah b_be b_me u_wd b_tr b_ld u_st b_wn u_id)), (b_tp, (arI G 400 v_tp)), (b_op, (arI G 400 z36)), (b_ar, (arI G 400 z37)), (b_pi, (arI G 400 k20_pi)), (b_pa, (arI G 400 k20_pa)), (b_ws, (arJ G 8 v_ws))], rfl, ⟨k20_fr, k20_to, k20_so, k20_wo, k20_fa, k20_bd, z34, k20_le, z35, k20_od, z36, z37, k20_pi, k20_pa, i_3, i_4, i_5, i_27, i_28, by omega, i_11, xj_kp i_29, by omega, fun _ => cdN_of i_30 (end_0 ((i_9 (by omega)).2.2 (by omega)) (by omega) (by omega) (by decide) i_32) (by omega), rfl⟩, by rw [ht]; exact hP.sub [2, 0, 3, 4, 5, 6, 1] rfl, hD.sub [2, 0, 3, 4, 5, 6, 1] (by decide) rfl⟩, hS.F ht⟩) hS.2.2 dX12_readExpression_81
      ·
        have n_25 : gNe (k20_2.toInt) (4) := by have z := g5_eqN (a := k20_2.toInt) (b := 4) (by rfl) (by decide) c_25; unfold gNe; omega
        have i_25 : k20_2.toInt ≤ 3 := by have z := g5_eqN (a := k20_2.toInt) (b := 4) (by rfl) (by decide) c_25; omega
        refine lv_iload_n hx hb dX12_readExpression_32 rfl (lv_at hl 0 rfl) ?_
        refine lv_if_ne (tgt := 43) hx hb dX12_readExpression_33 (by decide) (fun c_38 => ?_) (fun c_38 => ?_)
        ·
          have n_38 : gNe (k20_2.toInt) (0) := by have z := g5_ne (a := k20_2.toInt) (b := 0) (by rfl) (by decide) c_38; unfold gNe; omega
          have i_38 : k20_2.toInt ≥ 1 := by have z := g5_ne (a := k20_2.toInt) (b := 0) (by rfl) (by decide) c_38; omega
          refine lv_iload_n hx hb dX12_readExpression_43 rfl (lv_at hl 0 rfl) ?_
          refine lv_iconst (v := 1) hx hb dX12_readExpression_44 (by decide) ?_
          refine lv_icmp_ne (tgt := 55) hx hb dX12_readExpression_45 (by decide) (fun c_39 => ?_) (fun c_39 => ?_)
          ·
            have n_39 : gNe (k20_2.toInt) (1) := by have z := g5_ne (a := k20_2.toInt) (b := 1) (by rfl) (by decide) c_39; unfold gNe; omega
            have i_39 : k20_2.toInt ≥ 2 := by have z := g5_ne (a := k20_2.toInt) (b := 1) (by rfl) (by decide) c_39; omega
            refine lv_iload_n hx hb dX12_readExpression_55 rfl (lv_at hl 0 rfl) ?_
            refine lv_iconst (v := 3) hx hb dX12_readExpression_56 (by decide) ?_
            refine lv_icmp_ne (tgt := 68) hx hb dX12_readExpression_57 (by decide) (fun c_40 => ?_) (fun c_40 => ?_)
            ·
              have n_40 : gNe (k20_2.toInt) (3) := by have z := g5_ne (a := k20_2.toInt) (b := 3) (by rfl) (by decide) c_40; unfold gNe; omega
              have i_40 : k20_2.toInt ≤ 2 := by have z := g5_ne (a := k20_2.toInt) (b := 3) (by rfl) (by decide) c_40; omega
              have w2 : twt k20_2.toInt = 1 := twt_2 (by omega)
              have hE_41 : TJ k20_op k20_ar k20_pi k20_pa u_co.toInt k20_co.toInt k20_pd.toInt 2 := by have q9 := i_9 (by omega); rw [show k20_2.toInt = 2 by omega] at q9; exact q9
              refine lv_aload_n hx hb dX12_readExpression_68 rfl (lv_at hl 1 rfl) ?_
              obtain ⟨hPc, hDc, hFc⟩ := g5_sub3 (wc := [(b_o, (oc12 u_th u_sa b_rf b_ro b_im b_ke u_fd b_tp u_td k20_fr k20_to k20_so k20_wo k20_fa k20_bd u_nc b_nl k20_co b_op b_ar k20_le b_pi b_pa k20_pd k20_od b_ws b_hw u_la b_se b_re u_bk u_va u_su u_ce u_ho u_wy u_bt u_ps b_pt u_tg u_sn b_ip u_ic b_ah b_be b_me u_wd b_tr b_ld u_st b_wn u_id)), (b_tp, (arI G 400 v_tp)), (b_op, (arI G 400 k20_op)), (b_ar, (arI G 400 k20_ar)), (b_pi, (arI G 400 k20_pi)), (b_pa, (arI G 400 k20_pa))]) hP hD hS hA [0, 1, 2, 3, 4, 5] (by decide) rfl
              refine va_calli (va_runV (As := []) (rest := []) ⟨hx, hb, hml, hown, hts⟩ (n_behindTest l G b_o b_tp b_op b_ar b_pi b_pa b_rf b_ro b_im b_ke b_nl b_ws b_hw b_se b_re b_pt b_ip b_ah b_be b_me b_tr b_ld b_wn H.size u_th u_sa u_fd u_td k20_fr k20_to k20_so k20_fa k20_bd u_nc k20_co k20_le k20_pd k20_od u_la u_bk u_ce u_ho u_wy u_bt u_ps u_tg u_sn u_ic u_wd u_id u_co k20_wo u_va u_su u_st v_tp k20_op k20_ar k20_pi k20_pa v_op v_ar h_u_td i_3 i_4 ⟨by omega, by omega⟩ h_u_nc i_6 i_7 h_u_la h_u_bk h_u_ce h_u_ho h_u_wy h_u_bt h_u_ps h_u_ic h_u_id (i_10) (i_11) (i_8) (hE_41)) (cwV 0 hts gV_X12_309 rfl rfl rfl hv_X12_behindTest ⟨Nat.le_of_ble_eq_true rfl, Nat.le_of_ble_eq_true rfl⟩) (g5_preV hPc hK hDc hN hT hS hFc (ci := 12) (q0 := 0) rfl rfl) rfl rfl hl.1 rfl (lv_room (Nat.le_of_ble_eq_true rfl)) dX12_readExpression_69 ⟨Nat.le_of_ble_eq_true rfl, Nat.le_of_ble_eq_true rfl⟩) hS (fun q _ h => hFc q h) hFc (fun r u t H1 locs ht hvm hw hB hz1 hk1 hS => ?_)
              obtain ⟨hP1, hD1⟩ := hB
              rw [ht] at hP1
              rcases hw with ⟨z43, i_42, y44, rfl⟩ | ⟨z55, z56, z57, z58, z59, z60, z61, z62, z63, z64, z65, z66, i_45, i_46, i_47, i_48, i_49, i_50, i_51, i_52, i_53, i_54, y67, rfl⟩
              ·
                have i_42 : 0 ≤ z43.toInt ∧ z43.toInt ≤ 4 := i_42
                obtain ⟨hP, hD⟩ := va_join (wr := [(b_ws, (arJ G 8 v_ws))]) hP hD [0, 1, 2, 3, 4, 5] [6] rfl rfl (by decide) (by decide) hk1 hFc hP1 hD1
                generalize H1 = H at hP hS ⊢
                refine g5_rs [(b_ws, (arJ G 8 v_ws)), (b_o, (oc12 u_th u_sa b_rf b_ro b_im b_ke u_fd b_tp u_td k20_fr k20_to k20_so k20_wo k20_fr 1 u_nc b_nl k20_co b_op b_ar k20_le b_pi b_pa k20_pd k20_od b_ws b_hw u_la b_se b_re u_bk u_va u_su u_ce u_ho u_wy u_bt u_ps b_pt u_tg u_sn b_ip u_ic b_ah b_be b_me u_wd b_tr b_ld u_st b_wn u_id)), (b_tp, (arI G 400 v_tp)), (b_op, (arI G 400 k20_op)), (b_ar, (arI G 400 k20_ar)), (b_pi, (arI G 400 k20_pi)), (b_pa, (arI G 400 k20_pa))] hP hD (fun hP hD => ?_)
                refine g5_ti (v := z43) y44 ?_
                have w1 := twt_rg z43.toInt
                refine lv_istore_n (lv' := [(2, .int z43), (0, .ref b_o), (1, .int p_1)]) hx hb dX12_readExpression_72 rfl hl (by decide) rfl (fun ls hl => ?_)
                refine lv_goto (tgt := 20) hx hb dX12_readExpression_73 (by decide) ?_
                exact ih_20_13 (z43, k20_fr, k20_to, k20_so, k20_wo, k20_fr, 1, k20_co, k20_le, k20_pd, k20_od, k20_op, k20_ar, k20_pi, k20_pa) ls H locs (show Int.toNat (3 * (400 - k20_fr.toInt) + 3 * (1 - (1 : Int32).toInt) + twt z43.toInt) < Int.toNat (3 * (400 - k20_fr.toInt) + 3 * (1 - k20_bd.toInt) + twt k20_2.toInt) by have zc_k20_bd : (1 : Int32).toInt = 1 := (by decide); omega) ⟨lv_sub hl [0, 1, 2] rfl, hP.sub [1, 2, 3, 4, 5, 6, 0] rfl, hD.sub [1, 2, 3, 4, 5, 6, 0] (by decide) rfl, hS, i_42, i_3, i_4, ⟨by decide, by decide⟩, i_6, i_7, i_8, fun q9 => absurd q9 (by decide), by omega, i_11, by omega⟩
              ·
                have i_45 : 0 ≤ z56.toInt ∧ z56.toInt ≤ 400 := i_45
                have i_46 : 0 ≤ z57.toInt ∧ z57.toInt ≤ 400 := i_46
                have i_47 : 0 ≤ z60.toInt ∧ z60.toInt ≤ 400 := i_47
                have i_48 : 0 ≤ z61.toInt ∧ z61.toInt ≤ 400 := i_48
                have i_49 : 0 ≤ z55.toInt ∧ z55.toInt ≤ 4 := i_49
                have i_50 : k20_fr.toInt ≤ z56.toInt ∧ z56.toInt ≤ z57.toInt ∧ z57.toInt ≤ u_td.toInt := i_50
                have i_51 : TKs z58.toInt z56.toInt z57.toInt := i_51
                have i_52 : XJ v_op v_ar z63 z64 z65 z66 u_co.toInt z60.toInt z61.toInt z56.toInt := i_52
                have i_53 : TJ z63 z64 z65 z66 u_co.toInt z60.toInt z61.toInt z55.toInt := i_53
                have i_54 : twt z55.toInt + 1 ≤ 1 + 3 * (z56.toInt - k20_fr.toInt) := i_54
                obtain ⟨hP, hD⟩ := va_join (wr := [(b_ws, (arJ G 8 v_ws))]) hP hD [0, 1, 2, 3, 4, 5] [6] rfl rfl (by decide) (by decide) hk1 hFc hP1 hD1
                generalize H1 = H at hP hS ⊢
                refine g5_rs [(b_ws, (arJ G 8 v_ws)), (b_o, (oc12 u_th u_sa b_rf b_ro b_im b_ke u_fd b_tp u_td z56 z57 z58 z59 k20_fa k20_bd u_nc b_nl z60 b_op b_ar k20_le b_pi b_pa z61 z62 b_ws b_hw u_la b_se b_re u_bk u_va u_su u_ce u_ho u_wy u_bt u_ps b_pt u_tg u_sn b_ip u_ic b_ah b_be b_me u_wd b_tr b_ld u_st b_wn u_id)), (b_tp, (arI G 400 v_tp)), (b_op, (arI G 400 z63)), (b_ar, (arI G 400 z64)), (b_pi, (arI G 400 z65)), (b_pa, (arI G 400 z66))] hP hD (fun hP hD => ?_)
                refine g5_ti (v := z55) y67 ?_
                have w1 := twt_rg z55.toInt
                refine lv_istore_n (lv' := [(2, .int z55), (0, .ref b_o), (1, .int p_1)]) hx hb dX12_readExpression_72 rfl hl (by decide) rfl (fun ls hl => ?_)
                refine lv_goto (tgt := 20) hx hb dX12_readExpression_73 (by decide) ?_
                exact ih_20_13 (z55, z56, z57, z58, z59, k20_fa, k20_bd, z60, k20_le, z61, z62, z63, z64, z65, z66) ls H locs (show Int.toNat (3 * (400 - z56.toInt) + 3 * (1 - k20_bd.toInt) + twt z55.toInt) < Int.toNat (3 * (400 - k20_fr.toInt) + 3 * (1 - k20_bd.toInt) + twt k20_2.toInt) by omega) ⟨lv_sub hl [0, 1, 2] rfl, hP.sub [1, 2, 3, 4, 5, 6, 0] rfl, hD.sub [1, 2, 3, 4, 5, 6, 0] (by decide) rfl, hS, i_49, i_45, i_46, i_5, i_47, i_48, i_52, fun _ => i_53, by omega, i_51, by omega⟩
            ·
              have i_40 : k20_2.toInt = 3 := by have z := g5_neN (a := k20_2.toInt) (b := 3) (by rfl) (by decide) c_40; omega
              have w2 : twt k20_2.toInt = 2 := twt_3 (by omega)
              have hE_68 : TJ k20_op k20_ar k20_pi k20_pa u_co.toInt k20_co.toInt k20_pd.toInt 3 := by have q9 := i_9 (by omega); rw [show k20_2.toInt = 3 by omega] at q9; exact q9
              refine lv_aload_n hx hb dX12_readExpression_60 rfl (lv_at hl 1 rfl) ?_
              refine lv_iload_n hx hb dX12_readExpression_61 rfl (lv_at hl 2 rfl) ?_
              obtain ⟨hPc, hDc, hFc⟩ := g5_sub3 (wc := [(b_o, (oc12 u_th u_sa b_rf b_ro b_im b_ke u_fd b_tp u_td k20_fr k20_to k20_so k20_wo k20_fa k20_bd u_nc b_nl k20_co b_op b_ar k20_le b_pi b_pa k20_pd k20_od b_ws b_hw u_la b_se b_re u_bk u_va u_su u_ce u_ho u_wy u_bt u_ps b_pt u_tg u_sn b_ip u_ic b_ah b_be b_me u_wd b_tr b_ld u_st b_wn u_id)), (b_tp, (arI G 400 v_tp)), (b_op, (arI G 400 k20_op)), (b_ar, (arI G 400 k20_ar)), (b_pi, (arI G 400 k20_pi)), (b_pa, (arI G 400 k20_pa))]) hP hD hS hA [0, 1, 2, 3, 4, 5] (by decide) rfl
              refine va_calli (va_runV (As := [.int p_1]) (rest := []) ⟨hx, hb, hml, hown, hts⟩ (n_behindSum l G b_o b_tp b_op b_ar b_pi b_pa b_rf b_ro b_im b_ke b_nl b_ws b_hw b_se b_re b_pt b_ip b_ah b_be b_me b_tr b_ld b_wn H.size u_th u_sa u_fd u_td k20_fr k20_to k20_so k20_fa k20_bd u_nc k20_co k20_le k20_pd k20_od u_la u_bk u_ce u_ho u_wy u_bt u_ps u_tg u_sn u_ic u_wd u_id p_1 u_co k20_wo u_va u_su u_st v_tp k20_op k20_ar k20_pi k20_pa v_op v_ar h_u_td i_3 i_4 ⟨by omega, by omega⟩ h_u_nc i_6 i_7 h_u_la h_u_bk h_u_ce h_u_ho h_u_wy h_u_bt h_u_ps h_u_ic h_u_id h_p_1 (i_10) (i_11) (i_8) (hE_68)) (cwV 1 hts gV_X12_305 rfl rfl rfl hv_X12_behindSum ⟨Nat.le_of_ble_eq_true rfl, Nat.le_of_ble_eq_true rfl⟩) (g5_preV hPc hK hDc hN hT hS hFc (ci := 12) (q0 := 0) rfl rfl) rfl rfl hl.1 rfl (lv_room (Nat.le_of_ble_eq_true rfl)) dX12_readExpression_62 ⟨Nat.le_of_ble_eq_true rfl, Nat.le_of_ble_eq_true rfl⟩) hS (fun q _ h => hFc q h) hFc (fun r u t H1 locs ht hvm hw hB hz1 hk1 hS => ?_)
              obtain ⟨hP1, hD1⟩ := hB
              rw [ht] at hP1
              rcases hw with ⟨z70, i_69, y71, rfl⟩ | ⟨z82, z83, z84, z85, z86, z87, z88, z89, z90, z91, z92, z93, i_72, i_73, i_74, i_75, i_76, i_77, i_78, i_79, i_80, i_81, y94, rfl⟩
              ·
                have i_69 : 0 ≤ z70.toInt ∧ z70.toInt ≤ 4 := i_69
                obtain ⟨hP, hD⟩ := va_join (wr := [(b_ws, (arJ G 8 v_ws))]) hP hD [0, 1, 2, 3, 4, 5] [6] rfl rfl (by decide) (by decide) hk1 hFc hP1 hD1
                generalize H1 = H at hP hS ⊢
                refine g5_rs [(b_ws, (arJ G 8 v_ws)), (b_o, (oc12 u_th u_sa b_rf b_ro b_im b_ke u_fd b_tp u_td k20_fr k20_to k20_so k20_wo k20_fr 1 u_nc b_nl k20_co b_op b_ar k20_le b_pi b_pa k20_pd k20_od b_ws b_hw u_la b_se b_re u_bk u_va u_su u_ce u_ho u_wy u_bt u_ps b_pt u_tg u_sn b_ip u_ic b_ah b_be b_me u_wd b_tr b_ld u_st b_wn u_id)), (b_tp, (arI G 400 v_tp)), (b_op, (arI G 400 k20_op)), (b_ar, (arI G 400 k20_ar)), (b_pi, (arI G 400 k20_pi)), (b_pa, (arI G 400 k20_pa))] hP hD (fun hP hD => ?_)
                refine g5_ti (v := z70) y71 ?_
                refine lv_goto (tgt := 72) hx hb dX12_readExpression_65 (by decide) ?_
                have w1 := twt_rg z70.toInt
                refine lv_istore_n (lv' := [(2, .int z70), (0, .ref b_o), (1, .int p_1)]) hx hb dX12_readExpression_72 rfl hl (by decide) rfl (fun ls hl => ?_)
                refine lv_goto (tgt := 20) hx hb dX12_readExpression_73 (by decide) ?_
                exact ih_20_13 (z70, k20_fr, k20_to, k20_so, k20_wo, k20_fr, 1, k20_co, k20_le, k20_pd, k20_od, k20_op, k20_ar, k20_pi, k20_pa) ls H locs (show Int.toNat (3 * (400 - k20_fr.toInt) + 3 * (1 - (1 : Int32).toInt) + twt z70.toInt) < Int.toNat (3 * (400 - k20_fr.toInt) + 3 * (1 - k20_bd.toInt) + twt k20_2.toInt) by have zc_k20_bd : (1 : Int32).toInt = 1 := (by decide); omega) ⟨lv_sub hl [0, 1, 2] rfl, hP.sub [1, 2, 3, 4, 5, 6, 0] rfl, hD.sub [1, 2, 3, 4, 5, 6, 0] (by decide) rfl, hS, i_69, i_3, i_4, ⟨by decide, by decide⟩, i_6, i_7, i_8, fun q9 => absurd q9 (by decide), by omega, i_11, by omega⟩
              ·
                have i_72 : 0 ≤ z83.toInt ∧ z83.toInt ≤ 400 := i_72
                have i_73 : 0 ≤ z84.toInt ∧ z84.toInt ≤ 400 := i_73
                have i_74 : 0 ≤ z87.toInt ∧ z87.toInt ≤ 400 := i_74
                have i_75 : 0 ≤ z88.toInt ∧ z88.toInt ≤ 400 := i_75
                have i_76 : 0 ≤ z82.toInt ∧ z82.toInt ≤ 4 := i_76
                have i_77 : k20_fr.toInt ≤ z83.toInt ∧ z83.toInt ≤ z84.toInt ∧ z84.toInt ≤ u_td.toInt := i_77
                have i_78 : TKs z85.toInt z83.toInt z84.toInt := i_78
                have i_79 : XJ v_op v_ar z90 z91 z92 z93 u_co.toInt z87.toInt z88.toInt z83.toInt := i_79
                have i_80 : TJ z90 z91 z92 z93 u_co.toInt z87.toInt z88.toInt z82.toInt := i_80
                have i_81 : twt z82.toInt + 1 ≤ 2 + 3 * (z83.toInt - k20_fr.toInt) := i_81
                obtain ⟨hP, hD⟩ := va_join (wr := [(b_ws, (arJ G 8 v_ws))]) hP hD [0, 1, 2, 3, 4, 5] [6] rfl rfl (by decide) (by decide) hk1 hFc hP1 hD1
                generalize H1 = H at hP hS ⊢
                refine g5_rs [(b_ws, (arJ G 8 v_ws)), (b_o, (oc12 u_th u_sa b_rf b_ro b_im b_ke u_fd b_tp u_td z83 z84 z85 z86 k20_fa k20_bd u_nc b_nl z87 b_op b_ar k20_le b_pi b_pa z88 z89 b_ws b_hw u_la b_se b_re u_bk u_va u_su u_ce u_ho u_wy u_bt u_ps b_pt u_tg u_sn b_ip u_ic b_ah b_be b_me u_wd b_tr b_ld u_st b_wn u_id)), (b_tp, (arI G 400 v_tp)), (b_op, (arI G 400 z90)), (b_ar, (arI G 400 z91)), (b_pi, (arI G 400 z92)), (b_pa, (arI G 400 z93))] hP hD (fun hP hD => ?_)
                refine g5_ti (v := z82) y94 ?_
                refine lv_goto (tgt := 72) hx hb dX12_readExpression_65 (by decide) ?_
                have w1 := twt_rg z82.toInt
                refine lv_istore_n (lv' := [(2, .int z82), (0, .ref b_o), (1, .int p_1)]) hx hb dX12_readExpression_72 rfl hl (by decide) rfl (fun ls hl => ?_)
                refine lv_goto (tgt := 20) hx hb dX12_readExpression_73 (by decide) ?_
                exact ih_20_13 (z82, z83, z84, z85, z86, k20_fa, k20_bd, z87, k20_le, z88, z89, z90, z91, z92, z93) ls H locs (show Int.toNat (3 * (400 - z83.toInt) + 3 * (1 - k20_bd.toInt) + twt z82.toInt) < Int.toNat (3 * (400 - k20_fr.toInt) + 3 * (1 - k20_bd.toInt) + twt k20_2.toInt) by omega) ⟨lv_sub hl [0, 1, 2] rfl, hP.sub [1, 2, 3, 4, 5, 6, 0] rfl, hD.sub [1, 2, 3, 4, 5, 6, 0] (by decide) rfl, hS, i_76, i_72, i_73, i_5, i_74, i_75, i_79, fun _ => i_80, by omega, i_78, by omega⟩
          ·
            have i_39 : k20_2.toInt = 1 := by have z := g5_neN (a := k20_2.toInt) (b := 1) (by rfl) (by decide) c_39; omega
            have w2 : twt k20_2.toInt = 0 := twt_0 (Or.inr (Or.inl (by omega)))
            have hE_95 : TJ k20_op k20_ar k20_pi k20_pa u_co.toInt k20_co.toInt k20_pd.toInt 1 := by have q9 := i_9 (by omega); rw [show k20_2.toInt = 1 by omega] at q9; exact q9
            refine lv_aload_n hx hb dX12_readExpression_48 rfl (lv_at hl 1 rfl) ?_
            obtain ⟨hPc, hDc, hFc⟩ := g5_sub3 (wc := [(b_o, (oc12 u_th u_sa b_rf b_ro b_im b_ke u_fd b_tp u_td k20_fr k20_to k20_so k20_wo k20_fa k20_bd u_nc b_nl k20_co b_op b_ar k20_le b_pi b_pa k20_pd k20_od b_ws b_hw u_la b_se b_re u_bk u_va u_su u_ce u_ho u_wy u_bt u_ps b_pt u_tg u_sn b_ip u_ic b_ah b_be b_me u_wd b_tr b_ld u_st b_wn u_id)), (b_tp, (arI G 400 v_tp)), (b_op, (arI G 400 k20_op)), (b_ar, (arI G 400 k20_ar)), (b_pi, (arI G 400 k20_pi)), (b_pa, (arI G 400 k20_pa)), (b_ws, (arJ G 8 v_ws))]) hP hD hS hA [0, 1, 2, 3, 4, 5, 6] (by decide) rfl
            refine va_calli (va_runV (As := []) (rest := []) ⟨hx, hb, hml, hown, hts⟩ (n_readPart l G b_o b_tp b_op b_ar b_pi b_pa b_ws b_rf b_ro b_im b_ke b_nl b_hw b_se b_re b_pt b_ip b_ah b_be b_me b_tr b_ld b_wn H.size u_th u_sa u_fd u_td k20_fr k20_to k20_so k20_fa k20_bd u_nc k20_co k20_le k20_pd k20_od u_la u_bk u_ce u_ho u_wy u_bt u_ps u_tg u_sn u_ic u_wd u_id u_co k20_wo u_va u_su u_st v_tp k20_op k20_ar k20_pi k20_pa v_ws v_op v_ar h_u_td i_3 i_4 ⟨by omega, by omega⟩ h_u_nc i_6 i_7 h_u_la h_u_bk h_u_ce h_u_ho h_u_wy h_u_bt h_u_ps h_u_ic h_u_id (i_10) (i_11) (i_8) (hE_95)) (cwV 0 hts gV_X12_285 rfl rfl rfl hv_X12_readPart ⟨Nat.le_of_ble_eq_true rfl, Nat.le_of_ble_eq_true rfl⟩) (g5_preV hPc hK hDc hN hT hS hFc (ci := 12) (q0 := 0) rfl rfl) rfl rfl hl.1 rfl (lv_room (Nat.le_of_ble_eq_true rfl)) dX12_readExpression_49 ⟨Nat.le_of_ble_eq_true rfl, Nat.le_of_ble_eq_true rfl⟩) hS (fun q _ h => hFc q h) hFc (fun r u t H1 locs ht hvm hw hB hz1 hk1 hS => ?_)
            obtain ⟨hP1, hD1⟩ := hB
            rw [ht] at hP1
            rcases hw with ⟨z97, i_96, y98, rfl⟩ | ⟨z109, z110, z111, z112, z113, z114, z115, z116, z117, z118, z119, z120, z121, i_99, i_100, i_101, i_102, i_103, i_104, i_105, i_106, i_107, i_108, y122, rfl⟩
            ·
              have i_96 : 0 ≤ z97.toInt ∧ z97.toInt ≤ 4 := i_96
              obtain ⟨hP, hD⟩ := va_join (wr := []) hP hD [0, 1, 2, 3, 4, 5, 6] [] rfl rfl (by decide) (by decide) hk1 hFc hP1 hD1
              generalize H1 = H at hP hS ⊢
              refine g5_rs [(b_o, (oc12 u_th u_sa b_rf b_ro b_im b_ke u_fd b_tp u_td k20_fr k20_to k20_so k20_wo k20_fr 1 u_nc b_nl k20_co b_op b_ar k20_le b_pi b_pa k20_pd k20_od b_ws b_hw u_la b_se b_re u_bk u_va u_su u_ce u_ho u_wy u_bt u_ps b_pt u_tg u_sn b_ip u_ic b_ah b_be b_me u_wd b_tr b_ld u_st b_wn u_id)), (b_tp, (arI G 400 v_tp)), (b_op, (arI G 400 k20_op)), (b_ar, (arI G 400 k20_ar)), (b_pi, (arI G 400 k20_pi)), (b_pa, (arI G 400 k20_pa)), (b_ws, (arJ G 8 v_ws))] hP hD (fun hP hD => ?_)
              refine g5_ti (v := z97) y98 ?_
              refine lv_goto (tgt := 72) hx hb dX12_readExpression_52 (by decide) ?_
              have w1 := twt_rg z97.toInt
              refine lv_istore_n (lv' := [(2, .int z97), (0, .ref b_o), (1, .int p_1)]) hx hb dX12_readExpression_72 rfl hl (by decide) rfl (fun ls hl => ?_)
              refine lv_goto (tgt := 20) hx hb dX12_readExpression_73 (by decide) ?_
              exact ih_20_13 (z97, k20_fr, k20_to, k20_so, k20_wo, k20_fr, 1, k20_co, k20_le, k20_pd, k20_od, k20_op, k20_ar, k20_pi, k20_pa) ls H locs (show Int.toNat (3 * (400 - k20_fr.toInt) + 3 * (1 - (1 : Int32).toInt) + twt z97.toInt) < Int.toNat (3 * (400 - k20_fr.toInt) + 3 * (1 - k20_bd.toInt) + twt k20_2.toInt) by have zc_k20_bd : (1 : Int32).toInt = 1 := (by decide); omega) ⟨lv_sub hl [0, 1, 2] rfl, hP, hD, hS, i_96, i_3, i_4, ⟨by decide, by decide⟩, i_6, i_7, i_8, fun q9 => absurd q9 (by decide), by omega, i_11, by omega⟩
            ·
              have i_99 : 0 ≤ z110.toInt ∧ z110.toInt ≤ 400 := i_99
              have i_100 : 0 ≤ z111.toInt ∧ z111.toInt ≤ 400 := i_100
              have i_101 : 0 ≤ z114.toInt ∧ z114.toInt ≤ 400 := i_101
              have i_102 : 0 ≤ z116.toInt ∧ z116.toInt ≤ 400 := i_102
              have i_103 : 0 ≤ z109.toInt ∧ z109.toInt ≤ 4 := i_103
              have i_104 : k20_fr.toInt ≤ z110.toInt ∧ z110.toInt ≤ z111.toInt ∧ z111.toInt ≤ u_td.toInt := i_104
              have i_105 : TKs z112.toInt z110.toInt z111.toInt := i_105
              have i_106 : XJ v_op v_ar z118 z119 z120 z121 u_co.toInt z114.toInt z116.toInt z110.toInt := i_106
              have i_107 : TJ z118 z119 z120 z121 u_co.toInt z114.toInt z116.toInt z109.toInt := i_107
              have i_108 : twt z109.toInt + 1 ≤ 0 + 3 * (z110.toInt - k20_fr.toInt) := i_108
              obtain ⟨hP, hD⟩ := va_join (wr := []) hP hD [0, 1, 2, 3, 4, 5, 6] [] rfl rfl (by decide) (by decide) hk1 hFc hP1 hD1
              generalize H1 = H at hP hS ⊢
              refine g5_rs [(b_o, (oc12 u_th u_sa b_rf b_ro b_im b_ke u_fd b_tp u_td z110 z111 z112 z113 k20_fa k20_bd u_nc b_nl z114 b_op b_ar z115 b_pi b_pa z116 z117 b_ws b_hw u_la b_se b_re u_bk u_va u_su u_ce u_ho u_wy u_bt u_ps b_pt u_tg u_sn b_ip u_ic b_ah b_be b_me u_wd b_tr b_ld u_st b_wn u_id)), (b_tp, (arI G 400 v_tp)), (b_op, (arI G 400 z118)), (b_ar, (arI G 400 z119)), (b_pi, (arI G 400 z120)), (b_pa, (arI G 400 z121)), (b_ws, (arJ G 8 v_ws))] hP hD (fun hP hD => ?_)
              refine g5_ti (v := z109) y122 ?_
              refine lv_goto (tgt := 72) hx hb dX12_readExpression_52 (by decide) ?_
              have w1 := twt_rg z109.toInt
              refine lv_istore_n (lv' := [(2, .int z109), (0, .ref b_o), (1, .int p_1)]) hx hb dX12_readExpression_72 rfl hl (by decide) rfl (fun ls hl => ?_)
              refine lv_goto (tgt := 20) hx hb dX12_readExpression_73 (by decide) ?_
              exact ih_20_13 (z109, z110, z111, z112, z113, k20_fa, k20_bd, z114, z115, z116, z117, z118, z119, z120, z121) ls H locs (show Int.toNat (3 * (400 - z110.toInt) + 3 * (1 - k20_bd.toInt) + twt z109.toInt) < Int.toNat (3 * (400 - k20_fr.toInt) + 3 * (1 - k20_bd.toInt) + twt k20_2.toInt) by omega) ⟨lv_sub hl [0, 1, 2] rfl, hP, hD, hS, i_103, i_99, i_100, i_5, i_101, i_102, i_106, fun _ => i_107, by omega, i_105, by omega⟩
        ·
          have i_38 : k20_2.toInt = 0 := by have z := g5_neN (a := k20_2.toInt) (b := 0) (by rfl) (by decide) c_38; omega
          have w2 : twt k20_2.toInt = 0 := twt_0 (Or.inl (by omega))
          have hE_123 : TJ k20_op k20_ar k20_pi k20_pa u_co.toInt k20_co.toInt k20_pd.toInt 0 := by have q9 := i_9 (by omega); rw [show k20_2.toInt = 0 by omega] at q9; exact q9
          refine lv_aload_n hx hb dX12_readExpression_36 rfl (lv_at hl 1 rfl) ?_
          obtain ⟨hPc, hDc, hFc⟩ := g5_sub3 (wc := [(b_o, (oc12 u_th u_sa b_rf b_ro b_im b_ke u_fd b_tp u_td k20_fr k20_to k20_so k20_wo k20_fa k20_bd u_nc b_nl k20_co b_op b_ar k20_le b_pi b_pa k20_pd k20_od b_ws b_hw u_la b_se b_re u_bk u_va u_su u_ce u_ho u_wy u_bt u_ps b_pt u_tg u_sn b_ip u_ic b_ah b_be b_me u_wd b_tr b_ld u_st b_wn u_id)), (b_tp, (arI G 400 v_tp)), (b_op, (arI G 400 k20_op)), (b_ar, (arI G 400 k20_ar)), (b_pi, (arI G 400 k20_pi)), (b_pa, (arI G 400 k20_pa)), (b_ws, (arJ G 8 v_ws))]) hP hD hS hA [0, 1, 2, 3, 4, 5, 6] (by decide) rfl
          refine va_calli (va_runV (As := []) (rest := []) ⟨hx, hb, hml, hown, hts⟩ (n_readPlain l G b_o b_tp b_op b_ar b_pi b_pa b_ws b_rf b_ro b_im b_ke b_nl b_hw b_se b_re b_pt b_ip b_ah b_be b_me b_tr b_ld b_wn H.size u_th u_sa u_fd u_td k20_fr k20_to k20_so k20_fa k20_bd u_nc k20_co k20_le k20_pd k20_od u_la u_bk u_ce u_ho u_wy u_bt u_ps u_tg u_sn u_ic u_wd u_id u_co k20_wo u_va u_su u_st v_tp k20_op k20_ar k20_pi k20_pa v_ws v_op v_ar h_u_td i_3 i_4 ⟨by omega, by omega⟩ h_u_nc i_6 i_7 h_u_la h_u_bk h_u_ce h_u_ho h_u_wy h_u_bt h_u_ps h_u_ic h_u_id (i_10) (i_11) (i_8) (hE_123)) (cwV 0 hts gV_X12_302 rfl rfl rfl hv_X12_readPlain ⟨Nat.le_of_ble_eq_true rfl, Nat.le_of_ble_eq_true rfl⟩) (g5_preV hPc hK hDc hN hT hS hFc (ci := 12) (q0 := 0) rfl rfl) rfl rfl hl.1 rfl (lv_room (Nat.le_of_ble_eq_true rfl)) dX12_readExpression_37 ⟨Nat.le_of_ble_eq_true rfl, Nat.le_of_ble_eq_true rfl⟩) hS (fun q _ h => hFc q h) hFc (fun r u t H1 locs ht hvm hw hB hz1 hk1 hS => ?_)
          obtain ⟨hP1, hD1⟩ := hB
          rw [ht] at hP1
          rcases hw with ⟨z125, i_124, y126, rfl⟩ | ⟨z137, z138, z139, z140, z141, z142, z143, z144, z145, z146, z147, z148, z149, i_127, i_128, i_129, i_130, i_131, i_132, i_133, i_134, i_135, i_136, y150, rfl⟩
          ·
            have i_124 : 0 ≤ z125.toInt ∧ z125.toInt ≤ 4 := i_124
            obtain ⟨hP, hD⟩ := va_join (wr := []) hP hD [0, 1, 2, 3, 4, 5, 6] [] rfl rfl (by decide) (by decide) hk1 hFc hP1 hD1
            generalize H1 = H at hP hS ⊢
            refine g5_rs [(b_o, (oc12 u_th u_sa b_rf b_ro b_im b_ke u_fd b_tp u_td k20_fr k20_to k20_so k20_wo k20_fr 1 u_nc b_nl k20_co b_op b_ar k20_le b_pi b_pa k20_pd k20_od b_ws b_hw u_la b_se b_re u_bk u_va u_su u_ce u_ho u_wy u_bt u_ps b_pt u_tg u_sn b_ip u_ic b_ah b_be b_me u_wd b_tr b_ld u_st b_wn u_id)), (b_tp, (arI G 400 v_tp)), (b_op, (arI G 400 k20_op)), (b_ar, (arI G 400 k20_ar)), (b_pi, (arI G 400 k20_pi)), (b_pa, (arI G 400 k20_pa)), (b_ws, (arJ G 8 v_ws))] hP hD (fun hP hD => ?_)
            refine g5_ti (v := z125) y126 ?_
            refine lv_goto (tgt := 72) hx hb dX12_readExpression_40 (by decide) ?_
            have w1 := twt_rg z125.toInt
            refine lv_istore_n (lv' := [(2, .int z125), (0, .ref b_o), (1, .int p_1)]) hx hb dX12_readExpression_72 rfl hl (by decide) rfl (fun ls hl => ?_)
            refine lv_goto (tgt := 20) hx hb dX12_readExpression_73 (by decide) ?_
            exact ih_20_13 (z125, k20_fr, k20_to, k20_so, k20_wo, k20_fr, 1, k20_co, k20_le, k20_pd, k20_od, k20_op, k20_ar, k20_pi, k20_pa) ls H locs (show Int.toNat (3 * (400 - k20_fr.toInt) + 3 * (1 - (1 : Int32).toInt) + twt z125.toInt) < Int.toNat (3 * (400 - k20_fr.toInt) + 3 * (1 - k20_bd.toInt) + twt k20_2.toInt) by have zc_k20_bd : (1 : Int32).toInt = 1 := (by decide); omega) ⟨lv_sub hl [0, 1, 2] rfl, hP, hD, hS, i_124, i_3, i_4, ⟨by decide, by decide⟩, i_6, i_7, i_8, fun q9 => absurd q9 (by decide), by omega, i_11, by omega⟩
          ·
            have i_127 : 0 ≤ z138.toInt ∧ z138.toInt ≤ 400 := i_127
            have i_128 : 0 ≤ z139.toInt ∧ z139.toInt ≤ 400 := i_128
            have i_129 : 0 ≤ z142.toInt ∧ z142.toInt ≤ 400 := i_129
            have i_130 : 0 ≤ z144.toInt ∧ z144.toInt ≤ 400 := i_130
            have i_131 : 0 ≤ z137.toInt ∧ z137.toInt ≤ 4 := i_131
            have i_132 : k20_fr.toInt ≤ z138.toInt ∧ z138.toInt ≤ z139.toInt ∧ z139.toInt ≤ u_td.toInt := i_132
            have i_133 : TKs z140.toInt z138.toInt z139.toInt := i_133
            have i_134 : XJ v_op v_ar z146 z147 z148 z149 u_co.toInt z142.toInt z144.toInt z138.toInt := i_134
            have i_135 : TJ z146 z147 z148 z149 u_co.toInt z142.toInt z144.toInt z137.toInt := i_135
            have i_136 : twt z137.toInt + 1 ≤ 0 + 3 * (z138.toInt - k20_fr.toInt) := i_136
            obtain ⟨hP, hD⟩ := va_join (wr := []) hP hD [0, 1, 2, 3, 4, 5, 6] [] rfl rfl (by decide) (by decide) hk1 hFc hP1 hD1
            generalize H1 = H at hP hS ⊢
            refine g5_rs [(b_o, (oc12 u_th u_sa b_rf b_ro b_im b_ke u_fd b_tp u_td z138 z139 z140 z141 k20_fa k20_bd u_nc b_nl z142 b_op b_ar z143 b_pi b_pa z144 z145 b_ws b_hw u_la b_se b_re u_bk u_va u_su u_ce u_ho u_wy u_bt u_ps b_pt u_tg u_sn b_ip u_ic b_ah b_be b_me u_wd b_tr b_ld u_st b_wn u_id)), (b_tp, (arI G 400 v_tp)), (b_op, (arI G 400 z146)), (b_ar, (arI G 400 z147)), (b_pi, (arI G 400 z148)), (b_pa, (arI G 400 z149)), (b_ws, (arJ G 8 v_ws))] hP hD (fun hP hD => ?_)
            refine g5_ti (v := z137) y150 ?_
            refine lv_goto (tgt := 72) hx hb dX12_readExpression_40 (by decide) ?_
            have w1 := twt_rg z137.toInt
            refine lv_istore_n (lv' := [(2, .int z137), (0, .ref b_o), (1, .int p_1)]) hx hb dX12_readExpression_72 rfl hl (by decide) rfl (fun ls hl => ?_)
            refine lv_goto (tgt := 20) hx hb dX12_readExpression_73 (by decide) ?_
            exact ih_20_13 (z137, z138, z139, z140, z141, k20_fa, k20_bd, z142, z143, z144, z145, z146, z147, z148, z149) ls H locs (show Int.toNat (3 * (400 - z138.toInt) + 3 * (1 - k20_bd.toInt) + twt z137.toInt) < Int.toNat (3 * (400 - k20_fr.toInt) + 3 * (1 - k20_bd.toInt) + twt k20_2.toInt) by omega) ⟨lv_sub hl [0, 1, 2] rfl, hP, hD, hS, i_131, i_127, i_128, i_5, i_129, i_130, i_134, fun _ => i_135, by omega, i_133, by omega⟩
  ·
    have n_1 : gNe (p_1.toInt) (0) := by have z := g5_eqN (a := p_1.toInt) (b := 0) (by rfl) (by decide) c_1; unfold gNe; omega
    have i_1 : p_1.toInt ≥ 1 := by have z := g5_eqN (a := p_1.toInt) (b := 0) (by rfl) (by decide) c_1; omega
    refine lv_iconst (v := 0) hx hb dX12_readExpression_14 (by decide) ?_
    refine lv_goto (tgt := 19) hx hb dX12_readExpression_15 (by decide) ?_
    refine lv_istore_n (lv' := [(2, .int 0), (0, .ref b_o), (1, .int p_1)]) hx hb dX12_readExpression_19 rfl hl (by decide) rfl (fun ls hl => ?_)
    refine g5_loop (α := (Int32) × (Int32) × (Int32) × (Int32) × (Int64) × (Int32) × (Int32) × (Int32) × (Int32) × (Int32) × (Int32) × (Nat → Int32) × (Nat → Int32) × (Nat → Int32) × (Nat → Int32)) (fun (q : (Int32) × (Int32) × (Int32) × (Int32) × (Int64) × (Int32) × (Int32) × (Int32) × (Int32) × (Int32) × (Int32) × (Nat → Int32) × (Nat → Int32) × (Nat → Int32) × (Nat → Int32)) (ls : Array Slot) (H : Heap) (locs : List Loc) => match q with | (k20_2, k20_fr, k20_to, k20_so, k20_wo, k20_fa, k20_bd, k20_co, k20_le, k20_pd, k20_od, k20_op, k20_ar, k20_pi, k20_pa) => lv_has ls 3 [(2, .int k20_2), (0, .ref b_o), (1, .int p_1)] ∧ va_P G.1 vwCl [(b_o, (oc12 u_th u_sa b_rf b_ro b_im b_ke u_fd b_tp u_td k20_fr k20_to k20_so k20_wo k20_fa k20_bd u_nc b_nl k20_co b_op b_ar k20_le b_pi b_pa k20_pd k20_od b_ws b_hw u_la b_se b_re u_bk u_va u_su u_ce u_ho u_wy u_bt u_ps b_pt u_tg u_sn b_ip u_ic b_ah b_be b_me u_wd b_tr b_ld u_st b_wn u_id)), (b_tp, (arI G 400 v_tp)), (b_op, (arI G 400 k20_op)), (b_ar, (arI G 400 k20_ar)), (b_pi, (arI G 400 k20_pi)), (b_pa, (arI G 400 k20_pa)), (b_ws, (arJ G 8 v_ws))] H ∧ va_D A [(b_o, (oc12 u_th u_sa b_rf b_ro b_im b_ke u_fd b_tp u_td k20_fr k20_to k20_so k20_wo k20_fa k20_bd u_nc b_nl k20_co b_op b_ar k20_le b_pi b_pa k20_pd k20_od b_ws b_hw u_la b_se b_re u_bk u_va u_su u_ce u_ho u_wy u_bt u_ps b_pt u_tg u_sn b_ip u_ic b_ah b_be b_me u_wd b_tr b_ld u_st b_wn u_id)), (b_tp, (arI G 400 v_tp)), (b_op, (arI G 400 k20_op)), (b_ar, (arI G 400 k20_ar)), (b_pi, (arI G 400 k20_pi)), (b_pa, (arI G 400 k20_pa)), (b_ws, (arJ G 8 v_ws))] ∧ va_S A s.heap H locs ∧ (0 ≤ k20_2.toInt ∧ k20_2.toInt ≤ 4) ∧ (0 ≤ k20_fr.toInt ∧ k20_fr.toInt ≤ 400) ∧ (0 ≤ k20_to.toInt ∧ k20_to.toInt ≤ 400) ∧ (0 ≤ k20_bd.toInt ∧ k20_bd.toInt ≤ 1) ∧ (0 ≤ k20_co.toInt ∧ k20_co.toInt ≤ 400) ∧ (0 ≤ k20_pd.toInt ∧ k20_pd.toInt ≤ 400) ∧ (XJ v_op v_ar k20_op k20_ar k20_pi k20_pa u_co.toInt k20_co.toInt k20_pd.toInt k20_fr.toInt) ∧ (k20_bd.toInt = 0 → TJ k20_op k20_ar k20_pi k20_pa u_co.toInt k20_co.toInt k20_pd.toInt k20_2.toInt) ∧ (k20_fr.toInt ≤ k20_to.toInt ∧ k20_to.toInt ≤ u_td.toInt) ∧ (TKs k20_so.toInt k20_fr.toInt k20_to.toInt) ∧ (u_fr.toInt ≤ k20_fr.toInt)) (fun (q : (Int32) × (Int32) × (Int32) × (Int32) × (Int64) × (Int32) × (Int32) × (Int32) × (Int32) × (Int32) × (Int32) × (Nat → Int32) × (Nat → Int32) × (Nat → Int32) × (Nat → Int32)) => match q with | (k20_2, k20_fr, k20_to, k20_so, k20_wo, k20_fa, k20_bd, k20_co, k20_le, k20_pd, k20_od, k20_op, k20_ar, k20_pi, k20_pa) => Int.toNat (3 * (400 - k20_fr.toInt) + 3 * (1 - k20_bd.toInt) + twt k20_2.toInt)) (0, u_fr, u_to, u_so, u_wo, u_fa, u_bd, u_co, u_le, 0, 0, v_op, v_ar, v_pi, v_pa) ⟨lv_sub hl [0, 1, 2] rfl, hP, hD, hS, ⟨by decide, by decide⟩, h_u_fr, h_u_to, ⟨by omega, by omega⟩, h_u_co, ⟨by decide, by decide⟩, xj_0 (by decide) (by omega) (by omega), fun _ => tj_0 (hj_0 (by decide)) (by decide) (no31_0 (by decide)), by omega, e_s, Int.le_refl _⟩ ?_
    rintro ⟨k20_2, k20_fr, k20_to, k20_so, k20_wo, k20_fa, k20_bd, k20_co, k20_le, k20_pd, k20_od, k20_op, k20_ar, k20_pi, k20_pa⟩ ls H locs ⟨hl, hP, hD, hS, i_151, i_152, i_153, i_154, i_155, i_156, i_157, i_158, i_159, i_160, i_161⟩ ih_20_162
    have hl : lv_has ls 3 [(2, .int k20_2), (0, .ref b_o), (1, .int p_1)] := hl
    have i_151 : 0 ≤ k20_2.toInt ∧ k20_2.toInt ≤ 4 := i_151
    have i_152 : 0 ≤ k20_fr.toInt ∧ k20_fr.toInt ≤ 400 := i_152
    have i_153 : 0 ≤ k20_to.toInt ∧ k20_to.toInt ≤ 400 := i_153
    have i_154 : 0 ≤ k20_bd.toInt ∧ k20_bd.toInt ≤ 1 := i_154
    have i_155 : 0 ≤ k20_co.toInt ∧ k20_co.toInt ≤ 400 := i_155
    have i_156 : 0 ≤ k20_pd.toInt ∧ k20_pd.toInt ≤ 400 := i_156
    have i_157 : XJ v_op v_ar k20_op k20_ar k20_pi k20_pa u_co.toInt k20_co.toInt k20_pd.toInt k20_fr.toInt := i_157
    have i_158 : k20_bd.toInt = 0 → TJ k20_op k20_ar k20_pi k20_pa u_co.toInt k20_co.toInt k20_pd.toInt k20_2.toInt := i_158
    have i_159 : k20_fr.toInt ≤ k20_to.toInt ∧ k20_to.toInt ≤ u_td.toInt := i_159
    have i_160 : TKs k20_so.toInt k20_fr.toInt k20_to.toInt := i_160
    have i_161 : u_fr.toInt ≤ k20_fr.toInt := i_161
    refine g5_rs [(b_o, (oc12 u_th u_sa b_rf b_ro b_im b_ke u_fd b_tp u_td k20_fr k20_to k20_so k20_wo k20_fa k20_bd u_nc b_nl k20_co b_op b_ar k20_le b_pi b_pa k20_pd k20_od b_ws b_hw u_la b_se b_re u_bk u_va u_su u_ce u_ho u_wy u_bt u_ps b_pt u_tg u_sn b_ip u_ic b_ah b_be b_me u_wd b_tr b_ld u_st b_wn u_id)), (b_tp, (arI G 400 v_tp)), (b_op, (arI G 400 k20_op)), (b_ar, (arI G 400 k20_ar)), (b_pi, (arI G 400 k20_pi)), (b_pa, (arI G 400 k20_pa)), (b_ws, (arJ G 8 v_ws))] hP hD (fun hP hD => ?_)
    have w0 := twt_rg k20_2.toInt
    refine lv_aload_n hx hb dX12_readExpression_20 rfl (lv_at hl 1 rfl) ?_
    refine va_get (D := G.1) (ci := 12) (v := .int k20_bd) (C := RX12) (T := TX12) (N := 52) hx hb hts inG_X12 hown hK hP 0 rfl rfl 14 (by decide) (hts _ fl_X12_205) (fun _ h9 => h9) rfl dX12_readExpression_21 ?_
    refine lv_if_ne (tgt := 76) hx hb dX12_readExpression_24 (by decide) (fun c_163 => ?_) (fun c_163 => ?_)
    ·
      have n_163 : gNe (k20_bd.toInt) (0) := by have z := g5_ne (a := k20_bd.toInt) (b := 0) (by rfl) (by decide) c_163; unfold gNe; omega
      have i_163 : k20_bd.toInt ≥ 1 := by have z := g5_ne (a := k20_bd.toInt) (b := 0) (by rfl) (by decide) c_163; omega
      refine lv_aload_n hx hb dX12_readExpression_76 rfl (lv_at hl 1 rfl) ?_
      refine lv_iconst (v := 1) hx hb dX12_readExpression_77 (by decide) ?_
      obtain ⟨hPc, hDc, hFc⟩ := g5_sub3 (wc := [(b_o, (oc12 u_th u_sa b_rf b_ro b_im b_ke u_fd b_tp u_td k20_fr k20_to k20_so k20_wo k20_fa k20_bd u_nc b_nl k20_co b_op b_ar k20_le b_pi b_pa k20_pd k20_od b_ws b_hw u_la b_se b_re u_bk u_va u_su u_ce u_ho u_wy u_bt u_ps b_pt u_tg u_sn b_ip u_ic b_ah b_be b_me u_wd b_tr b_ld u_st b_wn u_id)), (b_op, (arI G 400 k20_op)), (b_ar, (arI G 400 k20_ar)), (b_pi, (arI G 400 k20_pi)), (b_pa, (arI G 400 k20_pa))]) hP hD hS hA [0, 2, 3, 4, 5] (by decide) rfl
      refine va_callv (va_runV (As := [.int 1]) (rest := []) ⟨hx, hb, hml, hown, hts⟩ (n_settleB l G b_o b_op b_ar b_pi b_pa b_rf b_ro b_im b_ke b_tp b_nl b_ws b_hw b_se b_re b_pt b_ip b_ah b_be b_me b_tr b_ld b_wn H.size u_th u_sa u_fd u_td k20_fr k20_to k20_so k20_fa k20_bd u_nc k20_co k20_le k20_pd k20_od u_la u_bk u_ce u_ho u_wy u_bt u_ps u_tg u_sn u_ic u_wd u_id 1 u_co k20_fr k20_wo u_va u_su u_st k20_op k20_ar k20_pi k20_pa v_op v_ar h_u_td i_152 i_153 i_154 h_u_nc i_155 i_156 h_u_la h_u_bk h_u_ce h_u_ho h_u_wy h_u_bt h_u_ps h_u_ic h_u_id ⟨by decide, by decide⟩ (by omega) (i_157)) (cwV 1 hts gV_X12_288 rfl rfl rfl hv_X12_settle ⟨Nat.le_of_ble_eq_true rfl, Nat.le_of_ble_eq_true rfl⟩) (g5_preV hPc hK hDc hN hT hS hFc (ci := 12) (q0 := 0) rfl rfl) rfl rfl hl.1 rfl (lv_room (Nat.le_of_ble_eq_true rfl)) dX12_readExpression_78 ⟨Nat.le_of_ble_eq_true rfl, Nat.le_of_ble_eq_true rfl⟩) hS (fun q _ h => hFc q h) hFc (fun u t H1 locs ht hvm hw hB hz1 hk1 hS => ?_)
      obtain ⟨hP1, hD1⟩ := hB
      rw [ht] at hP1
      obtain ⟨z170, z171, z172, z173, i_164, i_165, i_166, i_167, i_168, i_169, rfl⟩ := hw
      have i_164 : 0 ≤ z170.toInt ∧ z170.toInt ≤ 400 := i_164
      have i_165 : 0 ≤ z171.toInt ∧ z171.toInt ≤ 400 := i_165
      have i_166 : XJ v_op v_ar z172 z173 k20_pi k20_pa u_co.toInt z170.toInt z171.toInt k20_fr.toInt := i_166
      have i_167 : S1 k20_pi k20_pd.toInt z171.toInt := i_167
      have i_168 : S2 k20_pi z171.toInt (1 : Int32).toInt := i_168
      have i_169 : z171.toInt ≤ k20_pd.toInt := i_169
      obtain ⟨hP, hD⟩ := va_join (wr := [(b_tp, (arI G 400 v_tp)), (b_ws, (arJ G 8 v_ws))]) hP hD [0, 2, 3, 4, 5] [1, 6] rfl rfl (by decide) (by decide) hk1 hFc hP1 hD1
      generalize H1 = H at hP hS ⊢
      refine g5_rs [(b_tp, (arI G 400 v_tp)), (b_ws, (arJ G 8 v_ws)), (b_o, (oc12 u_th u_sa b_rf b_ro b_im b_ke u_fd b_tp u_td k20_fr k20_to k20_so k20_wo k20_fa k20_bd u_nc b_nl z170 b_op b_ar k20_le b_pi b_pa z171 k20_od b_ws b_hw u_la b_se b_re u_bk u_va u_su u_ce u_ho u_wy u_bt u_ps b_pt u_tg u_sn b_ip u_ic b_ah b_be b_me u_wd b_tr b_ld u_st b_wn u_id)), (b_op, (arI G 400 z172)), (b_ar, (arI G 400 z173)), (b_pi, (arI G 400 k20_pi)), (b_pa, (arI G 400 k20_pa))] hP hD (fun hP hD => ?_)
      have hmf7 := xj_mf i_166
      exact W.vret hx hb hr (fun t ht hW => ⟨⟨[(b_o, (oc12 u_th u_sa b_rf b_ro b_im b_ke u_fd b_tp u_td k20_fr k20_to k20_so k20_wo k20_fa k20_bd u_nc b_nl z170 b_op b_ar k20_le b_pi b_pa z171 k20_od b_ws b_hw u_la b_se b_re u_bk u_va u_su u_ce u_ho u_wy u_bt u_ps b_pt u_tg u_sn b_ip u_ic b_ah b_be b_me u_wd b_tr b_ld u_st b_wn u_id)), (b_tp, (arI G 400 v_tp)), (b_op, (arI G 400 z172)), (b_ar, (arI G 400 z173)), (b_pi, (arI G 400 k20_pi)), (b_pa, (arI G 400 k20_pa)), (b_ws, (arJ G 8 v_ws))], rfl, ⟨k20_fr, k20_to, k20_so, k20_wo, k20_fa, k20_bd, z170, k20_le, z171, k20_od, z172, z173, k20_pi, k20_pa, i_152, i_153, i_154, i_164, i_165, by omega, i_160, xj_kp i_166, by omega, fun q9 => absurd q9 (by omega), rfl⟩, by rw [ht]; exact hP.sub [2, 0, 3, 4, 5, 6, 1] rfl, hD.sub [2, 0, 3, 4, 5, 6, 1] (by decide) rfl⟩, hS.F ht⟩) hS.2.2 dX12_readExpression_81
    ·
      have i_163 : k20_bd.toInt = 0 := by have z := g5_neN (a := k20_bd.toInt) (b := 0) (by rfl) (by decide) c_163; omega
      refine lv_iload_n hx hb dX12_readExpression_27 rfl (lv_at hl 0 rfl) ?_
      refine lv_iconst (v := 4) hx hb dX12_readExpression_28 (by decide) ?_
      refine lv_icmp_eq (tgt := 76) hx hb dX12_readExpression_29 (by decide) (fun c_174 => ?_) (fun c_174 => ?_)
      ·
        have i_174 : k20_2.toInt = 4 := by have z := g5_eq (a := k20_2.toInt) (b := 4) (by rfl) (by decide) c_174; omega
        have hE_175 : HJ k20_op k20_ar k20_pi k20_pa u_co.toInt k20_co.toInt k20_pd.toInt 1 := tj_d1 (i_158 (by omega)) (by omega)
        refine lv_aload_n hx hb dX12_readExpression_76 rfl (lv_at hl 1 rfl) ?_
        refine lv_iconst (v := 1) hx hb dX12_readExpression_77 (by decide) ?_
        obtain ⟨hPc, hDc, hFc⟩ := g5_sub3 (wc := [(b_o, (oc12 u_th u_sa b_rf b_ro b_im b_ke u_fd b_tp u_td k20_fr k20_to k20_so k20_wo k20_fa k20_bd u_nc b_nl k20_co b_op b_ar k20_le b_pi b_pa k20_pd k20_od b_ws b_hw u_la b_se b_re u_bk u_va u_su u_ce u_ho u_wy u_bt u_ps b_pt u_tg u_sn b_ip u_ic b_ah b_be b_me u_wd b_tr b_ld u_st b_wn u_id)), (b_op, (arI G 400 k20_op)), (b_ar, (arI G 400 k20_ar)), (b_pi, (arI G 400 k20_pi)), (b_pa, (arI G 400 k20_pa))]) hP hD hS hA [0, 2, 3, 4, 5] (by decide) rfl
        refine va_callv (va_runV (As := [.int 1]) (rest := []) ⟨hx, hb, hml, hown, hts⟩ (n_settleH l G b_o b_op b_ar b_pi b_pa b_rf b_ro b_im b_ke b_tp b_nl b_ws b_hw b_se b_re b_pt b_ip b_ah b_be b_me b_tr b_ld b_wn H.size u_th u_sa u_fd u_td k20_fr k20_to k20_so k20_fa k20_bd u_nc k20_co k20_le k20_pd k20_od u_la u_bk u_ce u_ho u_wy u_bt u_ps u_tg u_sn u_ic u_wd u_id 1 u_co k20_fr k20_wo u_va u_su u_st k20_op k20_ar k20_pi k20_pa v_op v_ar h_u_td i_152 i_153 i_154 h_u_nc i_155 i_156 h_u_la h_u_bk h_u_ce h_u_ho h_u_wy h_u_bt h_u_ps h_u_ic h_u_id ⟨by decide, by decide⟩ (by omega) (i_157) (hE_175)) (cwV 1 hts gV_X12_288 rfl rfl rfl hv_X12_settle ⟨Nat.le_of_ble_eq_true rfl, Nat.le_of_ble_eq_true rfl⟩) (g5_preV hPc hK hDc hN hT hS hFc (ci := 12) (q0 := 0) rfl rfl) rfl rfl hl.1 rfl (lv_room (Nat.le_of_ble_eq_true rfl)) dX12_readExpression_78 ⟨Nat.le_of_ble_eq_true rfl, Nat.le_of_ble_eq_true rfl⟩) hS (fun q _ h => hFc q h) hFc (fun u t H1 locs ht hvm hw hB hz1 hk1 hS => ?_)
        obtain ⟨hP1, hD1⟩ := hB
        rw [ht] at hP1
        obtain ⟨z183, z184, z185, z186, i_176, i_177, i_178, i_179, i_180, i_181, i_182, rfl⟩ := hw
        have i_176 : 0 ≤ z183.toInt ∧ z183.toInt ≤ 400 := i_176
        have i_177 : 0 ≤ z184.toInt ∧ z184.toInt ≤ 400 := i_177
        have i_178 : XJ v_op v_ar z185 z186 k20_pi k20_pa u_co.toInt z183.toInt z184.toInt k20_fr.toInt := i_178
        have i_179 : HJ z185 z186 k20_pi k20_pa u_co.toInt z183.toInt z184.toInt 1 := i_179
        have i_180 : S1 k20_pi k20_pd.toInt z184.toInt := i_180
        have i_181 : S2 k20_pi z184.toInt (1 : Int32).toInt := i_181
        have i_182 : z184.toInt ≤ k20_pd.toInt := i_182
        obtain ⟨hP, hD⟩ := va_join (wr := [(b_tp, (arI G 400 v_tp)), (b_ws, (arJ G 8 v_ws))]) hP hD [0, 2, 3, 4, 5] [1, 6] rfl rfl (by decide) (by decide) hk1 hFc hP1 hD1
        generalize H1 = H at hP hS ⊢
        refine g5_rs [(b_tp, (arI G 400 v_tp)), (b_ws, (arJ G 8 v_ws)), (b_o, (oc12 u_th u_sa b_rf b_ro b_im b_ke u_fd b_tp u_td k20_fr k20_to k20_so k20_wo k20_fa k20_bd u_nc b_nl z183 b_op b_ar k20_le b_pi b_pa z184 k20_od b_ws b_hw u_la b_se b_re u_bk u_va u_su u_ce u_ho u_wy u_bt u_ps b_pt u_tg u_sn b_ip u_ic b_ah b_be b_me u_wd b_tr b_ld u_st b_wn u_id)), (b_op, (arI G 400 z185)), (b_ar, (arI G 400 z186)), (b_pi, (arI G 400 k20_pi)), (b_pa, (arI G 400 k20_pa))] hP hD (fun hP hD => ?_)
        have hmf7 := xj_mf i_178
        exact W.vret hx hb hr (fun t ht hW => ⟨⟨[(b_o, (oc12 u_th u_sa b_rf b_ro b_im b_ke u_fd b_tp u_td k20_fr k20_to k20_so k20_wo k20_fa k20_bd u_nc b_nl z183 b_op b_ar k20_le b_pi b_pa z184 k20_od b_ws b_hw u_la b_se b_re u_bk u_va u_su u_ce u_ho u_wy u_bt u_ps b_pt u_tg u_sn b_ip u_ic b_ah b_be b_me u_wd b_tr b_ld u_st b_wn u_id)), (b_tp, (arI G 400 v_tp)), (b_op, (arI G 400 z185)), (b_ar, (arI G 400 z186)), (b_pi, (arI G 400 k20_pi)), (b_pa, (arI G 400 k20_pa)), (b_ws, (arJ G 8 v_ws))], rfl, ⟨k20_fr, k20_to, k20_so, k20_wo, k20_fa, k20_bd, z183, k20_le, z184, k20_od, z185, z186, k20_pi, k20_pa, i_152, i_153, i_154, i_176, i_177, by omega, i_160, xj_kp i_178, by omega, fun _ => cdN_of i_179 (end_0 ((i_158 (by omega)).2.2 (by omega)) (by omega) (by omega) (by decide) i_181) (by omega), rfl⟩, by rw [ht]; exact hP.sub [2, 0, 3, 4, 5, 6, 1] rfl, hD.sub [2, 0, 3, 4, 5, 6, 1] (by decide) rfl⟩, hS.F ht⟩) hS.2.2 dX12_readExpression_81
      ·
        have n_174 : gNe (k20_2.toInt) (4) := by have z := g5_eqN (a := k20_2.toInt) (b := 4) (by rfl) (by decide) c_174; unfold gNe; omega
        have i_174 : k20_2.toInt ≤ 3 := by have z := g5_eqN (a := k20_2.toInt) (b := 4) (by rfl) (by decide) c_174; omega
        refine lv_iload_n hx hb dX12_readExpression_32 rfl (lv_at hl 0 rfl) ?_
        refine lv_if_ne (tgt := 43) hx hb dX12_readExpression_33 (by decide) (fun c_187 => ?_) (fun c_187 => ?_)
        ·
          have n_187 : gNe (k20_2.toInt) (0) := by have z := g5_ne (a := k20_2.toInt) (b := 0) (by rfl) (by decide) c_187; unfold gNe; omega
          have i_187 : k20_2.toInt ≥ 1 := by have z := g5_ne (a := k20_2.toInt) (b := 0) (by rfl) (by decide) c_187; omega
          refine lv_iload_n hx hb dX12_readExpression_43 rfl (lv_at hl 0 rfl) ?_
          refine lv_iconst (v := 1) hx hb dX12_readExpression_44 (by decide) ?_
          refine lv_icmp_ne (tgt := 55) hx hb dX12_readExpression_45 (by decide) (fun c_188 => ?_) (fun c_188 => ?_)
          ·
            have n_188 : gNe (k20_2.toInt) (1) := by have z := g5_ne (a := k20_2.toInt) (b := 1) (by rfl) (by decide) c_188; unfold gNe; omega
            have i_188 : k20_2.toInt ≥ 2 := by have z := g5_ne (a := k20_2.toInt) (b := 1) (by rfl) (by decide) c_188; omega
            refine lv_iload_n hx hb dX12_readExpression_55 rfl (lv_at hl 0 rfl) ?_
            refine lv_iconst (v := 3) hx hb dX12_readExpression_56 (by decide) ?_
            refine lv_icmp_ne (tgt := 68) hx hb dX12_readExpression_57 (by decide) (fun c_189 => ?_) (fun c_189 => ?_)
            ·
              have n_189 : gNe (k20_2.toInt) (3) := by have z := g5_ne (a := k20_2.toInt) (b := 3) (by rfl) (by decide) c_189; unfold gNe; omega
              have i_189 : k20_2.toInt ≤ 2 := by have z := g5_ne (a := k20_2.toInt) (b := 3) (by rfl) (by decide) c_189; omega
              have w2 : twt k20_2.toInt = 1 := twt_2 (by omega)
              have hE_190 : TJ k20_op k20_ar k20_pi k20_pa u_co.toInt k20_co.toInt k20_pd.toInt 2 := by have q9 := i_158 (by omega); rw [show k20_2.toInt = 2 by omega] at q9; exact q9
              refine lv_aload_n hx hb dX12_readExpression_68 rfl (lv_at hl 1 rfl) ?_
              obtain ⟨hPc, hDc, hFc⟩ := g5_sub3 (wc := [(b_o, (oc12 u_th u_sa b_rf b_ro b_im b_ke u_fd b_tp u_td k20_fr k20_to k20_so k20_wo k20_fa k20_bd u_nc b_nl k20_co b_op b_ar k20_le b_pi b_pa k20_pd k20_od b_ws b_hw u_la b_se b_re u_bk u_va u_su u_ce u_ho u_wy u_bt u_ps b_pt u_tg u_sn b_ip u_ic b_ah b_be b_me u_wd b_tr b_ld u_st b_wn u_id)), (b_tp, (arI G 400 v_tp)), (b_op, (arI G 400 k20_op)), (b_ar, (arI G 400 k20_ar)), (b_pi, (arI G 400 k20_pi)), (b_pa, (arI G 400 k20_pa))]) hP hD hS hA [0, 1, 2, 3, 4, 5] (by decide) rfl
              refine va_calli (va_runV (As := []) (rest := []) ⟨hx, hb, hml, hown, hts⟩ (n_behindTest l G b_o b_tp b_op b_ar b_pi b_pa b_rf b_ro b_im b_ke b_nl b_ws b_hw b_se b_re b_pt b_ip b_ah b_be b_me b_tr b_ld b_wn H.size u_th u_sa u_fd u_td k20_fr k20_to k20_so k20_fa k20_bd u_nc k20_co k20_le k20_pd k20_od u_la u_bk u_ce u_ho u_wy u_bt u_ps u_tg u_sn u_ic u_wd u_id u_co k20_wo u_va u_su u_st v_tp k20_op k20_ar k20_pi k20_pa v_op v_ar h_u_td i_152 i_153 ⟨by omega, by omega⟩ h_u_nc i_155 i_156 h_u_la h_u_bk h_u_ce h_u_ho h_u_wy h_u_bt h_u_ps h_u_ic h_u_id (i_159) (i_160) (i_157) (hE_190)) (cwV 0 hts gV_X12_309 rfl rfl rfl hv_X12_behindTest ⟨Nat.le_of_ble_eq_true rfl, Nat.le_of_ble_eq_true rfl⟩) (g5_preV hPc hK hDc hN hT hS hFc (ci := 12) (q0 := 0) rfl rfl) rfl rfl hl.1 rfl (lv_room (Nat.le_of_ble_eq_true rfl)) dX12_readExpression_69 ⟨Nat.le_of_ble_eq_true rfl, Nat.le_of_ble_eq_true rfl⟩) hS (fun q _ h => hFc q h) hFc (fun r u t H1 locs ht hvm hw hB hz1 hk1 hS => ?_)
              obtain ⟨hP1, hD1⟩ := hB
              rw [ht] at hP1
              rcases hw with ⟨z192, i_191, y193, rfl⟩ | ⟨z204, z205, z206, z207, z208, z209, z210, z211, z212, z213, z214, z215, i_194, i_195, i_196, i_197, i_198, i_199, i_200, i_201, i_202, i_203, y216, rfl⟩
              ·
                have i_191 : 0 ≤ z192.toInt ∧ z192.toInt ≤ 4 := i_191
                obtain ⟨hP, hD⟩ := va_join (wr := [(b_ws, (arJ G 8 v_ws))]) hP hD [0, 1, 2, 3, 4, 5] [6] rfl rfl (by decide) (by decide) hk1 hFc hP1 hD1
                generalize H1 = H at hP hS ⊢
                refine g5_rs [(b_ws, (arJ G 8 v_ws)), (b_o, (oc12 u_th u_sa b_rf b_ro b_im b_ke u_fd b_tp u_td k20_fr k20_to k20_so k20_wo k20_fr 1 u_nc b_nl k20_co b_op b_ar k20_le b_pi b_pa k20_pd k20_od b_ws b_hw u_la b_se b_re u_bk u_va u_su u_ce u_ho u_wy u_bt u_ps b_pt u_tg u_sn b_ip u_ic b_ah b_be b_me u_wd b_tr b_ld u_st b_wn u_id)), (b_tp, (arI G 400 v_tp)), (b_op, (arI G 400 k20_op)), (b_ar, (arI G 400 k20_ar)), (b_pi, (arI G 400 k20_pi)), (b_pa, (arI G 400 k20_pa))] hP hD (fun hP hD => ?_)
                refine g5_ti (v := z192) y193 ?_
                have w1 := twt_rg z192.toInt
                refine lv_istore_n (lv' := [(2, .int z192), (0, .ref b_o), (1, .int p_1)]) hx hb dX12_readExpression_72 rfl hl (by decide) rfl (fun ls hl => ?_)
                refine lv_goto (tgt := 20) hx hb dX12_readExpression_73 (by decide) ?_
                exact ih_20_162 (z192, k20_fr, k20_to, k20_so, k20_wo, k20_fr, 1, k20_co, k20_le, k20_pd, k20_od, k20_op, k20_ar, k20_pi, k20_pa) ls H locs (show Int.toNat (3 * (400 - k20_fr.toInt) + 3 * (1 - (1 : Int32).toInt) + twt z192.toInt) < Int.toNat (3 * (400 - k20_fr.toInt) + 3 * (1 - k20_bd.toInt) + twt k20_2.toInt) by have zc_k20_bd : (1 : Int32).toInt = 1 := (by decide); omega) ⟨lv_sub hl [0, 1, 2] rfl, hP.sub [1, 2, 3, 4, 5, 6, 0] rfl, hD.sub [1, 2, 3, 4, 5, 6, 0] (by decide) rfl, hS, i_191, i_152, i_153, ⟨by decide, by decide⟩, i_155, i_156, i_157, fun q9 => absurd q9 (by decide), by omega, i_160, by omega⟩
              ·
                have i_194 : 0 ≤ z205.toInt ∧ z205.toInt ≤ 400 := i_194
                have i_195 : 0 ≤ z206.toInt ∧ z206.toInt ≤ 400 := i_195
                have i_196 : 0 ≤ z209.toInt ∧ z209.toInt ≤ 400 := i_196
                have i_197 : 0 ≤ z210.toInt ∧ z210.toInt ≤ 400 := i_197
                have i_198 : 0 ≤ z204.toInt ∧ z204.toInt ≤ 4 := i_198
                have i_199 : k20_fr.toInt ≤ z205.toInt ∧ z205.toInt ≤ z206.toInt ∧ z206.toInt ≤ u_td.toInt := i_199
                have i_200 : TKs z207.toInt z205.toInt z206.toInt := i_200
                have i_201 : XJ v_op v_ar z212 z213 z214 z215 u_co.toInt z209.toInt z210.toInt z205.toInt := i_201
                have i_202 : TJ z212 z213 z214 z215 u_co.toInt z209.toInt z210.toInt z204.toInt := i_202
                have i_203 : twt z204.toInt + 1 ≤ 1 + 3 * (z205.toInt - k20_fr.toInt) := i_203
                obtain ⟨hP, hD⟩ := va_join (wr := [(b_ws, (arJ G 8 v_ws))]) hP hD [0, 1, 2, 3, 4, 5] [6] rfl rfl (by decide) (by decide) hk1 hFc hP1 hD1
                generalize H1 = H at hP hS ⊢
                refine g5_rs [(b_ws, (arJ G 8 v_ws)), (b_o, (oc12 u_th u_sa b_rf b_ro b_im b_ke u_fd b_tp u_td z205 z206 z207 z208 k20_fa k20_bd u_nc b_nl z209 b_op b_ar k20_le b_pi b_pa z210 z211 b_ws b_hw u_la b_se b_re u_bk u_va u_su u_ce u_ho u_wy u_bt u_ps b_pt u_tg u_sn b_ip u_ic b_ah b_be b_me u_wd b_tr b_ld u_st b_wn u_id)), (b_tp, (arI G 400 v_tp)), (b_op, (arI G 400 z212)), (b_ar, (arI G 400 z213)), (b_pi, (arI G 400 z214)), (b_pa, (arI G 400 z215))] hP hD (fun hP hD => ?_)
                refine g5_ti (v := z204) y216 ?_
                have w1 := twt_rg z204.toInt
                refine lv_istore_n (lv' := [(2, .int z204), (0, .ref b_o), (1, .int p_1)]) hx hb dX12_readExpression_72 rfl hl (by decide) rfl (fun ls hl => ?_)
                refine lv_goto (tgt := 20) hx hb dX12_readExpression_73 (by decide) ?_
                exact ih_20_162 (z204, z205, z206, z207, z208, k20_fa, k20_bd, z209, k20_le, z210, z211, z212, z213, z214, z215) ls H locs (show Int.toNat (3 * (400 - z205.toInt) + 3 * (1 - k20_bd.toInt) + twt z204.toInt) < Int.toNat (3 * (400 - k20_fr.toInt) + 3 * (1 - k20_bd.toInt) + twt k20_2.toInt) by omega) ⟨lv_sub hl [0, 1, 2] rfl, hP.sub [1, 2, 3, 4, 5, 6, 0] rfl, hD.sub [1, 2, 3, 4, 5, 6, 0] (by decide) rfl, hS, i_198, i_194, i_195, i_154, i_196, i_197, i_201, fun _ => i_202, by omega, i_200, by omega⟩
            ·
              have i_189 : k20_2.toInt = 3 := by have z := g5_neN (a := k20_2.toInt) (b := 3) (by rfl) (by decide) c_189; omega
              have w2 : twt k20_2.toInt = 2 := twt_3 (by omega)
              have hE_217 : TJ k20_op k20_ar k20_pi k20_pa u_co.toInt k20_co.toInt k20_pd.toInt 3 := by have q9 := i_158 (by omega); rw [show k20_2.toInt = 3 by omega] at q9; exact q9
              refine lv_aload_n hx hb dX12_readExpression_60 rfl (lv_at hl 1 rfl) ?_
              refine lv_iload_n hx hb dX12_readExpression_61 rfl (lv_at hl 2 rfl) ?_
              obtain ⟨hPc, hDc, hFc⟩ := g5_sub3 (wc := [(b_o, (oc12 u_th u_sa b_rf b_ro b_im b_ke u_fd b_tp u_td k20_fr k20_to k20_so k20_wo k20_fa k20_bd u_nc b_nl k20_co b_op b_ar k20_le b_pi b_pa k20_pd k20_od b_ws b_hw u_la b_se b_re u_bk u_va u_su u_ce u_ho u_wy u_bt u_ps b_pt u_tg u_sn b_ip u_ic b_ah b_be b_me u_wd b_tr b_ld u_st b_wn u_id)), (b_tp, (arI G 400 v_tp)), (b_op, (arI G 400 k20_op)), (b_ar, (arI G 400 k20_ar)), (b_pi, (arI G 400 k20_pi)), (b_pa, (arI G 400 k20_pa))]) hP hD hS hA [0, 1, 2, 3, 4, 5] (by decide) rfl
              refine va_calli (va_runV (As := [.int p_1]) (rest := []) ⟨hx, hb, hml, hown, hts⟩ (n_behindSum l G b_o b_tp b_op b_ar b_pi b_pa b_rf b_ro b_im b_ke b_nl b_ws b_hw b_se b_re b_pt b_ip b_ah b_be b_me b_tr b_ld b_wn H.size u_th u_sa u_fd u_td k20_fr k20_to k20_so k20_fa k20_bd u_nc k20_co k20_le k20_pd k20_od u_la u_bk u_ce u_ho u_wy u_bt u_ps u_tg u_sn u_ic u_wd u_id p_1 u_co k20_wo u_va u_su u_st v_tp k20_op k20_ar k20_pi k20_pa v_op v_ar h_u_td i_152 i_153 ⟨by omega, by omega⟩ h_u_nc i_155 i_156 h_u_la h_u_bk h_u_ce h_u_ho h_u_wy h_u_bt h_u_ps h_u_ic h_u_id h_p_1 (i_159) (i_160) (i_157) (hE_217)) (cwV 1 hts gV_X12_305 rfl rfl rfl hv_X12_behindSum ⟨Nat.le_of_ble_eq_true rfl, Nat.le_of_ble_eq_true rfl⟩) (g5_preV hPc hK hDc hN hT hS hFc (ci := 12) (q0 := 0) rfl rfl) rfl rfl hl.1 rfl (lv_room (Nat.le_of_ble_eq_true rfl)) dX12_readExpression_62 ⟨Nat.le_of_ble_eq_true rfl, Nat.le_of_ble_eq_true rfl⟩) hS (fun q _ h => hFc q h) hFc (fun r u t H1 locs ht hvm hw hB hz1 hk1 hS => ?_)
              obtain ⟨hP1, hD1⟩ := hB
              rw [ht] at hP1
              rcases hw with ⟨z219, i_218, y220, rfl⟩ | ⟨z231, z232, z233, z234, z235, z236, z237, z238, z239, z240, z241, z242, i_221, i_222, i_223, i_224, i_225, i_226, i_227, i_228, i_229, i_230, y243, rfl⟩
              ·
                have i_218 : 0 ≤ z219.toInt ∧ z219.toInt ≤ 4 := i_218
                obtain ⟨hP, hD⟩ := va_join (wr := [(b_ws, (arJ G 8 v_ws))]) hP hD [0, 1, 2, 3, 4, 5] [6] rfl rfl (by decide) (by decide) hk1 hFc hP1 hD1
                generalize H1 = H at hP hS ⊢
                refine g5_rs [(b_ws, (arJ G 8 v_ws)), (b_o, (oc12 u_th u_sa b_rf b_ro b_im b_ke u_fd b_tp u_td k20_fr k20_to k20_so k20_wo k20_fr 1 u_nc b_nl k20_co b_op b_ar k20_le b_pi b_pa k20_pd k20_od b_ws b_hw u_la b_se b_re u_bk u_va u_su u_ce u_ho u_wy u_bt u_ps b_pt u_tg u_sn b_ip u_ic b_ah b_be b_me u_wd b_tr b_ld u_st b_wn u_id)), (b_tp, (arI G 400 v_tp)), (b_op, (arI G 400 k20_op)), (b_ar, (arI G 400 k20_ar)), (b_pi, (arI G 400 k20_pi)), (b_pa, (arI G 400 k20_pa))] hP hD (fun hP hD => ?_)
                refine g5_ti (v := z219) y220 ?_
                refine lv_goto (tgt := 72) hx hb dX12_readExpression_65 (by decide) ?_
                have w1 := twt_rg z219.toInt
                refine lv_istore_n (lv' := [(2, .int z219), (0, .ref b_o), (1, .int p_1)]) hx hb dX12_readExpression_72 rfl hl (by decide) rfl (fun ls hl => ?_)
                refine lv_goto (tgt := 20) hx hb dX12_readExpression_73 (by decide) ?_
                exact ih_20_162 (z219, k20_fr, k20_to, k20_so, k20_wo, k20_fr, 1, k20_co, k20_le, k20_pd, k20_od, k20_op, k20_ar, k20_pi, k20_pa) ls H locs (show Int.toNat (3 * (400 - k20_fr.toInt) + 3 * (1 - (1 : Int32).toInt) + twt z219.toInt) < Int.toNat (3 * (400 - k20_fr.toInt) + 3 * (1 - k20_bd.toInt) + twt k20_2.toInt) by have zc_k20_bd : (1 : Int32).toInt = 1 := (by decide); omega) ⟨lv_sub hl [0, 1, 2] rfl, hP.sub [1, 2, 3, 4, 5, 6, 0] rfl, hD.sub [1, 2, 3, 4, 5, 6, 0] (by decide) rfl, hS, i_218, i_152, i_153, ⟨by decide, by decide⟩, i_155, i_156, i_157, fun q9 => absurd q9 (by decide), by omega, i_160, by omega⟩
              ·
                have i_221 : 0 ≤ z232.toInt ∧ z232.toInt ≤ 400 := i_221
                have i_222 : 0 ≤ z233.toInt ∧ z233.toInt ≤ 400 := i_222
                have i_223 : 0 ≤ z236.toInt ∧ z236.toInt ≤ 400 := i_223
                have i_224 : 0 ≤ z237.toInt ∧ z237.toInt ≤ 400 := i_224
                have i_225 : 0 ≤ z231.toInt ∧ z231.toInt ≤ 4 := i_225
                have i_226 : k20_fr.toInt ≤ z232.toInt ∧ z232.toInt ≤ z233.toInt ∧ z233.toInt ≤ u_td.toInt := i_226
                have i_227 : TKs z234.toInt z232.toInt z233.toInt := i_227
                have i_228 : XJ v_op v_ar z239 z240 z241 z242 u_co.toInt z236.toInt z237.toInt z232.toInt := i_228
                have i_229 : TJ z239 z240 z241 z242 u_co.toInt z236.toInt z237.toInt z231.toInt := i_229
                have i_230 : twt z231.toInt + 1 ≤ 2 + 3 * (z232.toInt - k20_fr.toInt) := i_230
                obtain ⟨hP, hD⟩ := va_join (wr := [(b_ws, (arJ G 8 v_ws))]) hP hD [0, 1, 2, 3, 4, 5] [6] rfl rfl (by decide) (by decide) hk1 hFc hP1 hD1
                generalize H1 = H at hP hS ⊢
                refine g5_rs [(b_ws, (arJ G 8 v_ws)), (b_o, (oc12 u_th u_sa b_rf b_ro b_im b_ke u_fd b_tp u_td z232 z233 z234 z235 k20_fa k20_bd u_nc b_nl z236 b_op b_ar k20_le b_pi b_pa z237 z238 b_ws b_hw u_la b_se b_re u_bk u_va u_su u_ce u_ho u_wy u_bt u_ps b_pt u_tg u_sn b_ip u_ic b_ah b_be b_me u_wd b_tr b_ld u_st b_wn u_id)), (b_tp, (arI G 400 v_tp)), (b_op, (arI G 400 z239)), (b_ar, (arI G 400 z240)), (b_pi, (arI G 400 z241)), (b_pa, (arI G 400 z242))] hP hD (fun hP hD => ?_)
                refine g5_ti (v := z231) y243 ?_
                refine lv_goto (tgt := 72) hx hb dX12_readExpression_65 (by decide) ?_
                have w1 := twt_rg z231.toInt
                refine lv_istore_n (lv' := [(2, .int z231), (0, .ref b_o), (1, .int p_1)]) hx hb dX12_readExpression_72 rfl hl (by decide) rfl (fun ls hl => ?_)
                refine lv_goto (tgt := 20) hx hb dX12_readExpression_73 (by decide) ?_
                exact ih_20_162 (z231, z232, z233, z234, z235, k20_fa, k20_bd, z236, k20_le, z237, z238, z239, z240, z241, z242) ls H locs (show Int.toNat (3 * (400 - z232.toInt) + 3 * (1 - k20_bd.toInt) + twt z231.toInt) < Int.toNat (3 * (400 - k20_fr.toInt) + 3 * (1 - k20_bd.toInt) + twt k20_2.toInt) by omega) ⟨lv_sub hl [0, 1, 2] rfl, hP.sub [1, 2, 3, 4, 5, 6, 0] rfl, hD.sub [1, 2, 3, 4, 5, 6, 0] (by decide) rfl, hS, i_225, i_221, i_222, i_154, i_223, i_224, i_228, fun _ => i_229, by omega, i_227, by omega⟩
          ·
            have i_188 : k20_2.toInt = 1 := by have z := g5_neN (a := k20_2.toInt) (b := 1) (by rfl) (by decide) c_188; omega
            have w2 : twt k20_2.toInt = 0 := twt_0 (Or.inr (Or.inl (by omega)))
            have hE_244 : TJ k20_op k20_ar k20_pi k20_pa u_co.toInt k20_co.toInt k20_pd.toInt 1 := by have q9 := i_158 (by omega); rw [show k20_2.toInt = 1 by omega] at q9; exact q9
            refine lv_aload_n hx hb dX12_readExpression_48 rfl (lv_at hl 1 rfl) ?_
            obtain ⟨hPc, hDc, hFc⟩ := g5_sub3 (wc := [(b_o, (oc12 u_th u_sa b_rf b_ro b_im b_ke u_fd b_tp u_td k20_fr k20_to k20_so k20_wo k20_fa k20_bd u_nc b_nl k20_co b_op b_ar k20_le b_pi b_pa k20_pd k20_od b_ws b_hw u_la b_se b_re u_bk u_va u_su u_ce u_ho u_wy u_bt u_ps b_pt u_tg u_sn b_ip u_ic b_ah b_be b_me u_wd b_tr b_ld u_st b_wn u_id)), (b_tp, (arI G 400 v_tp)), (b_op, (arI G 400 k20_op)), (b_ar, (arI G 400 k20_ar)), (b_pi, (arI G 400 k20_pi)), (b_pa, (arI G 400 k20_pa)), (b_ws, (arJ G 8 v_ws))]) hP hD hS hA [0, 1, 2, 3, 4, 5, 6] (by decide) rfl
            refine va_calli (va_runV (As := []) (rest := []) ⟨hx, hb, hml, hown, hts⟩ (n_readPart l G b_o b_tp b_op b_ar b_pi b_pa b_ws b_rf b_ro b_im b_ke b_nl b_hw b_se b_re b_pt b_ip b_ah b_be b_me b_tr b_ld b_wn H.size u_th u_sa u_fd u_td k20_fr k20_to k20_so k20_fa k20_bd u_nc k20_co k20_le k20_pd k20_od u_la u_bk u_ce u_ho u_wy u_bt u_ps u_tg u_sn u_ic u_wd u_id u_co k20_wo u_va u_su u_st v_tp k20_op k20_ar k20_pi k20_pa v_ws v_op v_ar h_u_td i_152 i_153 ⟨by omega, by omega⟩ h_u_nc i_155 i_156 h_u_la h_u_bk h_u_ce h_u_ho h_u_wy h_u_bt h_u_ps h_u_ic h_u_id (i_159) (i_160) (i_157) (hE_244)) (cwV 0 hts gV_X12_285 rfl rfl rfl hv_X12_readPart ⟨Nat.le_of_ble_eq_true rfl, Nat.le_of_ble_eq_true rfl⟩) (g5_preV hPc hK hDc hN hT hS hFc (ci := 12) (q0 := 0) rfl rfl) rfl rfl hl.1 rfl (lv_room (Nat.le_of_ble_eq_true rfl)) dX12_readExpression_49 ⟨Nat.le_of_ble_eq_true rfl, Nat.le_of_ble_eq_true rfl⟩) hS (fun q _ h => hFc q h) hFc (fun r u t H1 locs ht hvm hw hB hz1 hk1 hS => ?_)
            obtain ⟨hP1, hD1⟩ := hB
            rw [ht] at hP1
            rcases hw with ⟨z246, i_245, y247, rfl⟩ | ⟨z258, z259, z260, z261, z262, z263, z264, z265, z266, z267, z268, z269, z270, i_248, i_249, i_250, i_251, i_252, i_253, i_254, i_255, i_256, i_257, y271, rfl⟩
            ·
              have i_245 : 0 ≤ z246.toInt ∧ z246.toInt ≤ 4 := i_245
              obtain ⟨hP, hD⟩ := va_join (wr := []) hP hD [0, 1, 2, 3, 4, 5, 6] [] rfl rfl (by decide) (by decide) hk1 hFc hP1 hD1
              generalize H1 = H at hP hS ⊢
              refine g5_rs [(b_o, (oc12 u_th u_sa b_rf b_ro b_im b_ke u_fd b_tp u_td k20_fr k20_to k20_so k20_wo k20_fr 1 u_nc b_nl k20_co b_op b_ar k20_le b_pi b_pa k20_pd k20_od b_ws b_hw u_la b_se b_re u_bk u_va u_su u_ce u_ho u_wy u_bt u_ps b_pt u_tg u_sn b_ip u_ic b_ah b_be b_me u_wd b_tr b_ld u_st b_wn u_id)), (b_tp, (arI G 400 v_tp)), (b_op, (arI G 400 k20_op)), (b_ar, (arI G 400 k20_ar)), (b_pi, (arI G 400 k20_pi)), (b_pa, (arI G 400 k20_pa)), (b_ws, (arJ G 8 v_ws))] hP hD (fun hP hD => ?_)
              refine g5_ti (v := z246) y247 ?_
              refine lv_goto (tgt := 72) hx hb dX12_readExpression_52 (by decide) ?_
              have w1 := twt_rg z246.toInt
              refine lv_istore_n (lv' := [(2, .int z246), (0, .ref b_o), (1, .int p_1)]) hx hb dX12_readExpression_72 rfl hl (by decide) rfl (fun ls hl => ?_)
              refine lv_goto (tgt := 20) hx hb dX12_readExpression_73 (by decide) ?_
              exact ih_20_162 (z246, k20_fr, k20_to, k20_so, k20_wo, k20_fr, 1, k20_co, k20_le, k20_pd, k20_od, k20_op, k20_ar, k20_pi, k20_pa) ls H locs (show Int.toNat (3 * (400 - k20_fr.toInt) + 3 * (1 - (1 : Int32).toInt) + twt z246.toInt) < Int.toNat (3 * (400 - k20_fr.toInt) + 3 * (1 - k20_bd.toInt) + twt k20_2.toInt) by have zc_k20_bd : (1 : Int32).toInt = 1 := (by decide); omega) ⟨lv_sub hl [0, 1, 2] rfl, hP, hD, hS, i_245, i_152, i_153, ⟨by decide, by decide⟩, i_155, i_156, i_157, fun q9 => absurd q9 (by decide), by omega, i_160, by omega⟩
            ·
              have i_248 : 0 ≤ z259.toInt ∧ z259.toInt ≤ 400 := i_248
              have i_249 : 0 ≤ z260.toInt ∧ z260.toInt ≤ 400 := i_249
              have i_250 : 0 ≤ z263.toInt ∧ z263.toInt ≤ 400 := i_250
              have i_251 : 0 ≤ z265.toInt ∧ z265.toInt ≤ 400 := i_251
              have i_252 : 0 ≤ z258.toInt ∧ z258.toInt ≤ 4 := i_252
              have i_253 : k20_fr.toInt ≤ z259.toInt ∧ z259.toInt ≤ z260.toInt ∧ z260.toInt ≤ u_td.toInt := i_253
              have i_254 : TKs z261.toInt z259.toInt z260.toInt := i_254
              have i_255 : XJ v_op v_ar z267 z268 z269 z270 u_co.toInt z263.toInt z265.toInt z259.toInt := i_255
              have i_256 : TJ z267 z268 z269 z270 u_co.toInt z263.toInt z265.toInt z258.toInt := i_256
              have i_257 : twt z258.toInt + 1 ≤ 0 + 3 * (z259.toInt - k20_fr.toInt) := i_257
              obtain ⟨hP, hD⟩ := va_join (wr := []) hP hD [0, 1, 2, 3, 4, 5, 6] [] rfl rfl (by decide) (by decide) hk1 hFc hP1 hD1
              generalize H1 = H at hP hS ⊢
              refine g5_rs [(b_o, (oc12 u_th u_sa b_rf b_ro b_im b_ke u_fd b_tp u_td z259 z260 z261 z262 k20_fa k20_bd u_nc b_nl z263 b_op b_ar z264 b_pi b_pa z265 z266 b_ws b_hw u_la b_se b_re u_bk u_va u_su u_ce u_ho u_wy u_bt u_ps b_pt u_tg u_sn b_ip u_ic b_ah b_be b_me u_wd b_tr b_ld u_st b_wn u_id)), (b_tp, (arI G 400 v_tp)), (b_op, (arI G 400 z267)), (b_ar, (arI G 400 z268)), (b_pi, (arI G 400 z269)), (b_pa, (arI G 400 z270)), (b_ws, (arJ G 8 v_ws))] hP hD (fun hP hD => ?_)
              refine g5_ti (v := z258) y271 ?_
              refine lv_goto (tgt := 72) hx hb dX12_readExpression_52 (by decide) ?_
              have w1 := twt_rg z258.toInt
              refine lv_istore_n (lv' := [(2, .int z258), (0, .ref b_o), (1, .int p_1)]) hx hb dX12_readExpression_72 rfl hl (by decide) rfl (fun ls hl => ?_)
              refine lv_goto (tgt := 20) hx hb dX12_readExpression_73 (by decide) ?_
              exact ih_20_162 (z258, z259, z260, z261, z262, k20_fa, k20_bd, z263, z264, z265, z266, z267, z268, z269, z270) ls H locs (show Int.toNat (3 * (400 - z259.toInt) + 3 * (1 - k20_bd.toInt) + twt z258.toInt) < Int.toNat (3 * (400 - k20_fr.toInt) + 3 * (1 - k20_bd.toInt) + twt k20_2.toInt) by omega) ⟨lv_sub hl [0, 1, 2] rfl, hP, hD, hS, i_252, i_248, i_249, i_154, i_250, i_251, i_255, fun _ => i_256, by omega, i_254, by omega⟩
        ·
          have i_187 : k20_2.toInt = 0 := by have z := g5_neN (a := k20_2.toInt) (b := 0) (by rfl) (by decide) c_187; omega
          have w2 : twt k20_2.toInt = 0 := twt_0 (Or.inl (by omega))
          have hE_272 : TJ k20_op k20_ar k20_pi k20_pa u_co.toInt k20_co.toInt k20_pd.toInt 0 := by have q9 := i_158 (by omega); rw [show k20_2.toInt = 0 by omega] at q9; exact q9
          refine lv_aload_n hx hb dX12_readExpression_36 rfl (lv_at hl 1 rfl) ?_
          obtain ⟨hPc, hDc, hFc⟩ := g5_sub3 (wc := [(b_o, (oc12 u_th u_sa b_rf b_ro b_im b_ke u_fd b_tp u_td k20_fr k20_to k20_so k20_wo k20_fa k20_bd u_nc b_nl k20_co b_op b_ar k20_le b_pi b_pa k20_pd k20_od b_ws b_hw u_la b_se b_re u_bk u_va u_su u_ce u_ho u_wy u_bt u_ps b_pt u_tg u_sn b_ip u_ic b_ah b_be b_me u_wd b_tr b_ld u_st b_wn u_id)), (b_tp, (arI G 400 v_tp)), (b_op, (arI G 400 k20_op)), (b_ar, (arI G 400 k20_ar)), (b_pi, (arI G 400 k20_pi)), (b_pa, (arI G 400 k20_pa)), (b_ws, (arJ G 8 v_ws))]) hP hD hS hA [0, 1, 2, 3, 4, 5, 6] (by decide) rfl
          refine va_calli (va_runV (As := []) (rest := []) ⟨hx, hb, hml, hown, hts⟩ (n_readPlain l G b_o b_tp b_op b_ar b_pi b_pa b_ws b_rf b_ro b_im b_ke b_nl b_hw b_se b_re b_pt b_ip b_ah b_be b_me b_tr b_ld b_wn H.size u_th u_sa u_fd u_td k20_fr k20_to k20_so k20_fa k20_bd u_nc k20_co k20_le k20_pd k20_od u_la u_bk u_ce u_ho u_wy u_bt u_ps u_tg u_sn u_ic u_wd u_id u_co k20_wo u_va u_su u_st v_tp k20_op k20_ar k20_pi k20_pa v_ws v_op v_ar h_u_td i_152 i_153 ⟨by omega, by omega⟩ h_u_nc i_155 i_156 h_u_la h_u_bk h_u_ce h_u_ho h_u_wy h_u_bt h_u_ps h_u_ic h_u_id (i_159) (i_160) (i_157) (hE_272)) (cwV 0 hts gV_X12_302 rfl rfl rfl hv_X12_readPlain ⟨Nat.le_of_ble_eq_true rfl, Nat.le_of_ble_eq_true rfl⟩) (g5_preV hPc hK hDc hN hT hS hFc (ci := 12) (q0 := 0) rfl rfl) rfl rfl hl.1 rfl (lv_room (Nat.le_of_ble_eq_true rfl)) dX12_readExpression_37 ⟨Nat.le_of_ble_eq_true rfl, Nat.le_of_ble_eq_true rfl⟩) hS (fun q _ h => hFc q h) hFc (fun r u t H1 locs ht hvm hw hB hz1 hk1 hS => ?_)
          obtain ⟨hP1, hD1⟩ := hB
          rw [ht] at hP1
          rcases hw with ⟨z274, i_273, y275, rfl⟩ | ⟨z286, z287, z288, z289, z290, z291, z292, z293, z294, z295, z296, z297, z298, i_276, i_277, i_278, i_279, i_280, i_281, i_282, i_283, i_284, i_285, y299, rfl⟩
          ·
            have i_273 : 0 ≤ z274.toInt ∧ z274.toInt ≤ 4 := i_273
            obtain ⟨hP, hD⟩ := va_join (wr := []) hP hD [0, 1, 2, 3, 4, 5, 6] [] rfl rfl (by decide) (by decide) hk1 hFc hP1 hD1
            generalize H1 = H at hP hS ⊢
            refine g5_rs [(b_o, (oc12 u_th u_sa b_rf b_ro b_im b_ke u_fd b_tp u_td k20_fr k20_to k20_so k20_wo k20_fr 1 u_nc b_nl k20_co b_op b_ar k20_le b_pi b_pa k20_pd k20_od b_ws b_hw u_la b_se b_re u_bk u_va u_su u_ce u_ho u_wy u_bt u_ps b_pt u_tg u_sn b_ip u_ic b_ah b_be b_me u_wd b_tr b_ld u_st b_wn u_id)), (b_tp, (arI G 400 v_tp)), (b_op, (arI G 400 k20_op)), (b_ar, (arI G 400 k20_ar)), (b_pi, (arI G 400 k20_pi)), (b_pa, (arI G 400 k20_pa)), (b_ws, (arJ G 8 v_ws))] hP hD (fun hP hD => ?_)
            refine g5_ti (v := z274) y275 ?_
            refine lv_goto (tgt := 72) hx hb dX12_readExpression_40 (by decide) ?_
            have w1 := twt_rg z274.toInt
            refine lv_istore_n (lv' := [(2, .int z274), (0, .ref b_o), (1, .int p_1)]) hx hb dX12_readExpression_72 rfl hl (by decide) rfl (fun ls hl => ?_)
            refine lv_goto (tgt := 20) hx hb dX12_readExpression_73 (by decide) ?_
            exact ih_20_162 (z274, k20_fr, k20_to, k20_so, k20_wo, k20_fr, 1, k20_co, k20_le, k20_pd, k20_od, k20_op, k20_ar, k20_pi, k20_pa) ls H locs (show Int.toNat (3 * (400 - k20_fr.toInt) + 3 * (1 - (1 : Int32).toInt) + twt z274.toInt) < Int.toNat (3 * (400 - k20_fr.toInt) + 3 * (1 - k20_bd.toInt) + twt k20_2.toInt) by have zc_k20_bd : (1 : Int32).toInt = 1 := (by decide); omega) ⟨lv_sub hl [0, 1, 2] rfl, hP, hD, hS, i_273, i_152, i_153, ⟨by decide, by decide⟩, i_155, i_156, i_157, fun q9 => absurd q9 (by decide), by omega, i_160, by omega⟩
          ·
            have i_276 : 0 ≤ z287.toInt ∧ z287.toInt ≤ 400 := i_276
            have i_277 : 0 ≤ z288.toInt ∧ z288.toInt ≤ 400 := i_277
            have i_278 : 0 ≤ z291.toInt ∧ z291.toInt ≤ 400 := i_278
            have i_279 : 0 ≤ z293.toInt ∧ z293.toInt ≤ 400 := i_279
            have i_280 : 0 ≤ z286.toInt ∧ z286.toInt ≤ 4 := i_280
            have i_281 : k20_fr.toInt ≤ z287.toInt ∧ z287.toInt ≤ z288.toInt ∧ z288.toInt ≤ u_td.toInt := i_281
            have i_282 : TKs z289.toInt z287.toInt z288.toInt := i_282
            have i_283 : XJ v_op v_ar z295 z296 z297 z298 u_co.toInt z291.toInt z293.toInt z287.toInt := i_283
            have i_284 : TJ z295 z296 z297 z298 u_co.toInt z291.toInt z293.toInt z286.toInt := i_284
            have i_285 : twt z286.toInt + 1 ≤ 0 + 3 * (z287.toInt - k20_fr.toInt) := i_285
            obtain ⟨hP, hD⟩ := va_join (wr := []) hP hD [0, 1, 2, 3, 4, 5, 6] [] rfl rfl (by decide) (by decide) hk1 hFc hP1 hD1
            generalize H1 = H at hP hS ⊢
            refine g5_rs [(b_o, (oc12 u_th u_sa b_rf b_ro b_im b_ke u_fd b_tp u_td z287 z288 z289 z290 k20_fa k20_bd u_nc b_nl z291 b_op b_ar z292 b_pi b_pa z293 z294 b_ws b_hw u_la b_se b_re u_bk u_va u_su u_ce u_ho u_wy u_bt u_ps b_pt u_tg u_sn b_ip u_ic b_ah b_be b_me u_wd b_tr b_ld u_st b_wn u_id)), (b_tp, (arI G 400 v_tp)), (b_op, (arI G 400 z295)), (b_ar, (arI G 400 z296)), (b_pi, (arI G 400 z297)), (b_pa, (arI G 400 z298)), (b_ws, (arJ G 8 v_ws))] hP hD (fun hP hD => ?_)
            refine g5_ti (v := z286) y299 ?_
            refine lv_goto (tgt := 72) hx hb dX12_readExpression_40 (by decide) ?_
            have w1 := twt_rg z286.toInt
            refine lv_istore_n (lv' := [(2, .int z286), (0, .ref b_o), (1, .int p_1)]) hx hb dX12_readExpression_72 rfl hl (by decide) rfl (fun ls hl => ?_)
            refine lv_goto (tgt := 20) hx hb dX12_readExpression_73 (by decide) ?_
            exact ih_20_162 (z286, z287, z288, z289, z290, k20_fa, k20_bd, z291, z292, z293, z294, z295, z296, z297, z298) ls H locs (show Int.toNat (3 * (400 - z287.toInt) + 3 * (1 - k20_bd.toInt) + twt z286.toInt) < Int.toNat (3 * (400 - k20_fr.toInt) + 3 * (1 - k20_bd.toInt) + twt k20_2.toInt) by omega) ⟨lv_sub hl [0, 1, 2] rfl, hP, hD, hS, i_280, i_276, i_277, i_154, i_278, i_279, i_283, fun _ => i_284, by omega, i_282, by omega⟩
