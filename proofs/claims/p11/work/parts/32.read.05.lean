theorem dX4_readTest_0 : decode cX4_readTest 0 = .ok (.aload_n 0, 1) := by decide +kernel
theorem dX4_readTest_1 : decode cX4_readTest 1 = .ok (.iload_n 1, 1) := by decide +kernel
theorem dX4_readTest_2 : decode cX4_readTest 2 = .ok (.invokevirtual 83, 3) := by decide +kernel
theorem dX4_readTest_5 : decode cX4_readTest 5 = .ok (.ifCond .ne 5, 3) := by decide +kernel
theorem dX4_readTest_8 : decode cX4_readTest 8 = .ok (.iconst 0, 1) := by decide +kernel
theorem dX4_readTest_9 : decode cX4_readTest 9 = .ok (.ireturn, 1) := by decide +kernel
theorem dX4_readTest_10 : decode cX4_readTest 10 = .ok (.iconst (-1), 1) := by decide +kernel
theorem dX4_readTest_11 : decode cX4_readTest 11 = .ok (.istore_n 2, 1) := by decide +kernel
theorem dX4_readTest_12 : decode cX4_readTest 12 = .ok (.iconst 0, 1) := by decide +kernel
theorem dX4_readTest_13 : decode cX4_readTest 13 = .ok (.istore_n 3, 1) := by decide +kernel
theorem dX4_readTest_14 : decode cX4_readTest 14 = .ok (.iload_n 3, 1) := by decide +kernel
theorem dX4_readTest_15 : decode cX4_readTest 15 = .ok (.sipush 400, 3) := by decide +kernel
theorem dX4_readTest_18 : decode cX4_readTest 18 = .ok (.if_icmp .ge 104, 3) := by decide +kernel
theorem dX4_readTest_21 : decode cX4_readTest 21 = .ok (.aload_n 0, 1) := by decide +kernel
theorem dX4_readTest_22 : decode cX4_readTest 22 = .ok (.sipush 261, 3) := by decide +kernel
theorem dX4_readTest_25 : decode cX4_readTest 25 = .ok (.invokevirtual 49, 3) := by decide +kernel
theorem dX4_readTest_28 : decode cX4_readTest 28 = .ok (.ifCond .ne 13, 3) := by decide +kernel
theorem dX4_readTest_31 : decode cX4_readTest 31 = .ok (.aload_n 0, 1) := by decide +kernel
theorem dX4_readTest_32 : decode cX4_readTest 32 = .ok (.sipush 262, 3) := by decide +kernel
theorem dX4_readTest_35 : decode cX4_readTest 35 = .ok (.invokevirtual 49, 3) := by decide +kernel
theorem dX4_readTest_38 : decode cX4_readTest 38 = .ok (.ifCond .eq 84, 3) := by decide +kernel
theorem dX4_readTest_41 : decode cX4_readTest 41 = .ok (.aload_n 0, 1) := by decide +kernel
theorem dX4_readTest_42 : decode cX4_readTest 42 = .ok (.sipush 261, 3) := by decide +kernel
theorem dX4_readTest_45 : decode cX4_readTest 45 = .ok (.invokevirtual 49, 3) := by decide +kernel
theorem dX4_readTest_48 : decode cX4_readTest 48 = .ok (.istore 4, 2) := by decide +kernel
theorem dX4_readTest_50 : decode cX4_readTest 50 = .ok (.aload_n 0, 1) := by decide +kernel
theorem dX4_readTest_51 : decode cX4_readTest 51 = .ok (.dup, 1) := by decide +kernel
theorem dX4_readTest_52 : decode cX4_readTest 52 = .ok (.getfield 42, 3) := by decide +kernel
theorem dX4_readTest_55 : decode cX4_readTest 55 = .ok (.iconst 1, 1) := by decide +kernel
theorem dX4_readTest_56 : decode cX4_readTest 56 = .ok (.iadd, 1) := by decide +kernel
theorem dX4_readTest_57 : decode cX4_readTest 57 = .ok (.putfield 42, 3) := by decide +kernel
theorem dX4_readTest_60 : decode cX4_readTest 60 = .ok (.iload 4, 2) := by decide +kernel
theorem dX4_readTest_62 : decode cX4_readTest 62 = .ok (.ifCond .eq 8, 3) := by decide +kernel
theorem dX4_readTest_65 : decode cX4_readTest 65 = .ok (.aload_n 0, 1) := by decide +kernel
theorem dX4_readTest_66 : decode cX4_readTest 66 = .ok (.iload_n 2, 1) := by decide +kernel
theorem dX4_readTest_67 : decode cX4_readTest 67 = .ok (.invokevirtual 86, 3) := by decide +kernel
theorem dX4_readTest_70 : decode cX4_readTest 70 = .ok (.aload_n 0, 1) := by decide +kernel
theorem dX4_readTest_71 : decode cX4_readTest 71 = .ok (.iload 4, 2) := by decide +kernel
theorem dX4_readTest_73 : decode cX4_readTest 73 = .ok (.ifCond .eq 8, 3) := by decide +kernel
theorem dX4_readTest_76 : decode cX4_readTest 76 = .ok (.bipush 11, 2) := by decide +kernel
theorem dX4_readTest_78 : decode cX4_readTest 78 = .ok (.goto 5, 3) := by decide +kernel
theorem dX4_readTest_81 : decode cX4_readTest 81 = .ok (.bipush 12, 2) := by decide +kernel
theorem dX4_readTest_83 : decode cX4_readTest 83 = .ok (.iconst 0, 1) := by decide +kernel
theorem dX4_readTest_84 : decode cX4_readTest 84 = .ok (.invokevirtual 79, 3) := by decide +kernel
theorem dX4_readTest_87 : decode cX4_readTest 87 = .ok (.istore 5, 2) := by decide +kernel
theorem dX4_readTest_89 : decode cX4_readTest 89 = .ok (.aload_n 0, 1) := by decide +kernel
theorem dX4_readTest_90 : decode cX4_readTest 90 = .ok (.iload_n 1, 1) := by decide +kernel
theorem dX4_readTest_91 : decode cX4_readTest 91 = .ok (.invokevirtual 83, 3) := by decide +kernel
theorem dX4_readTest_94 : decode cX4_readTest 94 = .ok (.ifCond .ne 5, 3) := by decide +kernel
theorem dX4_readTest_97 : decode cX4_readTest 97 = .ok (.iconst 0, 1) := by decide +kernel
theorem dX4_readTest_98 : decode cX4_readTest 98 = .ok (.ireturn, 1) := by decide +kernel
theorem dX4_readTest_99 : decode cX4_readTest 99 = .ok (.iload 4, 2) := by decide +kernel
theorem dX4_readTest_101 : decode cX4_readTest 101 = .ok (.ifCond .eq 9, 3) := by decide +kernel
theorem dX4_readTest_104 : decode cX4_readTest 104 = .ok (.iload 5, 2) := by decide +kernel
theorem dX4_readTest_106 : decode cX4_readTest 106 = .ok (.istore_n 2, 1) := by decide +kernel
theorem dX4_readTest_107 : decode cX4_readTest 107 = .ok (.goto 9, 3) := by decide +kernel
theorem dX4_readTest_110 : decode cX4_readTest 110 = .ok (.aload_n 0, 1) := by decide +kernel
theorem dX4_readTest_111 : decode cX4_readTest 111 = .ok (.iload 5, 2) := by decide +kernel
theorem dX4_readTest_113 : decode cX4_readTest 113 = .ok (.invokevirtual 86, 3) := by decide +kernel
theorem dX4_readTest_116 : decode cX4_readTest 116 = .ok (.iinc 3 1, 3) := by decide +kernel
theorem dX4_readTest_119 : decode cX4_readTest 119 = .ok (.goto (-105), 3) := by decide +kernel
theorem dX4_readTest_122 : decode cX4_readTest 122 = .ok (.aload_n 0, 1) := by decide +kernel
theorem dX4_readTest_123 : decode cX4_readTest 123 = .ok (.iload_n 2, 1) := by decide +kernel
theorem dX4_readTest_124 : decode cX4_readTest 124 = .ok (.invokevirtual 86, 3) := by decide +kernel
theorem dX4_readTest_127 : decode cX4_readTest 127 = .ok (.iconst 1, 1) := by decide +kernel
theorem dX4_readTest_128 : decode cX4_readTest 128 = .ok (.ireturn, 1) := by decide +kernel
theorem ml_X4_83 : Cond.methodLink RX4 83 yX4_readPlain ∈ tblG := tg 748 (by decide +kernel) (by decide +kernel)
theorem im_X4_readPlain : Cond.instanceMethod yX4_readPlain ∈ tblG := tg 750 (by decide +kernel) (by decide +kernel)
theorem se_X4_readPlain : Cond.selects RX4 yX4_readPlain yX4_readPlain ∈ tblG := tg 11 (by decide +kernel) (by decide +kernel)
theorem cd_X4_readPlain : Cond.code yX4_readPlain cX4_readPlain 4 (some .boolean) ∈ tblG := tg 751 (by decide +kernel) (by decide +kernel)
theorem gW_X4_readPlain : GoodIn tblG (wsG yX4_readPlain cX4_readPlain 4 (some .boolean)) := tgi cd_X4_readPlain
theorem gV_X4_83 : GoodIn tblG (wsV RX4 83 RX4 yX4_readPlain (wsG yX4_readPlain cX4_readPlain 4 (some .boolean))) := tgV ml_X4_83 im_X4_readPlain se_X4_readPlain ini_X4 gW_X4_readPlain
theorem hv_X4_readPlain : yX4_readPlain.cls = RX4 ∧ yX4_readPlain.cls ≠ "java/lang/invoke/MethodHandle" ∧ yX4_readPlain.cls ≠ "java/lang/invoke/VarHandle" ∧ (parseMethodDescriptor yX4_readPlain.desc).map (fun d => d.parameters.length) = some 1 := by decide +kernel
theorem ml_X4_86 : Cond.methodLink RX4 86 yX4_jumpHere ∈ tblG := tg 752 (by decide +kernel) (by decide +kernel)
theorem im_X4_jumpHere : Cond.instanceMethod yX4_jumpHere ∈ tblG := tg 754 (by decide +kernel) (by decide +kernel)
theorem se_X4_jumpHere : Cond.selects RX4 yX4_jumpHere yX4_jumpHere ∈ tblG := tg 12 (by decide +kernel) (by decide +kernel)
theorem cd_X4_jumpHere : Cond.code yX4_jumpHere cX4_jumpHere 2 none ∈ tblG := tg 755 (by decide +kernel) (by decide +kernel)
theorem gW_X4_jumpHere : GoodIn tblG (wsG yX4_jumpHere cX4_jumpHere 2 none) := tgi cd_X4_jumpHere
theorem gV_X4_86 : GoodIn tblG (wsV RX4 86 RX4 yX4_jumpHere (wsG yX4_jumpHere cX4_jumpHere 2 none)) := tgV ml_X4_86 im_X4_jumpHere se_X4_jumpHere ini_X4 gW_X4_jumpHere
theorem hv_X4_jumpHere : yX4_jumpHere.cls = RX4 ∧ yX4_jumpHere.cls ≠ "java/lang/invoke/MethodHandle" ∧ yX4_jumpHere.cls ≠ "java/lang/invoke/VarHandle" ∧ (parseMethodDescriptor yX4_jumpHere.desc).map (fun d => d.parameters.length) = some 1 := by decide +kernel
set_option maxHeartbeats 4000000 in
set_option maxRecDepth 100000 in
theorem r_test (fr lo f2 l2 : Nat) (p_d : Int32) (h_p_d : 0 ≤ p_d.toInt ∧ p_d.toInt ≤ 8) (h_sum : ∀ x : Int32, x.toInt = p_d.toInt + 1 → p_d.toInt < 8 → ∀ (l : Launch) (G : g5_G) (a_r a_tk a_kd a_nm a_rc a_rh a_rs a_pl : Nat) (sz : Nat) (e_ln : Int32) (e_pa : Int32) (e_at : Int32) (e_fp : Int32) (f_kd : Nat → Int32) (f_nm : Nat → Int32) (f_rc : Nat → Int32) (h_e_ln : 0 ≤ e_ln.toInt ∧ e_ln.toInt ≤ 400) (h_e_at : 0 ≤ e_at.toInt ∧ e_at.toInt ≤ 401) (e_tk : TOKI f_kd f_nm) (e_cd : CDI f_rc e_ln.toInt), Met l yX4_readSum (wsG yX4_readSum cX4_readSum 6 (some .boolean)) ({ frames := fr + 0, cells := 0, slots := 0, locals := lo + 0 }) (va_Pc [.ref a_r, .int x] (g5_P G [(a_r, .inr (4, [.ref a_tk, .ref a_rh, .ref a_rs, .ref a_rc, .int e_ln, .int e_pa, .int e_at, .int e_fp])), (a_tk, .inr (8, [.ref a_kd, .ref a_nm, .ref a_pl])), (a_kd, .inl (G.2 0, 401, .inl f_kd)), (a_nm, .inl (G.2 0, 401, .inl f_nm)), (a_rc, .inl (G.2 0, 400, .inl f_rc))] sz)) (va_Qi (fun (r : Int32) (u : va_W) => (∃ (o_r : Int32) (o_ln : Int32) (o_pa : Int32) (o_at : Int32) (o_rc : Nat → Int32), (0 ≤ o_r.toInt ∧ o_r.toInt ≤ 1) ∧ (e_ln.toInt ≤ o_ln.toInt ∧ o_ln.toInt ≤ 400) ∧ (0 ≤ o_at.toInt ∧ o_at.toInt ≤ 401) ∧ (CDI o_rc o_ln.toInt) ∧ (OPK f_rc o_rc e_ln.toInt) ∧ (r = o_r) ∧ (u = [(a_r, .inr (4, [.ref a_tk, .ref a_rh, .ref a_rs, .ref a_rc, .int o_ln, .int o_pa, .int o_at, .int e_fp])), (a_tk, .inr (8, [.ref a_kd, .ref a_nm, .ref a_pl])), (a_kd, .inl (G.2 0, 401, .inl f_kd)), (a_nm, .inl (G.2 0, 401, .inl f_nm)), (a_rc, .inl (G.2 0, 400, .inl o_rc))]))) (g5_B G (va_A [(a_r, .inr (4, [.ref a_tk, .ref a_rh, .ref a_rs, .ref a_rc, .int e_ln, .int e_pa, .int e_at, .int e_fp])), (a_tk, .inr (8, [.ref a_kd, .ref a_nm, .ref a_pl])), (a_kd, .inl (G.2 0, 401, .inl f_kd)), (a_nm, .inl (G.2 0, 401, .inl f_nm)), (a_rc, .inl (G.2 0, 400, .inl f_rc))] sz)) (va_A [(a_r, .inr (4, [.ref a_tk, .ref a_rh, .ref a_rs, .ref a_rc, .int e_ln, .int e_pa, .int e_at, .int e_fp])), (a_tk, .inr (8, [.ref a_kd, .ref a_nm, .ref a_pl])), (a_kd, .inl (G.2 0, 401, .inl f_kd)), (a_nm, .inl (G.2 0, 401, .inl f_nm)), (a_rc, .inl (G.2 0, 400, .inl f_rc))] sz)) 0 0 (va_A [(a_r, .inr (4, [.ref a_tk, .ref a_rh, .ref a_rs, .ref a_rc, .int e_ln, .int e_pa, .int e_at, .int e_fp])), (a_tk, .inr (8, [.ref a_kd, .ref a_nm, .ref a_pl])), (a_kd, .inl (G.2 0, 401, .inl f_kd)), (a_nm, .inl (G.2 0, 401, .inl f_nm)), (a_rc, .inl (G.2 0, 400, .inl f_rc))] sz)) (h_test : ∀ x : Int32, x.toInt = p_d.toInt + 1 → p_d.toInt < 8 → ∀ (l : Launch) (G : g5_G) (a_r a_tk a_kd a_nm a_rc a_rh a_rs a_pl : Nat) (sz : Nat) (e_ln : Int32) (e_pa : Int32) (e_at : Int32) (e_fp : Int32) (f_kd : Nat → Int32) (f_nm : Nat → Int32) (f_rc : Nat → Int32) (h_e_ln : 0 ≤ e_ln.toInt ∧ e_ln.toInt ≤ 400) (h_e_at : 0 ≤ e_at.toInt ∧ e_at.toInt ≤ 401) (e_tk : TOKI f_kd f_nm) (e_cd : CDI f_rc e_ln.toInt), Met l yX4_readTest (wsG yX4_readTest cX4_readTest 6 (some .boolean)) ({ frames := f2 + 0, cells := 0, slots := 0, locals := l2 + 0 }) (va_Pc [.ref a_r, .int x] (g5_P G [(a_r, .inr (4, [.ref a_tk, .ref a_rh, .ref a_rs, .ref a_rc, .int e_ln, .int e_pa, .int e_at, .int e_fp])), (a_tk, .inr (8, [.ref a_kd, .ref a_nm, .ref a_pl])), (a_kd, .inl (G.2 0, 401, .inl f_kd)), (a_nm, .inl (G.2 0, 401, .inl f_nm)), (a_rc, .inl (G.2 0, 400, .inl f_rc))] sz)) (va_Qi (fun (r : Int32) (u : va_W) => (∃ (o_r : Int32) (o_ln : Int32) (o_pa : Int32) (o_at : Int32) (o_rc : Nat → Int32), (0 ≤ o_r.toInt ∧ o_r.toInt ≤ 1) ∧ (e_ln.toInt ≤ o_ln.toInt ∧ o_ln.toInt ≤ 400) ∧ (0 ≤ o_at.toInt ∧ o_at.toInt ≤ 401) ∧ (CDI o_rc o_ln.toInt) ∧ (OPK f_rc o_rc e_ln.toInt) ∧ (r = o_r) ∧ (u = [(a_r, .inr (4, [.ref a_tk, .ref a_rh, .ref a_rs, .ref a_rc, .int o_ln, .int o_pa, .int o_at, .int e_fp])), (a_tk, .inr (8, [.ref a_kd, .ref a_nm, .ref a_pl])), (a_kd, .inl (G.2 0, 401, .inl f_kd)), (a_nm, .inl (G.2 0, 401, .inl f_nm)), (a_rc, .inl (G.2 0, 400, .inl o_rc))]))) (g5_B G (va_A [(a_r, .inr (4, [.ref a_tk, .ref a_rh, .ref a_rs, .ref a_rc, .int e_ln, .int e_pa, .int e_at, .int e_fp])), (a_tk, .inr (8, [.ref a_kd, .ref a_nm, .ref a_pl])), (a_kd, .inl (G.2 0, 401, .inl f_kd)), (a_nm, .inl (G.2 0, 401, .inl f_nm)), (a_rc, .inl (G.2 0, 400, .inl f_rc))] sz)) (va_A [(a_r, .inr (4, [.ref a_tk, .ref a_rh, .ref a_rs, .ref a_rc, .int e_ln, .int e_pa, .int e_at, .int e_fp])), (a_tk, .inr (8, [.ref a_kd, .ref a_nm, .ref a_pl])), (a_kd, .inl (G.2 0, 401, .inl f_kd)), (a_nm, .inl (G.2 0, 401, .inl f_nm)), (a_rc, .inl (G.2 0, 400, .inl f_rc))] sz)) 0 0 (va_A [(a_r, .inr (4, [.ref a_tk, .ref a_rh, .ref a_rs, .ref a_rc, .int e_ln, .int e_pa, .int e_at, .int e_fp])), (a_tk, .inr (8, [.ref a_kd, .ref a_nm, .ref a_pl])), (a_kd, .inl (G.2 0, 401, .inl f_kd)), (a_nm, .inl (G.2 0, 401, .inl f_nm)), (a_rc, .inl (G.2 0, 400, .inl f_rc))] sz)) (l : Launch) (G : g5_G) (a_r a_tk a_kd a_nm a_rc a_rh a_rs a_pl : Nat) (sz : Nat) (e_ln : Int32) (e_pa : Int32) (e_at : Int32) (e_fp : Int32) (f_kd : Nat → Int32) (f_nm : Nat → Int32) (f_rc : Nat → Int32) (h_e_ln : 0 ≤ e_ln.toInt ∧ e_ln.toInt ≤ 400) (h_e_at : 0 ≤ e_at.toInt ∧ e_at.toInt ≤ 401) (e_tk : TOKI f_kd f_nm) (e_cd : CDI f_rc e_ln.toInt) : Met l yX4_readTest (wsG yX4_readTest cX4_readTest 6 (some .boolean)) ({ frames := fr + f2 + 4, cells := 0, slots := 0, locals := lo + l2 + 96 }) (va_Pc [.ref a_r, .int p_d] (g5_P G [(a_r, .inr (4, [.ref a_tk, .ref a_rh, .ref a_rs, .ref a_rc, .int e_ln, .int e_pa, .int e_at, .int e_fp])), (a_tk, .inr (8, [.ref a_kd, .ref a_nm, .ref a_pl])), (a_kd, .inl (G.2 0, 401, .inl f_kd)), (a_nm, .inl (G.2 0, 401, .inl f_nm)), (a_rc, .inl (G.2 0, 400, .inl f_rc))] sz)) (va_Qi (fun (r : Int32) (u : va_W) => (∃ (o_r : Int32) (o_ln : Int32) (o_pa : Int32) (o_at : Int32) (o_rc : Nat → Int32), (0 ≤ o_r.toInt ∧ o_r.toInt ≤ 1) ∧ (e_ln.toInt ≤ o_ln.toInt ∧ o_ln.toInt ≤ 400) ∧ (0 ≤ o_at.toInt ∧ o_at.toInt ≤ 401) ∧ (CDI o_rc o_ln.toInt) ∧ (OPK f_rc o_rc e_ln.toInt) ∧ (r = o_r) ∧ (u = [(a_r, .inr (4, [.ref a_tk, .ref a_rh, .ref a_rs, .ref a_rc, .int o_ln, .int o_pa, .int o_at, .int e_fp])), (a_tk, .inr (8, [.ref a_kd, .ref a_nm, .ref a_pl])), (a_kd, .inl (G.2 0, 401, .inl f_kd)), (a_nm, .inl (G.2 0, 401, .inl f_nm)), (a_rc, .inl (G.2 0, 400, .inl o_rc))]))) (g5_B G (va_A [(a_r, .inr (4, [.ref a_tk, .ref a_rh, .ref a_rs, .ref a_rc, .int e_ln, .int e_pa, .int e_at, .int e_fp])), (a_tk, .inr (8, [.ref a_kd, .ref a_nm, .ref a_pl])), (a_kd, .inl (G.2 0, 401, .inl f_kd)), (a_nm, .inl (G.2 0, 401, .inl f_nm)), (a_rc, .inl (G.2 0, 400, .inl f_rc))] sz)) (va_A [(a_r, .inr (4, [.ref a_tk, .ref a_rh, .ref a_rs, .ref a_rc, .int e_ln, .int e_pa, .int e_at, .int e_fp])), (a_tk, .inr (8, [.ref a_kd, .ref a_nm, .ref a_pl])), (a_kd, .inl (G.2 0, 401, .inl f_kd)), (a_nm, .inl (G.2 0, 401, .inl f_nm)), (a_rc, .inl (G.2 0, 400, .inl f_rc))] sz)) 0 0 (va_A [(a_r, .inr (4, [.ref a_tk, .ref a_rh, .ref a_rs, .ref a_rc, .int e_ln, .int e_pa, .int e_at, .int e_fp])), (a_tk, .inr (8, [.ref a_kd, .ref a_nm, .ref a_pl])), (a_kd, .inl (G.2 0, 401, .inl f_kd)), (a_nm, .inl (G.2 0, 401, .inl f_nm)), (a_rc, .inl (G.2 0, 400, .inl f_rc))] sz) := by
  refine Met.ofW (cc := cX4_readTest) (maxL := 6) (ret := (some .boolean)) (by decide) rfl ?_
  intro p e s m args below meth c s₁ B hml hv
  obtain ⟨rfl, hsz, hP, hK, hD0, hN, hT⟩ := hv
  have hx := B.exec
  have hb := B.bytes
  have hr := B.returns
  have hts : ∀ w ∈ tblG, w.before _ s = true := fun w h => atoms_spec (ws := (wsG yX4_readTest cX4_readTest 6 (some .boolean))) B.pre w (List.mem_cons_of_mem _ h)
  have hown : s.vm.findClass RX4 = some m.cls := findClass_of_methodNamed B.named
  have hlocks := B.notSynchronized
  subst hsz
  have hD := hD0.self (sz := s.heap.size)
  generalize hAe : va_A [(a_r, .inr (4, [.ref a_tk, .ref a_rh, .ref a_rs, .ref a_rc, .int e_ln, .int e_pa, .int e_at, .int e_fp])), (a_tk, .inr (8, [.ref a_kd, .ref a_nm, .ref a_pl])), (a_kd, .inl (G.2 0, 401, .inl f_kd)), (a_nm, .inl (G.2 0, 401, .inl f_nm)), (a_rc, .inl (G.2 0, 400, .inl f_rc))] s.heap.size = A at hD hT ⊢
  have hA : ∀ q : Nat, s.heap.size ≤ q → A q := fun q h => by rw [← hAe]; exact Or.inr h
  have hS : va_S A s.heap s.heap [] := va_S.rf
  have hP : va_P G.1 vwCl [(a_r, .inr (4, [.ref a_tk, .ref a_rh, .ref a_rs, .ref a_rc, .int e_ln, .int e_pa, .int e_at, .int e_fp])), (a_tk, .inr (8, [.ref a_kd, .ref a_nm, .ref a_pl])), (a_kd, .inl (G.2 0, 401, .inl f_kd)), (a_nm, .inl (G.2 0, 401, .inl f_nm)), (a_rc, .inl (G.2 0, 400, .inl f_rc))] s.heap := hP
  have hl := lv_entry ([.ref a_r, .int p_d]) (n := 6) (Nat.le_of_ble_eq_true rfl)
  rw [lg_entry_eq]
  generalize (lg_sl ([.ref a_r, .int p_d]) ++ List.replicate (6 - (lg_sl ([.ref a_r, .int p_d])).length) Slot.unset).toArray = ls at hl ⊢
  have hl : lv_has ls 6 [(0, .ref a_r), (1, .int p_d)] := hl
  refine lv_aload_n hx hb dX4_readTest_0 rfl (lv_at hl 0 rfl) ?_
  refine lv_iload_n hx hb dX4_readTest_1 rfl (lv_at hl 1 rfl) ?_
  have hPc := hP.sub (ws' := [(a_r, .inr (4, [.ref a_tk, .ref a_rh, .ref a_rs, .ref a_rc, .int e_ln, .int e_pa, .int e_at, .int e_fp])), (a_tk, .inr (8, [.ref a_kd, .ref a_nm, .ref a_pl])), (a_kd, .inl (G.2 0, 401, .inl f_kd)), (a_nm, .inl (G.2 0, 401, .inl f_nm)), (a_rc, .inl (G.2 0, 400, .inl f_rc))]) [0, 1, 2, 3, 4] rfl
  have hDc := hD.sub (ws' := [(a_r, .inr (4, [.ref a_tk, .ref a_rh, .ref a_rs, .ref a_rc, .int e_ln, .int e_pa, .int e_at, .int e_fp])), (a_tk, .inr (8, [.ref a_kd, .ref a_nm, .ref a_pl])), (a_kd, .inl (G.2 0, 401, .inl f_kd)), (a_nm, .inl (G.2 0, 401, .inl f_nm)), (a_rc, .inl (G.2 0, 400, .inl f_rc))]) [0, 1, 2, 3, 4] (by decide) rfl
  have hFc := va_free (wc := [(a_r, .inr (4, [.ref a_tk, .ref a_rh, .ref a_rs, .ref a_rc, .int e_ln, .int e_pa, .int e_at, .int e_fp])), (a_tk, .inr (8, [.ref a_kd, .ref a_nm, .ref a_pl])), (a_kd, .inl (G.2 0, 401, .inl f_kd)), (a_nm, .inl (G.2 0, 401, .inl f_nm)), (a_rc, .inl (G.2 0, 400, .inl f_rc))]) hD hS hA [0, 1, 2, 3, 4] rfl
  refine va_calli (va_runV (As := [.int p_d]) (rest := []) ⟨hx, hb, hml, hown, hts⟩ ((r_plain fr lo f2 l2 p_d h_p_d h_sum h_test) l G a_r a_tk a_kd a_nm a_rc a_rh a_rs a_pl s.heap.size e_ln e_pa e_at e_fp f_kd f_nm f_rc ⟨by omega, by omega⟩ ⟨by omega, by omega⟩ (e_tk) (e_cd)) (cwV 1 hts gV_X4_83 rfl rfl rfl hv_X4_readPlain ⟨by dsimp only; omega, by dsimp only; omega⟩) (g5_preV hPc hK hDc hN hT hS hFc (ci := 4) (q0 := 0) rfl rfl) rfl rfl hl.1 rfl (lv_room (Nat.le_of_ble_eq_true rfl)) dX4_readTest_2 ⟨Nat.le_of_ble_eq_true rfl, Nat.le_of_ble_eq_true rfl⟩) hS (fun q _ h => hFc q h) hFc (fun r u t H1 locs ht hvm hw hB hz1 hk1 hS => ?_)
  obtain ⟨hP1, hD1⟩ := hB
  rw [ht] at hP1
  obtain ⟨z6, z7, z8, z9, z10, i_1, i_2, i_3, i_4, i_5, y11, rfl⟩ := hw
  have i_1 : 0 ≤ z6.toInt ∧ z6.toInt ≤ 1 := i_1
  have i_2 : e_ln.toInt ≤ z7.toInt ∧ z7.toInt ≤ 400 := i_2
  have i_3 : 0 ≤ z9.toInt ∧ z9.toInt ≤ 401 := i_3
  have i_4 : CDI z10 z7.toInt := i_4
  have i_5 : OPK f_rc z10 e_ln.toInt := i_5
  obtain ⟨hP, hD⟩ := va_join (wr := []) (w1 := [(a_r, .inr (4, [.ref a_tk, .ref a_rh, .ref a_rs, .ref a_rc, .int z7, .int z8, .int z9, .int e_fp])), (a_tk, .inr (8, [.ref a_kd, .ref a_nm, .ref a_pl])), (a_kd, .inl (G.2 0, 401, .inl f_kd)), (a_nm, .inl (G.2 0, 401, .inl f_nm)), (a_rc, .inl (G.2 0, 400, .inl z10))]) hP hD [0, 1, 2, 3, 4] [] rfl rfl (by decide) (by decide) hk1 hFc hP1 hD1
  generalize H1 = H at hP hS ⊢
  have hP : va_P G.1 vwCl [(a_r, .inr (4, [.ref a_tk, .ref a_rh, .ref a_rs, .ref a_rc, .int z7, .int z8, .int z9, .int e_fp])), (a_tk, .inr (8, [.ref a_kd, .ref a_nm, .ref a_pl])), (a_kd, .inl (G.2 0, 401, .inl f_kd)), (a_nm, .inl (G.2 0, 401, .inl f_nm)), (a_rc, .inl (G.2 0, 400, .inl z10))] H := hP
  have hD : va_D A [(a_r, .inr (4, [.ref a_tk, .ref a_rh, .ref a_rs, .ref a_rc, .int z7, .int z8, .int z9, .int e_fp])), (a_tk, .inr (8, [.ref a_kd, .ref a_nm, .ref a_pl])), (a_kd, .inl (G.2 0, 401, .inl f_kd)), (a_nm, .inl (G.2 0, 401, .inl f_nm)), (a_rc, .inl (G.2 0, 400, .inl z10))] := hD
  refine g5_ti (v := z6) y11 ?_
  refine lv_if_ne (tgt := 10) hx hb dX4_readTest_5 (by decide) (fun c_12 => ?_) (fun c_12 => ?_)
  ·
    have n_12 : gNe (z6.toInt) (0) := by have z := g5_ne (a := z6.toInt) (b := 0) (by rfl) (by decide) c_12; unfold gNe; omega
    have i_12 : z6.toInt ≥ 1 := by have z := g5_ne (a := z6.toInt) (b := 0) (by rfl) (by decide) c_12; omega
    refine lv_iconst (v := (-1)) hx hb dX4_readTest_10 (by decide) ?_
    refine lv_istore_n (lv' := [(2, .int (-1)), (0, .ref a_r), (1, .int p_d)]) hx hb dX4_readTest_11 rfl hl (by decide) rfl (fun ls hl => ?_)
    refine lv_iconst (v := 0) hx hb dX4_readTest_12 (by decide) ?_
    refine lv_istore_n (lv' := [(3, .int 0), (2, .int (-1)), (0, .ref a_r), (1, .int p_d)]) hx hb dX4_readTest_13 rfl hl (by decide) rfl (fun ls hl => ?_)
    refine g5_loop (α := (Int32) × (Int32) × (Int32) × (Int32) × (Int32) × (Nat → Int32)) (fun (q : (Int32) × (Int32) × (Int32) × (Int32) × (Int32) × (Nat → Int32)) (ls : Array Slot) (H : Heap) (locs : List Loc) => match q with | (k_w, k_i, k_ln, k_pa, k_at, k_rc) => lv_has ls 6 [(2, .int k_w), (3, .int k_i), (0, .ref a_r), (1, .int p_d)] ∧ va_P G.1 vwCl [(a_r, .inr (4, [.ref a_tk, .ref a_rh, .ref a_rs, .ref a_rc, .int k_ln, .int k_pa, .int k_at, .int e_fp])), (a_tk, .inr (8, [.ref a_kd, .ref a_nm, .ref a_pl])), (a_kd, .inl (G.2 0, 401, .inl f_kd)), (a_nm, .inl (G.2 0, 401, .inl f_nm)), (a_rc, .inl (G.2 0, 400, .inl k_rc))] H ∧ va_D A [(a_r, .inr (4, [.ref a_tk, .ref a_rh, .ref a_rs, .ref a_rc, .int k_ln, .int k_pa, .int k_at, .int e_fp])), (a_tk, .inr (8, [.ref a_kd, .ref a_nm, .ref a_pl])), (a_kd, .inl (G.2 0, 401, .inl f_kd)), (a_nm, .inl (G.2 0, 401, .inl f_nm)), (a_rc, .inl (G.2 0, 400, .inl k_rc))] ∧ va_S A s.heap H locs ∧ ((-1) ≤ k_w.toInt ∧ k_w.toInt ≤ 399) ∧ (0 ≤ k_i.toInt ∧ k_i.toInt ≤ 400) ∧ (0 ≤ k_ln.toInt ∧ k_ln.toInt ≤ 400) ∧ (0 ≤ k_at.toInt ∧ k_at.toInt ≤ 401) ∧ (e_ln.toInt ≤ k_ln.toInt) ∧ (CDI k_rc k_ln.toInt) ∧ (OPK f_rc k_rc e_ln.toInt) ∧ (JOK k_rc k_ln.toInt k_w)) (fun (q : (Int32) × (Int32) × (Int32) × (Int32) × (Int32) × (Nat → Int32)) => match q with | (k_w, k_i, k_ln, k_pa, k_at, k_rc) => Int.toNat (400 - k_i.toInt)) ((-1), 0, z7, z8, z9, z10) ⟨lv_sub hl [1, 0, 2, 3] rfl, hP, hD, hS, ⟨by decide, by decide⟩, ⟨by decide, by decide⟩, ⟨by omega, by omega⟩, ⟨by omega, by omega⟩, by omega, i_4, i_5, jok_none⟩ ?_
    rintro ⟨k_w, k_i, k_ln, k_pa, k_at, k_rc⟩ ls H locs ⟨hl, hP, hD, hS, i_13, i_14, i_15, i_16, i_17, i_18, i_19, i_20⟩ ih_14_21
    have hl : lv_has ls 6 [(2, .int k_w), (3, .int k_i), (0, .ref a_r), (1, .int p_d)] := hl
    have i_13 : (-1) ≤ k_w.toInt ∧ k_w.toInt ≤ 399 := i_13
    have i_14 : 0 ≤ k_i.toInt ∧ k_i.toInt ≤ 400 := i_14
    have i_15 : 0 ≤ k_ln.toInt ∧ k_ln.toInt ≤ 400 := i_15
    have i_16 : 0 ≤ k_at.toInt ∧ k_at.toInt ≤ 401 := i_16
    have i_17 : e_ln.toInt ≤ k_ln.toInt := i_17
    have i_18 : CDI k_rc k_ln.toInt := i_18
    have i_19 : OPK f_rc k_rc e_ln.toInt := i_19
    have i_20 : JOK k_rc k_ln.toInt k_w := i_20
    have hP : va_P G.1 vwCl [(a_r, .inr (4, [.ref a_tk, .ref a_rh, .ref a_rs, .ref a_rc, .int k_ln, .int k_pa, .int k_at, .int e_fp])), (a_tk, .inr (8, [.ref a_kd, .ref a_nm, .ref a_pl])), (a_kd, .inl (G.2 0, 401, .inl f_kd)), (a_nm, .inl (G.2 0, 401, .inl f_nm)), (a_rc, .inl (G.2 0, 400, .inl k_rc))] H := hP
    have hD : va_D A [(a_r, .inr (4, [.ref a_tk, .ref a_rh, .ref a_rs, .ref a_rc, .int k_ln, .int k_pa, .int k_at, .int e_fp])), (a_tk, .inr (8, [.ref a_kd, .ref a_nm, .ref a_pl])), (a_kd, .inl (G.2 0, 401, .inl f_kd)), (a_nm, .inl (G.2 0, 401, .inl f_nm)), (a_rc, .inl (G.2 0, 400, .inl k_rc))] := hD
    refine lv_iload_n hx hb dX4_readTest_14 rfl (lv_at hl 1 rfl) ?_
    refine lv_sipush (v := 400) hx hb dX4_readTest_15 (by decide) ?_
    refine lv_icmp_ge (tgt := 122) hx hb dX4_readTest_18 (by decide) (fun c_22 => ?_) (fun c_22 => ?_)
    ·
      have i_22 : k_i.toInt ≥ 400 := by have z := g5_ge (a := k_i.toInt) (b := 400) (by rfl) (by decide) c_22; omega
      refine lv_aload_n hx hb dX4_readTest_122 rfl (lv_at hl 2 rfl) ?_
      refine lv_iload_n hx hb dX4_readTest_123 rfl (lv_at hl 0 rfl) ?_
      have hPc := hP.sub (ws' := [(a_r, .inr (4, [.ref a_tk, .ref a_rh, .ref a_rs, .ref a_rc, .int k_ln, .int k_pa, .int k_at, .int e_fp])), (a_rc, .inl (G.2 0, 400, .inl k_rc))]) [0, 4] rfl
      have hDc := hD.sub (ws' := [(a_r, .inr (4, [.ref a_tk, .ref a_rh, .ref a_rs, .ref a_rc, .int k_ln, .int k_pa, .int k_at, .int e_fp])), (a_rc, .inl (G.2 0, 400, .inl k_rc))]) [0, 4] (by decide) rfl
      have hFc := va_free (wc := [(a_r, .inr (4, [.ref a_tk, .ref a_rh, .ref a_rs, .ref a_rc, .int k_ln, .int k_pa, .int k_at, .int e_fp])), (a_rc, .inl (G.2 0, 400, .inl k_rc))]) hD hS hA [0, 4] rfl
      refine va_callv (va_runV (As := [.int k_w]) (rest := []) ⟨hx, hb, hml, hown, hts⟩ (r_jump l G a_r a_rc a_tk a_rh a_rs H.size k_ln k_pa k_at e_fp k_w k_rc ⟨by omega, by omega⟩ ⟨by omega, by omega⟩ (i_18) (i_20)) (cwV 1 hts gV_X4_86 rfl rfl rfl hv_X4_jumpHere ⟨by dsimp only; omega, by dsimp only; omega⟩) (g5_preV hPc hK hDc hN hT hS hFc (ci := 4) (q0 := 0) rfl rfl) rfl rfl hl.1 rfl (lv_room (Nat.le_of_ble_eq_true rfl)) dX4_readTest_124 ⟨Nat.le_of_ble_eq_true rfl, Nat.le_of_ble_eq_true rfl⟩) hS (fun q _ h => hFc q h) hFc (fun u t H1 locs ht hvm hw hB hz1 hk1 hS => ?_)
      obtain ⟨hP1, hD1⟩ := hB
      rw [ht] at hP1
      obtain ⟨z25, i_23, i_24, rfl⟩ := hw
      have i_23 : CDI z25 k_ln.toInt := i_23
      have i_24 : OPK k_rc z25 k_ln.toInt := i_24
      obtain ⟨hP, hD⟩ := va_join (wr := [(a_tk, .inr (8, [.ref a_kd, .ref a_nm, .ref a_pl])), (a_kd, .inl (G.2 0, 401, .inl f_kd)), (a_nm, .inl (G.2 0, 401, .inl f_nm))]) (w1 := [(a_r, .inr (4, [.ref a_tk, .ref a_rh, .ref a_rs, .ref a_rc, .int k_ln, .int k_pa, .int k_at, .int e_fp])), (a_rc, .inl (G.2 0, 400, .inl z25))]) hP hD [0, 4] [1, 2, 3] rfl rfl (by decide) (by decide) hk1 hFc hP1 hD1
      generalize H1 = H at hP hS ⊢
      have hP : va_P G.1 vwCl [(a_tk, .inr (8, [.ref a_kd, .ref a_nm, .ref a_pl])), (a_kd, .inl (G.2 0, 401, .inl f_kd)), (a_nm, .inl (G.2 0, 401, .inl f_nm)), (a_r, .inr (4, [.ref a_tk, .ref a_rh, .ref a_rs, .ref a_rc, .int k_ln, .int k_pa, .int k_at, .int e_fp])), (a_rc, .inl (G.2 0, 400, .inl z25))] H := hP
      have hD : va_D A [(a_tk, .inr (8, [.ref a_kd, .ref a_nm, .ref a_pl])), (a_kd, .inl (G.2 0, 401, .inl f_kd)), (a_nm, .inl (G.2 0, 401, .inl f_nm)), (a_r, .inr (4, [.ref a_tk, .ref a_rh, .ref a_rs, .ref a_rc, .int k_ln, .int k_pa, .int k_at, .int e_fp])), (a_rc, .inl (G.2 0, 400, .inl z25))] := hD
      refine lv_iconst (v := 1) hx hb dX4_readTest_127 (by decide) ?_
      exact W.zret (v := 1) hx hb hr rfl (fun t ht hW => ⟨⟨1, [(a_r, .inr (4, [.ref a_tk, .ref a_rh, .ref a_rs, .ref a_rc, .int k_ln, .int k_pa, .int k_at, .int e_fp])), (a_tk, .inr (8, [.ref a_kd, .ref a_nm, .ref a_pl])), (a_kd, .inl (G.2 0, 401, .inl f_kd)), (a_nm, .inl (G.2 0, 401, .inl f_nm)), (a_rc, .inl (G.2 0, 400, .inl z25))], rfl, ⟨1, k_ln, k_pa, k_at, z25, ⟨by have zc_o_r : (1 : Int32).toInt = 1 := (by decide); omega, by have zc_o_r : (1 : Int32).toInt = 1 := (by decide); omega⟩, ⟨by omega, by omega⟩, ⟨by omega, by omega⟩, i_23, opk_trans i_19 (i_24) (by omega), rfl, rfl⟩, by rw [ht]; exact hP.sub [3, 0, 1, 2, 4] rfl, hD.sub [3, 0, 1, 2, 4] (by decide) rfl⟩, hS.F ht⟩) hS.2.2 dX4_readTest_128
    ·
      have i_22 : k_i.toInt < 400 := by have z := g5_geN (a := k_i.toInt) (b := 400) (by rfl) (by decide) c_22; omega
      refine lv_aload_n hx hb dX4_readTest_21 rfl (lv_at hl 2 rfl) ?_
      refine lv_sipush (v := 261) hx hb dX4_readTest_22 (by decide) ?_
      have hPc := hP.sub (ws' := [(a_r, .inr (4, [.ref a_tk, .ref a_rh, .ref a_rs, .ref a_rc, .int k_ln, .int k_pa, .int k_at, .int e_fp])), (a_tk, .inr (8, [.ref a_kd, .ref a_nm, .ref a_pl])), (a_kd, .inl (G.2 0, 401, .inl f_kd))]) [0, 1, 2] rfl
      have hDc := hD.sub (ws' := [(a_r, .inr (4, [.ref a_tk, .ref a_rh, .ref a_rs, .ref a_rc, .int k_ln, .int k_pa, .int k_at, .int e_fp])), (a_tk, .inr (8, [.ref a_kd, .ref a_nm, .ref a_pl])), (a_kd, .inl (G.2 0, 401, .inl f_kd))]) [0, 1, 2] (by decide) rfl
      have hFc := va_free (wc := [(a_r, .inr (4, [.ref a_tk, .ref a_rh, .ref a_rs, .ref a_rc, .int k_ln, .int k_pa, .int k_at, .int e_fp])), (a_tk, .inr (8, [.ref a_kd, .ref a_nm, .ref a_pl])), (a_kd, .inl (G.2 0, 401, .inl f_kd))]) hD hS hA [0, 1, 2] rfl
      refine va_calli (va_runV (As := [.int 261]) (rest := []) ⟨hx, hb, hml, hown, hts⟩ (r_isNext l G a_r a_tk a_kd a_rh a_rs a_rc a_nm a_pl H.size k_ln k_pa k_at e_fp 261 f_kd ⟨by omega, by omega⟩ ⟨by omega, by omega⟩) (cwV 1 hts gV_X4_49 rfl rfl rfl hv_X4_isNext ⟨by dsimp only; omega, by dsimp only; omega⟩) (g5_preV hPc hK hDc hN hT hS hFc (ci := 4) (q0 := 0) rfl rfl) rfl rfl hl.1 rfl (lv_room (Nat.le_of_ble_eq_true rfl)) dX4_readTest_25 ⟨Nat.le_of_ble_eq_true rfl, Nat.le_of_ble_eq_true rfl⟩) hS (fun q _ h => hFc q h) hFc (fun r u t H1 locs ht hvm hw hB hz1 hk1 hS => ?_)
      obtain ⟨hP1, hD1⟩ := hB
      rw [ht] at hP1
      rcases hw with ⟨i_26, i_27, rfl, rfl⟩ | ⟨rfl, rfl⟩
      ·
        have i_26 : k_at.toInt ≤ 400 := i_26
        have i_27 : f_kd k_at.toNatClampNeg = (261 : Int32) := i_27
        obtain ⟨hP, hD⟩ := va_join (wr := [(a_nm, .inl (G.2 0, 401, .inl f_nm)), (a_rc, .inl (G.2 0, 400, .inl k_rc))]) (w1 := [(a_r, .inr (4, [.ref a_tk, .ref a_rh, .ref a_rs, .ref a_rc, .int k_ln, .int k_pa, .int k_at, .int e_fp])), (a_tk, .inr (8, [.ref a_kd, .ref a_nm, .ref a_pl])), (a_kd, .inl (G.2 0, 401, .inl f_kd))]) hP hD [0, 1, 2] [3, 4] rfl rfl (by decide) (by decide) hk1 hFc hP1 hD1
        generalize H1 = H at hP hS ⊢
        have hP : va_P G.1 vwCl [(a_nm, .inl (G.2 0, 401, .inl f_nm)), (a_rc, .inl (G.2 0, 400, .inl k_rc)), (a_r, .inr (4, [.ref a_tk, .ref a_rh, .ref a_rs, .ref a_rc, .int k_ln, .int k_pa, .int k_at, .int e_fp])), (a_tk, .inr (8, [.ref a_kd, .ref a_nm, .ref a_pl])), (a_kd, .inl (G.2 0, 401, .inl f_kd))] H := hP
        have hD : va_D A [(a_nm, .inl (G.2 0, 401, .inl f_nm)), (a_rc, .inl (G.2 0, 400, .inl k_rc)), (a_r, .inr (4, [.ref a_tk, .ref a_rh, .ref a_rs, .ref a_rc, .int k_ln, .int k_pa, .int k_at, .int e_fp])), (a_tk, .inr (8, [.ref a_kd, .ref a_nm, .ref a_pl])), (a_kd, .inl (G.2 0, 401, .inl f_kd))] := hD
        refine lv_if_ne (tgt := 41) hx hb dX4_readTest_28 (by decide) (fun c_28 => ?_) (fun c_28 => ?_)
        ·
          refine lv_aload_n hx hb dX4_readTest_41 rfl (lv_at hl 2 rfl) ?_
          refine lv_sipush (v := 261) hx hb dX4_readTest_42 (by decide) ?_
          have hPc := hP.sub (ws' := [(a_r, .inr (4, [.ref a_tk, .ref a_rh, .ref a_rs, .ref a_rc, .int k_ln, .int k_pa, .int k_at, .int e_fp])), (a_tk, .inr (8, [.ref a_kd, .ref a_nm, .ref a_pl])), (a_kd, .inl (G.2 0, 401, .inl f_kd))]) [2, 3, 4] rfl
          have hDc := hD.sub (ws' := [(a_r, .inr (4, [.ref a_tk, .ref a_rh, .ref a_rs, .ref a_rc, .int k_ln, .int k_pa, .int k_at, .int e_fp])), (a_tk, .inr (8, [.ref a_kd, .ref a_nm, .ref a_pl])), (a_kd, .inl (G.2 0, 401, .inl f_kd))]) [2, 3, 4] (by decide) rfl
          have hFc := va_free (wc := [(a_r, .inr (4, [.ref a_tk, .ref a_rh, .ref a_rs, .ref a_rc, .int k_ln, .int k_pa, .int k_at, .int e_fp])), (a_tk, .inr (8, [.ref a_kd, .ref a_nm, .ref a_pl])), (a_kd, .inl (G.2 0, 401, .inl f_kd))]) hD hS hA [2, 3, 4] rfl
          refine va_calli (va_runV (As := [.int 261]) (rest := []) ⟨hx, hb, hml, hown, hts⟩ (r_isNext l G a_r a_tk a_kd a_rh a_rs a_rc a_nm a_pl H.size k_ln k_pa k_at e_fp 261 f_kd ⟨by omega, by omega⟩ ⟨by omega, by omega⟩) (cwV 1 hts gV_X4_49 rfl rfl rfl hv_X4_isNext ⟨by dsimp only; omega, by dsimp only; omega⟩) (g5_preV hPc hK hDc hN hT hS hFc (ci := 4) (q0 := 0) rfl rfl) rfl rfl hl.1 rfl (lv_room (Nat.le_of_ble_eq_true rfl)) dX4_readTest_45 ⟨Nat.le_of_ble_eq_true rfl, Nat.le_of_ble_eq_true rfl⟩) hS (fun q _ h => hFc q h) hFc (fun r u t H1 locs ht hvm hw hB hz1 hk1 hS => ?_)
          obtain ⟨hP1, hD1⟩ := hB
          rw [ht] at hP1
          rcases hw with ⟨i_29, i_30, rfl, rfl⟩ | ⟨rfl, rfl⟩
          ·
            have i_29 : k_at.toInt ≤ 400 := i_29
            have i_30 : f_kd k_at.toNatClampNeg = (261 : Int32) := i_30
            obtain ⟨hP, hD⟩ := va_join (wr := [(a_nm, .inl (G.2 0, 401, .inl f_nm)), (a_rc, .inl (G.2 0, 400, .inl k_rc))]) (w1 := [(a_r, .inr (4, [.ref a_tk, .ref a_rh, .ref a_rs, .ref a_rc, .int k_ln, .int k_pa, .int k_at, .int e_fp])), (a_tk, .inr (8, [.ref a_kd, .ref a_nm, .ref a_pl])), (a_kd, .inl (G.2 0, 401, .inl f_kd))]) hP hD [2, 3, 4] [0, 1] rfl rfl (by decide) (by decide) hk1 hFc hP1 hD1
            generalize H1 = H at hP hS ⊢
            have hP : va_P G.1 vwCl [(a_nm, .inl (G.2 0, 401, .inl f_nm)), (a_rc, .inl (G.2 0, 400, .inl k_rc)), (a_r, .inr (4, [.ref a_tk, .ref a_rh, .ref a_rs, .ref a_rc, .int k_ln, .int k_pa, .int k_at, .int e_fp])), (a_tk, .inr (8, [.ref a_kd, .ref a_nm, .ref a_pl])), (a_kd, .inl (G.2 0, 401, .inl f_kd))] H := hP
            have hD : va_D A [(a_nm, .inl (G.2 0, 401, .inl f_nm)), (a_rc, .inl (G.2 0, 400, .inl k_rc)), (a_r, .inr (4, [.ref a_tk, .ref a_rh, .ref a_rs, .ref a_rc, .int k_ln, .int k_pa, .int k_at, .int e_fp])), (a_tk, .inr (8, [.ref a_kd, .ref a_nm, .ref a_pl])), (a_kd, .inl (G.2 0, 401, .inl f_kd))] := hD
            refine lv_istore (lv' := [(4, .int 1), (2, .int k_w), (3, .int k_i), (0, .ref a_r), (1, .int p_d)]) hx hb dX4_readTest_48 hl (by decide) rfl (fun ls hl => ?_)
            refine lv_aload_n hx hb dX4_readTest_50 rfl (lv_at hl 3 rfl) ?_
            refine lv_dup hx hb dX4_readTest_51 rfl ?_
            refine va_get (D := G.1) (ci := 4) (v := .int k_at) (C := RX4) (T := TX4) (N := 8) hx hb hts inG_X4 hown hK hP 2 rfl rfl 6 (by decide) (hts _ fl_X4_42) (fun _ h9 => h9) rfl dX4_readTest_52 ?_
            refine lv_iconst (v := 1) hx hb dX4_readTest_55 (by decide) ?_
            refine lv_iadd hx hb dX4_readTest_56 ?_
            have t_31 : (k_at + 1).toInt = k_at.toInt + 1 := g5_iadd (a := k_at.toInt) (b := 1) (by rfl) (by decide) (by omega) (by omega)
            refine va_put (D := G.1) (ci := 4) (v := .int (k_at + 1)) (ty := .int) (C := RX4) (T := TX4) (N := 8) hx hb hts inG_X4 tyX4 tyX4_ok nmX4 hown hK hP hD hS 2 rfl rfl 6 (by decide) (hts _ fl_X4_42) (fun _ h9 => h9) rfl (by decide +kernel) rfl rfl (Nat.le_of_ble_eq_true rfl) dX4_readTest_57 (fun H locs hP hD hS => ?_)
            have hP : va_P G.1 vwCl [(a_nm, .inl (G.2 0, 401, .inl f_nm)), (a_rc, .inl (G.2 0, 400, .inl k_rc)), (a_r, .inr (4, [.ref a_tk, .ref a_rh, .ref a_rs, .ref a_rc, .int k_ln, .int k_pa, .int (k_at + 1), .int e_fp])), (a_tk, .inr (8, [.ref a_kd, .ref a_nm, .ref a_pl])), (a_kd, .inl (G.2 0, 401, .inl f_kd))] H := hP
            have hD : va_D A [(a_nm, .inl (G.2 0, 401, .inl f_nm)), (a_rc, .inl (G.2 0, 400, .inl k_rc)), (a_r, .inr (4, [.ref a_tk, .ref a_rh, .ref a_rs, .ref a_rc, .int k_ln, .int k_pa, .int (k_at + 1), .int e_fp])), (a_tk, .inr (8, [.ref a_kd, .ref a_nm, .ref a_pl])), (a_kd, .inl (G.2 0, 401, .inl f_kd))] := hD
            refine lv_iload hx hb dX4_readTest_60 (lv_at hl 0 rfl) ?_
            refine lv_if_eq (tgt := 70) hx hb dX4_readTest_62 (by decide) (fun c_32 => ?_) (fun c_32 => ?_)
            ·
              exact absurd c_32 (by decide)
            ·
              refine lv_aload_n hx hb dX4_readTest_65 rfl (lv_at hl 3 rfl) ?_
              refine lv_iload_n hx hb dX4_readTest_66 rfl (lv_at hl 1 rfl) ?_
              have hPc := hP.sub (ws' := [(a_r, .inr (4, [.ref a_tk, .ref a_rh, .ref a_rs, .ref a_rc, .int k_ln, .int k_pa, .int (k_at + 1), .int e_fp])), (a_rc, .inl (G.2 0, 400, .inl k_rc))]) [2, 1] rfl
              have hDc := hD.sub (ws' := [(a_r, .inr (4, [.ref a_tk, .ref a_rh, .ref a_rs, .ref a_rc, .int k_ln, .int k_pa, .int (k_at + 1), .int e_fp])), (a_rc, .inl (G.2 0, 400, .inl k_rc))]) [2, 1] (by decide) rfl
              have hFc := va_free (wc := [(a_r, .inr (4, [.ref a_tk, .ref a_rh, .ref a_rs, .ref a_rc, .int k_ln, .int k_pa, .int (k_at + 1), .int e_fp])), (a_rc, .inl (G.2 0, 400, .inl k_rc))]) hD hS hA [2, 1] rfl
              refine va_callv (va_runV (As := [.int k_w]) (rest := []) ⟨hx, hb, hml, hown, hts⟩ (r_jump l G a_r a_rc a_tk a_rh a_rs H.size k_ln k_pa (k_at + 1) e_fp k_w k_rc ⟨by omega, by omega⟩ ⟨by omega, by omega⟩ (i_18) (i_20)) (cwV 1 hts gV_X4_86 rfl rfl rfl hv_X4_jumpHere ⟨by dsimp only; omega, by dsimp only; omega⟩) (g5_preV hPc hK hDc hN hT hS hFc (ci := 4) (q0 := 0) rfl rfl) rfl rfl hl.1 rfl (lv_room (Nat.le_of_ble_eq_true rfl)) dX4_readTest_67 ⟨Nat.le_of_ble_eq_true rfl, Nat.le_of_ble_eq_true rfl⟩) hS (fun q _ h => hFc q h) hFc (fun u t H1 locs ht hvm hw hB hz1 hk1 hS => ?_)
              obtain ⟨hP1, hD1⟩ := hB
              rw [ht] at hP1
              obtain ⟨z35, i_33, i_34, rfl⟩ := hw
              have i_33 : CDI z35 k_ln.toInt := i_33
              have i_34 : OPK k_rc z35 k_ln.toInt := i_34
              obtain ⟨hP, hD⟩ := va_join (wr := [(a_nm, .inl (G.2 0, 401, .inl f_nm)), (a_tk, .inr (8, [.ref a_kd, .ref a_nm, .ref a_pl])), (a_kd, .inl (G.2 0, 401, .inl f_kd))]) (w1 := [(a_r, .inr (4, [.ref a_tk, .ref a_rh, .ref a_rs, .ref a_rc, .int k_ln, .int k_pa, .int (k_at + 1), .int e_fp])), (a_rc, .inl (G.2 0, 400, .inl z35))]) hP hD [2, 1] [0, 3, 4] rfl rfl (by decide) (by decide) hk1 hFc hP1 hD1
              generalize H1 = H at hP hS ⊢
              have hP : va_P G.1 vwCl [(a_nm, .inl (G.2 0, 401, .inl f_nm)), (a_tk, .inr (8, [.ref a_kd, .ref a_nm, .ref a_pl])), (a_kd, .inl (G.2 0, 401, .inl f_kd)), (a_r, .inr (4, [.ref a_tk, .ref a_rh, .ref a_rs, .ref a_rc, .int k_ln, .int k_pa, .int (k_at + 1), .int e_fp])), (a_rc, .inl (G.2 0, 400, .inl z35))] H := hP
              have hD : va_D A [(a_nm, .inl (G.2 0, 401, .inl f_nm)), (a_tk, .inr (8, [.ref a_kd, .ref a_nm, .ref a_pl])), (a_kd, .inl (G.2 0, 401, .inl f_kd)), (a_r, .inr (4, [.ref a_tk, .ref a_rh, .ref a_rs, .ref a_rc, .int k_ln, .int k_pa, .int (k_at + 1), .int e_fp])), (a_rc, .inl (G.2 0, 400, .inl z35))] := hD
              refine lv_aload_n hx hb dX4_readTest_70 rfl (lv_at hl 3 rfl) ?_
              refine lv_iload hx hb dX4_readTest_71 (lv_at hl 0 rfl) ?_
              refine lv_if_eq (tgt := 81) hx hb dX4_readTest_73 (by decide) (fun c_36 => ?_) (fun c_36 => ?_)
              ·
                exact absurd c_36 (by decide)
              ·
                refine lv_bipush (v := 11) hx hb dX4_readTest_76 (by decide) ?_
                refine lv_goto (tgt := 83) hx hb dX4_readTest_78 (by decide) ?_
                refine lv_iconst (v := 0) hx hb dX4_readTest_83 (by decide) ?_
                have hPc := hP.sub (ws' := [(a_r, .inr (4, [.ref a_tk, .ref a_rh, .ref a_rs, .ref a_rc, .int k_ln, .int k_pa, .int (k_at + 1), .int e_fp])), (a_rc, .inl (G.2 0, 400, .inl z35))]) [3, 4] rfl
                have hDc := hD.sub (ws' := [(a_r, .inr (4, [.ref a_tk, .ref a_rh, .ref a_rs, .ref a_rc, .int k_ln, .int k_pa, .int (k_at + 1), .int e_fp])), (a_rc, .inl (G.2 0, 400, .inl z35))]) [3, 4] (by decide) rfl
                have hFc := va_free (wc := [(a_r, .inr (4, [.ref a_tk, .ref a_rh, .ref a_rs, .ref a_rc, .int k_ln, .int k_pa, .int (k_at + 1), .int e_fp])), (a_rc, .inl (G.2 0, 400, .inl z35))]) hD hS hA [3, 4] rfl
                refine va_calli (va_runV (As := [.int 11, .int 0]) (rest := []) ⟨hx, hb, hml, hown, hts⟩ (r_emit l G a_r a_rc a_tk a_rh a_rs H.size k_ln k_pa (k_at + 1) e_fp 11 0 z35 ⟨by omega, by omega⟩ ⟨by omega, by omega⟩ (i_33) (by unfold wOK; decide)) (cwV 2 hts gV_X4_79 rfl rfl rfl hv_X4_emit ⟨by dsimp only; omega, by dsimp only; omega⟩) (g5_preV hPc hK hDc hN hT hS hFc (ci := 4) (q0 := 0) rfl rfl) rfl rfl hl.1 rfl (lv_room (Nat.le_of_ble_eq_true rfl)) dX4_readTest_84 ⟨Nat.le_of_ble_eq_true rfl, Nat.le_of_ble_eq_true rfl⟩) hS (fun q _ h => hFc q h) hFc (fun r u t H1 locs ht hvm hw hB hz1 hk1 hS => ?_)
                obtain ⟨hP1, hD1⟩ := hB
                rw [ht] at hP1
                obtain ⟨z42, z43, z44, i_37, i_38, i_39, i_40, i_41, y45, rfl⟩ := hw
                have i_37 : -1 ≤ z42.toInt ∧ z42.toInt ≤ 399 := i_37
                have i_38 : k_ln.toInt ≤ z43.toInt ∧ z43.toInt ≤ 400 := i_38
                have i_39 : CDI z44 z43.toInt := i_39
                have i_40 : OPK z35 z44 k_ln.toInt := i_40
                have i_41 : 0 ≤ z42.toInt → z42.toInt < z43.toInt ∧ z44 z42.toNatClampNeg = (((11 : Int32) <<< (12 &&& 31)) ||| (0 : Int32)) := i_41
                obtain ⟨hP, hD⟩ := va_join (wr := [(a_nm, .inl (G.2 0, 401, .inl f_nm)), (a_tk, .inr (8, [.ref a_kd, .ref a_nm, .ref a_pl])), (a_kd, .inl (G.2 0, 401, .inl f_kd))]) (w1 := [(a_r, .inr (4, [.ref a_tk, .ref a_rh, .ref a_rs, .ref a_rc, .int z43, .int k_pa, .int (k_at + 1), .int e_fp])), (a_rc, .inl (G.2 0, 400, .inl z44))]) hP hD [3, 4] [0, 1, 2] rfl rfl (by decide) (by decide) hk1 hFc hP1 hD1
                generalize H1 = H at hP hS ⊢
                have hP : va_P G.1 vwCl [(a_nm, .inl (G.2 0, 401, .inl f_nm)), (a_tk, .inr (8, [.ref a_kd, .ref a_nm, .ref a_pl])), (a_kd, .inl (G.2 0, 401, .inl f_kd)), (a_r, .inr (4, [.ref a_tk, .ref a_rh, .ref a_rs, .ref a_rc, .int z43, .int k_pa, .int (k_at + 1), .int e_fp])), (a_rc, .inl (G.2 0, 400, .inl z44))] H := hP
                have hD : va_D A [(a_nm, .inl (G.2 0, 401, .inl f_nm)), (a_tk, .inr (8, [.ref a_kd, .ref a_nm, .ref a_pl])), (a_kd, .inl (G.2 0, 401, .inl f_kd)), (a_r, .inr (4, [.ref a_tk, .ref a_rh, .ref a_rs, .ref a_rc, .int z43, .int k_pa, .int (k_at + 1), .int e_fp])), (a_rc, .inl (G.2 0, 400, .inl z44))] := hD
                refine g5_ti (v := z42) y45 ?_
                refine lv_istore (lv' := [(5, .int z42), (4, .int 1), (2, .int k_w), (3, .int k_i), (0, .ref a_r), (1, .int p_d)]) hx hb dX4_readTest_87 hl (by decide) rfl (fun ls hl => ?_)
                refine lv_aload_n hx hb dX4_readTest_89 rfl (lv_at hl 4 rfl) ?_
                refine lv_iload_n hx hb dX4_readTest_90 rfl (lv_at hl 5 rfl) ?_
                have hPc := hP.sub (ws' := [(a_r, .inr (4, [.ref a_tk, .ref a_rh, .ref a_rs, .ref a_rc, .int z43, .int k_pa, .int (k_at + 1), .int e_fp])), (a_tk, .inr (8, [.ref a_kd, .ref a_nm, .ref a_pl])), (a_kd, .inl (G.2 0, 401, .inl f_kd)), (a_nm, .inl (G.2 0, 401, .inl f_nm)), (a_rc, .inl (G.2 0, 400, .inl z44))]) [3, 1, 2, 0, 4] rfl
                have hDc := hD.sub (ws' := [(a_r, .inr (4, [.ref a_tk, .ref a_rh, .ref a_rs, .ref a_rc, .int z43, .int k_pa, .int (k_at + 1), .int e_fp])), (a_tk, .inr (8, [.ref a_kd, .ref a_nm, .ref a_pl])), (a_kd, .inl (G.2 0, 401, .inl f_kd)), (a_nm, .inl (G.2 0, 401, .inl f_nm)), (a_rc, .inl (G.2 0, 400, .inl z44))]) [3, 1, 2, 0, 4] (by decide) rfl
                have hFc := va_free (wc := [(a_r, .inr (4, [.ref a_tk, .ref a_rh, .ref a_rs, .ref a_rc, .int z43, .int k_pa, .int (k_at + 1), .int e_fp])), (a_tk, .inr (8, [.ref a_kd, .ref a_nm, .ref a_pl])), (a_kd, .inl (G.2 0, 401, .inl f_kd)), (a_nm, .inl (G.2 0, 401, .inl f_nm)), (a_rc, .inl (G.2 0, 400, .inl z44))]) hD hS hA [3, 1, 2, 0, 4] rfl
                refine va_calli (va_runV (As := [.int p_d]) (rest := []) ⟨hx, hb, hml, hown, hts⟩ ((r_plain fr lo f2 l2 p_d h_p_d h_sum h_test) l G a_r a_tk a_kd a_nm a_rc a_rh a_rs a_pl H.size z43 k_pa (k_at + 1) e_fp f_kd f_nm z44 ⟨by omega, by omega⟩ ⟨by omega, by omega⟩ (e_tk) (i_39)) (cwV 1 hts gV_X4_83 rfl rfl rfl hv_X4_readPlain ⟨by dsimp only; omega, by dsimp only; omega⟩) (g5_preV hPc hK hDc hN hT hS hFc (ci := 4) (q0 := 0) rfl rfl) rfl rfl hl.1 rfl (lv_room (Nat.le_of_ble_eq_true rfl)) dX4_readTest_91 ⟨Nat.le_of_ble_eq_true rfl, Nat.le_of_ble_eq_true rfl⟩) hS (fun q _ h => hFc q h) hFc (fun r u t H1 locs ht hvm hw hB hz1 hk1 hS => ?_)
                obtain ⟨hP1, hD1⟩ := hB
                rw [ht] at hP1
                obtain ⟨z51, z52, z53, z54, z55, i_46, i_47, i_48, i_49, i_50, y56, rfl⟩ := hw
                have i_46 : 0 ≤ z51.toInt ∧ z51.toInt ≤ 1 := i_46
                have i_47 : z43.toInt ≤ z52.toInt ∧ z52.toInt ≤ 400 := i_47
                have i_48 : 0 ≤ z54.toInt ∧ z54.toInt ≤ 401 := i_48
                have i_49 : CDI z55 z52.toInt := i_49
                have i_50 : OPK z44 z55 z43.toInt := i_50
                obtain ⟨hP, hD⟩ := va_join (wr := []) (w1 := [(a_r, .inr (4, [.ref a_tk, .ref a_rh, .ref a_rs, .ref a_rc, .int z52, .int z53, .int z54, .int e_fp])), (a_tk, .inr (8, [.ref a_kd, .ref a_nm, .ref a_pl])), (a_kd, .inl (G.2 0, 401, .inl f_kd)), (a_nm, .inl (G.2 0, 401, .inl f_nm)), (a_rc, .inl (G.2 0, 400, .inl z55))]) hP hD [3, 1, 2, 0, 4] [] rfl rfl (by decide) (by decide) hk1 hFc hP1 hD1
                generalize H1 = H at hP hS ⊢
                have hP : va_P G.1 vwCl [(a_r, .inr (4, [.ref a_tk, .ref a_rh, .ref a_rs, .ref a_rc, .int z52, .int z53, .int z54, .int e_fp])), (a_tk, .inr (8, [.ref a_kd, .ref a_nm, .ref a_pl])), (a_kd, .inl (G.2 0, 401, .inl f_kd)), (a_nm, .inl (G.2 0, 401, .inl f_nm)), (a_rc, .inl (G.2 0, 400, .inl z55))] H := hP
                have hD : va_D A [(a_r, .inr (4, [.ref a_tk, .ref a_rh, .ref a_rs, .ref a_rc, .int z52, .int z53, .int z54, .int e_fp])), (a_tk, .inr (8, [.ref a_kd, .ref a_nm, .ref a_pl])), (a_kd, .inl (G.2 0, 401, .inl f_kd)), (a_nm, .inl (G.2 0, 401, .inl f_nm)), (a_rc, .inl (G.2 0, 400, .inl z55))] := hD
                refine g5_ti (v := z51) y56 ?_
                refine lv_if_ne (tgt := 99) hx hb dX4_readTest_94 (by decide) (fun c_57 => ?_) (fun c_57 => ?_)
                ·
                  have n_57 : gNe (z51.toInt) (0) := by have z := g5_ne (a := z51.toInt) (b := 0) (by rfl) (by decide) c_57; unfold gNe; omega
                  have i_57 : z51.toInt ≥ 1 := by have z := g5_ne (a := z51.toInt) (b := 0) (by rfl) (by decide) c_57; omega
                  refine lv_iload hx hb dX4_readTest_99 (lv_at hl 1 rfl) ?_
                  refine lv_if_eq (tgt := 110) hx hb dX4_readTest_101 (by decide) (fun c_58 => ?_) (fun c_58 => ?_)
                  ·
                    exact absurd c_58 (by decide)
                  ·
                    refine lv_iload hx hb dX4_readTest_104 (lv_at hl 0 rfl) ?_
                    refine lv_istore_n (lv' := [(2, .int z42), (5, .int z42), (4, .int 1), (3, .int k_i), (0, .ref a_r), (1, .int p_d)]) hx hb dX4_readTest_106 rfl hl (by decide) rfl (fun ls hl => ?_)
                    refine lv_goto (tgt := 116) hx hb dX4_readTest_107 (by decide) ?_
                    refine lv_iinc (v := (k_i + 1)) (lv' := [(3, .int (k_i + 1)), (2, .int z42), (5, .int z42), (4, .int 1), (0, .ref a_r), (1, .int p_d)]) hx hb dX4_readTest_116 hl (k := 3) rfl rfl (by decide) rfl (fun ls hl => ?_)
                    have t_59 : (k_i + 1).toInt = k_i.toInt + 1 := g5_iadd (a := k_i.toInt) (b := 1) rfl (by decide) (by omega) (by omega)
                    refine lv_goto (tgt := 14) hx hb dX4_readTest_119 (by decide) ?_
                    exact ih_14_21 (z42, (k_i + 1), z52, z53, z54, z55) ls H locs (show Int.toNat (400 - (k_i + 1).toInt) < Int.toNat (400 - k_i.toInt) from g_up (show k_i.toInt < (k_i + 1).toInt by omega) (show k_i.toInt < 400 by omega)) ⟨lv_sub hl [1, 0, 4, 5] rfl, hP, hD, hS, ⟨by omega, by omega⟩, ⟨by omega, by omega⟩, ⟨by omega, by omega⟩, ⟨by omega, by omega⟩, by omega, i_49, opk_trans i_19 (opk_trans i_34 (opk_trans i_40 (i_50) (by omega)) (by omega)) (by omega), jok_opk (jok_emit i_41 (by decide)) (i_50) (by omega)⟩
                ·
                  have i_57 : z51.toInt = 0 := by have z := g5_neN (a := z51.toInt) (b := 0) (by rfl) (by decide) c_57; omega
                  refine lv_iconst (v := 0) hx hb dX4_readTest_97 (by decide) ?_
                  exact W.zret (v := 0) hx hb hr rfl (fun t ht hW => ⟨⟨0, [(a_r, .inr (4, [.ref a_tk, .ref a_rh, .ref a_rs, .ref a_rc, .int z52, .int z53, .int z54, .int e_fp])), (a_tk, .inr (8, [.ref a_kd, .ref a_nm, .ref a_pl])), (a_kd, .inl (G.2 0, 401, .inl f_kd)), (a_nm, .inl (G.2 0, 401, .inl f_nm)), (a_rc, .inl (G.2 0, 400, .inl z55))], rfl, ⟨0, z52, z53, z54, z55, ⟨by have zc_o_r : (0 : Int32).toInt = 0 := (by decide); omega, by have zc_o_r : (0 : Int32).toInt = 0 := (by decide); omega⟩, ⟨by omega, by omega⟩, ⟨by omega, by omega⟩, i_49, opk_trans i_19 (opk_trans i_34 (opk_trans i_40 (i_50) (by omega)) (by omega)) (by omega), rfl, rfl⟩, by rw [ht]; exact hP.sub [0, 1, 2, 3, 4] rfl, hD.sub [0, 1, 2, 3, 4] (by decide) rfl⟩, hS.F ht⟩) hS.2.2 dX4_readTest_98
          ·
            obtain ⟨hP, hD⟩ := va_join (wr := [(a_nm, .inl (G.2 0, 401, .inl f_nm)), (a_rc, .inl (G.2 0, 400, .inl k_rc))]) (w1 := [(a_r, .inr (4, [.ref a_tk, .ref a_rh, .ref a_rs, .ref a_rc, .int k_ln, .int k_pa, .int k_at, .int e_fp])), (a_tk, .inr (8, [.ref a_kd, .ref a_nm, .ref a_pl])), (a_kd, .inl (G.2 0, 401, .inl f_kd))]) hP hD [2, 3, 4] [0, 1] rfl rfl (by decide) (by decide) hk1 hFc hP1 hD1
            generalize H1 = H at hP hS ⊢
            have hP : va_P G.1 vwCl [(a_nm, .inl (G.2 0, 401, .inl f_nm)), (a_rc, .inl (G.2 0, 400, .inl k_rc)), (a_r, .inr (4, [.ref a_tk, .ref a_rh, .ref a_rs, .ref a_rc, .int k_ln, .int k_pa, .int k_at, .int e_fp])), (a_tk, .inr (8, [.ref a_kd, .ref a_nm, .ref a_pl])), (a_kd, .inl (G.2 0, 401, .inl f_kd))] H := hP
            have hD : va_D A [(a_nm, .inl (G.2 0, 401, .inl f_nm)), (a_rc, .inl (G.2 0, 400, .inl k_rc)), (a_r, .inr (4, [.ref a_tk, .ref a_rh, .ref a_rs, .ref a_rc, .int k_ln, .int k_pa, .int k_at, .int e_fp])), (a_tk, .inr (8, [.ref a_kd, .ref a_nm, .ref a_pl])), (a_kd, .inl (G.2 0, 401, .inl f_kd))] := hD
            refine lv_istore (lv' := [(4, .int 0), (2, .int k_w), (3, .int k_i), (0, .ref a_r), (1, .int p_d)]) hx hb dX4_readTest_48 hl (by decide) rfl (fun ls hl => ?_)
            refine lv_aload_n hx hb dX4_readTest_50 rfl (lv_at hl 3 rfl) ?_
            refine lv_dup hx hb dX4_readTest_51 rfl ?_
            refine va_get (D := G.1) (ci := 4) (v := .int k_at) (C := RX4) (T := TX4) (N := 8) hx hb hts inG_X4 hown hK hP 2 rfl rfl 6 (by decide) (hts _ fl_X4_42) (fun _ h9 => h9) rfl dX4_readTest_52 ?_
            refine lv_iconst (v := 1) hx hb dX4_readTest_55 (by decide) ?_
            refine lv_iadd hx hb dX4_readTest_56 ?_
            have t_60 : (k_at + 1).toInt = k_at.toInt + 1 := g5_iadd (a := k_at.toInt) (b := 1) (by rfl) (by decide) (by omega) (by omega)
            refine va_put (D := G.1) (ci := 4) (v := .int (k_at + 1)) (ty := .int) (C := RX4) (T := TX4) (N := 8) hx hb hts inG_X4 tyX4 tyX4_ok nmX4 hown hK hP hD hS 2 rfl rfl 6 (by decide) (hts _ fl_X4_42) (fun _ h9 => h9) rfl (by decide +kernel) rfl rfl (Nat.le_of_ble_eq_true rfl) dX4_readTest_57 (fun H locs hP hD hS => ?_)
            have hP : va_P G.1 vwCl [(a_nm, .inl (G.2 0, 401, .inl f_nm)), (a_rc, .inl (G.2 0, 400, .inl k_rc)), (a_r, .inr (4, [.ref a_tk, .ref a_rh, .ref a_rs, .ref a_rc, .int k_ln, .int k_pa, .int (k_at + 1), .int e_fp])), (a_tk, .inr (8, [.ref a_kd, .ref a_nm, .ref a_pl])), (a_kd, .inl (G.2 0, 401, .inl f_kd))] H := hP
            have hD : va_D A [(a_nm, .inl (G.2 0, 401, .inl f_nm)), (a_rc, .inl (G.2 0, 400, .inl k_rc)), (a_r, .inr (4, [.ref a_tk, .ref a_rh, .ref a_rs, .ref a_rc, .int k_ln, .int k_pa, .int (k_at + 1), .int e_fp])), (a_tk, .inr (8, [.ref a_kd, .ref a_nm, .ref a_pl])), (a_kd, .inl (G.2 0, 401, .inl f_kd))] := hD
            refine lv_iload hx hb dX4_readTest_60 (lv_at hl 0 rfl) ?_
            refine lv_if_eq (tgt := 70) hx hb dX4_readTest_62 (by decide) (fun c_61 => ?_) (fun c_61 => ?_)
            ·
              refine lv_aload_n hx hb dX4_readTest_70 rfl (lv_at hl 3 rfl) ?_
              refine lv_iload hx hb dX4_readTest_71 (lv_at hl 0 rfl) ?_
              refine lv_if_eq (tgt := 81) hx hb dX4_readTest_73 (by decide) (fun c_62 => ?_) (fun c_62 => ?_)
              ·
                refine lv_bipush (v := 12) hx hb dX4_readTest_81 (by decide) ?_
                refine lv_iconst (v := 0) hx hb dX4_readTest_83 (by decide) ?_
                have hPc := hP.sub (ws' := [(a_r, .inr (4, [.ref a_tk, .ref a_rh, .ref a_rs, .ref a_rc, .int k_ln, .int k_pa, .int (k_at + 1), .int e_fp])), (a_rc, .inl (G.2 0, 400, .inl k_rc))]) [2, 1] rfl
                have hDc := hD.sub (ws' := [(a_r, .inr (4, [.ref a_tk, .ref a_rh, .ref a_rs, .ref a_rc, .int k_ln, .int k_pa, .int (k_at + 1), .int e_fp])), (a_rc, .inl (G.2 0, 400, .inl k_rc))]) [2, 1] (by decide) rfl
                have hFc := va_free (wc := [(a_r, .inr (4, [.ref a_tk, .ref a_rh, .ref a_rs, .ref a_rc, .int k_ln, .int k_pa, .int (k_at + 1), .int e_fp])), (a_rc, .inl (G.2 0, 400, .inl k_rc))]) hD hS hA [2, 1] rfl
                refine va_calli (va_runV (As := [.int 12, .int 0]) (rest := []) ⟨hx, hb, hml, hown, hts⟩ (r_emit l G a_r a_rc a_tk a_rh a_rs H.size k_ln k_pa (k_at + 1) e_fp 12 0 k_rc ⟨by omega, by omega⟩ ⟨by omega, by omega⟩ (i_18) (by unfold wOK; decide)) (cwV 2 hts gV_X4_79 rfl rfl rfl hv_X4_emit ⟨by dsimp only; omega, by dsimp only; omega⟩) (g5_preV hPc hK hDc hN hT hS hFc (ci := 4) (q0 := 0) rfl rfl) rfl rfl hl.1 rfl (lv_room (Nat.le_of_ble_eq_true rfl)) dX4_readTest_84 ⟨Nat.le_of_ble_eq_true rfl, Nat.le_of_ble_eq_true rfl⟩) hS (fun q _ h => hFc q h) hFc (fun r u t H1 locs ht hvm hw hB hz1 hk1 hS => ?_)
                obtain ⟨hP1, hD1⟩ := hB
                rw [ht] at hP1
                obtain ⟨z68, z69, z70, i_63, i_64, i_65, i_66, i_67, y71, rfl⟩ := hw
                have i_63 : -1 ≤ z68.toInt ∧ z68.toInt ≤ 399 := i_63
                have i_64 : k_ln.toInt ≤ z69.toInt ∧ z69.toInt ≤ 400 := i_64
                have i_65 : CDI z70 z69.toInt := i_65
                have i_66 : OPK k_rc z70 k_ln.toInt := i_66
                have i_67 : 0 ≤ z68.toInt → z68.toInt < z69.toInt ∧ z70 z68.toNatClampNeg = (((12 : Int32) <<< (12 &&& 31)) ||| (0 : Int32)) := i_67
                obtain ⟨hP, hD⟩ := va_join (wr := [(a_nm, .inl (G.2 0, 401, .inl f_nm)), (a_tk, .inr (8, [.ref a_kd, .ref a_nm, .ref a_pl])), (a_kd, .inl (G.2 0, 401, .inl f_kd))]) (w1 := [(a_r, .inr (4, [.ref a_tk, .ref a_rh, .ref a_rs, .ref a_rc, .int z69, .int k_pa, .int (k_at + 1), .int e_fp])), (a_rc, .inl (G.2 0, 400, .inl z70))]) hP hD [2, 1] [0, 3, 4] rfl rfl (by decide) (by decide) hk1 hFc hP1 hD1
                generalize H1 = H at hP hS ⊢
                have hP : va_P G.1 vwCl [(a_nm, .inl (G.2 0, 401, .inl f_nm)), (a_tk, .inr (8, [.ref a_kd, .ref a_nm, .ref a_pl])), (a_kd, .inl (G.2 0, 401, .inl f_kd)), (a_r, .inr (4, [.ref a_tk, .ref a_rh, .ref a_rs, .ref a_rc, .int z69, .int k_pa, .int (k_at + 1), .int e_fp])), (a_rc, .inl (G.2 0, 400, .inl z70))] H := hP
                have hD : va_D A [(a_nm, .inl (G.2 0, 401, .inl f_nm)), (a_tk, .inr (8, [.ref a_kd, .ref a_nm, .ref a_pl])), (a_kd, .inl (G.2 0, 401, .inl f_kd)), (a_r, .inr (4, [.ref a_tk, .ref a_rh, .ref a_rs, .ref a_rc, .int z69, .int k_pa, .int (k_at + 1), .int e_fp])), (a_rc, .inl (G.2 0, 400, .inl z70))] := hD
                refine g5_ti (v := z68) y71 ?_
                refine lv_istore (lv' := [(5, .int z68), (4, .int 0), (2, .int k_w), (3, .int k_i), (0, .ref a_r), (1, .int p_d)]) hx hb dX4_readTest_87 hl (by decide) rfl (fun ls hl => ?_)
                refine lv_aload_n hx hb dX4_readTest_89 rfl (lv_at hl 4 rfl) ?_
                refine lv_iload_n hx hb dX4_readTest_90 rfl (lv_at hl 5 rfl) ?_
                have hPc := hP.sub (ws' := [(a_r, .inr (4, [.ref a_tk, .ref a_rh, .ref a_rs, .ref a_rc, .int z69, .int k_pa, .int (k_at + 1), .int e_fp])), (a_tk, .inr (8, [.ref a_kd, .ref a_nm, .ref a_pl])), (a_kd, .inl (G.2 0, 401, .inl f_kd)), (a_nm, .inl (G.2 0, 401, .inl f_nm)), (a_rc, .inl (G.2 0, 400, .inl z70))]) [3, 1, 2, 0, 4] rfl
                have hDc := hD.sub (ws' := [(a_r, .inr (4, [.ref a_tk, .ref a_rh, .ref a_rs, .ref a_rc, .int z69, .int k_pa, .int (k_at + 1), .int e_fp])), (a_tk, .inr (8, [.ref a_kd, .ref a_nm, .ref a_pl])), (a_kd, .inl (G.2 0, 401, .inl f_kd)), (a_nm, .inl (G.2 0, 401, .inl f_nm)), (a_rc, .inl (G.2 0, 400, .inl z70))]) [3, 1, 2, 0, 4] (by decide) rfl
                have hFc := va_free (wc := [(a_r, .inr (4, [.ref a_tk, .ref a_rh, .ref a_rs, .ref a_rc, .int z69, .int k_pa, .int (k_at + 1), .int e_fp])), (a_tk, .inr (8, [.ref a_kd, .ref a_nm, .ref a_pl])), (a_kd, .inl (G.2 0, 401, .inl f_kd)), (a_nm, .inl (G.2 0, 401, .inl f_nm)), (a_rc, .inl (G.2 0, 400, .inl z70))]) hD hS hA [3, 1, 2, 0, 4] rfl
                refine va_calli (va_runV (As := [.int p_d]) (rest := []) ⟨hx, hb, hml, hown, hts⟩ ((r_plain fr lo f2 l2 p_d h_p_d h_sum h_test) l G a_r a_tk a_kd a_nm a_rc a_rh a_rs a_pl H.size z69 k_pa (k_at + 1) e_fp f_kd f_nm z70 ⟨by omega, by omega⟩ ⟨by omega, by omega⟩ (e_tk) (i_65)) (cwV 1 hts gV_X4_83 rfl rfl rfl hv_X4_readPlain ⟨by dsimp only; omega, by dsimp only; omega⟩) (g5_preV hPc hK hDc hN hT hS hFc (ci := 4) (q0 := 0) rfl rfl) rfl rfl hl.1 rfl (lv_room (Nat.le_of_ble_eq_true rfl)) dX4_readTest_91 ⟨Nat.le_of_ble_eq_true rfl, Nat.le_of_ble_eq_true rfl⟩) hS (fun q _ h => hFc q h) hFc (fun r u t H1 locs ht hvm hw hB hz1 hk1 hS => ?_)
                obtain ⟨hP1, hD1⟩ := hB
                rw [ht] at hP1
                obtain ⟨z77, z78, z79, z80, z81, i_72, i_73, i_74, i_75, i_76, y82, rfl⟩ := hw
                have i_72 : 0 ≤ z77.toInt ∧ z77.toInt ≤ 1 := i_72
                have i_73 : z69.toInt ≤ z78.toInt ∧ z78.toInt ≤ 400 := i_73
                have i_74 : 0 ≤ z80.toInt ∧ z80.toInt ≤ 401 := i_74
                have i_75 : CDI z81 z78.toInt := i_75
                have i_76 : OPK z70 z81 z69.toInt := i_76
                obtain ⟨hP, hD⟩ := va_join (wr := []) (w1 := [(a_r, .inr (4, [.ref a_tk, .ref a_rh, .ref a_rs, .ref a_rc, .int z78, .int z79, .int z80, .int e_fp])), (a_tk, .inr (8, [.ref a_kd, .ref a_nm, .ref a_pl])), (a_kd, .inl (G.2 0, 401, .inl f_kd)), (a_nm, .inl (G.2 0, 401, .inl f_nm)), (a_rc, .inl (G.2 0, 400, .inl z81))]) hP hD [3, 1, 2, 0, 4] [] rfl rfl (by decide) (by decide) hk1 hFc hP1 hD1
                generalize H1 = H at hP hS ⊢
                have hP : va_P G.1 vwCl [(a_r, .inr (4, [.ref a_tk, .ref a_rh, .ref a_rs, .ref a_rc, .int z78, .int z79, .int z80, .int e_fp])), (a_tk, .inr (8, [.ref a_kd, .ref a_nm, .ref a_pl])), (a_kd, .inl (G.2 0, 401, .inl f_kd)), (a_nm, .inl (G.2 0, 401, .inl f_nm)), (a_rc, .inl (G.2 0, 400, .inl z81))] H := hP
                have hD : va_D A [(a_r, .inr (4, [.ref a_tk, .ref a_rh, .ref a_rs, .ref a_rc, .int z78, .int z79, .int z80, .int e_fp])), (a_tk, .inr (8, [.ref a_kd, .ref a_nm, .ref a_pl])), (a_kd, .inl (G.2 0, 401, .inl f_kd)), (a_nm, .inl (G.2 0, 401, .inl f_nm)), (a_rc, .inl (G.2 0, 400, .inl z81))] := hD
                refine g5_ti (v := z77) y82 ?_
                refine lv_if_ne (tgt := 99) hx hb dX4_readTest_94 (by decide) (fun c_83 => ?_) (fun c_83 => ?_)
                ·
                  have n_83 : gNe (z77.toInt) (0) := by have z := g5_ne (a := z77.toInt) (b := 0) (by rfl) (by decide) c_83; unfold gNe; omega
                  have i_83 : z77.toInt ≥ 1 := by have z := g5_ne (a := z77.toInt) (b := 0) (by rfl) (by decide) c_83; omega
                  refine lv_iload hx hb dX4_readTest_99 (lv_at hl 1 rfl) ?_
                  refine lv_if_eq (tgt := 110) hx hb dX4_readTest_101 (by decide) (fun c_84 => ?_) (fun c_84 => ?_)
                  ·
                    refine lv_aload_n hx hb dX4_readTest_110 rfl (lv_at hl 4 rfl) ?_
                    refine lv_iload hx hb dX4_readTest_111 (lv_at hl 0 rfl) ?_
                    have hPc := hP.sub (ws' := [(a_r, .inr (4, [.ref a_tk, .ref a_rh, .ref a_rs, .ref a_rc, .int z78, .int z79, .int z80, .int e_fp])), (a_rc, .inl (G.2 0, 400, .inl z81))]) [0, 4] rfl
                    have hDc := hD.sub (ws' := [(a_r, .inr (4, [.ref a_tk, .ref a_rh, .ref a_rs, .ref a_rc, .int z78, .int z79, .int z80, .int e_fp])), (a_rc, .inl (G.2 0, 400, .inl z81))]) [0, 4] (by decide) rfl
                    have hFc := va_free (wc := [(a_r, .inr (4, [.ref a_tk, .ref a_rh, .ref a_rs, .ref a_rc, .int z78, .int z79, .int z80, .int e_fp])), (a_rc, .inl (G.2 0, 400, .inl z81))]) hD hS hA [0, 4] rfl
                    refine va_callv (va_runV (As := [.int z68]) (rest := []) ⟨hx, hb, hml, hown, hts⟩ (r_jump l G a_r a_rc a_tk a_rh a_rs H.size z78 z79 z80 e_fp z68 z81 ⟨by omega, by omega⟩ ⟨by omega, by omega⟩ (i_75) (jok_opk (jok_emit i_67 (by decide)) (i_76) (by omega))) (cwV 1 hts gV_X4_86 rfl rfl rfl hv_X4_jumpHere ⟨by dsimp only; omega, by dsimp only; omega⟩) (g5_preV hPc hK hDc hN hT hS hFc (ci := 4) (q0 := 0) rfl rfl) rfl rfl hl.1 rfl (lv_room (Nat.le_of_ble_eq_true rfl)) dX4_readTest_113 ⟨Nat.le_of_ble_eq_true rfl, Nat.le_of_ble_eq_true rfl⟩) hS (fun q _ h => hFc q h) hFc (fun u t H1 locs ht hvm hw hB hz1 hk1 hS => ?_)
                    obtain ⟨hP1, hD1⟩ := hB
                    rw [ht] at hP1
                    obtain ⟨z87, i_85, i_86, rfl⟩ := hw
                    have i_85 : CDI z87 z78.toInt := i_85
                    have i_86 : OPK z81 z87 z78.toInt := i_86
                    obtain ⟨hP, hD⟩ := va_join (wr := [(a_tk, .inr (8, [.ref a_kd, .ref a_nm, .ref a_pl])), (a_kd, .inl (G.2 0, 401, .inl f_kd)), (a_nm, .inl (G.2 0, 401, .inl f_nm))]) (w1 := [(a_r, .inr (4, [.ref a_tk, .ref a_rh, .ref a_rs, .ref a_rc, .int z78, .int z79, .int z80, .int e_fp])), (a_rc, .inl (G.2 0, 400, .inl z87))]) hP hD [0, 4] [1, 2, 3] rfl rfl (by decide) (by decide) hk1 hFc hP1 hD1
                    generalize H1 = H at hP hS ⊢
                    have hP : va_P G.1 vwCl [(a_tk, .inr (8, [.ref a_kd, .ref a_nm, .ref a_pl])), (a_kd, .inl (G.2 0, 401, .inl f_kd)), (a_nm, .inl (G.2 0, 401, .inl f_nm)), (a_r, .inr (4, [.ref a_tk, .ref a_rh, .ref a_rs, .ref a_rc, .int z78, .int z79, .int z80, .int e_fp])), (a_rc, .inl (G.2 0, 400, .inl z87))] H := hP
                    have hD : va_D A [(a_tk, .inr (8, [.ref a_kd, .ref a_nm, .ref a_pl])), (a_kd, .inl (G.2 0, 401, .inl f_kd)), (a_nm, .inl (G.2 0, 401, .inl f_nm)), (a_r, .inr (4, [.ref a_tk, .ref a_rh, .ref a_rs, .ref a_rc, .int z78, .int z79, .int z80, .int e_fp])), (a_rc, .inl (G.2 0, 400, .inl z87))] := hD
                    refine lv_iinc (v := (k_i + 1)) (lv' := [(3, .int (k_i + 1)), (5, .int z68), (4, .int 0), (2, .int k_w), (0, .ref a_r), (1, .int p_d)]) hx hb dX4_readTest_116 hl (k := 3) rfl rfl (by decide) rfl (fun ls hl => ?_)
                    have t_88 : (k_i + 1).toInt = k_i.toInt + 1 := g5_iadd (a := k_i.toInt) (b := 1) rfl (by decide) (by omega) (by omega)
                    refine lv_goto (tgt := 14) hx hb dX4_readTest_119 (by decide) ?_
                    exact ih_14_21 (k_w, (k_i + 1), z78, z79, z80, z87) ls H locs (show Int.toNat (400 - (k_i + 1).toInt) < Int.toNat (400 - k_i.toInt) from g_up (show k_i.toInt < (k_i + 1).toInt by omega) (show k_i.toInt < 400 by omega)) ⟨lv_sub hl [3, 0, 4, 5] rfl, hP.sub [3, 0, 1, 2, 4] rfl, hD.sub [3, 0, 1, 2, 4] (by decide) rfl, hS, ⟨by omega, by omega⟩, ⟨by omega, by omega⟩, ⟨by omega, by omega⟩, ⟨by omega, by omega⟩, by omega, i_85, opk_trans i_19 (opk_trans i_66 (opk_trans i_76 (i_86) (by omega)) (by omega)) (by omega), jok_opk i_20 (opk_trans i_66 (opk_trans i_76 (i_86) (by omega)) (by omega)) (by omega)⟩
                  ·
                    exact absurd c_84 (by decide)
                ·
                  have i_83 : z77.toInt = 0 := by have z := g5_neN (a := z77.toInt) (b := 0) (by rfl) (by decide) c_83; omega
                  refine lv_iconst (v := 0) hx hb dX4_readTest_97 (by decide) ?_
                  exact W.zret (v := 0) hx hb hr rfl (fun t ht hW => ⟨⟨0, [(a_r, .inr (4, [.ref a_tk, .ref a_rh, .ref a_rs, .ref a_rc, .int z78, .int z79, .int z80, .int e_fp])), (a_tk, .inr (8, [.ref a_kd, .ref a_nm, .ref a_pl])), (a_kd, .inl (G.2 0, 401, .inl f_kd)), (a_nm, .inl (G.2 0, 401, .inl f_nm)), (a_rc, .inl (G.2 0, 400, .inl z81))], rfl, ⟨0, z78, z79, z80, z81, ⟨by have zc_o_r : (0 : Int32).toInt = 0 := (by decide); omega, by have zc_o_r : (0 : Int32).toInt = 0 := (by decide); omega⟩, ⟨by omega, by omega⟩, ⟨by omega, by omega⟩, i_75, opk_trans i_19 (opk_trans i_66 (i_76) (by omega)) (by omega), rfl, rfl⟩, by rw [ht]; exact hP.sub [0, 1, 2, 3, 4] rfl, hD.sub [0, 1, 2, 3, 4] (by decide) rfl⟩, hS.F ht⟩) hS.2.2 dX4_readTest_98
              ·
                exact absurd c_62 (by decide)
            ·
              exact absurd c_61 (by decide)
        ·
          exact absurd c_28 (by decide)
      ·
        obtain ⟨hP, hD⟩ := va_join (wr := [(a_nm, .inl (G.2 0, 401, .inl f_nm)), (a_rc, .inl (G.2 0, 400, .inl k_rc))]) (w1 := [(a_r, .inr (4, [.ref a_tk, .ref a_rh, .ref a_rs, .ref a_rc, .int k_ln, .int k_pa, .int k_at, .int e_fp])), (a_tk, .inr (8, [.ref a_kd, .ref a_nm, .ref a_pl])), (a_kd, .inl (G.2 0, 401, .inl f_kd))]) hP hD [0, 1, 2] [3, 4] rfl rfl (by decide) (by decide) hk1 hFc hP1 hD1
        generalize H1 = H at hP hS ⊢
        have hP : va_P G.1 vwCl [(a_nm, .inl (G.2 0, 401, .inl f_nm)), (a_rc, .inl (G.2 0, 400, .inl k_rc)), (a_r, .inr (4, [.ref a_tk, .ref a_rh, .ref a_rs, .ref a_rc, .int k_ln, .int k_pa, .int k_at, .int e_fp])), (a_tk, .inr (8, [.ref a_kd, .ref a_nm, .ref a_pl])), (a_kd, .inl (G.2 0, 401, .inl f_kd))] H := hP
        have hD : va_D A [(a_nm, .inl (G.2 0, 401, .inl f_nm)), (a_rc, .inl (G.2 0, 400, .inl k_rc)), (a_r, .inr (4, [.ref a_tk, .ref a_rh, .ref a_rs, .ref a_rc, .int k_ln, .int k_pa, .int k_at, .int e_fp])), (a_tk, .inr (8, [.ref a_kd, .ref a_nm, .ref a_pl])), (a_kd, .inl (G.2 0, 401, .inl f_kd))] := hD
        refine lv_if_ne (tgt := 41) hx hb dX4_readTest_28 (by decide) (fun c_89 => ?_) (fun c_89 => ?_)
        ·
          exact absurd c_89 (by decide)
        ·
          refine lv_aload_n hx hb dX4_readTest_31 rfl (lv_at hl 2 rfl) ?_
          refine lv_sipush (v := 262) hx hb dX4_readTest_32 (by decide) ?_
          have hPc := hP.sub (ws' := [(a_r, .inr (4, [.ref a_tk, .ref a_rh, .ref a_rs, .ref a_rc, .int k_ln, .int k_pa, .int k_at, .int e_fp])), (a_tk, .inr (8, [.ref a_kd, .ref a_nm, .ref a_pl])), (a_kd, .inl (G.2 0, 401, .inl f_kd))]) [2, 3, 4] rfl
          have hDc := hD.sub (ws' := [(a_r, .inr (4, [.ref a_tk, .ref a_rh, .ref a_rs, .ref a_rc, .int k_ln, .int k_pa, .int k_at, .int e_fp])), (a_tk, .inr (8, [.ref a_kd, .ref a_nm, .ref a_pl])), (a_kd, .inl (G.2 0, 401, .inl f_kd))]) [2, 3, 4] (by decide) rfl
          have hFc := va_free (wc := [(a_r, .inr (4, [.ref a_tk, .ref a_rh, .ref a_rs, .ref a_rc, .int k_ln, .int k_pa, .int k_at, .int e_fp])), (a_tk, .inr (8, [.ref a_kd, .ref a_nm, .ref a_pl])), (a_kd, .inl (G.2 0, 401, .inl f_kd))]) hD hS hA [2, 3, 4] rfl
          refine va_calli (va_runV (As := [.int 262]) (rest := []) ⟨hx, hb, hml, hown, hts⟩ (r_isNext l G a_r a_tk a_kd a_rh a_rs a_rc a_nm a_pl H.size k_ln k_pa k_at e_fp 262 f_kd ⟨by omega, by omega⟩ ⟨by omega, by omega⟩) (cwV 1 hts gV_X4_49 rfl rfl rfl hv_X4_isNext ⟨by dsimp only; omega, by dsimp only; omega⟩) (g5_preV hPc hK hDc hN hT hS hFc (ci := 4) (q0 := 0) rfl rfl) rfl rfl hl.1 rfl (lv_room (Nat.le_of_ble_eq_true rfl)) dX4_readTest_35 ⟨Nat.le_of_ble_eq_true rfl, Nat.le_of_ble_eq_true rfl⟩) hS (fun q _ h => hFc q h) hFc (fun r u t H1 locs ht hvm hw hB hz1 hk1 hS => ?_)
          obtain ⟨hP1, hD1⟩ := hB
          rw [ht] at hP1
          rcases hw with ⟨i_90, i_91, rfl, rfl⟩ | ⟨rfl, rfl⟩
          ·
            have i_90 : k_at.toInt ≤ 400 := i_90
            have i_91 : f_kd k_at.toNatClampNeg = (262 : Int32) := i_91
            obtain ⟨hP, hD⟩ := va_join (wr := [(a_nm, .inl (G.2 0, 401, .inl f_nm)), (a_rc, .inl (G.2 0, 400, .inl k_rc))]) (w1 := [(a_r, .inr (4, [.ref a_tk, .ref a_rh, .ref a_rs, .ref a_rc, .int k_ln, .int k_pa, .int k_at, .int e_fp])), (a_tk, .inr (8, [.ref a_kd, .ref a_nm, .ref a_pl])), (a_kd, .inl (G.2 0, 401, .inl f_kd))]) hP hD [2, 3, 4] [0, 1] rfl rfl (by decide) (by decide) hk1 hFc hP1 hD1
            generalize H1 = H at hP hS ⊢
            have hP : va_P G.1 vwCl [(a_nm, .inl (G.2 0, 401, .inl f_nm)), (a_rc, .inl (G.2 0, 400, .inl k_rc)), (a_r, .inr (4, [.ref a_tk, .ref a_rh, .ref a_rs, .ref a_rc, .int k_ln, .int k_pa, .int k_at, .int e_fp])), (a_tk, .inr (8, [.ref a_kd, .ref a_nm, .ref a_pl])), (a_kd, .inl (G.2 0, 401, .inl f_kd))] H := hP
            have hD : va_D A [(a_nm, .inl (G.2 0, 401, .inl f_nm)), (a_rc, .inl (G.2 0, 400, .inl k_rc)), (a_r, .inr (4, [.ref a_tk, .ref a_rh, .ref a_rs, .ref a_rc, .int k_ln, .int k_pa, .int k_at, .int e_fp])), (a_tk, .inr (8, [.ref a_kd, .ref a_nm, .ref a_pl])), (a_kd, .inl (G.2 0, 401, .inl f_kd))] := hD
            refine lv_if_eq (tgt := 122) hx hb dX4_readTest_38 (by decide) (fun c_92 => ?_) (fun c_92 => ?_)
            ·
              exact absurd c_92 (by decide)
            ·
              refine lv_aload_n hx hb dX4_readTest_41 rfl (lv_at hl 2 rfl) ?_
              refine lv_sipush (v := 261) hx hb dX4_readTest_42 (by decide) ?_
              have hPc := hP.sub (ws' := [(a_r, .inr (4, [.ref a_tk, .ref a_rh, .ref a_rs, .ref a_rc, .int k_ln, .int k_pa, .int k_at, .int e_fp])), (a_tk, .inr (8, [.ref a_kd, .ref a_nm, .ref a_pl])), (a_kd, .inl (G.2 0, 401, .inl f_kd))]) [2, 3, 4] rfl
              have hDc := hD.sub (ws' := [(a_r, .inr (4, [.ref a_tk, .ref a_rh, .ref a_rs, .ref a_rc, .int k_ln, .int k_pa, .int k_at, .int e_fp])), (a_tk, .inr (8, [.ref a_kd, .ref a_nm, .ref a_pl])), (a_kd, .inl (G.2 0, 401, .inl f_kd))]) [2, 3, 4] (by decide) rfl
              have hFc := va_free (wc := [(a_r, .inr (4, [.ref a_tk, .ref a_rh, .ref a_rs, .ref a_rc, .int k_ln, .int k_pa, .int k_at, .int e_fp])), (a_tk, .inr (8, [.ref a_kd, .ref a_nm, .ref a_pl])), (a_kd, .inl (G.2 0, 401, .inl f_kd))]) hD hS hA [2, 3, 4] rfl
              refine va_calli (va_runV (As := [.int 261]) (rest := []) ⟨hx, hb, hml, hown, hts⟩ (r_isNext l G a_r a_tk a_kd a_rh a_rs a_rc a_nm a_pl H.size k_ln k_pa k_at e_fp 261 f_kd ⟨by omega, by omega⟩ ⟨by omega, by omega⟩) (cwV 1 hts gV_X4_49 rfl rfl rfl hv_X4_isNext ⟨by dsimp only; omega, by dsimp only; omega⟩) (g5_preV hPc hK hDc hN hT hS hFc (ci := 4) (q0 := 0) rfl rfl) rfl rfl hl.1 rfl (lv_room (Nat.le_of_ble_eq_true rfl)) dX4_readTest_45 ⟨Nat.le_of_ble_eq_true rfl, Nat.le_of_ble_eq_true rfl⟩) hS (fun q _ h => hFc q h) hFc (fun r u t H1 locs ht hvm hw hB hz1 hk1 hS => ?_)
              obtain ⟨hP1, hD1⟩ := hB
              rw [ht] at hP1
              rcases hw with ⟨i_93, i_94, rfl, rfl⟩ | ⟨rfl, rfl⟩
              ·
                have i_93 : k_at.toInt ≤ 400 := i_93
                have i_94 : f_kd k_at.toNatClampNeg = (261 : Int32) := i_94
                obtain ⟨hP, hD⟩ := va_join (wr := [(a_nm, .inl (G.2 0, 401, .inl f_nm)), (a_rc, .inl (G.2 0, 400, .inl k_rc))]) (w1 := [(a_r, .inr (4, [.ref a_tk, .ref a_rh, .ref a_rs, .ref a_rc, .int k_ln, .int k_pa, .int k_at, .int e_fp])), (a_tk, .inr (8, [.ref a_kd, .ref a_nm, .ref a_pl])), (a_kd, .inl (G.2 0, 401, .inl f_kd))]) hP hD [2, 3, 4] [0, 1] rfl rfl (by decide) (by decide) hk1 hFc hP1 hD1
                generalize H1 = H at hP hS ⊢
                have hP : va_P G.1 vwCl [(a_nm, .inl (G.2 0, 401, .inl f_nm)), (a_rc, .inl (G.2 0, 400, .inl k_rc)), (a_r, .inr (4, [.ref a_tk, .ref a_rh, .ref a_rs, .ref a_rc, .int k_ln, .int k_pa, .int k_at, .int e_fp])), (a_tk, .inr (8, [.ref a_kd, .ref a_nm, .ref a_pl])), (a_kd, .inl (G.2 0, 401, .inl f_kd))] H := hP
                have hD : va_D A [(a_nm, .inl (G.2 0, 401, .inl f_nm)), (a_rc, .inl (G.2 0, 400, .inl k_rc)), (a_r, .inr (4, [.ref a_tk, .ref a_rh, .ref a_rs, .ref a_rc, .int k_ln, .int k_pa, .int k_at, .int e_fp])), (a_tk, .inr (8, [.ref a_kd, .ref a_nm, .ref a_pl])), (a_kd, .inl (G.2 0, 401, .inl f_kd))] := hD
                refine lv_istore (lv' := [(4, .int 1), (2, .int k_w), (3, .int k_i), (0, .ref a_r), (1, .int p_d)]) hx hb dX4_readTest_48 hl (by decide) rfl (fun ls hl => ?_)
                refine lv_aload_n hx hb dX4_readTest_50 rfl (lv_at hl 3 rfl) ?_
                refine lv_dup hx hb dX4_readTest_51 rfl ?_
                refine va_get (D := G.1) (ci := 4) (v := .int k_at) (C := RX4) (T := TX4) (N := 8) hx hb hts inG_X4 hown hK hP 2 rfl rfl 6 (by decide) (hts _ fl_X4_42) (fun _ h9 => h9) rfl dX4_readTest_52 ?_
                refine lv_iconst (v := 1) hx hb dX4_readTest_55 (by decide) ?_
                refine lv_iadd hx hb dX4_readTest_56 ?_
                have t_95 : (k_at + 1).toInt = k_at.toInt + 1 := g5_iadd (a := k_at.toInt) (b := 1) (by rfl) (by decide) (by omega) (by omega)
                refine va_put (D := G.1) (ci := 4) (v := .int (k_at + 1)) (ty := .int) (C := RX4) (T := TX4) (N := 8) hx hb hts inG_X4 tyX4 tyX4_ok nmX4 hown hK hP hD hS 2 rfl rfl 6 (by decide) (hts _ fl_X4_42) (fun _ h9 => h9) rfl (by decide +kernel) rfl rfl (Nat.le_of_ble_eq_true rfl) dX4_readTest_57 (fun H locs hP hD hS => ?_)
                have hP : va_P G.1 vwCl [(a_nm, .inl (G.2 0, 401, .inl f_nm)), (a_rc, .inl (G.2 0, 400, .inl k_rc)), (a_r, .inr (4, [.ref a_tk, .ref a_rh, .ref a_rs, .ref a_rc, .int k_ln, .int k_pa, .int (k_at + 1), .int e_fp])), (a_tk, .inr (8, [.ref a_kd, .ref a_nm, .ref a_pl])), (a_kd, .inl (G.2 0, 401, .inl f_kd))] H := hP
                have hD : va_D A [(a_nm, .inl (G.2 0, 401, .inl f_nm)), (a_rc, .inl (G.2 0, 400, .inl k_rc)), (a_r, .inr (4, [.ref a_tk, .ref a_rh, .ref a_rs, .ref a_rc, .int k_ln, .int k_pa, .int (k_at + 1), .int e_fp])), (a_tk, .inr (8, [.ref a_kd, .ref a_nm, .ref a_pl])), (a_kd, .inl (G.2 0, 401, .inl f_kd))] := hD
                refine lv_iload hx hb dX4_readTest_60 (lv_at hl 0 rfl) ?_
                refine lv_if_eq (tgt := 70) hx hb dX4_readTest_62 (by decide) (fun c_96 => ?_) (fun c_96 => ?_)
                ·
                  exact absurd c_96 (by decide)
                ·
                  refine lv_aload_n hx hb dX4_readTest_65 rfl (lv_at hl 3 rfl) ?_
                  refine lv_iload_n hx hb dX4_readTest_66 rfl (lv_at hl 1 rfl) ?_
                  have hPc := hP.sub (ws' := [(a_r, .inr (4, [.ref a_tk, .ref a_rh, .ref a_rs, .ref a_rc, .int k_ln, .int k_pa, .int (k_at + 1), .int e_fp])), (a_rc, .inl (G.2 0, 400, .inl k_rc))]) [2, 1] rfl
                  have hDc := hD.sub (ws' := [(a_r, .inr (4, [.ref a_tk, .ref a_rh, .ref a_rs, .ref a_rc, .int k_ln, .int k_pa, .int (k_at + 1), .int e_fp])), (a_rc, .inl (G.2 0, 400, .inl k_rc))]) [2, 1] (by decide) rfl
                  have hFc := va_free (wc := [(a_r, .inr (4, [.ref a_tk, .ref a_rh, .ref a_rs, .ref a_rc, .int k_ln, .int k_pa, .int (k_at + 1), .int e_fp])), (a_rc, .inl (G.2 0, 400, .inl k_rc))]) hD hS hA [2, 1] rfl
                  refine va_callv (va_runV (As := [.int k_w]) (rest := []) ⟨hx, hb, hml, hown, hts⟩ (r_jump l G a_r a_rc a_tk a_rh a_rs H.size k_ln k_pa (k_at + 1) e_fp k_w k_rc ⟨by omega, by omega⟩ ⟨by omega, by omega⟩ (i_18) (i_20)) (cwV 1 hts gV_X4_86 rfl rfl rfl hv_X4_jumpHere ⟨by dsimp only; omega, by dsimp only; omega⟩) (g5_preV hPc hK hDc hN hT hS hFc (ci := 4) (q0 := 0) rfl rfl) rfl rfl hl.1 rfl (lv_room (Nat.le_of_ble_eq_true rfl)) dX4_readTest_67 ⟨Nat.le_of_ble_eq_true rfl, Nat.le_of_ble_eq_true rfl⟩) hS (fun q _ h => hFc q h) hFc (fun u t H1 locs ht hvm hw hB hz1 hk1 hS => ?_)
                  obtain ⟨hP1, hD1⟩ := hB
                  rw [ht] at hP1
                  obtain ⟨z99, i_97, i_98, rfl⟩ := hw
                  have i_97 : CDI z99 k_ln.toInt := i_97
                  have i_98 : OPK k_rc z99 k_ln.toInt := i_98
                  obtain ⟨hP, hD⟩ := va_join (wr := [(a_nm, .inl (G.2 0, 401, .inl f_nm)), (a_tk, .inr (8, [.ref a_kd, .ref a_nm, .ref a_pl])), (a_kd, .inl (G.2 0, 401, .inl f_kd))]) (w1 := [(a_r, .inr (4, [.ref a_tk, .ref a_rh, .ref a_rs, .ref a_rc, .int k_ln, .int k_pa, .int (k_at + 1), .int e_fp])), (a_rc, .inl (G.2 0, 400, .inl z99))]) hP hD [2, 1] [0, 3, 4] rfl rfl (by decide) (by decide) hk1 hFc hP1 hD1
                  generalize H1 = H at hP hS ⊢
                  have hP : va_P G.1 vwCl [(a_nm, .inl (G.2 0, 401, .inl f_nm)), (a_tk, .inr (8, [.ref a_kd, .ref a_nm, .ref a_pl])), (a_kd, .inl (G.2 0, 401, .inl f_kd)), (a_r, .inr (4, [.ref a_tk, .ref a_rh, .ref a_rs, .ref a_rc, .int k_ln, .int k_pa, .int (k_at + 1), .int e_fp])), (a_rc, .inl (G.2 0, 400, .inl z99))] H := hP
                  have hD : va_D A [(a_nm, .inl (G.2 0, 401, .inl f_nm)), (a_tk, .inr (8, [.ref a_kd, .ref a_nm, .ref a_pl])), (a_kd, .inl (G.2 0, 401, .inl f_kd)), (a_r, .inr (4, [.ref a_tk, .ref a_rh, .ref a_rs, .ref a_rc, .int k_ln, .int k_pa, .int (k_at + 1), .int e_fp])), (a_rc, .inl (G.2 0, 400, .inl z99))] := hD
                  refine lv_aload_n hx hb dX4_readTest_70 rfl (lv_at hl 3 rfl) ?_
                  refine lv_iload hx hb dX4_readTest_71 (lv_at hl 0 rfl) ?_
                  refine lv_if_eq (tgt := 81) hx hb dX4_readTest_73 (by decide) (fun c_100 => ?_) (fun c_100 => ?_)
                  ·
                    exact absurd c_100 (by decide)
                  ·
                    refine lv_bipush (v := 11) hx hb dX4_readTest_76 (by decide) ?_
                    refine lv_goto (tgt := 83) hx hb dX4_readTest_78 (by decide) ?_
                    refine lv_iconst (v := 0) hx hb dX4_readTest_83 (by decide) ?_
                    have hPc := hP.sub (ws' := [(a_r, .inr (4, [.ref a_tk, .ref a_rh, .ref a_rs, .ref a_rc, .int k_ln, .int k_pa, .int (k_at + 1), .int e_fp])), (a_rc, .inl (G.2 0, 400, .inl z99))]) [3, 4] rfl
                    have hDc := hD.sub (ws' := [(a_r, .inr (4, [.ref a_tk, .ref a_rh, .ref a_rs, .ref a_rc, .int k_ln, .int k_pa, .int (k_at + 1), .int e_fp])), (a_rc, .inl (G.2 0, 400, .inl z99))]) [3, 4] (by decide) rfl
                    have hFc := va_free (wc := [(a_r, .inr (4, [.ref a_tk, .ref a_rh, .ref a_rs, .ref a_rc, .int k_ln, .int k_pa, .int (k_at + 1), .int e_fp])), (a_rc, .inl (G.2 0, 400, .inl z99))]) hD hS hA [3, 4] rfl
                    refine va_calli (va_runV (As := [.int 11, .int 0]) (rest := []) ⟨hx, hb, hml, hown, hts⟩ (r_emit l G a_r a_rc a_tk a_rh a_rs H.size k_ln k_pa (k_at + 1) e_fp 11 0 z99 ⟨by omega, by omega⟩ ⟨by omega, by omega⟩ (i_97) (by unfold wOK; decide)) (cwV 2 hts gV_X4_79 rfl rfl rfl hv_X4_emit ⟨by dsimp only; omega, by dsimp only; omega⟩) (g5_preV hPc hK hDc hN hT hS hFc (ci := 4) (q0 := 0) rfl rfl) rfl rfl hl.1 rfl (lv_room (Nat.le_of_ble_eq_true rfl)) dX4_readTest_84 ⟨Nat.le_of_ble_eq_true rfl, Nat.le_of_ble_eq_true rfl⟩) hS (fun q _ h => hFc q h) hFc (fun r u t H1 locs ht hvm hw hB hz1 hk1 hS => ?_)
                    obtain ⟨hP1, hD1⟩ := hB
                    rw [ht] at hP1
                    obtain ⟨z106, z107, z108, i_101, i_102, i_103, i_104, i_105, y109, rfl⟩ := hw
                    have i_101 : -1 ≤ z106.toInt ∧ z106.toInt ≤ 399 := i_101
                    have i_102 : k_ln.toInt ≤ z107.toInt ∧ z107.toInt ≤ 400 := i_102
                    have i_103 : CDI z108 z107.toInt := i_103
                    have i_104 : OPK z99 z108 k_ln.toInt := i_104
                    have i_105 : 0 ≤ z106.toInt → z106.toInt < z107.toInt ∧ z108 z106.toNatClampNeg = (((11 : Int32) <<< (12 &&& 31)) ||| (0 : Int32)) := i_105
                    obtain ⟨hP, hD⟩ := va_join (wr := [(a_nm, .inl (G.2 0, 401, .inl f_nm)), (a_tk, .inr (8, [.ref a_kd, .ref a_nm, .ref a_pl])), (a_kd, .inl (G.2 0, 401, .inl f_kd))]) (w1 := [(a_r, .inr (4, [.ref a_tk, .ref a_rh, .ref a_rs, .ref a_rc, .int z107, .int k_pa, .int (k_at + 1), .int e_fp])), (a_rc, .inl (G.2 0, 400, .inl z108))]) hP hD [3, 4] [0, 1, 2] rfl rfl (by decide) (by decide) hk1 hFc hP1 hD1
                    generalize H1 = H at hP hS ⊢
                    have hP : va_P G.1 vwCl [(a_nm, .inl (G.2 0, 401, .inl f_nm)), (a_tk, .inr (8, [.ref a_kd, .ref a_nm, .ref a_pl])), (a_kd, .inl (G.2 0, 401, .inl f_kd)), (a_r, .inr (4, [.ref a_tk, .ref a_rh, .ref a_rs, .ref a_rc, .int z107, .int k_pa, .int (k_at + 1), .int e_fp])), (a_rc, .inl (G.2 0, 400, .inl z108))] H := hP
                    have hD : va_D A [(a_nm, .inl (G.2 0, 401, .inl f_nm)), (a_tk, .inr (8, [.ref a_kd, .ref a_nm, .ref a_pl])), (a_kd, .inl (G.2 0, 401, .inl f_kd)), (a_r, .inr (4, [.ref a_tk, .ref a_rh, .ref a_rs, .ref a_rc, .int z107, .int k_pa, .int (k_at + 1), .int e_fp])), (a_rc, .inl (G.2 0, 400, .inl z108))] := hD
                    refine g5_ti (v := z106) y109 ?_
                    refine lv_istore (lv' := [(5, .int z106), (4, .int 1), (2, .int k_w), (3, .int k_i), (0, .ref a_r), (1, .int p_d)]) hx hb dX4_readTest_87 hl (by decide) rfl (fun ls hl => ?_)
                    refine lv_aload_n hx hb dX4_readTest_89 rfl (lv_at hl 4 rfl) ?_
                    refine lv_iload_n hx hb dX4_readTest_90 rfl (lv_at hl 5 rfl) ?_
                    have hPc := hP.sub (ws' := [(a_r, .inr (4, [.ref a_tk, .ref a_rh, .ref a_rs, .ref a_rc, .int z107, .int k_pa, .int (k_at + 1), .int e_fp])), (a_tk, .inr (8, [.ref a_kd, .ref a_nm, .ref a_pl])), (a_kd, .inl (G.2 0, 401, .inl f_kd)), (a_nm, .inl (G.2 0, 401, .inl f_nm)), (a_rc, .inl (G.2 0, 400, .inl z108))]) [3, 1, 2, 0, 4] rfl
                    have hDc := hD.sub (ws' := [(a_r, .inr (4, [.ref a_tk, .ref a_rh, .ref a_rs, .ref a_rc, .int z107, .int k_pa, .int (k_at + 1), .int e_fp])), (a_tk, .inr (8, [.ref a_kd, .ref a_nm, .ref a_pl])), (a_kd, .inl (G.2 0, 401, .inl f_kd)), (a_nm, .inl (G.2 0, 401, .inl f_nm)), (a_rc, .inl (G.2 0, 400, .inl z108))]) [3, 1, 2, 0, 4] (by decide) rfl
                    have hFc := va_free (wc := [(a_r, .inr (4, [.ref a_tk, .ref a_rh, .ref a_rs, .ref a_rc, .int z107, .int k_pa, .int (k_at + 1), .int e_fp])), (a_tk, .inr (8, [.ref a_kd, .ref a_nm, .ref a_pl])), (a_kd, .inl (G.2 0, 401, .inl f_kd)), (a_nm, .inl (G.2 0, 401, .inl f_nm)), (a_rc, .inl (G.2 0, 400, .inl z108))]) hD hS hA [3, 1, 2, 0, 4] rfl
                    refine va_calli (va_runV (As := [.int p_d]) (rest := []) ⟨hx, hb, hml, hown, hts⟩ ((r_plain fr lo f2 l2 p_d h_p_d h_sum h_test) l G a_r a_tk a_kd a_nm a_rc a_rh a_rs a_pl H.size z107 k_pa (k_at + 1) e_fp f_kd f_nm z108 ⟨by omega, by omega⟩ ⟨by omega, by omega⟩ (e_tk) (i_103)) (cwV 1 hts gV_X4_83 rfl rfl rfl hv_X4_readPlain ⟨by dsimp only; omega, by dsimp only; omega⟩) (g5_preV hPc hK hDc hN hT hS hFc (ci := 4) (q0 := 0) rfl rfl) rfl rfl hl.1 rfl (lv_room (Nat.le_of_ble_eq_true rfl)) dX4_readTest_91 ⟨Nat.le_of_ble_eq_true rfl, Nat.le_of_ble_eq_true rfl⟩) hS (fun q _ h => hFc q h) hFc (fun r u t H1 locs ht hvm hw hB hz1 hk1 hS => ?_)
                    obtain ⟨hP1, hD1⟩ := hB
                    rw [ht] at hP1
                    obtain ⟨z115, z116, z117, z118, z119, i_110, i_111, i_112, i_113, i_114, y120, rfl⟩ := hw
                    have i_110 : 0 ≤ z115.toInt ∧ z115.toInt ≤ 1 := i_110
                    have i_111 : z107.toInt ≤ z116.toInt ∧ z116.toInt ≤ 400 := i_111
                    have i_112 : 0 ≤ z118.toInt ∧ z118.toInt ≤ 401 := i_112
                    have i_113 : CDI z119 z116.toInt := i_113
                    have i_114 : OPK z108 z119 z107.toInt := i_114
                    obtain ⟨hP, hD⟩ := va_join (wr := []) (w1 := [(a_r, .inr (4, [.ref a_tk, .ref a_rh, .ref a_rs, .ref a_rc, .int z116, .int z117, .int z118, .int e_fp])), (a_tk, .inr (8, [.ref a_kd, .ref a_nm, .ref a_pl])), (a_kd, .inl (G.2 0, 401, .inl f_kd)), (a_nm, .inl (G.2 0, 401, .inl f_nm)), (a_rc, .inl (G.2 0, 400, .inl z119))]) hP hD [3, 1, 2, 0, 4] [] rfl rfl (by decide) (by decide) hk1 hFc hP1 hD1
                    generalize H1 = H at hP hS ⊢
                    have hP : va_P G.1 vwCl [(a_r, .inr (4, [.ref a_tk, .ref a_rh, .ref a_rs, .ref a_rc, .int z116, .int z117, .int z118, .int e_fp])), (a_tk, .inr (8, [.ref a_kd, .ref a_nm, .ref a_pl])), (a_kd, .inl (G.2 0, 401, .inl f_kd)), (a_nm, .inl (G.2 0, 401, .inl f_nm)), (a_rc, .inl (G.2 0, 400, .inl z119))] H := hP
                    have hD : va_D A [(a_r, .inr (4, [.ref a_tk, .ref a_rh, .ref a_rs, .ref a_rc, .int z116, .int z117, .int z118, .int e_fp])), (a_tk, .inr (8, [.ref a_kd, .ref a_nm, .ref a_pl])), (a_kd, .inl (G.2 0, 401, .inl f_kd)), (a_nm, .inl (G.2 0, 401, .inl f_nm)), (a_rc, .inl (G.2 0, 400, .inl z119))] := hD
                    refine g5_ti (v := z115) y120 ?_
                    refine lv_if_ne (tgt := 99) hx hb dX4_readTest_94 (by decide) (fun c_121 => ?_) (fun c_121 => ?_)
                    ·
                      have n_121 : gNe (z115.toInt) (0) := by have z := g5_ne (a := z115.toInt) (b := 0) (by rfl) (by decide) c_121; unfold gNe; omega
                      have i_121 : z115.toInt ≥ 1 := by have z := g5_ne (a := z115.toInt) (b := 0) (by rfl) (by decide) c_121; omega
                      refine lv_iload hx hb dX4_readTest_99 (lv_at hl 1 rfl) ?_
                      refine lv_if_eq (tgt := 110) hx hb dX4_readTest_101 (by decide) (fun c_122 => ?_) (fun c_122 => ?_)
                      ·
                        exact absurd c_122 (by decide)
                      ·
                        refine lv_iload hx hb dX4_readTest_104 (lv_at hl 0 rfl) ?_
                        refine lv_istore_n (lv' := [(2, .int z106), (5, .int z106), (4, .int 1), (3, .int k_i), (0, .ref a_r), (1, .int p_d)]) hx hb dX4_readTest_106 rfl hl (by decide) rfl (fun ls hl => ?_)
                        refine lv_goto (tgt := 116) hx hb dX4_readTest_107 (by decide) ?_
                        refine lv_iinc (v := (k_i + 1)) (lv' := [(3, .int (k_i + 1)), (2, .int z106), (5, .int z106), (4, .int 1), (0, .ref a_r), (1, .int p_d)]) hx hb dX4_readTest_116 hl (k := 3) rfl rfl (by decide) rfl (fun ls hl => ?_)
                        have t_123 : (k_i + 1).toInt = k_i.toInt + 1 := g5_iadd (a := k_i.toInt) (b := 1) rfl (by decide) (by omega) (by omega)
                        refine lv_goto (tgt := 14) hx hb dX4_readTest_119 (by decide) ?_
                        exact ih_14_21 (z106, (k_i + 1), z116, z117, z118, z119) ls H locs (show Int.toNat (400 - (k_i + 1).toInt) < Int.toNat (400 - k_i.toInt) from g_up (show k_i.toInt < (k_i + 1).toInt by omega) (show k_i.toInt < 400 by omega)) ⟨lv_sub hl [1, 0, 4, 5] rfl, hP, hD, hS, ⟨by omega, by omega⟩, ⟨by omega, by omega⟩, ⟨by omega, by omega⟩, ⟨by omega, by omega⟩, by omega, i_113, opk_trans i_19 (opk_trans i_98 (opk_trans i_104 (i_114) (by omega)) (by omega)) (by omega), jok_opk (jok_emit i_105 (by decide)) (i_114) (by omega)⟩
                    ·
                      have i_121 : z115.toInt = 0 := by have z := g5_neN (a := z115.toInt) (b := 0) (by rfl) (by decide) c_121; omega
                      refine lv_iconst (v := 0) hx hb dX4_readTest_97 (by decide) ?_
                      exact W.zret (v := 0) hx hb hr rfl (fun t ht hW => ⟨⟨0, [(a_r, .inr (4, [.ref a_tk, .ref a_rh, .ref a_rs, .ref a_rc, .int z116, .int z117, .int z118, .int e_fp])), (a_tk, .inr (8, [.ref a_kd, .ref a_nm, .ref a_pl])), (a_kd, .inl (G.2 0, 401, .inl f_kd)), (a_nm, .inl (G.2 0, 401, .inl f_nm)), (a_rc, .inl (G.2 0, 400, .inl z119))], rfl, ⟨0, z116, z117, z118, z119, ⟨by have zc_o_r : (0 : Int32).toInt = 0 := (by decide); omega, by have zc_o_r : (0 : Int32).toInt = 0 := (by decide); omega⟩, ⟨by omega, by omega⟩, ⟨by omega, by omega⟩, i_113, opk_trans i_19 (opk_trans i_98 (opk_trans i_104 (i_114) (by omega)) (by omega)) (by omega), rfl, rfl⟩, by rw [ht]; exact hP.sub [0, 1, 2, 3, 4] rfl, hD.sub [0, 1, 2, 3, 4] (by decide) rfl⟩, hS.F ht⟩) hS.2.2 dX4_readTest_98
              ·
                obtain ⟨hP, hD⟩ := va_join (wr := [(a_nm, .inl (G.2 0, 401, .inl f_nm)), (a_rc, .inl (G.2 0, 400, .inl k_rc))]) (w1 := [(a_r, .inr (4, [.ref a_tk, .ref a_rh, .ref a_rs, .ref a_rc, .int k_ln, .int k_pa, .int k_at, .int e_fp])), (a_tk, .inr (8, [.ref a_kd, .ref a_nm, .ref a_pl])), (a_kd, .inl (G.2 0, 401, .inl f_kd))]) hP hD [2, 3, 4] [0, 1] rfl rfl (by decide) (by decide) hk1 hFc hP1 hD1
                generalize H1 = H at hP hS ⊢
                have hP : va_P G.1 vwCl [(a_nm, .inl (G.2 0, 401, .inl f_nm)), (a_rc, .inl (G.2 0, 400, .inl k_rc)), (a_r, .inr (4, [.ref a_tk, .ref a_rh, .ref a_rs, .ref a_rc, .int k_ln, .int k_pa, .int k_at, .int e_fp])), (a_tk, .inr (8, [.ref a_kd, .ref a_nm, .ref a_pl])), (a_kd, .inl (G.2 0, 401, .inl f_kd))] H := hP
                have hD : va_D A [(a_nm, .inl (G.2 0, 401, .inl f_nm)), (a_rc, .inl (G.2 0, 400, .inl k_rc)), (a_r, .inr (4, [.ref a_tk, .ref a_rh, .ref a_rs, .ref a_rc, .int k_ln, .int k_pa, .int k_at, .int e_fp])), (a_tk, .inr (8, [.ref a_kd, .ref a_nm, .ref a_pl])), (a_kd, .inl (G.2 0, 401, .inl f_kd))] := hD
                refine lv_istore (lv' := [(4, .int 0), (2, .int k_w), (3, .int k_i), (0, .ref a_r), (1, .int p_d)]) hx hb dX4_readTest_48 hl (by decide) rfl (fun ls hl => ?_)
                refine lv_aload_n hx hb dX4_readTest_50 rfl (lv_at hl 3 rfl) ?_
                refine lv_dup hx hb dX4_readTest_51 rfl ?_
                refine va_get (D := G.1) (ci := 4) (v := .int k_at) (C := RX4) (T := TX4) (N := 8) hx hb hts inG_X4 hown hK hP 2 rfl rfl 6 (by decide) (hts _ fl_X4_42) (fun _ h9 => h9) rfl dX4_readTest_52 ?_
                refine lv_iconst (v := 1) hx hb dX4_readTest_55 (by decide) ?_
                refine lv_iadd hx hb dX4_readTest_56 ?_
                have t_124 : (k_at + 1).toInt = k_at.toInt + 1 := g5_iadd (a := k_at.toInt) (b := 1) (by rfl) (by decide) (by omega) (by omega)
                refine va_put (D := G.1) (ci := 4) (v := .int (k_at + 1)) (ty := .int) (C := RX4) (T := TX4) (N := 8) hx hb hts inG_X4 tyX4 tyX4_ok nmX4 hown hK hP hD hS 2 rfl rfl 6 (by decide) (hts _ fl_X4_42) (fun _ h9 => h9) rfl (by decide +kernel) rfl rfl (Nat.le_of_ble_eq_true rfl) dX4_readTest_57 (fun H locs hP hD hS => ?_)
                have hP : va_P G.1 vwCl [(a_nm, .inl (G.2 0, 401, .inl f_nm)), (a_rc, .inl (G.2 0, 400, .inl k_rc)), (a_r, .inr (4, [.ref a_tk, .ref a_rh, .ref a_rs, .ref a_rc, .int k_ln, .int k_pa, .int (k_at + 1), .int e_fp])), (a_tk, .inr (8, [.ref a_kd, .ref a_nm, .ref a_pl])), (a_kd, .inl (G.2 0, 401, .inl f_kd))] H := hP
                have hD : va_D A [(a_nm, .inl (G.2 0, 401, .inl f_nm)), (a_rc, .inl (G.2 0, 400, .inl k_rc)), (a_r, .inr (4, [.ref a_tk, .ref a_rh, .ref a_rs, .ref a_rc, .int k_ln, .int k_pa, .int (k_at + 1), .int e_fp])), (a_tk, .inr (8, [.ref a_kd, .ref a_nm, .ref a_pl])), (a_kd, .inl (G.2 0, 401, .inl f_kd))] := hD
                refine lv_iload hx hb dX4_readTest_60 (lv_at hl 0 rfl) ?_
                refine lv_if_eq (tgt := 70) hx hb dX4_readTest_62 (by decide) (fun c_125 => ?_) (fun c_125 => ?_)
                ·
                  refine lv_aload_n hx hb dX4_readTest_70 rfl (lv_at hl 3 rfl) ?_
                  refine lv_iload hx hb dX4_readTest_71 (lv_at hl 0 rfl) ?_
                  refine lv_if_eq (tgt := 81) hx hb dX4_readTest_73 (by decide) (fun c_126 => ?_) (fun c_126 => ?_)
                  ·
                    refine lv_bipush (v := 12) hx hb dX4_readTest_81 (by decide) ?_
                    refine lv_iconst (v := 0) hx hb dX4_readTest_83 (by decide) ?_
                    have hPc := hP.sub (ws' := [(a_r, .inr (4, [.ref a_tk, .ref a_rh, .ref a_rs, .ref a_rc, .int k_ln, .int k_pa, .int (k_at + 1), .int e_fp])), (a_rc, .inl (G.2 0, 400, .inl k_rc))]) [2, 1] rfl
                    have hDc := hD.sub (ws' := [(a_r, .inr (4, [.ref a_tk, .ref a_rh, .ref a_rs, .ref a_rc, .int k_ln, .int k_pa, .int (k_at + 1), .int e_fp])), (a_rc, .inl (G.2 0, 400, .inl k_rc))]) [2, 1] (by decide) rfl
                    have hFc := va_free (wc := [(a_r, .inr (4, [.ref a_tk, .ref a_rh, .ref a_rs, .ref a_rc, .int k_ln, .int k_pa, .int (k_at + 1), .int e_fp])), (a_rc, .inl (G.2 0, 400, .inl k_rc))]) hD hS hA [2, 1] rfl
                    refine va_calli (va_runV (As := [.int 12, .int 0]) (rest := []) ⟨hx, hb, hml, hown, hts⟩ (r_emit l G a_r a_rc a_tk a_rh a_rs H.size k_ln k_pa (k_at + 1) e_fp 12 0 k_rc ⟨by omega, by omega⟩ ⟨by omega, by omega⟩ (i_18) (by unfold wOK; decide)) (cwV 2 hts gV_X4_79 rfl rfl rfl hv_X4_emit ⟨by dsimp only; omega, by dsimp only; omega⟩) (g5_preV hPc hK hDc hN hT hS hFc (ci := 4) (q0 := 0) rfl rfl) rfl rfl hl.1 rfl (lv_room (Nat.le_of_ble_eq_true rfl)) dX4_readTest_84 ⟨Nat.le_of_ble_eq_true rfl, Nat.le_of_ble_eq_true rfl⟩) hS (fun q _ h => hFc q h) hFc (fun r u t H1 locs ht hvm hw hB hz1 hk1 hS => ?_)
                    obtain ⟨hP1, hD1⟩ := hB
                    rw [ht] at hP1
                    obtain ⟨z132, z133, z134, i_127, i_128, i_129, i_130, i_131, y135, rfl⟩ := hw
                    have i_127 : -1 ≤ z132.toInt ∧ z132.toInt ≤ 399 := i_127
                    have i_128 : k_ln.toInt ≤ z133.toInt ∧ z133.toInt ≤ 400 := i_128
                    have i_129 : CDI z134 z133.toInt := i_129
                    have i_130 : OPK k_rc z134 k_ln.toInt := i_130
                    have i_131 : 0 ≤ z132.toInt → z132.toInt < z133.toInt ∧ z134 z132.toNatClampNeg = (((12 : Int32) <<< (12 &&& 31)) ||| (0 : Int32)) := i_131
                    obtain ⟨hP, hD⟩ := va_join (wr := [(a_nm, .inl (G.2 0, 401, .inl f_nm)), (a_tk, .inr (8, [.ref a_kd, .ref a_nm, .ref a_pl])), (a_kd, .inl (G.2 0, 401, .inl f_kd))]) (w1 := [(a_r, .inr (4, [.ref a_tk, .ref a_rh, .ref a_rs, .ref a_rc, .int z133, .int k_pa, .int (k_at + 1), .int e_fp])), (a_rc, .inl (G.2 0, 400, .inl z134))]) hP hD [2, 1] [0, 3, 4] rfl rfl (by decide) (by decide) hk1 hFc hP1 hD1
                    generalize H1 = H at hP hS ⊢
                    have hP : va_P G.1 vwCl [(a_nm, .inl (G.2 0, 401, .inl f_nm)), (a_tk, .inr (8, [.ref a_kd, .ref a_nm, .ref a_pl])), (a_kd, .inl (G.2 0, 401, .inl f_kd)), (a_r, .inr (4, [.ref a_tk, .ref a_rh, .ref a_rs, .ref a_rc, .int z133, .int k_pa, .int (k_at + 1), .int e_fp])), (a_rc, .inl (G.2 0, 400, .inl z134))] H := hP
                    have hD : va_D A [(a_nm, .inl (G.2 0, 401, .inl f_nm)), (a_tk, .inr (8, [.ref a_kd, .ref a_nm, .ref a_pl])), (a_kd, .inl (G.2 0, 401, .inl f_kd)), (a_r, .inr (4, [.ref a_tk, .ref a_rh, .ref a_rs, .ref a_rc, .int z133, .int k_pa, .int (k_at + 1), .int e_fp])), (a_rc, .inl (G.2 0, 400, .inl z134))] := hD
                    refine g5_ti (v := z132) y135 ?_
                    refine lv_istore (lv' := [(5, .int z132), (4, .int 0), (2, .int k_w), (3, .int k_i), (0, .ref a_r), (1, .int p_d)]) hx hb dX4_readTest_87 hl (by decide) rfl (fun ls hl => ?_)
                    refine lv_aload_n hx hb dX4_readTest_89 rfl (lv_at hl 4 rfl) ?_
                    refine lv_iload_n hx hb dX4_readTest_90 rfl (lv_at hl 5 rfl) ?_
                    have hPc := hP.sub (ws' := [(a_r, .inr (4, [.ref a_tk, .ref a_rh, .ref a_rs, .ref a_rc, .int z133, .int k_pa, .int (k_at + 1), .int e_fp])), (a_tk, .inr (8, [.ref a_kd, .ref a_nm, .ref a_pl])), (a_kd, .inl (G.2 0, 401, .inl f_kd)), (a_nm, .inl (G.2 0, 401, .inl f_nm)), (a_rc, .inl (G.2 0, 400, .inl z134))]) [3, 1, 2, 0, 4] rfl
                    have hDc := hD.sub (ws' := [(a_r, .inr (4, [.ref a_tk, .ref a_rh, .ref a_rs, .ref a_rc, .int z133, .int k_pa, .int (k_at + 1), .int e_fp])), (a_tk, .inr (8, [.ref a_kd, .ref a_nm, .ref a_pl])), (a_kd, .inl (G.2 0, 401, .inl f_kd)), (a_nm, .inl (G.2 0, 401, .inl f_nm)), (a_rc, .inl (G.2 0, 400, .inl z134))]) [3, 1, 2, 0, 4] (by decide) rfl
                    have hFc := va_free (wc := [(a_r, .inr (4, [.ref a_tk, .ref a_rh, .ref a_rs, .ref a_rc, .int z133, .int k_pa, .int (k_at + 1), .int e_fp])), (a_tk, .inr (8, [.ref a_kd, .ref a_nm, .ref a_pl])), (a_kd, .inl (G.2 0, 401, .inl f_kd)), (a_nm, .inl (G.2 0, 401, .inl f_nm)), (a_rc, .inl (G.2 0, 400, .inl z134))]) hD hS hA [3, 1, 2, 0, 4] rfl
                    refine va_calli (va_runV (As := [.int p_d]) (rest := []) ⟨hx, hb, hml, hown, hts⟩ ((r_plain fr lo f2 l2 p_d h_p_d h_sum h_test) l G a_r a_tk a_kd a_nm a_rc a_rh a_rs a_pl H.size z133 k_pa (k_at + 1) e_fp f_kd f_nm z134 ⟨by omega, by omega⟩ ⟨by omega, by omega⟩ (e_tk) (i_129)) (cwV 1 hts gV_X4_83 rfl rfl rfl hv_X4_readPlain ⟨by dsimp only; omega, by dsimp only; omega⟩) (g5_preV hPc hK hDc hN hT hS hFc (ci := 4) (q0 := 0) rfl rfl) rfl rfl hl.1 rfl (lv_room (Nat.le_of_ble_eq_true rfl)) dX4_readTest_91 ⟨Nat.le_of_ble_eq_true rfl, Nat.le_of_ble_eq_true rfl⟩) hS (fun q _ h => hFc q h) hFc (fun r u t H1 locs ht hvm hw hB hz1 hk1 hS => ?_)
                    obtain ⟨hP1, hD1⟩ := hB
                    rw [ht] at hP1
                    obtain ⟨z141, z142, z143, z144, z145, i_136, i_137, i_138, i_139, i_140, y146, rfl⟩ := hw
                    have i_136 : 0 ≤ z141.toInt ∧ z141.toInt ≤ 1 := i_136
                    have i_137 : z133.toInt ≤ z142.toInt ∧ z142.toInt ≤ 400 := i_137
                    have i_138 : 0 ≤ z144.toInt ∧ z144.toInt ≤ 401 := i_138
                    have i_139 : CDI z145 z142.toInt := i_139
                    have i_140 : OPK z134 z145 z133.toInt := i_140
                    obtain ⟨hP, hD⟩ := va_join (wr := []) (w1 := [(a_r, .inr (4, [.ref a_tk, .ref a_rh, .ref a_rs, .ref a_rc, .int z142, .int z143, .int z144, .int e_fp])), (a_tk, .inr (8, [.ref a_kd, .ref a_nm, .ref a_pl])), (a_kd, .inl (G.2 0, 401, .inl f_kd)), (a_nm, .inl (G.2 0, 401, .inl f_nm)), (a_rc, .inl (G.2 0, 400, .inl z145))]) hP hD [3, 1, 2, 0, 4] [] rfl rfl (by decide) (by decide) hk1 hFc hP1 hD1
                    generalize H1 = H at hP hS ⊢
                    have hP : va_P G.1 vwCl [(a_r, .inr (4, [.ref a_tk, .ref a_rh, .ref a_rs, .ref a_rc, .int z142, .int z143, .int z144, .int e_fp])), (a_tk, .inr (8, [.ref a_kd, .ref a_nm, .ref a_pl])), (a_kd, .inl (G.2 0, 401, .inl f_kd)), (a_nm, .inl (G.2 0, 401, .inl f_nm)), (a_rc, .inl (G.2 0, 400, .inl z145))] H := hP
                    have hD : va_D A [(a_r, .inr (4, [.ref a_tk, .ref a_rh, .ref a_rs, .ref a_rc, .int z142, .int z143, .int z144, .int e_fp])), (a_tk, .inr (8, [.ref a_kd, .ref a_nm, .ref a_pl])), (a_kd, .inl (G.2 0, 401, .inl f_kd)), (a_nm, .inl (G.2 0, 401, .inl f_nm)), (a_rc, .inl (G.2 0, 400, .inl z145))] := hD
                    refine g5_ti (v := z141) y146 ?_
                    refine lv_if_ne (tgt := 99) hx hb dX4_readTest_94 (by decide) (fun c_147 => ?_) (fun c_147 => ?_)
                    ·
                      have n_147 : gNe (z141.toInt) (0) := by have z := g5_ne (a := z141.toInt) (b := 0) (by rfl) (by decide) c_147; unfold gNe; omega
                      have i_147 : z141.toInt ≥ 1 := by have z := g5_ne (a := z141.toInt) (b := 0) (by rfl) (by decide) c_147; omega
                      refine lv_iload hx hb dX4_readTest_99 (lv_at hl 1 rfl) ?_
                      refine lv_if_eq (tgt := 110) hx hb dX4_readTest_101 (by decide) (fun c_148 => ?_) (fun c_148 => ?_)
                      ·
                        refine lv_aload_n hx hb dX4_readTest_110 rfl (lv_at hl 4 rfl) ?_
                        refine lv_iload hx hb dX4_readTest_111 (lv_at hl 0 rfl) ?_
                        have hPc := hP.sub (ws' := [(a_r, .inr (4, [.ref a_tk, .ref a_rh, .ref a_rs, .ref a_rc, .int z142, .int z143, .int z144, .int e_fp])), (a_rc, .inl (G.2 0, 400, .inl z145))]) [0, 4] rfl
                        have hDc := hD.sub (ws' := [(a_r, .inr (4, [.ref a_tk, .ref a_rh, .ref a_rs, .ref a_rc, .int z142, .int z143, .int z144, .int e_fp])), (a_rc, .inl (G.2 0, 400, .inl z145))]) [0, 4] (by decide) rfl
                        have hFc := va_free (wc := [(a_r, .inr (4, [.ref a_tk, .ref a_rh, .ref a_rs, .ref a_rc, .int z142, .int z143, .int z144, .int e_fp])), (a_rc, .inl (G.2 0, 400, .inl z145))]) hD hS hA [0, 4] rfl
                        refine va_callv (va_runV (As := [.int z132]) (rest := []) ⟨hx, hb, hml, hown, hts⟩ (r_jump l G a_r a_rc a_tk a_rh a_rs H.size z142 z143 z144 e_fp z132 z145 ⟨by omega, by omega⟩ ⟨by omega, by omega⟩ (i_139) (jok_opk (jok_emit i_131 (by decide)) (i_140) (by omega))) (cwV 1 hts gV_X4_86 rfl rfl rfl hv_X4_jumpHere ⟨by dsimp only; omega, by dsimp only; omega⟩) (g5_preV hPc hK hDc hN hT hS hFc (ci := 4) (q0 := 0) rfl rfl) rfl rfl hl.1 rfl (lv_room (Nat.le_of_ble_eq_true rfl)) dX4_readTest_113 ⟨Nat.le_of_ble_eq_true rfl, Nat.le_of_ble_eq_true rfl⟩) hS (fun q _ h => hFc q h) hFc (fun u t H1 locs ht hvm hw hB hz1 hk1 hS => ?_)
                        obtain ⟨hP1, hD1⟩ := hB
                        rw [ht] at hP1
                        obtain ⟨z151, i_149, i_150, rfl⟩ := hw
                        have i_149 : CDI z151 z142.toInt := i_149
                        have i_150 : OPK z145 z151 z142.toInt := i_150
                        obtain ⟨hP, hD⟩ := va_join (wr := [(a_tk, .inr (8, [.ref a_kd, .ref a_nm, .ref a_pl])), (a_kd, .inl (G.2 0, 401, .inl f_kd)), (a_nm, .inl (G.2 0, 401, .inl f_nm))]) (w1 := [(a_r, .inr (4, [.ref a_tk, .ref a_rh, .ref a_rs, .ref a_rc, .int z142, .int z143, .int z144, .int e_fp])), (a_rc, .inl (G.2 0, 400, .inl z151))]) hP hD [0, 4] [1, 2, 3] rfl rfl (by decide) (by decide) hk1 hFc hP1 hD1
                        generalize H1 = H at hP hS ⊢
                        have hP : va_P G.1 vwCl [(a_tk, .inr (8, [.ref a_kd, .ref a_nm, .ref a_pl])), (a_kd, .inl (G.2 0, 401, .inl f_kd)), (a_nm, .inl (G.2 0, 401, .inl f_nm)), (a_r, .inr (4, [.ref a_tk, .ref a_rh, .ref a_rs, .ref a_rc, .int z142, .int z143, .int z144, .int e_fp])), (a_rc, .inl (G.2 0, 400, .inl z151))] H := hP
                        have hD : va_D A [(a_tk, .inr (8, [.ref a_kd, .ref a_nm, .ref a_pl])), (a_kd, .inl (G.2 0, 401, .inl f_kd)), (a_nm, .inl (G.2 0, 401, .inl f_nm)), (a_r, .inr (4, [.ref a_tk, .ref a_rh, .ref a_rs, .ref a_rc, .int z142, .int z143, .int z144, .int e_fp])), (a_rc, .inl (G.2 0, 400, .inl z151))] := hD
                        refine lv_iinc (v := (k_i + 1)) (lv' := [(3, .int (k_i + 1)), (5, .int z132), (4, .int 0), (2, .int k_w), (0, .ref a_r), (1, .int p_d)]) hx hb dX4_readTest_116 hl (k := 3) rfl rfl (by decide) rfl (fun ls hl => ?_)
                        have t_152 : (k_i + 1).toInt = k_i.toInt + 1 := g5_iadd (a := k_i.toInt) (b := 1) rfl (by decide) (by omega) (by omega)
                        refine lv_goto (tgt := 14) hx hb dX4_readTest_119 (by decide) ?_
                        exact ih_14_21 (k_w, (k_i + 1), z142, z143, z144, z151) ls H locs (show Int.toNat (400 - (k_i + 1).toInt) < Int.toNat (400 - k_i.toInt) from g_up (show k_i.toInt < (k_i + 1).toInt by omega) (show k_i.toInt < 400 by omega)) ⟨lv_sub hl [3, 0, 4, 5] rfl, hP.sub [3, 0, 1, 2, 4] rfl, hD.sub [3, 0, 1, 2, 4] (by decide) rfl, hS, ⟨by omega, by omega⟩, ⟨by omega, by omega⟩, ⟨by omega, by omega⟩, ⟨by omega, by omega⟩, by omega, i_149, opk_trans i_19 (opk_trans i_130 (opk_trans i_140 (i_150) (by omega)) (by omega)) (by omega), jok_opk i_20 (opk_trans i_130 (opk_trans i_140 (i_150) (by omega)) (by omega)) (by omega)⟩
                      ·
                        exact absurd c_148 (by decide)
                    ·
                      have i_147 : z141.toInt = 0 := by have z := g5_neN (a := z141.toInt) (b := 0) (by rfl) (by decide) c_147; omega
                      refine lv_iconst (v := 0) hx hb dX4_readTest_97 (by decide) ?_
                      exact W.zret (v := 0) hx hb hr rfl (fun t ht hW => ⟨⟨0, [(a_r, .inr (4, [.ref a_tk, .ref a_rh, .ref a_rs, .ref a_rc, .int z142, .int z143, .int z144, .int e_fp])), (a_tk, .inr (8, [.ref a_kd, .ref a_nm, .ref a_pl])), (a_kd, .inl (G.2 0, 401, .inl f_kd)), (a_nm, .inl (G.2 0, 401, .inl f_nm)), (a_rc, .inl (G.2 0, 400, .inl z145))], rfl, ⟨0, z142, z143, z144, z145, ⟨by have zc_o_r : (0 : Int32).toInt = 0 := (by decide); omega, by have zc_o_r : (0 : Int32).toInt = 0 := (by decide); omega⟩, ⟨by omega, by omega⟩, ⟨by omega, by omega⟩, i_139, opk_trans i_19 (opk_trans i_130 (i_140) (by omega)) (by omega), rfl, rfl⟩, by rw [ht]; exact hP.sub [0, 1, 2, 3, 4] rfl, hD.sub [0, 1, 2, 3, 4] (by decide) rfl⟩, hS.F ht⟩) hS.2.2 dX4_readTest_98
                  ·
                    exact absurd c_126 (by decide)
                ·
                  exact absurd c_125 (by decide)
          ·
            obtain ⟨hP, hD⟩ := va_join (wr := [(a_nm, .inl (G.2 0, 401, .inl f_nm)), (a_rc, .inl (G.2 0, 400, .inl k_rc))]) (w1 := [(a_r, .inr (4, [.ref a_tk, .ref a_rh, .ref a_rs, .ref a_rc, .int k_ln, .int k_pa, .int k_at, .int e_fp])), (a_tk, .inr (8, [.ref a_kd, .ref a_nm, .ref a_pl])), (a_kd, .inl (G.2 0, 401, .inl f_kd))]) hP hD [2, 3, 4] [0, 1] rfl rfl (by decide) (by decide) hk1 hFc hP1 hD1
            generalize H1 = H at hP hS ⊢
            have hP : va_P G.1 vwCl [(a_nm, .inl (G.2 0, 401, .inl f_nm)), (a_rc, .inl (G.2 0, 400, .inl k_rc)), (a_r, .inr (4, [.ref a_tk, .ref a_rh, .ref a_rs, .ref a_rc, .int k_ln, .int k_pa, .int k_at, .int e_fp])), (a_tk, .inr (8, [.ref a_kd, .ref a_nm, .ref a_pl])), (a_kd, .inl (G.2 0, 401, .inl f_kd))] H := hP
            have hD : va_D A [(a_nm, .inl (G.2 0, 401, .inl f_nm)), (a_rc, .inl (G.2 0, 400, .inl k_rc)), (a_r, .inr (4, [.ref a_tk, .ref a_rh, .ref a_rs, .ref a_rc, .int k_ln, .int k_pa, .int k_at, .int e_fp])), (a_tk, .inr (8, [.ref a_kd, .ref a_nm, .ref a_pl])), (a_kd, .inl (G.2 0, 401, .inl f_kd))] := hD
            refine lv_if_eq (tgt := 122) hx hb dX4_readTest_38 (by decide) (fun c_153 => ?_) (fun c_153 => ?_)
            ·
              refine lv_aload_n hx hb dX4_readTest_122 rfl (lv_at hl 2 rfl) ?_
              refine lv_iload_n hx hb dX4_readTest_123 rfl (lv_at hl 0 rfl) ?_
              have hPc := hP.sub (ws' := [(a_r, .inr (4, [.ref a_tk, .ref a_rh, .ref a_rs, .ref a_rc, .int k_ln, .int k_pa, .int k_at, .int e_fp])), (a_rc, .inl (G.2 0, 400, .inl k_rc))]) [2, 1] rfl
              have hDc := hD.sub (ws' := [(a_r, .inr (4, [.ref a_tk, .ref a_rh, .ref a_rs, .ref a_rc, .int k_ln, .int k_pa, .int k_at, .int e_fp])), (a_rc, .inl (G.2 0, 400, .inl k_rc))]) [2, 1] (by decide) rfl
              have hFc := va_free (wc := [(a_r, .inr (4, [.ref a_tk, .ref a_rh, .ref a_rs, .ref a_rc, .int k_ln, .int k_pa, .int k_at, .int e_fp])), (a_rc, .inl (G.2 0, 400, .inl k_rc))]) hD hS hA [2, 1] rfl
              refine va_callv (va_runV (As := [.int k_w]) (rest := []) ⟨hx, hb, hml, hown, hts⟩ (r_jump l G a_r a_rc a_tk a_rh a_rs H.size k_ln k_pa k_at e_fp k_w k_rc ⟨by omega, by omega⟩ ⟨by omega, by omega⟩ (i_18) (i_20)) (cwV 1 hts gV_X4_86 rfl rfl rfl hv_X4_jumpHere ⟨by dsimp only; omega, by dsimp only; omega⟩) (g5_preV hPc hK hDc hN hT hS hFc (ci := 4) (q0 := 0) rfl rfl) rfl rfl hl.1 rfl (lv_room (Nat.le_of_ble_eq_true rfl)) dX4_readTest_124 ⟨Nat.le_of_ble_eq_true rfl, Nat.le_of_ble_eq_true rfl⟩) hS (fun q _ h => hFc q h) hFc (fun u t H1 locs ht hvm hw hB hz1 hk1 hS => ?_)
              obtain ⟨hP1, hD1⟩ := hB
              rw [ht] at hP1
              obtain ⟨z156, i_154, i_155, rfl⟩ := hw
              have i_154 : CDI z156 k_ln.toInt := i_154
              have i_155 : OPK k_rc z156 k_ln.toInt := i_155
              obtain ⟨hP, hD⟩ := va_join (wr := [(a_nm, .inl (G.2 0, 401, .inl f_nm)), (a_tk, .inr (8, [.ref a_kd, .ref a_nm, .ref a_pl])), (a_kd, .inl (G.2 0, 401, .inl f_kd))]) (w1 := [(a_r, .inr (4, [.ref a_tk, .ref a_rh, .ref a_rs, .ref a_rc, .int k_ln, .int k_pa, .int k_at, .int e_fp])), (a_rc, .inl (G.2 0, 400, .inl z156))]) hP hD [2, 1] [0, 3, 4] rfl rfl (by decide) (by decide) hk1 hFc hP1 hD1
              generalize H1 = H at hP hS ⊢
              have hP : va_P G.1 vwCl [(a_nm, .inl (G.2 0, 401, .inl f_nm)), (a_tk, .inr (8, [.ref a_kd, .ref a_nm, .ref a_pl])), (a_kd, .inl (G.2 0, 401, .inl f_kd)), (a_r, .inr (4, [.ref a_tk, .ref a_rh, .ref a_rs, .ref a_rc, .int k_ln, .int k_pa, .int k_at, .int e_fp])), (a_rc, .inl (G.2 0, 400, .inl z156))] H := hP
              have hD : va_D A [(a_nm, .inl (G.2 0, 401, .inl f_nm)), (a_tk, .inr (8, [.ref a_kd, .ref a_nm, .ref a_pl])), (a_kd, .inl (G.2 0, 401, .inl f_kd)), (a_r, .inr (4, [.ref a_tk, .ref a_rh, .ref a_rs, .ref a_rc, .int k_ln, .int k_pa, .int k_at, .int e_fp])), (a_rc, .inl (G.2 0, 400, .inl z156))] := hD
              refine lv_iconst (v := 1) hx hb dX4_readTest_127 (by decide) ?_
              exact W.zret (v := 1) hx hb hr rfl (fun t ht hW => ⟨⟨1, [(a_r, .inr (4, [.ref a_tk, .ref a_rh, .ref a_rs, .ref a_rc, .int k_ln, .int k_pa, .int k_at, .int e_fp])), (a_tk, .inr (8, [.ref a_kd, .ref a_nm, .ref a_pl])), (a_kd, .inl (G.2 0, 401, .inl f_kd)), (a_nm, .inl (G.2 0, 401, .inl f_nm)), (a_rc, .inl (G.2 0, 400, .inl z156))], rfl, ⟨1, k_ln, k_pa, k_at, z156, ⟨by have zc_o_r : (1 : Int32).toInt = 1 := (by decide); omega, by have zc_o_r : (1 : Int32).toInt = 1 := (by decide); omega⟩, ⟨by omega, by omega⟩, ⟨by omega, by omega⟩, i_154, opk_trans i_19 (i_155) (by omega), rfl, rfl⟩, by rw [ht]; exact hP.sub [3, 1, 2, 0, 4] rfl, hD.sub [3, 1, 2, 0, 4] (by decide) rfl⟩, hS.F ht⟩) hS.2.2 dX4_readTest_128
            ·
              exact absurd c_153 (by decide)
  ·
    have i_12 : z6.toInt = 0 := by have z := g5_neN (a := z6.toInt) (b := 0) (by rfl) (by decide) c_12; omega
    refine lv_iconst (v := 0) hx hb dX4_readTest_8 (by decide) ?_
    exact W.zret (v := 0) hx hb hr rfl (fun t ht hW => ⟨⟨0, [(a_r, .inr (4, [.ref a_tk, .ref a_rh, .ref a_rs, .ref a_rc, .int z7, .int z8, .int z9, .int e_fp])), (a_tk, .inr (8, [.ref a_kd, .ref a_nm, .ref a_pl])), (a_kd, .inl (G.2 0, 401, .inl f_kd)), (a_nm, .inl (G.2 0, 401, .inl f_nm)), (a_rc, .inl (G.2 0, 400, .inl z10))], rfl, ⟨0, z7, z8, z9, z10, ⟨by have zc_o_r : (0 : Int32).toInt = 0 := (by decide); omega, by have zc_o_r : (0 : Int32).toInt = 0 := (by decide); omega⟩, ⟨by omega, by omega⟩, ⟨by omega, by omega⟩, i_4, i_5, rfl, rfl⟩, by rw [ht]; exact hP.sub [0, 1, 2, 3, 4] rfl, hD.sub [0, 1, 2, 3, 4] (by decide) rfl⟩, hS.F ht⟩) hS.2.2 dX4_readTest_9
