theorem dgX7_anyFits_0 : ∀ r ∈ ([(0, (.bipush 23, 2)), (2, (.istore_n 1, 1)), (3, (.iload_n 1, 1)), (4, (.ifCond .lt 72, 3)), (7, (.iconst 0, 1)), (8, (.istore_n 2, 1)), (9, (.iload_n 2, 1)), (10, (.bipush 64, 2)), (12, (.if_icmp .ge 58, 3)), (15, (.iload_n 1, 1)), (16, (.bipush 64, 2)), (18, (.imul, 1)), (19, (.iload_n 2, 1)), (20, (.iadd, 1)), (21, (.istore_n 3, 1)), (22, (.aload_n 0, 1)), (23, (.getfield 9, 3)), (26, (.iload_n 1, 1)), (27, (.laload, 1)), (28, (.iload_n 2, 1)), (29, (.invokestatic 98, 3)), (32, (.ifCond .eq 7, 3)), (35, (.iconst 0, 1)), (36, (.goto 9, 3)), (39, (.aload_n 0, 1)), (40, (.iload_n 1, 1)), (41, (.iload_n 2, 1)), (42, (.invokevirtual 108, 3)), (45, (.istore 4, 2)), (47, (.aload_n 0, 1)), (48, (.getfield 25, 3)), (51, (.iload_n 3, 1)), (52, (.iload 4, 2)), (54, (.aload_n 0, 1)), (55, (.getfield 15, 3)), (58, (.iload_n 3, 1)), (59, (.iaload, 1)), (60, (.invokestatic 111, 3)), (63, (.iastore, 1)), (64, (.iinc 2 1, 3))] : List (Nat × (Instr × Nat))), decode cX7_anyFits r.1 = .ok r.2 := by decide +kernel
theorem dX7_anyFits_0 : decode cX7_anyFits 0 = .ok (.bipush 23, 2) := dgX7_anyFits_0 (0, (.bipush 23, 2)) (List.mem_of_getElem? (i := 0) rfl)
theorem dX7_anyFits_2 : decode cX7_anyFits 2 = .ok (.istore_n 1, 1) := dgX7_anyFits_0 (2, (.istore_n 1, 1)) (List.mem_of_getElem? (i := 1) rfl)
theorem dX7_anyFits_3 : decode cX7_anyFits 3 = .ok (.iload_n 1, 1) := dgX7_anyFits_0 (3, (.iload_n 1, 1)) (List.mem_of_getElem? (i := 2) rfl)
theorem dX7_anyFits_4 : decode cX7_anyFits 4 = .ok (.ifCond .lt 72, 3) := dgX7_anyFits_0 (4, (.ifCond .lt 72, 3)) (List.mem_of_getElem? (i := 3) rfl)
theorem dX7_anyFits_7 : decode cX7_anyFits 7 = .ok (.iconst 0, 1) := dgX7_anyFits_0 (7, (.iconst 0, 1)) (List.mem_of_getElem? (i := 4) rfl)
theorem dX7_anyFits_8 : decode cX7_anyFits 8 = .ok (.istore_n 2, 1) := dgX7_anyFits_0 (8, (.istore_n 2, 1)) (List.mem_of_getElem? (i := 5) rfl)
theorem dX7_anyFits_9 : decode cX7_anyFits 9 = .ok (.iload_n 2, 1) := dgX7_anyFits_0 (9, (.iload_n 2, 1)) (List.mem_of_getElem? (i := 6) rfl)
theorem dX7_anyFits_10 : decode cX7_anyFits 10 = .ok (.bipush 64, 2) := dgX7_anyFits_0 (10, (.bipush 64, 2)) (List.mem_of_getElem? (i := 7) rfl)
theorem dX7_anyFits_12 : decode cX7_anyFits 12 = .ok (.if_icmp .ge 58, 3) := dgX7_anyFits_0 (12, (.if_icmp .ge 58, 3)) (List.mem_of_getElem? (i := 8) rfl)
theorem dX7_anyFits_15 : decode cX7_anyFits 15 = .ok (.iload_n 1, 1) := dgX7_anyFits_0 (15, (.iload_n 1, 1)) (List.mem_of_getElem? (i := 9) rfl)
theorem dX7_anyFits_16 : decode cX7_anyFits 16 = .ok (.bipush 64, 2) := dgX7_anyFits_0 (16, (.bipush 64, 2)) (List.mem_of_getElem? (i := 10) rfl)
theorem dX7_anyFits_18 : decode cX7_anyFits 18 = .ok (.imul, 1) := dgX7_anyFits_0 (18, (.imul, 1)) (List.mem_of_getElem? (i := 11) rfl)
theorem dX7_anyFits_19 : decode cX7_anyFits 19 = .ok (.iload_n 2, 1) := dgX7_anyFits_0 (19, (.iload_n 2, 1)) (List.mem_of_getElem? (i := 12) rfl)
theorem dX7_anyFits_20 : decode cX7_anyFits 20 = .ok (.iadd, 1) := dgX7_anyFits_0 (20, (.iadd, 1)) (List.mem_of_getElem? (i := 13) rfl)
theorem dX7_anyFits_21 : decode cX7_anyFits 21 = .ok (.istore_n 3, 1) := dgX7_anyFits_0 (21, (.istore_n 3, 1)) (List.mem_of_getElem? (i := 14) rfl)
theorem dX7_anyFits_22 : decode cX7_anyFits 22 = .ok (.aload_n 0, 1) := dgX7_anyFits_0 (22, (.aload_n 0, 1)) (List.mem_of_getElem? (i := 15) rfl)
theorem dX7_anyFits_23 : decode cX7_anyFits 23 = .ok (.getfield 9, 3) := dgX7_anyFits_0 (23, (.getfield 9, 3)) (List.mem_of_getElem? (i := 16) rfl)
theorem dX7_anyFits_26 : decode cX7_anyFits 26 = .ok (.iload_n 1, 1) := dgX7_anyFits_0 (26, (.iload_n 1, 1)) (List.mem_of_getElem? (i := 17) rfl)
theorem dX7_anyFits_27 : decode cX7_anyFits 27 = .ok (.laload, 1) := dgX7_anyFits_0 (27, (.laload, 1)) (List.mem_of_getElem? (i := 18) rfl)
theorem dX7_anyFits_28 : decode cX7_anyFits 28 = .ok (.iload_n 2, 1) := dgX7_anyFits_0 (28, (.iload_n 2, 1)) (List.mem_of_getElem? (i := 19) rfl)
theorem dX7_anyFits_29 : decode cX7_anyFits 29 = .ok (.invokestatic 98, 3) := dgX7_anyFits_0 (29, (.invokestatic 98, 3)) (List.mem_of_getElem? (i := 20) rfl)
theorem dX7_anyFits_32 : decode cX7_anyFits 32 = .ok (.ifCond .eq 7, 3) := dgX7_anyFits_0 (32, (.ifCond .eq 7, 3)) (List.mem_of_getElem? (i := 21) rfl)
theorem dX7_anyFits_35 : decode cX7_anyFits 35 = .ok (.iconst 0, 1) := dgX7_anyFits_0 (35, (.iconst 0, 1)) (List.mem_of_getElem? (i := 22) rfl)
theorem dX7_anyFits_36 : decode cX7_anyFits 36 = .ok (.goto 9, 3) := dgX7_anyFits_0 (36, (.goto 9, 3)) (List.mem_of_getElem? (i := 23) rfl)
theorem dX7_anyFits_39 : decode cX7_anyFits 39 = .ok (.aload_n 0, 1) := dgX7_anyFits_0 (39, (.aload_n 0, 1)) (List.mem_of_getElem? (i := 24) rfl)
theorem dX7_anyFits_40 : decode cX7_anyFits 40 = .ok (.iload_n 1, 1) := dgX7_anyFits_0 (40, (.iload_n 1, 1)) (List.mem_of_getElem? (i := 25) rfl)
theorem dX7_anyFits_41 : decode cX7_anyFits 41 = .ok (.iload_n 2, 1) := dgX7_anyFits_0 (41, (.iload_n 2, 1)) (List.mem_of_getElem? (i := 26) rfl)
theorem dX7_anyFits_42 : decode cX7_anyFits 42 = .ok (.invokevirtual 108, 3) := dgX7_anyFits_0 (42, (.invokevirtual 108, 3)) (List.mem_of_getElem? (i := 27) rfl)
theorem dX7_anyFits_45 : decode cX7_anyFits 45 = .ok (.istore 4, 2) := dgX7_anyFits_0 (45, (.istore 4, 2)) (List.mem_of_getElem? (i := 28) rfl)
theorem dX7_anyFits_47 : decode cX7_anyFits 47 = .ok (.aload_n 0, 1) := dgX7_anyFits_0 (47, (.aload_n 0, 1)) (List.mem_of_getElem? (i := 29) rfl)
theorem dX7_anyFits_48 : decode cX7_anyFits 48 = .ok (.getfield 25, 3) := dgX7_anyFits_0 (48, (.getfield 25, 3)) (List.mem_of_getElem? (i := 30) rfl)
theorem dX7_anyFits_51 : decode cX7_anyFits 51 = .ok (.iload_n 3, 1) := dgX7_anyFits_0 (51, (.iload_n 3, 1)) (List.mem_of_getElem? (i := 31) rfl)
theorem dX7_anyFits_52 : decode cX7_anyFits 52 = .ok (.iload 4, 2) := dgX7_anyFits_0 (52, (.iload 4, 2)) (List.mem_of_getElem? (i := 32) rfl)
theorem dX7_anyFits_54 : decode cX7_anyFits 54 = .ok (.aload_n 0, 1) := dgX7_anyFits_0 (54, (.aload_n 0, 1)) (List.mem_of_getElem? (i := 33) rfl)
theorem dX7_anyFits_55 : decode cX7_anyFits 55 = .ok (.getfield 15, 3) := dgX7_anyFits_0 (55, (.getfield 15, 3)) (List.mem_of_getElem? (i := 34) rfl)
theorem dX7_anyFits_58 : decode cX7_anyFits 58 = .ok (.iload_n 3, 1) := dgX7_anyFits_0 (58, (.iload_n 3, 1)) (List.mem_of_getElem? (i := 35) rfl)
theorem dX7_anyFits_59 : decode cX7_anyFits 59 = .ok (.iaload, 1) := dgX7_anyFits_0 (59, (.iaload, 1)) (List.mem_of_getElem? (i := 36) rfl)
theorem dX7_anyFits_60 : decode cX7_anyFits 60 = .ok (.invokestatic 111, 3) := dgX7_anyFits_0 (60, (.invokestatic 111, 3)) (List.mem_of_getElem? (i := 37) rfl)
theorem dX7_anyFits_63 : decode cX7_anyFits 63 = .ok (.iastore, 1) := dgX7_anyFits_0 (63, (.iastore, 1)) (List.mem_of_getElem? (i := 38) rfl)
theorem dX7_anyFits_64 : decode cX7_anyFits 64 = .ok (.iinc 2 1, 3) := dgX7_anyFits_0 (64, (.iinc 2 1, 3)) (List.mem_of_getElem? (i := 39) rfl)
theorem dgX7_anyFits_1 : ∀ r ∈ ([(67, (.goto (-58), 3)), (70, (.iinc 1 (-1), 3)), (73, (.goto (-70), 3)), (76, (.iconst 0, 1)), (77, (.istore_n 1, 1)), (78, (.iload_n 1, 1)), (79, (.bipush 64, 2)), (81, (.if_icmp .ge 22, 3)), (84, (.aload_n 0, 1)), (85, (.getfield 25, 3)), (88, (.iload_n 1, 1)), (89, (.iaload, 1)), (90, (.iconst 1, 1)), (91, (.iand, 1)), (92, (.ifCond .eq 5, 3)), (95, (.iconst 1, 1)), (96, (.ireturn, 1)), (97, (.iinc 1 1, 3)), (100, (.goto (-22), 3)), (103, (.iconst 0, 1)), (104, (.ireturn, 1))] : List (Nat × (Instr × Nat))), decode cX7_anyFits r.1 = .ok r.2 := by decide +kernel
theorem dX7_anyFits_67 : decode cX7_anyFits 67 = .ok (.goto (-58), 3) := dgX7_anyFits_1 (67, (.goto (-58), 3)) (List.mem_of_getElem? (i := 0) rfl)
theorem dX7_anyFits_70 : decode cX7_anyFits 70 = .ok (.iinc 1 (-1), 3) := dgX7_anyFits_1 (70, (.iinc 1 (-1), 3)) (List.mem_of_getElem? (i := 1) rfl)
theorem dX7_anyFits_73 : decode cX7_anyFits 73 = .ok (.goto (-70), 3) := dgX7_anyFits_1 (73, (.goto (-70), 3)) (List.mem_of_getElem? (i := 2) rfl)
theorem dX7_anyFits_76 : decode cX7_anyFits 76 = .ok (.iconst 0, 1) := dgX7_anyFits_1 (76, (.iconst 0, 1)) (List.mem_of_getElem? (i := 3) rfl)
theorem dX7_anyFits_77 : decode cX7_anyFits 77 = .ok (.istore_n 1, 1) := dgX7_anyFits_1 (77, (.istore_n 1, 1)) (List.mem_of_getElem? (i := 4) rfl)
theorem dX7_anyFits_78 : decode cX7_anyFits 78 = .ok (.iload_n 1, 1) := dgX7_anyFits_1 (78, (.iload_n 1, 1)) (List.mem_of_getElem? (i := 5) rfl)
theorem dX7_anyFits_79 : decode cX7_anyFits 79 = .ok (.bipush 64, 2) := dgX7_anyFits_1 (79, (.bipush 64, 2)) (List.mem_of_getElem? (i := 6) rfl)
theorem dX7_anyFits_81 : decode cX7_anyFits 81 = .ok (.if_icmp .ge 22, 3) := dgX7_anyFits_1 (81, (.if_icmp .ge 22, 3)) (List.mem_of_getElem? (i := 7) rfl)
theorem dX7_anyFits_84 : decode cX7_anyFits 84 = .ok (.aload_n 0, 1) := dgX7_anyFits_1 (84, (.aload_n 0, 1)) (List.mem_of_getElem? (i := 8) rfl)
theorem dX7_anyFits_85 : decode cX7_anyFits 85 = .ok (.getfield 25, 3) := dgX7_anyFits_1 (85, (.getfield 25, 3)) (List.mem_of_getElem? (i := 9) rfl)
theorem dX7_anyFits_88 : decode cX7_anyFits 88 = .ok (.iload_n 1, 1) := dgX7_anyFits_1 (88, (.iload_n 1, 1)) (List.mem_of_getElem? (i := 10) rfl)
theorem dX7_anyFits_89 : decode cX7_anyFits 89 = .ok (.iaload, 1) := dgX7_anyFits_1 (89, (.iaload, 1)) (List.mem_of_getElem? (i := 11) rfl)
theorem dX7_anyFits_90 : decode cX7_anyFits 90 = .ok (.iconst 1, 1) := dgX7_anyFits_1 (90, (.iconst 1, 1)) (List.mem_of_getElem? (i := 12) rfl)
theorem dX7_anyFits_91 : decode cX7_anyFits 91 = .ok (.iand, 1) := dgX7_anyFits_1 (91, (.iand, 1)) (List.mem_of_getElem? (i := 13) rfl)
theorem dX7_anyFits_92 : decode cX7_anyFits 92 = .ok (.ifCond .eq 5, 3) := dgX7_anyFits_1 (92, (.ifCond .eq 5, 3)) (List.mem_of_getElem? (i := 14) rfl)
theorem dX7_anyFits_95 : decode cX7_anyFits 95 = .ok (.iconst 1, 1) := dgX7_anyFits_1 (95, (.iconst 1, 1)) (List.mem_of_getElem? (i := 15) rfl)
theorem dX7_anyFits_96 : decode cX7_anyFits 96 = .ok (.ireturn, 1) := dgX7_anyFits_1 (96, (.ireturn, 1)) (List.mem_of_getElem? (i := 16) rfl)
theorem dX7_anyFits_97 : decode cX7_anyFits 97 = .ok (.iinc 1 1, 3) := dgX7_anyFits_1 (97, (.iinc 1 1, 3)) (List.mem_of_getElem? (i := 17) rfl)
theorem dX7_anyFits_100 : decode cX7_anyFits 100 = .ok (.goto (-22), 3) := dgX7_anyFits_1 (100, (.goto (-22), 3)) (List.mem_of_getElem? (i := 18) rfl)
theorem dX7_anyFits_103 : decode cX7_anyFits 103 = .ok (.iconst 0, 1) := dgX7_anyFits_1 (103, (.iconst 0, 1)) (List.mem_of_getElem? (i := 19) rfl)
theorem dX7_anyFits_104 : decode cX7_anyFits 104 = .ok (.ireturn, 1) := dgX7_anyFits_1 (104, (.ireturn, 1)) (List.mem_of_getElem? (i := 20) rfl)
theorem ml_X7_108 : Cond.methodLink RX7 108 yX7_hopesBehind ∈ tblG := tg 1000 (by decide +kernel) (by decide +kernel)
theorem im_X7_hopesBehind : Cond.instanceMethod yX7_hopesBehind ∈ tblG := tg 1002 (by decide +kernel) (by decide +kernel)
theorem se_X7_hopesBehind : Cond.selects RX7 yX7_hopesBehind yX7_hopesBehind ∈ tblG := tg 23 (by decide +kernel) (by decide +kernel)
theorem ini_X7 : Cond.initialized RX7 ∈ tblG := tg 94 (by decide +kernel) (by decide +kernel)
theorem cd_X7_hopesBehind : Cond.code yX7_hopesBehind cX7_hopesBehind 6 (some .int) ∈ tblG := tg 1003 (by decide +kernel) (by decide +kernel)
theorem gW_X7_hopesBehind : GoodIn tblG (wsG yX7_hopesBehind cX7_hopesBehind 6 (some .int)) := tgi cd_X7_hopesBehind
theorem gV_X7_108 : GoodIn tblG (wsV RX7 108 RX7 yX7_hopesBehind (wsG yX7_hopesBehind cX7_hopesBehind 6 (some .int))) := tgV ml_X7_108 im_X7_hopesBehind se_X7_hopesBehind ini_X7 gW_X7_hopesBehind
theorem hv_X7_hopesBehind : yX7_hopesBehind.cls = RX7 ∧ yX7_hopesBehind.cls ≠ "java/lang/invoke/MethodHandle" ∧ yX7_hopesBehind.cls ≠ "java/lang/invoke/VarHandle" ∧ (parseMethodDescriptor yX7_hopesBehind.desc).map (fun d => d.parameters.length) = some 2 := by decide +kernel
theorem ml_X7_111 : Cond.methodLink RX7 111 yX7_masksBefore ∈ tblG := tg 1004 (by decide +kernel) (by decide +kernel)
theorem st_X7_masksBefore : Cond.static yX7_masksBefore ∈ tblG := tg 1005 (by decide +kernel) (by decide +kernel)
theorem cd_X7_masksBefore : Cond.code yX7_masksBefore cX7_masksBefore 4 (some .int) ∈ tblG := tg 1006 (by decide +kernel) (by decide +kernel)
theorem gW_X7_masksBefore : GoodIn tblG (wsG yX7_masksBefore cX7_masksBefore 4 (some .int)) := tgi cd_X7_masksBefore
theorem gS_X7_111 : GoodIn tblG (va_wsS RX7 111 yX7_masksBefore (wsG yX7_masksBefore cX7_masksBefore 4 (some .int))) := tgS ml_X7_111 st_X7_masksBefore ini_X7 gW_X7_masksBefore
theorem hs_X7_masksBefore : yX7_masksBefore.cls ≠ "java/lang/invoke/MethodHandle" ∧ yX7_masksBefore.cls ≠ "java/lang/invoke/VarHandle" ∧ (parseMethodDescriptor yX7_masksBefore.desc).map (fun d => d.parameters.length) = some 2 := by decide +kernel
set_option maxHeartbeats 4000000 in
set_option maxRecDepth 100000 in
theorem th_anyFits (l : Launch) (G : g5_G) (a_th a_ba a_ad a_hp a_h a_k a_cn a_nx a_hl a_lv : Nat) (sz : Nat) (e_fu : Int32) (f_ba : Nat → Int64) (f_ad : Nat → Int32) (f_hp : Nat → Int32) : Met l yX7_anyFits (wsG yX7_anyFits cX7_anyFits 5 (some .boolean)) ({ frames := 2, cells := 0, slots := 0, locals := 46 }) (va_Pc [.ref a_th] (g5_P G [(a_th, (oc7 a_h a_k a_ba a_ad e_fu a_cn a_nx a_hp a_hl a_lv)), (a_ba, (arJ G 24 f_ba)), (a_ad, (arI G 1536 f_ad)), (a_hp, (arI G 1536 f_hp))] sz)) (va_Qi (fun (r : Int32) (u : va_W) => (∃ (o_r : Int32) (o_f : Nat → Int32), (0 ≤ o_r.toInt ∧ o_r.toInt ≤ 1) ∧ (r = o_r) ∧ (u = [(a_th, (oc7 a_h a_k a_ba a_ad e_fu a_cn a_nx a_hp a_hl a_lv)), (a_ba, (arJ G 24 f_ba)), (a_ad, (arI G 1536 f_ad)), (a_hp, (arI G 1536 o_f))]))) (g5_B G (va_A [(a_th, (oc7 a_h a_k a_ba a_ad e_fu a_cn a_nx a_hp a_hl a_lv)), (a_ba, (arJ G 24 f_ba)), (a_ad, (arI G 1536 f_ad)), (a_hp, (arI G 1536 f_hp))] sz)) (va_A [(a_th, (oc7 a_h a_k a_ba a_ad e_fu a_cn a_nx a_hp a_hl a_lv)), (a_ba, (arJ G 24 f_ba)), (a_ad, (arI G 1536 f_ad)), (a_hp, (arI G 1536 f_hp))] sz)) 0 0 (va_A [(a_th, (oc7 a_h a_k a_ba a_ad e_fu a_cn a_nx a_hp a_hl a_lv)), (a_ba, (arJ G 24 f_ba)), (a_ad, (arI G 1536 f_ad)), (a_hp, (arI G 1536 f_hp))] sz) := by
  refine Met.ofW (cc := cX7_anyFits) (maxL := 5) (ret := (some .boolean)) (by decide) rfl ?_
  intro p e s m args below meth c s₁ B hml hv
  obtain ⟨rfl, hsz, hP, hK, hD0, hN, hT⟩ := hv
  have hx := B.exec
  have hb := B.bytes
  have hr := B.returns
  have hts : ∀ w ∈ tblG, w.before _ s = true := fun w h => atoms_spec (ws := (wsG yX7_anyFits cX7_anyFits 5 (some .boolean))) B.pre w (List.mem_cons_of_mem _ h)
  have hown : s.vm.findClass RX7 = some m.cls := findClass_of_methodNamed B.named
  have hlocks := B.notSynchronized
  subst hsz
  have hD := hD0.self (sz := s.heap.size)
  generalize hAe : va_A [(a_th, (oc7 a_h a_k a_ba a_ad e_fu a_cn a_nx a_hp a_hl a_lv)), (a_ba, (arJ G 24 f_ba)), (a_ad, (arI G 1536 f_ad)), (a_hp, (arI G 1536 f_hp))] s.heap.size = A at hD hT ⊢
  have hA : ∀ q : Nat, s.heap.size ≤ q → A q := fun q h => by rw [← hAe]; exact Or.inr h
  have hS : va_S A s.heap s.heap [] := va_S.rf
  have hP : va_P G.1 vwCl [(a_th, (oc7 a_h a_k a_ba a_ad e_fu a_cn a_nx a_hp a_hl a_lv)), (a_ba, (arJ G 24 f_ba)), (a_ad, (arI G 1536 f_ad)), (a_hp, (arI G 1536 f_hp))] s.heap := hP
  have hl := lv_entry ([.ref a_th]) (n := 5) (Nat.le_of_ble_eq_true rfl)
  rw [lg_entry_eq]
  generalize (lg_sl ([.ref a_th]) ++ List.replicate (5 - (lg_sl ([.ref a_th])).length) Slot.unset).toArray = ls at hl ⊢
  have hl : lv_has ls 5 [(0, .ref a_th)] := hl
  refine lv_bipush (v := 23) hx hb dX7_anyFits_0 (by decide) ?_
  refine lv_istore_n (lv' := [(1, .int 23), (0, .ref a_th)]) hx hb dX7_anyFits_2 rfl hl (by decide) rfl (fun ls hl => ?_)
  refine g5_loop (α := (Int32) × (Nat → Int32)) (fun (q : (Int32) × (Nat → Int32)) (ls : Array Slot) (H : Heap) (locs : List Loc) => match q with | (k_h, k_f) => lv_has ls 5 [(1, .int k_h), (0, .ref a_th)] ∧ va_P G.1 vwCl [(a_th, (oc7 a_h a_k a_ba a_ad e_fu a_cn a_nx a_hp a_hl a_lv)), (a_ba, (arJ G 24 f_ba)), (a_ad, (arI G 1536 f_ad)), (a_hp, (arI G 1536 k_f))] H ∧ va_D A [(a_th, (oc7 a_h a_k a_ba a_ad e_fu a_cn a_nx a_hp a_hl a_lv)), (a_ba, (arJ G 24 f_ba)), (a_ad, (arI G 1536 f_ad)), (a_hp, (arI G 1536 k_f))] ∧ va_S A s.heap H locs ∧ ((-1) ≤ k_h.toInt ∧ k_h.toInt ≤ 23)) (fun (q : (Int32) × (Nat → Int32)) => match q with | (k_h, k_f) => Int.toNat (k_h.toInt + 1)) (23, f_hp) ⟨lv_sub hl [0, 1] rfl, hP, hD, hS, ⟨by decide, by decide⟩⟩ ?_
  rintro ⟨k_h, k_f⟩ ls H locs ⟨hl, hP, hD, hS, i_1⟩ ih_3_2
  have hl : lv_has ls 5 [(1, .int k_h), (0, .ref a_th)] := hl
  have i_1 : (-1) ≤ k_h.toInt ∧ k_h.toInt ≤ 23 := i_1
  refine g5_rs [(a_th, (oc7 a_h a_k a_ba a_ad e_fu a_cn a_nx a_hp a_hl a_lv)), (a_ba, (arJ G 24 f_ba)), (a_ad, (arI G 1536 f_ad)), (a_hp, (arI G 1536 k_f))] hP hD (fun hP hD => ?_)
  refine lv_iload_n hx hb dX7_anyFits_3 rfl (lv_at hl 0 rfl) ?_
  refine lv_if_lt (tgt := 76) hx hb dX7_anyFits_4 (by decide) (fun c_3 => ?_) (fun c_3 => ?_)
  ·
    have i_3 : k_h.toInt < 0 := by have z := g5_lt (a := k_h.toInt) (b := 0) (by rfl) (by decide) c_3; omega
    refine lv_iconst (v := 0) hx hb dX7_anyFits_76 (by decide) ?_
    refine lv_istore_n (lv' := [(1, .int 0), (0, .ref a_th)]) hx hb dX7_anyFits_77 rfl hl (by decide) rfl (fun ls hl => ?_)
    refine g5_loop (α := (Int32)) (fun (n_i : (Int32)) (ls : Array Slot) (H : Heap) (locs : List Loc) => lv_has ls 5 [(1, .int n_i), (0, .ref a_th)] ∧ va_P G.1 vwCl [(a_th, (oc7 a_h a_k a_ba a_ad e_fu a_cn a_nx a_hp a_hl a_lv)), (a_ba, (arJ G 24 f_ba)), (a_ad, (arI G 1536 f_ad)), (a_hp, (arI G 1536 k_f))] H ∧ va_D A [(a_th, (oc7 a_h a_k a_ba a_ad e_fu a_cn a_nx a_hp a_hl a_lv)), (a_ba, (arJ G 24 f_ba)), (a_ad, (arI G 1536 f_ad)), (a_hp, (arI G 1536 k_f))] ∧ va_S A s.heap H locs ∧ (0 ≤ n_i.toInt ∧ n_i.toInt ≤ 64)) (fun (n_i : (Int32)) => Int.toNat (64 - n_i.toInt)) 0 ⟨lv_sub hl [0, 1] rfl, hP, hD, hS, ⟨by decide, by decide⟩⟩ ?_
    rintro n_i ls H locs ⟨hl, hP, hD, hS, i_4⟩ ih_78_5
    have hl : lv_has ls 5 [(1, .int n_i), (0, .ref a_th)] := hl
    have i_4 : 0 ≤ n_i.toInt ∧ n_i.toInt ≤ 64 := i_4
    refine g5_rs [(a_th, (oc7 a_h a_k a_ba a_ad e_fu a_cn a_nx a_hp a_hl a_lv)), (a_ba, (arJ G 24 f_ba)), (a_ad, (arI G 1536 f_ad)), (a_hp, (arI G 1536 k_f))] hP hD (fun hP hD => ?_)
    refine lv_iload_n hx hb dX7_anyFits_78 rfl (lv_at hl 0 rfl) ?_
    refine lv_bipush (v := 64) hx hb dX7_anyFits_79 (by decide) ?_
    refine lv_icmp_ge (tgt := 103) hx hb dX7_anyFits_81 (by decide) (fun c_6 => ?_) (fun c_6 => ?_)
    ·
      have i_6 : n_i.toInt ≥ 64 := by have z := g5_ge (a := n_i.toInt) (b := 64) (by rfl) (by decide) c_6; omega
      refine lv_iconst (v := 0) hx hb dX7_anyFits_103 (by decide) ?_
      exact W.zret (v := 0) hx hb hr rfl (fun t ht hW => ⟨⟨0, [(a_th, (oc7 a_h a_k a_ba a_ad e_fu a_cn a_nx a_hp a_hl a_lv)), (a_ba, (arJ G 24 f_ba)), (a_ad, (arI G 1536 f_ad)), (a_hp, (arI G 1536 k_f))], rfl, ⟨0, k_f, ⟨by have zc_o_r : (0 : Int32).toInt = 0 := (by decide); omega, by have zc_o_r : (0 : Int32).toInt = 0 := (by decide); omega⟩, rfl, rfl⟩, by rw [ht]; exact hP.sub [0, 1, 2, 3] rfl, hD.sub [0, 1, 2, 3] (by decide) rfl⟩, hS.F ht⟩) hS.2.2 dX7_anyFits_104
    ·
      have i_6 : n_i.toInt < 64 := by have z := g5_geN (a := n_i.toInt) (b := 64) (by rfl) (by decide) c_6; omega
      refine lv_aload_n hx hb dX7_anyFits_84 rfl (lv_at hl 1 rfl) ?_
      refine va_get (D := G.1) (ci := 7) (v := .ref a_hp) (C := RX7) (T := TX7) (N := 10) hx hb hts inG_X7 hown hK hP 0 rfl rfl 7 (by decide) (hts _ fl_X7_25) (fun _ h9 => h9) rfl dX7_anyFits_85 ?_
      refine lv_iload_n hx hb dX7_anyFits_88 rfl (lv_at hl 0 rfl) ?_
      refine va_iald hx hb hK hP 3 0 rfl rfl (i := n_i) (vp_in_iff.mpr ⟨by omega, by omega⟩) dX7_anyFits_89 ?_
      refine lv_iconst (v := 1) hx hb dX7_anyFits_90 (by decide) ?_
      refine lv_iand hx hb dX7_anyFits_91 ?_
      refine lv_if_eq (tgt := 97) hx hb dX7_anyFits_92 (by decide) (fun c_7 => ?_) (fun c_7 => ?_)
      ·
        have i_7 : ((k_f n_i.toNatClampNeg) &&& 1).toInt = 0 := by have z := g5_eq (a := ((k_f n_i.toNatClampNeg) &&& 1).toInt) (b := 0) (by rfl) (by decide) c_7; omega
        refine lv_iinc (v := (n_i + 1)) (lv' := [(1, .int (n_i + 1)), (0, .ref a_th)]) hx hb dX7_anyFits_97 hl (k := 0) rfl rfl (by decide) rfl (fun ls hl => ?_)
        have t_8 : (n_i + 1).toInt = n_i.toInt + 1 := g5_iadd (a := n_i.toInt) (b := 1) rfl (by decide) (by omega) (by omega)
        refine lv_goto (tgt := 78) hx hb dX7_anyFits_100 (by decide) ?_
        exact ih_78_5 (n_i + 1) ls H locs (show Int.toNat (64 - (n_i + 1).toInt) < Int.toNat (64 - n_i.toInt) from g_up (show n_i.toInt < (n_i + 1).toInt by omega) (show n_i.toInt < 64 by omega)) ⟨lv_sub hl [0, 1] rfl, hP, hD, hS, ⟨by omega, by omega⟩⟩
      ·
        have n_7 : gNe (((k_f n_i.toNatClampNeg) &&& 1).toInt) (0) := by have z := g5_eqN (a := ((k_f n_i.toNatClampNeg) &&& 1).toInt) (b := 0) (by rfl) (by decide) c_7; unfold gNe; omega
        refine lv_iconst (v := 1) hx hb dX7_anyFits_95 (by decide) ?_
        exact W.zret (v := 1) hx hb hr rfl (fun t ht hW => ⟨⟨1, [(a_th, (oc7 a_h a_k a_ba a_ad e_fu a_cn a_nx a_hp a_hl a_lv)), (a_ba, (arJ G 24 f_ba)), (a_ad, (arI G 1536 f_ad)), (a_hp, (arI G 1536 k_f))], rfl, ⟨1, k_f, ⟨by have zc_o_r : (1 : Int32).toInt = 1 := (by decide); omega, by have zc_o_r : (1 : Int32).toInt = 1 := (by decide); omega⟩, rfl, rfl⟩, by rw [ht]; exact hP.sub [0, 1, 2, 3] rfl, hD.sub [0, 1, 2, 3] (by decide) rfl⟩, hS.F ht⟩) hS.2.2 dX7_anyFits_96
  ·
    have i_3 : k_h.toInt ≥ 0 := by have z := g5_ltN (a := k_h.toInt) (b := 0) (by rfl) (by decide) c_3; omega
    refine lv_iconst (v := 0) hx hb dX7_anyFits_7 (by decide) ?_
    refine lv_istore_n (lv' := [(2, .int 0), (1, .int k_h), (0, .ref a_th)]) hx hb dX7_anyFits_8 rfl hl (by decide) rfl (fun ls hl => ?_)
    refine g5_loop (α := (Int32) × (Nat → Int32)) (fun (q : (Int32) × (Nat → Int32)) (ls : Array Slot) (H : Heap) (locs : List Loc) => match q with | (m_c, m_f) => lv_has ls 5 [(2, .int m_c), (1, .int k_h), (0, .ref a_th)] ∧ va_P G.1 vwCl [(a_th, (oc7 a_h a_k a_ba a_ad e_fu a_cn a_nx a_hp a_hl a_lv)), (a_ba, (arJ G 24 f_ba)), (a_ad, (arI G 1536 f_ad)), (a_hp, (arI G 1536 m_f))] H ∧ va_D A [(a_th, (oc7 a_h a_k a_ba a_ad e_fu a_cn a_nx a_hp a_hl a_lv)), (a_ba, (arJ G 24 f_ba)), (a_ad, (arI G 1536 f_ad)), (a_hp, (arI G 1536 m_f))] ∧ va_S A s.heap H locs ∧ (0 ≤ m_c.toInt ∧ m_c.toInt ≤ 64)) (fun (q : (Int32) × (Nat → Int32)) => match q with | (m_c, m_f) => Int.toNat (64 - m_c.toInt)) (0, k_f) ⟨lv_sub hl [0, 1, 2] rfl, hP, hD, hS, ⟨by decide, by decide⟩⟩ ?_
    rintro ⟨m_c, m_f⟩ ls H locs ⟨hl, hP, hD, hS, i_9⟩ ih_9_10
    have hl : lv_has ls 5 [(2, .int m_c), (1, .int k_h), (0, .ref a_th)] := hl
    have i_9 : 0 ≤ m_c.toInt ∧ m_c.toInt ≤ 64 := i_9
    refine g5_rs [(a_th, (oc7 a_h a_k a_ba a_ad e_fu a_cn a_nx a_hp a_hl a_lv)), (a_ba, (arJ G 24 f_ba)), (a_ad, (arI G 1536 f_ad)), (a_hp, (arI G 1536 m_f))] hP hD (fun hP hD => ?_)
    refine lv_iload_n hx hb dX7_anyFits_9 rfl (lv_at hl 0 rfl) ?_
    refine lv_bipush (v := 64) hx hb dX7_anyFits_10 (by decide) ?_
    refine lv_icmp_ge (tgt := 70) hx hb dX7_anyFits_12 (by decide) (fun c_11 => ?_) (fun c_11 => ?_)
    ·
      have i_11 : m_c.toInt ≥ 64 := by have z := g5_ge (a := m_c.toInt) (b := 64) (by rfl) (by decide) c_11; omega
      obtain ⟨y12, hy_12, t_12⟩ := g_incN k_h (-1) (by decide) (by omega) (by omega)
      have t_12 : y12.toInt = k_h.toInt + (-1) := t_12
      refine lv_iinc (v := y12) (lv' := [(1, .int y12), (2, .int m_c), (0, .ref a_th)]) hx hb dX7_anyFits_70 hl (k := 1) rfl hy_12 (by decide) rfl (fun ls hl => ?_)
      refine lv_goto (tgt := 3) hx hb dX7_anyFits_73 (by decide) ?_
      exact ih_3_2 (y12, m_f) ls H locs (show Int.toNat (y12.toInt + 1) < Int.toNat (k_h.toInt + 1) from g_dn (show y12.toInt < k_h.toInt by omega) (show 0 ≤ k_h.toInt by omega)) ⟨lv_sub hl [0, 2] rfl, hP, hD, hS, ⟨by omega, by omega⟩⟩
    ·
      have i_11 : m_c.toInt < 64 := by have z := g5_geN (a := m_c.toInt) (b := 64) (by rfl) (by decide) c_11; omega
      refine lv_iload_n hx hb dX7_anyFits_15 rfl (lv_at hl 1 rfl) ?_
      refine lv_bipush (v := 64) hx hb dX7_anyFits_16 (by decide) ?_
      refine lv_imul hx hb dX7_anyFits_18 ?_
      have t_13 : (k_h * 64).toInt = k_h.toInt * 64 := g5_imul (a := k_h.toInt) (b := 64) (by rfl) (by decide) (by omega) (by omega)
      refine lv_iload_n hx hb dX7_anyFits_19 rfl (lv_at hl 0 rfl) ?_
      refine lv_iadd hx hb dX7_anyFits_20 ?_
      have t_14 : ((k_h * 64) + m_c).toInt = (k_h * 64).toInt + m_c.toInt := g5_iadd (a := (k_h * 64).toInt) (b := m_c.toInt) (by rfl) (by rfl) (by omega) (by omega)
      refine lv_istore_n (lv' := [(3, .int ((k_h * 64) + m_c)), (2, .int m_c), (1, .int k_h), (0, .ref a_th)]) hx hb dX7_anyFits_21 rfl hl (by decide) rfl (fun ls hl => ?_)
      refine lv_aload_n hx hb dX7_anyFits_22 rfl (lv_at hl 3 rfl) ?_
      refine va_get (D := G.1) (ci := 7) (v := .ref a_ba) (C := RX7) (T := TX7) (N := 10) hx hb hts inG_X7 hown hK hP 0 rfl rfl 2 (by decide) (hts _ fl_X7_9) (fun _ h9 => h9) rfl dX7_anyFits_23 ?_
      refine lv_iload_n hx hb dX7_anyFits_26 rfl (lv_at hl 2 rfl) ?_
      refine va_lald hx hb hK hP 1 1 rfl rfl (i := k_h) (vp_in_iff.mpr ⟨by omega, by omega⟩) dX7_anyFits_27 ?_
      refine lv_iload_n hx hb dX7_anyFits_28 rfl (lv_at hl 1 rfl) ?_
      obtain ⟨hPc, hDc, hFc⟩ := g5_sub3 (wc := []) hP hD hS hA [] (by decide) rfl
      refine va_calli (va_runSN (As := [.long (f_ba k_h.toNatClampNeg), .int m_c]) (rest := []) ⟨hx, hb, hml, hown, hts⟩ (k_isOn l G H.size m_c (f_ba k_h.toNatClampNeg) ⟨by omega, by omega⟩) ⟨va_cnB 2 hts gW_X11_isOn rfl rfl rfl (hN.1 _ g5_nw_X7_98) (hts _ ini_X11) hs_X11_isOn ⟨Nat.le_of_ble_eq_true rfl, Nat.le_of_ble_eq_true rfl⟩, hts _ st_X11_isOn, trivial⟩ (g5_preS hPc hK hDc hN hT hS hFc) rfl rfl hl.1 rfl (lv_room (Nat.le_of_ble_eq_true rfl)) dX7_anyFits_29 ⟨Nat.le_of_ble_eq_true rfl, Nat.le_of_ble_eq_true rfl⟩) hS (fun q _ h => hFc q h) hFc (fun r u t H1 locs ht hvm hw hB hz1 hk1 hS => ?_)
      obtain ⟨hP1, hD1⟩ := hB
      rw [ht] at hP1
      rcases hw with ⟨i_15, rfl, rfl⟩ | ⟨i_16, rfl, rfl⟩
      ·
        have i_15 : onB (f_ba k_h.toNatClampNeg) m_c.toInt = false := i_15
        have hP := g5_same hP hk1
        generalize H1 = H at hP hS ⊢
        refine lv_if_eq (tgt := 39) hx hb dX7_anyFits_32 (by decide) (fun c_17 => ?_) (fun c_17 => ?_)
        ·
          refine lv_aload_n hx hb dX7_anyFits_39 rfl (lv_at hl 3 rfl) ?_
          refine lv_iload_n hx hb dX7_anyFits_40 rfl (lv_at hl 2 rfl) ?_
          refine lv_iload_n hx hb dX7_anyFits_41 rfl (lv_at hl 1 rfl) ?_
          obtain ⟨hPc, hDc, hFc⟩ := g5_sub3 (wc := [(a_th, (oc7 a_h a_k a_ba a_ad e_fu a_cn a_nx a_hp a_hl a_lv)), (a_hp, (arI G 1536 m_f))]) hP hD hS hA [0, 3] (by decide) rfl
          refine va_calli (va_runV (As := [.int k_h, .int m_c]) (rest := []) ⟨hx, hb, hml, hown, hts⟩ (th_behind l G a_th a_hp a_h a_k a_ba a_ad a_cn a_nx a_hl a_lv H.size e_fu k_h m_c m_f ⟨by omega, by omega⟩ ⟨by omega, by omega⟩) (cwV 2 hts gV_X7_108 rfl rfl rfl hv_X7_hopesBehind ⟨Nat.le_of_ble_eq_true rfl, Nat.le_of_ble_eq_true rfl⟩) (g5_preV hPc hK hDc hN hT hS hFc (ci := 7) (q0 := 0) rfl rfl) rfl rfl hl.1 rfl (lv_room (Nat.le_of_ble_eq_true rfl)) dX7_anyFits_42 ⟨Nat.le_of_ble_eq_true rfl, Nat.le_of_ble_eq_true rfl⟩) hS (fun q _ h => hFc q h) hFc (fun r u t H1 locs ht hvm hw hB hz1 hk1 hS => ?_)
          obtain ⟨hP1, hD1⟩ := hB
          rw [ht] at hP1
          obtain ⟨z18, y19, rfl⟩ := hw
          obtain ⟨hP, hD⟩ := va_join (wr := [(a_ba, (arJ G 24 f_ba)), (a_ad, (arI G 1536 f_ad))]) hP hD [0, 3] [1, 2] rfl rfl (by decide) (by decide) hk1 hFc hP1 hD1
          generalize H1 = H at hP hS ⊢
          refine g5_rs [(a_ba, (arJ G 24 f_ba)), (a_ad, (arI G 1536 f_ad)), (a_th, (oc7 a_h a_k a_ba a_ad e_fu a_cn a_nx a_hp a_hl a_lv)), (a_hp, (arI G 1536 m_f))] hP hD (fun hP hD => ?_)
          refine g5_ti (v := z18) y19 ?_
          refine lv_istore (lv' := [(4, .int z18), (3, .int ((k_h * 64) + m_c)), (2, .int m_c), (1, .int k_h), (0, .ref a_th)]) hx hb dX7_anyFits_45 hl (by decide) rfl (fun ls hl => ?_)
          refine lv_aload_n hx hb dX7_anyFits_47 rfl (lv_at hl 4 rfl) ?_
          refine va_get (D := G.1) (ci := 7) (v := .ref a_hp) (C := RX7) (T := TX7) (N := 10) hx hb hts inG_X7 hown hK hP 2 rfl rfl 7 (by decide) (hts _ fl_X7_25) (fun _ h9 => h9) rfl dX7_anyFits_48 ?_
          refine lv_iload_n hx hb dX7_anyFits_51 rfl (lv_at hl 1 rfl) ?_
          refine lv_iload hx hb dX7_anyFits_52 (lv_at hl 0 rfl) ?_
          refine lv_aload_n hx hb dX7_anyFits_54 rfl (lv_at hl 4 rfl) ?_
          refine va_get (D := G.1) (ci := 7) (v := .ref a_ad) (C := RX7) (T := TX7) (N := 10) hx hb hts inG_X7 hown hK hP 2 rfl rfl 3 (by decide) (hts _ fl_X7_15) (fun _ h9 => h9) rfl dX7_anyFits_55 ?_
          refine lv_iload_n hx hb dX7_anyFits_58 rfl (lv_at hl 1 rfl) ?_
          refine va_iald hx hb hK hP 1 0 rfl rfl (i := ((k_h * 64) + m_c)) (vp_in_iff.mpr ⟨by omega, by omega⟩) dX7_anyFits_59 ?_
          obtain ⟨hPc, hDc, hFc⟩ := g5_sub3 (wc := []) hP hD hS hA [] (by decide) rfl
          refine va_calli (va_runS (As := [.int z18, .int (f_ad ((k_h * 64) + m_c).toNatClampNeg)]) (rest := [.int ((k_h * 64) + m_c), .ref a_hp]) ⟨hx, hb, hml, hown, hts⟩ (th_masksBefore l G H.size z18 (f_ad ((k_h * 64) + m_c).toNatClampNeg)) (va_cwS 2 hts gS_X7_111 rfl rfl rfl hs_X7_masksBefore ⟨Nat.le_of_ble_eq_true rfl, Nat.le_of_ble_eq_true rfl⟩) (g5_preS hPc hK hDc hN hT hS hFc) rfl rfl hl.1 rfl (lv_room (Nat.le_of_ble_eq_true rfl)) dX7_anyFits_60 ⟨Nat.le_of_ble_eq_true rfl, Nat.le_of_ble_eq_true rfl⟩) hS (fun q _ h => hFc q h) hFc (fun r u t H1 locs ht hvm hw hB hz1 hk1 hS => ?_)
          obtain ⟨hP1, hD1⟩ := hB
          rw [ht] at hP1
          obtain ⟨z20, y21, rfl⟩ := hw
          have hP := g5_same hP hk1
          generalize H1 = H at hP hS ⊢
          refine g5_ti (v := z20) y21 ?_
          refine va_iast hx hb hK hP hD hS 3 0 rfl rfl (i := ((k_h * 64) + m_c)) (x := z20) (vp_in_iff.mpr ⟨by omega, by omega⟩) dX7_anyFits_63 (fun H locs hP hD hS => ?_)
          refine g5_rs [(a_ba, (arJ G 24 f_ba)), (a_ad, (arI G 1536 f_ad)), (a_th, (oc7 a_h a_k a_ba a_ad e_fu a_cn a_nx a_hp a_hl a_lv)), (a_hp, (arI G 1536 (upd m_f ((k_h * 64) + m_c).toNatClampNeg z20)))] hP hD (fun hP hD => ?_)
          refine lv_iinc (v := (m_c + 1)) (lv' := [(2, .int (m_c + 1)), (4, .int z18), (3, .int ((k_h * 64) + m_c)), (1, .int k_h), (0, .ref a_th)]) hx hb dX7_anyFits_64 hl (k := 2) rfl rfl (by decide) rfl (fun ls hl => ?_)
          have t_22 : (m_c + 1).toInt = m_c.toInt + 1 := g5_iadd (a := m_c.toInt) (b := 1) rfl (by decide) (by omega) (by omega)
          refine lv_goto (tgt := 9) hx hb dX7_anyFits_67 (by decide) ?_
          exact ih_9_10 ((m_c + 1), (upd m_f ((k_h * 64) + m_c).toNatClampNeg z20)) ls H locs (show Int.toNat (64 - (m_c + 1).toInt) < Int.toNat (64 - m_c.toInt) from g_up (show m_c.toInt < (m_c + 1).toInt by omega) (show m_c.toInt < 64 by omega)) ⟨lv_sub hl [0, 3, 4] rfl, hP.sub [2, 0, 1, 3] rfl, hD.sub [2, 0, 1, 3] (by decide) rfl, hS, ⟨by omega, by omega⟩⟩
        ·
          exact absurd c_17 (by decide)
      ·
        have i_16 : onB (f_ba k_h.toNatClampNeg) m_c.toInt = true := i_16
        have hP := g5_same hP hk1
        generalize H1 = H at hP hS ⊢
        refine lv_if_eq (tgt := 39) hx hb dX7_anyFits_32 (by decide) (fun c_23 => ?_) (fun c_23 => ?_)
        ·
          exact absurd c_23 (by decide)
        ·
          refine lv_iconst (v := 0) hx hb dX7_anyFits_35 (by decide) ?_
          refine lv_goto (tgt := 45) hx hb dX7_anyFits_36 (by decide) ?_
          refine lv_istore (lv' := [(4, .int 0), (3, .int ((k_h * 64) + m_c)), (2, .int m_c), (1, .int k_h), (0, .ref a_th)]) hx hb dX7_anyFits_45 hl (by decide) rfl (fun ls hl => ?_)
          refine lv_aload_n hx hb dX7_anyFits_47 rfl (lv_at hl 4 rfl) ?_
          refine va_get (D := G.1) (ci := 7) (v := .ref a_hp) (C := RX7) (T := TX7) (N := 10) hx hb hts inG_X7 hown hK hP 0 rfl rfl 7 (by decide) (hts _ fl_X7_25) (fun _ h9 => h9) rfl dX7_anyFits_48 ?_
          refine lv_iload_n hx hb dX7_anyFits_51 rfl (lv_at hl 1 rfl) ?_
          refine lv_iload hx hb dX7_anyFits_52 (lv_at hl 0 rfl) ?_
          refine lv_aload_n hx hb dX7_anyFits_54 rfl (lv_at hl 4 rfl) ?_
          refine va_get (D := G.1) (ci := 7) (v := .ref a_ad) (C := RX7) (T := TX7) (N := 10) hx hb hts inG_X7 hown hK hP 0 rfl rfl 3 (by decide) (hts _ fl_X7_15) (fun _ h9 => h9) rfl dX7_anyFits_55 ?_
          refine lv_iload_n hx hb dX7_anyFits_58 rfl (lv_at hl 1 rfl) ?_
          refine va_iald hx hb hK hP 2 0 rfl rfl (i := ((k_h * 64) + m_c)) (vp_in_iff.mpr ⟨by omega, by omega⟩) dX7_anyFits_59 ?_
          obtain ⟨hPc, hDc, hFc⟩ := g5_sub3 (wc := []) hP hD hS hA [] (by decide) rfl
          refine va_calli (va_runS (As := [.int 0, .int (f_ad ((k_h * 64) + m_c).toNatClampNeg)]) (rest := [.int ((k_h * 64) + m_c), .ref a_hp]) ⟨hx, hb, hml, hown, hts⟩ (th_masksBefore l G H.size 0 (f_ad ((k_h * 64) + m_c).toNatClampNeg)) (va_cwS 2 hts gS_X7_111 rfl rfl rfl hs_X7_masksBefore ⟨Nat.le_of_ble_eq_true rfl, Nat.le_of_ble_eq_true rfl⟩) (g5_preS hPc hK hDc hN hT hS hFc) rfl rfl hl.1 rfl (lv_room (Nat.le_of_ble_eq_true rfl)) dX7_anyFits_60 ⟨Nat.le_of_ble_eq_true rfl, Nat.le_of_ble_eq_true rfl⟩) hS (fun q _ h => hFc q h) hFc (fun r u t H1 locs ht hvm hw hB hz1 hk1 hS => ?_)
          obtain ⟨hP1, hD1⟩ := hB
          rw [ht] at hP1
          obtain ⟨z24, y25, rfl⟩ := hw
          have hP := g5_same hP hk1
          generalize H1 = H at hP hS ⊢
          refine g5_ti (v := z24) y25 ?_
          refine va_iast hx hb hK hP hD hS 3 0 rfl rfl (i := ((k_h * 64) + m_c)) (x := z24) (vp_in_iff.mpr ⟨by omega, by omega⟩) dX7_anyFits_63 (fun H locs hP hD hS => ?_)
          refine g5_rs [(a_th, (oc7 a_h a_k a_ba a_ad e_fu a_cn a_nx a_hp a_hl a_lv)), (a_ba, (arJ G 24 f_ba)), (a_ad, (arI G 1536 f_ad)), (a_hp, (arI G 1536 (upd m_f ((k_h * 64) + m_c).toNatClampNeg z24)))] hP hD (fun hP hD => ?_)
          refine lv_iinc (v := (m_c + 1)) (lv' := [(2, .int (m_c + 1)), (4, .int 0), (3, .int ((k_h * 64) + m_c)), (1, .int k_h), (0, .ref a_th)]) hx hb dX7_anyFits_64 hl (k := 2) rfl rfl (by decide) rfl (fun ls hl => ?_)
          have t_26 : (m_c + 1).toInt = m_c.toInt + 1 := g5_iadd (a := m_c.toInt) (b := 1) rfl (by decide) (by omega) (by omega)
          refine lv_goto (tgt := 9) hx hb dX7_anyFits_67 (by decide) ?_
          exact ih_9_10 ((m_c + 1), (upd m_f ((k_h * 64) + m_c).toNatClampNeg z24)) ls H locs (show Int.toNat (64 - (m_c + 1).toInt) < Int.toNat (64 - m_c.toInt) from g_up (show m_c.toInt < (m_c + 1).toInt by omega) (show m_c.toInt < 64 by omega)) ⟨lv_sub hl [0, 3, 4] rfl, hP, hD, hS, ⟨by omega, by omega⟩⟩
theorem dgX7_lowestNext_0 : ∀ r ∈ ([(0, (.iconst 0, 1)), (1, (.istore 4, 2)), (3, (.iload 4, 2)), (5, (.getstatic 131, 3)), (8, (.arraylength, 1)), (9, (.if_icmp .ge 49, 3)), (12, (.iload_n 1, 1)), (13, (.getstatic 131, 3)), (16, (.iload 4, 2)), (18, (.iaload, 1)), (19, (.invokestatic 105, 3)), (22, (.istore 5, 2)), (24, (.iload 5, 2)), (26, (.iconst (-1), 1)), (27, (.if_icmp .eq 25, 3)), (30, (.aload_n 0, 1)), (31, (.getfield 25, 3)), (34, (.iload_n 2, 1)), (35, (.bipush 64, 2)), (37, (.imul, 1)), (38, (.iload 5, 2)), (40, (.iadd, 1)), (41, (.iaload, 1)), (42, (.iload_n 3, 1)), (43, (.iushr, 1)), (44, (.iconst 1, 1)), (45, (.iand, 1)), (46, (.ifCond .eq 6, 3)), (49, (.iload 5, 2)), (51, (.ireturn, 1)), (52, (.iinc 4 1, 3)), (55, (.goto (-52), 3)), (58, (.iload_n 1, 1)), (59, (.ireturn, 1))] : List (Nat × (Instr × Nat))), decode cX7_lowestNext r.1 = .ok r.2 := by decide +kernel
theorem dX7_lowestNext_0 : decode cX7_lowestNext 0 = .ok (.iconst 0, 1) := dgX7_lowestNext_0 (0, (.iconst 0, 1)) (List.mem_of_getElem? (i := 0) rfl)
theorem dX7_lowestNext_1 : decode cX7_lowestNext 1 = .ok (.istore 4, 2) := dgX7_lowestNext_0 (1, (.istore 4, 2)) (List.mem_of_getElem? (i := 1) rfl)
theorem dX7_lowestNext_3 : decode cX7_lowestNext 3 = .ok (.iload 4, 2) := dgX7_lowestNext_0 (3, (.iload 4, 2)) (List.mem_of_getElem? (i := 2) rfl)
theorem dX7_lowestNext_5 : decode cX7_lowestNext 5 = .ok (.getstatic 131, 3) := dgX7_lowestNext_0 (5, (.getstatic 131, 3)) (List.mem_of_getElem? (i := 3) rfl)
theorem dX7_lowestNext_8 : decode cX7_lowestNext 8 = .ok (.arraylength, 1) := dgX7_lowestNext_0 (8, (.arraylength, 1)) (List.mem_of_getElem? (i := 4) rfl)
theorem dX7_lowestNext_9 : decode cX7_lowestNext 9 = .ok (.if_icmp .ge 49, 3) := dgX7_lowestNext_0 (9, (.if_icmp .ge 49, 3)) (List.mem_of_getElem? (i := 5) rfl)
theorem dX7_lowestNext_12 : decode cX7_lowestNext 12 = .ok (.iload_n 1, 1) := dgX7_lowestNext_0 (12, (.iload_n 1, 1)) (List.mem_of_getElem? (i := 6) rfl)
theorem dX7_lowestNext_13 : decode cX7_lowestNext 13 = .ok (.getstatic 131, 3) := dgX7_lowestNext_0 (13, (.getstatic 131, 3)) (List.mem_of_getElem? (i := 7) rfl)
theorem dX7_lowestNext_16 : decode cX7_lowestNext 16 = .ok (.iload 4, 2) := dgX7_lowestNext_0 (16, (.iload 4, 2)) (List.mem_of_getElem? (i := 8) rfl)
theorem dX7_lowestNext_18 : decode cX7_lowestNext 18 = .ok (.iaload, 1) := dgX7_lowestNext_0 (18, (.iaload, 1)) (List.mem_of_getElem? (i := 9) rfl)
theorem dX7_lowestNext_19 : decode cX7_lowestNext 19 = .ok (.invokestatic 105, 3) := dgX7_lowestNext_0 (19, (.invokestatic 105, 3)) (List.mem_of_getElem? (i := 10) rfl)
theorem dX7_lowestNext_22 : decode cX7_lowestNext 22 = .ok (.istore 5, 2) := dgX7_lowestNext_0 (22, (.istore 5, 2)) (List.mem_of_getElem? (i := 11) rfl)
theorem dX7_lowestNext_24 : decode cX7_lowestNext 24 = .ok (.iload 5, 2) := dgX7_lowestNext_0 (24, (.iload 5, 2)) (List.mem_of_getElem? (i := 12) rfl)
theorem dX7_lowestNext_26 : decode cX7_lowestNext 26 = .ok (.iconst (-1), 1) := dgX7_lowestNext_0 (26, (.iconst (-1), 1)) (List.mem_of_getElem? (i := 13) rfl)
theorem dX7_lowestNext_27 : decode cX7_lowestNext 27 = .ok (.if_icmp .eq 25, 3) := dgX7_lowestNext_0 (27, (.if_icmp .eq 25, 3)) (List.mem_of_getElem? (i := 14) rfl)
theorem dX7_lowestNext_30 : decode cX7_lowestNext 30 = .ok (.aload_n 0, 1) := dgX7_lowestNext_0 (30, (.aload_n 0, 1)) (List.mem_of_getElem? (i := 15) rfl)
theorem dX7_lowestNext_31 : decode cX7_lowestNext 31 = .ok (.getfield 25, 3) := dgX7_lowestNext_0 (31, (.getfield 25, 3)) (List.mem_of_getElem? (i := 16) rfl)
theorem dX7_lowestNext_34 : decode cX7_lowestNext 34 = .ok (.iload_n 2, 1) := dgX7_lowestNext_0 (34, (.iload_n 2, 1)) (List.mem_of_getElem? (i := 17) rfl)
theorem dX7_lowestNext_35 : decode cX7_lowestNext 35 = .ok (.bipush 64, 2) := dgX7_lowestNext_0 (35, (.bipush 64, 2)) (List.mem_of_getElem? (i := 18) rfl)
theorem dX7_lowestNext_37 : decode cX7_lowestNext 37 = .ok (.imul, 1) := dgX7_lowestNext_0 (37, (.imul, 1)) (List.mem_of_getElem? (i := 19) rfl)
theorem dX7_lowestNext_38 : decode cX7_lowestNext 38 = .ok (.iload 5, 2) := dgX7_lowestNext_0 (38, (.iload 5, 2)) (List.mem_of_getElem? (i := 20) rfl)
theorem dX7_lowestNext_40 : decode cX7_lowestNext 40 = .ok (.iadd, 1) := dgX7_lowestNext_0 (40, (.iadd, 1)) (List.mem_of_getElem? (i := 21) rfl)
theorem dX7_lowestNext_41 : decode cX7_lowestNext 41 = .ok (.iaload, 1) := dgX7_lowestNext_0 (41, (.iaload, 1)) (List.mem_of_getElem? (i := 22) rfl)
theorem dX7_lowestNext_42 : decode cX7_lowestNext 42 = .ok (.iload_n 3, 1) := dgX7_lowestNext_0 (42, (.iload_n 3, 1)) (List.mem_of_getElem? (i := 23) rfl)
theorem dX7_lowestNext_43 : decode cX7_lowestNext 43 = .ok (.iushr, 1) := dgX7_lowestNext_0 (43, (.iushr, 1)) (List.mem_of_getElem? (i := 24) rfl)
theorem dX7_lowestNext_44 : decode cX7_lowestNext 44 = .ok (.iconst 1, 1) := dgX7_lowestNext_0 (44, (.iconst 1, 1)) (List.mem_of_getElem? (i := 25) rfl)
theorem dX7_lowestNext_45 : decode cX7_lowestNext 45 = .ok (.iand, 1) := dgX7_lowestNext_0 (45, (.iand, 1)) (List.mem_of_getElem? (i := 26) rfl)
theorem dX7_lowestNext_46 : decode cX7_lowestNext 46 = .ok (.ifCond .eq 6, 3) := dgX7_lowestNext_0 (46, (.ifCond .eq 6, 3)) (List.mem_of_getElem? (i := 27) rfl)
theorem dX7_lowestNext_49 : decode cX7_lowestNext 49 = .ok (.iload 5, 2) := dgX7_lowestNext_0 (49, (.iload 5, 2)) (List.mem_of_getElem? (i := 28) rfl)
theorem dX7_lowestNext_51 : decode cX7_lowestNext 51 = .ok (.ireturn, 1) := dgX7_lowestNext_0 (51, (.ireturn, 1)) (List.mem_of_getElem? (i := 29) rfl)
theorem dX7_lowestNext_52 : decode cX7_lowestNext 52 = .ok (.iinc 4 1, 3) := dgX7_lowestNext_0 (52, (.iinc 4 1, 3)) (List.mem_of_getElem? (i := 30) rfl)
theorem dX7_lowestNext_55 : decode cX7_lowestNext 55 = .ok (.goto (-52), 3) := dgX7_lowestNext_0 (55, (.goto (-52), 3)) (List.mem_of_getElem? (i := 31) rfl)
theorem dX7_lowestNext_58 : decode cX7_lowestNext 58 = .ok (.iload_n 1, 1) := dgX7_lowestNext_0 (58, (.iload_n 1, 1)) (List.mem_of_getElem? (i := 32) rfl)
theorem dX7_lowestNext_59 : decode cX7_lowestNext 59 = .ok (.ireturn, 1) := dgX7_lowestNext_0 (59, (.ireturn, 1)) (List.mem_of_getElem? (i := 33) rfl)
set_option maxHeartbeats 4000000 in
set_option maxRecDepth 100000 in
theorem th_next (l : Launch) (G : g5_G) (a_th a_hp a_h a_k a_ba a_ad a_cn a_nx a_hl a_lv : Nat) (sz : Nat) (e_fu : Int32) (p_c : Int32) (p_h : Int32) (p_m : Int32) (f_hp : Nat → Int32) (h_p_c : 0 ≤ p_c.toInt ∧ p_c.toInt ≤ 63) (h_p_h : 0 ≤ p_h.toInt ∧ p_h.toInt ≤ 23) : Met l yX7_lowestNext (wsG yX7_lowestNext cX7_lowestNext 6 (some .int)) ({ frames := 1, cells := 0, slots := 0, locals := 21 }) (va_Pc [.ref a_th, .int p_c, .int p_h, .int p_m] (g5_P G [(a_th, (oc7 a_h a_k a_ba a_ad e_fu a_cn a_nx a_hp a_hl a_lv)), (a_hp, (arI G 1536 f_hp))] sz)) (va_Qi (fun (r : Int32) (u : va_W) => (∃ (o_r : Int32), (0 ≤ o_r.toInt ∧ o_r.toInt ≤ 63) ∧ (r = o_r) ∧ (u = [(a_th, (oc7 a_h a_k a_ba a_ad e_fu a_cn a_nx a_hp a_hl a_lv)), (a_hp, (arI G 1536 f_hp))]))) (g5_B G (va_A [(a_th, (oc7 a_h a_k a_ba a_ad e_fu a_cn a_nx a_hp a_hl a_lv)), (a_hp, (arI G 1536 f_hp))] sz)) (va_A [(a_th, (oc7 a_h a_k a_ba a_ad e_fu a_cn a_nx a_hp a_hl a_lv)), (a_hp, (arI G 1536 f_hp))] sz)) 0 0 (va_A [(a_th, (oc7 a_h a_k a_ba a_ad e_fu a_cn a_nx a_hp a_hl a_lv)), (a_hp, (arI G 1536 f_hp))] sz) := by
  refine Met.ofW (cc := cX7_lowestNext) (maxL := 6) (ret := (some .int)) (by decide) rfl ?_
  intro p e s m args below meth c s₁ B hml hv
  obtain ⟨rfl, hsz, hP, hK, hD0, hN, hT⟩ := hv
  have hx := B.exec
  have hb := B.bytes
  have hr := B.returns
  have hts : ∀ w ∈ tblG, w.before _ s = true := fun w h => atoms_spec (ws := (wsG yX7_lowestNext cX7_lowestNext 6 (some .int))) B.pre w (List.mem_cons_of_mem _ h)
  have hown : s.vm.findClass RX7 = some m.cls := findClass_of_methodNamed B.named
  have hlocks := B.notSynchronized
  subst hsz
  have hD := hD0.self (sz := s.heap.size)
  generalize hAe : va_A [(a_th, (oc7 a_h a_k a_ba a_ad e_fu a_cn a_nx a_hp a_hl a_lv)), (a_hp, (arI G 1536 f_hp))] s.heap.size = A at hD hT ⊢
  have hA : ∀ q : Nat, s.heap.size ≤ q → A q := fun q h => by rw [← hAe]; exact Or.inr h
  have hS : va_S A s.heap s.heap [] := va_S.rf
  have hP : va_P G.1 vwCl [(a_th, (oc7 a_h a_k a_ba a_ad e_fu a_cn a_nx a_hp a_hl a_lv)), (a_hp, (arI G 1536 f_hp))] s.heap := hP
  have hl := lv_entry ([.ref a_th, .int p_c, .int p_h, .int p_m]) (n := 6) (Nat.le_of_ble_eq_true rfl)
  rw [lg_entry_eq]
  generalize (lg_sl ([.ref a_th, .int p_c, .int p_h, .int p_m]) ++ List.replicate (6 - (lg_sl ([.ref a_th, .int p_c, .int p_h, .int p_m])).length) Slot.unset).toArray = ls at hl ⊢
  have hl : lv_has ls 6 [(0, .ref a_th), (1, .int p_c), (2, .int p_h), (3, .int p_m)] := hl
  refine lv_iconst (v := 0) hx hb dX7_lowestNext_0 (by decide) ?_
  refine lv_istore (lv' := [(4, .int 0), (0, .ref a_th), (1, .int p_c), (2, .int p_h), (3, .int p_m)]) hx hb dX7_lowestNext_1 hl (by decide) rfl (fun ls hl => ?_)
  refine g5_loop (α := (Int32)) (fun (k_i : (Int32)) (ls : Array Slot) (H : Heap) (locs : List Loc) => lv_has ls 6 [(4, .int k_i), (0, .ref a_th), (1, .int p_c), (2, .int p_h), (3, .int p_m)] ∧ va_P G.1 vwCl [(a_th, (oc7 a_h a_k a_ba a_ad e_fu a_cn a_nx a_hp a_hl a_lv)), (a_hp, (arI G 1536 f_hp))] H ∧ va_D A [(a_th, (oc7 a_h a_k a_ba a_ad e_fu a_cn a_nx a_hp a_hl a_lv)), (a_hp, (arI G 1536 f_hp))] ∧ va_S A s.heap H locs ∧ (0 ≤ k_i.toInt ∧ k_i.toInt ≤ 5)) (fun (k_i : (Int32)) => Int.toNat (5 - k_i.toInt)) 0 ⟨lv_sub hl [0, 1, 2, 3, 4] rfl, hP, hD, hS, ⟨by decide, by decide⟩⟩ ?_
  rintro k_i ls H locs ⟨hl, hP, hD, hS, i_1⟩ ih_3_2
  have hl : lv_has ls 6 [(4, .int k_i), (0, .ref a_th), (1, .int p_c), (2, .int p_h), (3, .int p_m)] := hl
  have i_1 : 0 ≤ k_i.toInt ∧ k_i.toInt ≤ 5 := i_1
  refine g5_rs [(a_th, (oc7 a_h a_k a_ba a_ad e_fu a_cn a_nx a_hp a_hl a_lv)), (a_hp, (arI G 1536 f_hp))] hP hD (fun hP hD => ?_)
  refine lv_iload hx hb dX7_lowestNext_3 (lv_at hl 0 rfl) ?_
  obtain ⟨tH, tL, tK, tV, tF, hZH, hTH, hZL, hTL, -⟩ := id hT
  refine va_getsN hx hb hZL hS hown (hN.1 _ g5_nw_X7_131) (fun _ h9 => h9) dX7_lowestNext_5 ?_
  refine va_tlen hx hb hTL hS (v := 5) (by decide) dX7_lowestNext_8 ?_
  refine lv_icmp_ge (tgt := 58) hx hb dX7_lowestNext_9 (by decide) (fun c_3 => ?_) (fun c_3 => ?_)
  ·
    have i_3 : k_i.toInt ≥ 5 := by have z := g5_ge (a := k_i.toInt) (b := 5) (by rfl) (by decide) c_3; omega
    refine lv_iload_n hx hb dX7_lowestNext_58 rfl (lv_at hl 2 rfl) ?_
    exact W.iret (v := p_c) hx hb hr (fun t ht hW => ⟨⟨p_c, [(a_th, (oc7 a_h a_k a_ba a_ad e_fu a_cn a_nx a_hp a_hl a_lv)), (a_hp, (arI G 1536 f_hp))], rfl, ⟨p_c, h_p_c, rfl, rfl⟩, by rw [ht]; exact hP.sub [0, 1] rfl, hD.sub [0, 1] (by decide) rfl⟩, hS.F ht⟩) hS.2.2 dX7_lowestNext_59
  ·
    have i_3 : k_i.toInt < 5 := by have z := g5_geN (a := k_i.toInt) (b := 5) (by rfl) (by decide) c_3; omega
    refine lv_iload_n hx hb dX7_lowestNext_12 rfl (lv_at hl 2 rfl) ?_
    obtain ⟨tH, tL, tK, tV, tF, hZH, hTH, hZL, hTL, -⟩ := id hT
    refine va_getsN hx hb hZL hS hown (hN.1 _ g5_nw_X7_131) (fun _ h9 => h9) dX7_lowestNext_13 ?_
    refine lv_iload hx hb dX7_lowestNext_16 (lv_at hl 0 rfl) ?_
    refine va_ti hx hb hTL hS (i := k_i) (vp_in_iff.mpr ⟨by omega, by omega⟩) (v := .int (g_low k_i.toNatClampNeg)) (g_low_eq _) dX7_lowestNext_18 ?_
    obtain ⟨hPc, hDc, hFc⟩ := g5_sub3 (wc := []) hP hD hS hA [] (by decide) rfl
    refine va_calli (va_runSN (As := [.int p_c, .int (g_low k_i.toNatClampNeg)]) (rest := []) ⟨hx, hb, hml, hown, hts⟩ (k_beside l G H.size p_c (g_low k_i.toNatClampNeg) h_p_c) ⟨va_cnB 2 hts gW_X11_beside rfl rfl rfl (hN.1 _ g5_nw_X7_105) (hts _ ini_X11) hs_X11_beside ⟨Nat.le_of_ble_eq_true rfl, Nat.le_of_ble_eq_true rfl⟩, hts _ st_X11_beside, trivial⟩ (g5_preS hPc hK hDc hN hT hS hFc) rfl rfl hl.1 rfl (lv_room (Nat.le_of_ble_eq_true rfl)) dX7_lowestNext_19 ⟨Nat.le_of_ble_eq_true rfl, Nat.le_of_ble_eq_true rfl⟩) hS (fun q _ h => hFc q h) hFc (fun r u t H1 locs ht hvm hw hB hz1 hk1 hS => ?_)
    obtain ⟨hP1, hD1⟩ := hB
    rw [ht] at hP1
    obtain ⟨z6, i_4, i_5, y7, rfl⟩ := hw
    have i_4 : z6.toInt = bs p_c.toInt (g_low k_i.toNatClampNeg).toInt := i_4
    have i_5 : -1 ≤ z6.toInt ∧ z6.toInt ≤ 63 := i_5
    have hP := g5_same hP hk1
    generalize H1 = H at hP hS ⊢
    refine g5_ti (v := z6) y7 ?_
    refine lv_istore (lv' := [(5, .int z6), (4, .int k_i), (0, .ref a_th), (1, .int p_c), (2, .int p_h), (3, .int p_m)]) hx hb dX7_lowestNext_22 hl (by decide) rfl (fun ls hl => ?_)
    refine lv_iload hx hb dX7_lowestNext_24 (lv_at hl 0 rfl) ?_
    refine lv_iconst (v := (-1)) hx hb dX7_lowestNext_26 (by decide) ?_
    refine lv_icmp_eq (tgt := 52) hx hb dX7_lowestNext_27 (by decide) (fun c_8 => ?_) (fun c_8 => ?_)
    ·
      have i_8 : z6.toInt = (-1) := by have z := g5_eq (a := z6.toInt) (b := (-1)) (by rfl) (by decide) c_8; omega
      refine lv_iinc (v := (k_i + 1)) (lv' := [(4, .int (k_i + 1)), (5, .int z6), (0, .ref a_th), (1, .int p_c), (2, .int p_h), (3, .int p_m)]) hx hb dX7_lowestNext_52 hl (k := 1) rfl rfl (by decide) rfl (fun ls hl => ?_)
      have t_9 : (k_i + 1).toInt = k_i.toInt + 1 := g5_iadd (a := k_i.toInt) (b := 1) rfl (by decide) (by omega) (by omega)
      refine lv_goto (tgt := 3) hx hb dX7_lowestNext_55 (by decide) ?_
      exact ih_3_2 (k_i + 1) ls H locs (show Int.toNat (5 - (k_i + 1).toInt) < Int.toNat (5 - k_i.toInt) from g_up (show k_i.toInt < (k_i + 1).toInt by omega) (show k_i.toInt < 5 by omega)) ⟨lv_sub hl [0, 2, 3, 4, 5] rfl, hP, hD, hS, ⟨by omega, by omega⟩⟩
    ·
      have n_8 : gNe (z6.toInt) ((-1)) := by have z := g5_eqN (a := z6.toInt) (b := (-1)) (by rfl) (by decide) c_8; unfold gNe; omega
      have i_8 : z6.toInt ≥ 0 := by have z := g5_eqN (a := z6.toInt) (b := (-1)) (by rfl) (by decide) c_8; omega
      refine lv_aload_n hx hb dX7_lowestNext_30 rfl (lv_at hl 2 rfl) ?_
      refine va_get (D := G.1) (ci := 7) (v := .ref a_hp) (C := RX7) (T := TX7) (N := 10) hx hb hts inG_X7 hown hK hP 0 rfl rfl 7 (by decide) (hts _ fl_X7_25) (fun _ h9 => h9) rfl dX7_lowestNext_31 ?_
      refine lv_iload_n hx hb dX7_lowestNext_34 rfl (lv_at hl 4 rfl) ?_
      refine lv_bipush (v := 64) hx hb dX7_lowestNext_35 (by decide) ?_
      refine lv_imul hx hb dX7_lowestNext_37 ?_
      have t_10 : (p_h * 64).toInt = p_h.toInt * 64 := g5_imul (a := p_h.toInt) (b := 64) (by rfl) (by decide) (by omega) (by omega)
      refine lv_iload hx hb dX7_lowestNext_38 (lv_at hl 0 rfl) ?_
      refine lv_iadd hx hb dX7_lowestNext_40 ?_
      have t_11 : ((p_h * 64) + z6).toInt = (p_h * 64).toInt + z6.toInt := g5_iadd (a := (p_h * 64).toInt) (b := z6.toInt) (by rfl) (by rfl) (by omega) (by omega)
      refine va_iald hx hb hK hP 1 0 rfl rfl (i := ((p_h * 64) + z6)) (vp_in_iff.mpr ⟨by omega, by omega⟩) dX7_lowestNext_41 ?_
      refine lv_iload_n hx hb dX7_lowestNext_42 rfl (lv_at hl 5 rfl) ?_
      refine lv_iushr (v := (((f_hp ((p_h * 64) + z6).toNatClampNeg).toUInt32 >>> (p_m.toUInt32 &&& Int32.toUInt32 31)).toInt32)) hx hb dX7_lowestNext_43 rfl ?_
      refine lv_iconst (v := 1) hx hb dX7_lowestNext_44 (by decide) ?_
      refine lv_iand hx hb dX7_lowestNext_45 ?_
      refine lv_if_eq (tgt := 52) hx hb dX7_lowestNext_46 (by decide) (fun c_12 => ?_) (fun c_12 => ?_)
      ·
        have i_12 : ((((f_hp ((p_h * 64) + z6).toNatClampNeg).toUInt32 >>> (p_m.toUInt32 &&& Int32.toUInt32 31)).toInt32) &&& 1).toInt = 0 := by have z := g5_eq (a := ((((f_hp ((p_h * 64) + z6).toNatClampNeg).toUInt32 >>> (p_m.toUInt32 &&& Int32.toUInt32 31)).toInt32) &&& 1).toInt) (b := 0) (by rfl) (by decide) c_12; omega
        refine lv_iinc (v := (k_i + 1)) (lv' := [(4, .int (k_i + 1)), (5, .int z6), (0, .ref a_th), (1, .int p_c), (2, .int p_h), (3, .int p_m)]) hx hb dX7_lowestNext_52 hl (k := 1) rfl rfl (by decide) rfl (fun ls hl => ?_)
        have t_13 : (k_i + 1).toInt = k_i.toInt + 1 := g5_iadd (a := k_i.toInt) (b := 1) rfl (by decide) (by omega) (by omega)
        refine lv_goto (tgt := 3) hx hb dX7_lowestNext_55 (by decide) ?_
        exact ih_3_2 (k_i + 1) ls H locs (show Int.toNat (5 - (k_i + 1).toInt) < Int.toNat (5 - k_i.toInt) from g_up (show k_i.toInt < (k_i + 1).toInt by omega) (show k_i.toInt < 5 by omega)) ⟨lv_sub hl [0, 2, 3, 4, 5] rfl, hP, hD, hS, ⟨by omega, by omega⟩⟩
      ·
        have n_12 : gNe (((((f_hp ((p_h * 64) + z6).toNatClampNeg).toUInt32 >>> (p_m.toUInt32 &&& Int32.toUInt32 31)).toInt32) &&& 1).toInt) (0) := by have z := g5_eqN (a := ((((f_hp ((p_h * 64) + z6).toNatClampNeg).toUInt32 >>> (p_m.toUInt32 &&& Int32.toUInt32 31)).toInt32) &&& 1).toInt) (b := 0) (by rfl) (by decide) c_12; unfold gNe; omega
        refine lv_iload hx hb dX7_lowestNext_49 (lv_at hl 0 rfl) ?_
        exact W.iret (v := z6) hx hb hr (fun t ht hW => ⟨⟨z6, [(a_th, (oc7 a_h a_k a_ba a_ad e_fu a_cn a_nx a_hp a_hl a_lv)), (a_hp, (arI G 1536 f_hp))], rfl, ⟨z6, ⟨by omega, by omega⟩, rfl, rfl⟩, by rw [ht]; exact hP.sub [0, 1] rfl, hD.sub [0, 1] (by decide) rfl⟩, hS.F ht⟩) hS.2.2 dX7_lowestNext_51
theorem dgX7_firstRowAt_0 : ∀ r ∈ ([(0, (.aload_n 0, 1)), (1, (.invokevirtual 117, 3)), (4, (.ifCond .ne 5, 3)), (7, (.iconst (-1), 1)), (8, (.ireturn, 1)), (9, (.iconst 0, 1)), (10, (.istore_n 2, 1)), (11, (.iload_n 2, 1)), (12, (.bipush 63, 2)), (14, (.if_icmp .ge 20, 3)), (17, (.aload_n 0, 1)), (18, (.getfield 25, 3)), (21, (.iload_n 2, 1)), (22, (.iaload, 1)), (23, (.iconst 1, 1)), (24, (.iand, 1)), (25, (.ifCond .ne 9, 3)), (28, (.iinc 2 1, 3)), (31, (.goto (-20), 3)), (34, (.aload_n 0, 1)), (35, (.getfield 15, 3)), (38, (.iload_n 2, 1)), (39, (.iaload, 1)), (40, (.istore_n 3, 1)), (41, (.iconst 1, 1)), (42, (.istore 4, 2)), (44, (.iload 4, 2)), (46, (.iload_n 1, 1)), (47, (.if_icmp .gt 33, 3)), (50, (.aload_n 0, 1)), (51, (.iload_n 2, 1)), (52, (.iload 4, 2)), (54, (.iload_n 3, 1)), (55, (.invokevirtual 127, 3)), (58, (.istore_n 2, 1)), (59, (.iload_n 3, 1)), (60, (.aload_n 0, 1)), (61, (.getfield 15, 3)), (64, (.iload 4, 2)), (66, (.bipush 64, 2))] : List (Nat × (Instr × Nat))), decode cX7_firstRowAt r.1 = .ok r.2 := by decide +kernel
theorem dX7_firstRowAt_0 : decode cX7_firstRowAt 0 = .ok (.aload_n 0, 1) := dgX7_firstRowAt_0 (0, (.aload_n 0, 1)) (List.mem_of_getElem? (i := 0) rfl)
theorem dX7_firstRowAt_1 : decode cX7_firstRowAt 1 = .ok (.invokevirtual 117, 3) := dgX7_firstRowAt_0 (1, (.invokevirtual 117, 3)) (List.mem_of_getElem? (i := 1) rfl)
theorem dX7_firstRowAt_4 : decode cX7_firstRowAt 4 = .ok (.ifCond .ne 5, 3) := dgX7_firstRowAt_0 (4, (.ifCond .ne 5, 3)) (List.mem_of_getElem? (i := 2) rfl)
theorem dX7_firstRowAt_7 : decode cX7_firstRowAt 7 = .ok (.iconst (-1), 1) := dgX7_firstRowAt_0 (7, (.iconst (-1), 1)) (List.mem_of_getElem? (i := 3) rfl)
theorem dX7_firstRowAt_8 : decode cX7_firstRowAt 8 = .ok (.ireturn, 1) := dgX7_firstRowAt_0 (8, (.ireturn, 1)) (List.mem_of_getElem? (i := 4) rfl)
theorem dX7_firstRowAt_9 : decode cX7_firstRowAt 9 = .ok (.iconst 0, 1) := dgX7_firstRowAt_0 (9, (.iconst 0, 1)) (List.mem_of_getElem? (i := 5) rfl)
theorem dX7_firstRowAt_10 : decode cX7_firstRowAt 10 = .ok (.istore_n 2, 1) := dgX7_firstRowAt_0 (10, (.istore_n 2, 1)) (List.mem_of_getElem? (i := 6) rfl)
theorem dX7_firstRowAt_11 : decode cX7_firstRowAt 11 = .ok (.iload_n 2, 1) := dgX7_firstRowAt_0 (11, (.iload_n 2, 1)) (List.mem_of_getElem? (i := 7) rfl)
theorem dX7_firstRowAt_12 : decode cX7_firstRowAt 12 = .ok (.bipush 63, 2) := dgX7_firstRowAt_0 (12, (.bipush 63, 2)) (List.mem_of_getElem? (i := 8) rfl)
theorem dX7_firstRowAt_14 : decode cX7_firstRowAt 14 = .ok (.if_icmp .ge 20, 3) := dgX7_firstRowAt_0 (14, (.if_icmp .ge 20, 3)) (List.mem_of_getElem? (i := 9) rfl)
theorem dX7_firstRowAt_17 : decode cX7_firstRowAt 17 = .ok (.aload_n 0, 1) := dgX7_firstRowAt_0 (17, (.aload_n 0, 1)) (List.mem_of_getElem? (i := 10) rfl)
theorem dX7_firstRowAt_18 : decode cX7_firstRowAt 18 = .ok (.getfield 25, 3) := dgX7_firstRowAt_0 (18, (.getfield 25, 3)) (List.mem_of_getElem? (i := 11) rfl)
theorem dX7_firstRowAt_21 : decode cX7_firstRowAt 21 = .ok (.iload_n 2, 1) := dgX7_firstRowAt_0 (21, (.iload_n 2, 1)) (List.mem_of_getElem? (i := 12) rfl)
theorem dX7_firstRowAt_22 : decode cX7_firstRowAt 22 = .ok (.iaload, 1) := dgX7_firstRowAt_0 (22, (.iaload, 1)) (List.mem_of_getElem? (i := 13) rfl)
theorem dX7_firstRowAt_23 : decode cX7_firstRowAt 23 = .ok (.iconst 1, 1) := dgX7_firstRowAt_0 (23, (.iconst 1, 1)) (List.mem_of_getElem? (i := 14) rfl)
theorem dX7_firstRowAt_24 : decode cX7_firstRowAt 24 = .ok (.iand, 1) := dgX7_firstRowAt_0 (24, (.iand, 1)) (List.mem_of_getElem? (i := 15) rfl)
theorem dX7_firstRowAt_25 : decode cX7_firstRowAt 25 = .ok (.ifCond .ne 9, 3) := dgX7_firstRowAt_0 (25, (.ifCond .ne 9, 3)) (List.mem_of_getElem? (i := 16) rfl)
theorem dX7_firstRowAt_28 : decode cX7_firstRowAt 28 = .ok (.iinc 2 1, 3) := dgX7_firstRowAt_0 (28, (.iinc 2 1, 3)) (List.mem_of_getElem? (i := 17) rfl)
theorem dX7_firstRowAt_31 : decode cX7_firstRowAt 31 = .ok (.goto (-20), 3) := dgX7_firstRowAt_0 (31, (.goto (-20), 3)) (List.mem_of_getElem? (i := 18) rfl)
theorem dX7_firstRowAt_34 : decode cX7_firstRowAt 34 = .ok (.aload_n 0, 1) := dgX7_firstRowAt_0 (34, (.aload_n 0, 1)) (List.mem_of_getElem? (i := 19) rfl)
theorem dX7_firstRowAt_35 : decode cX7_firstRowAt 35 = .ok (.getfield 15, 3) := dgX7_firstRowAt_0 (35, (.getfield 15, 3)) (List.mem_of_getElem? (i := 20) rfl)
theorem dX7_firstRowAt_38 : decode cX7_firstRowAt 38 = .ok (.iload_n 2, 1) := dgX7_firstRowAt_0 (38, (.iload_n 2, 1)) (List.mem_of_getElem? (i := 21) rfl)
theorem dX7_firstRowAt_39 : decode cX7_firstRowAt 39 = .ok (.iaload, 1) := dgX7_firstRowAt_0 (39, (.iaload, 1)) (List.mem_of_getElem? (i := 22) rfl)
theorem dX7_firstRowAt_40 : decode cX7_firstRowAt 40 = .ok (.istore_n 3, 1) := dgX7_firstRowAt_0 (40, (.istore_n 3, 1)) (List.mem_of_getElem? (i := 23) rfl)
theorem dX7_firstRowAt_41 : decode cX7_firstRowAt 41 = .ok (.iconst 1, 1) := dgX7_firstRowAt_0 (41, (.iconst 1, 1)) (List.mem_of_getElem? (i := 24) rfl)
theorem dX7_firstRowAt_42 : decode cX7_firstRowAt 42 = .ok (.istore 4, 2) := dgX7_firstRowAt_0 (42, (.istore 4, 2)) (List.mem_of_getElem? (i := 25) rfl)
theorem dX7_firstRowAt_44 : decode cX7_firstRowAt 44 = .ok (.iload 4, 2) := dgX7_firstRowAt_0 (44, (.iload 4, 2)) (List.mem_of_getElem? (i := 26) rfl)
theorem dX7_firstRowAt_46 : decode cX7_firstRowAt 46 = .ok (.iload_n 1, 1) := dgX7_firstRowAt_0 (46, (.iload_n 1, 1)) (List.mem_of_getElem? (i := 27) rfl)
theorem dX7_firstRowAt_47 : decode cX7_firstRowAt 47 = .ok (.if_icmp .gt 33, 3) := dgX7_firstRowAt_0 (47, (.if_icmp .gt 33, 3)) (List.mem_of_getElem? (i := 28) rfl)
theorem dX7_firstRowAt_50 : decode cX7_firstRowAt 50 = .ok (.aload_n 0, 1) := dgX7_firstRowAt_0 (50, (.aload_n 0, 1)) (List.mem_of_getElem? (i := 29) rfl)
theorem dX7_firstRowAt_51 : decode cX7_firstRowAt 51 = .ok (.iload_n 2, 1) := dgX7_firstRowAt_0 (51, (.iload_n 2, 1)) (List.mem_of_getElem? (i := 30) rfl)
theorem dX7_firstRowAt_52 : decode cX7_firstRowAt 52 = .ok (.iload 4, 2) := dgX7_firstRowAt_0 (52, (.iload 4, 2)) (List.mem_of_getElem? (i := 31) rfl)
theorem dX7_firstRowAt_54 : decode cX7_firstRowAt 54 = .ok (.iload_n 3, 1) := dgX7_firstRowAt_0 (54, (.iload_n 3, 1)) (List.mem_of_getElem? (i := 32) rfl)
theorem dX7_firstRowAt_55 : decode cX7_firstRowAt 55 = .ok (.invokevirtual 127, 3) := dgX7_firstRowAt_0 (55, (.invokevirtual 127, 3)) (List.mem_of_getElem? (i := 33) rfl)
theorem dX7_firstRowAt_58 : decode cX7_firstRowAt 58 = .ok (.istore_n 2, 1) := dgX7_firstRowAt_0 (58, (.istore_n 2, 1)) (List.mem_of_getElem? (i := 34) rfl)
theorem dX7_firstRowAt_59 : decode cX7_firstRowAt 59 = .ok (.iload_n 3, 1) := dgX7_firstRowAt_0 (59, (.iload_n 3, 1)) (List.mem_of_getElem? (i := 35) rfl)
theorem dX7_firstRowAt_60 : decode cX7_firstRowAt 60 = .ok (.aload_n 0, 1) := dgX7_firstRowAt_0 (60, (.aload_n 0, 1)) (List.mem_of_getElem? (i := 36) rfl)
theorem dX7_firstRowAt_61 : decode cX7_firstRowAt 61 = .ok (.getfield 15, 3) := dgX7_firstRowAt_0 (61, (.getfield 15, 3)) (List.mem_of_getElem? (i := 37) rfl)
theorem dX7_firstRowAt_64 : decode cX7_firstRowAt 64 = .ok (.iload 4, 2) := dgX7_firstRowAt_0 (64, (.iload 4, 2)) (List.mem_of_getElem? (i := 38) rfl)
theorem dX7_firstRowAt_66 : decode cX7_firstRowAt 66 = .ok (.bipush 64, 2) := dgX7_firstRowAt_0 (66, (.bipush 64, 2)) (List.mem_of_getElem? (i := 39) rfl)
theorem dgX7_firstRowAt_1 : ∀ r ∈ ([(68, (.imul, 1)), (69, (.iload_n 2, 1)), (70, (.iadd, 1)), (71, (.iaload, 1)), (72, (.ior, 1)), (73, (.istore_n 3, 1)), (74, (.iinc 4 1, 3)), (77, (.goto (-33), 3)), (80, (.iload_n 2, 1)), (81, (.ireturn, 1))] : List (Nat × (Instr × Nat))), decode cX7_firstRowAt r.1 = .ok r.2 := by decide +kernel
theorem dX7_firstRowAt_68 : decode cX7_firstRowAt 68 = .ok (.imul, 1) := dgX7_firstRowAt_1 (68, (.imul, 1)) (List.mem_of_getElem? (i := 0) rfl)
theorem dX7_firstRowAt_69 : decode cX7_firstRowAt 69 = .ok (.iload_n 2, 1) := dgX7_firstRowAt_1 (69, (.iload_n 2, 1)) (List.mem_of_getElem? (i := 1) rfl)
theorem dX7_firstRowAt_70 : decode cX7_firstRowAt 70 = .ok (.iadd, 1) := dgX7_firstRowAt_1 (70, (.iadd, 1)) (List.mem_of_getElem? (i := 2) rfl)
theorem dX7_firstRowAt_71 : decode cX7_firstRowAt 71 = .ok (.iaload, 1) := dgX7_firstRowAt_1 (71, (.iaload, 1)) (List.mem_of_getElem? (i := 3) rfl)
theorem dX7_firstRowAt_72 : decode cX7_firstRowAt 72 = .ok (.ior, 1) := dgX7_firstRowAt_1 (72, (.ior, 1)) (List.mem_of_getElem? (i := 4) rfl)
theorem dX7_firstRowAt_73 : decode cX7_firstRowAt 73 = .ok (.istore_n 3, 1) := dgX7_firstRowAt_1 (73, (.istore_n 3, 1)) (List.mem_of_getElem? (i := 5) rfl)
theorem dX7_firstRowAt_74 : decode cX7_firstRowAt 74 = .ok (.iinc 4 1, 3) := dgX7_firstRowAt_1 (74, (.iinc 4 1, 3)) (List.mem_of_getElem? (i := 6) rfl)
theorem dX7_firstRowAt_77 : decode cX7_firstRowAt 77 = .ok (.goto (-33), 3) := dgX7_firstRowAt_1 (77, (.goto (-33), 3)) (List.mem_of_getElem? (i := 7) rfl)
theorem dX7_firstRowAt_80 : decode cX7_firstRowAt 80 = .ok (.iload_n 2, 1) := dgX7_firstRowAt_1 (80, (.iload_n 2, 1)) (List.mem_of_getElem? (i := 8) rfl)
theorem dX7_firstRowAt_81 : decode cX7_firstRowAt 81 = .ok (.ireturn, 1) := dgX7_firstRowAt_1 (81, (.ireturn, 1)) (List.mem_of_getElem? (i := 9) rfl)
theorem ml_X7_117 : Cond.methodLink RX7 117 yX7_anyFits ∈ tblG := tg 996 (by decide +kernel) (by decide +kernel)
theorem im_X7_anyFits : Cond.instanceMethod yX7_anyFits ∈ tblG := tg 998 (by decide +kernel) (by decide +kernel)
theorem se_X7_anyFits : Cond.selects RX7 yX7_anyFits yX7_anyFits ∈ tblG := tg 22 (by decide +kernel) (by decide +kernel)
theorem cd_X7_anyFits : Cond.code yX7_anyFits cX7_anyFits 5 (some .boolean) ∈ tblG := tg 999 (by decide +kernel) (by decide +kernel)
theorem gW_X7_anyFits : GoodIn tblG (wsG yX7_anyFits cX7_anyFits 5 (some .boolean)) := tgi cd_X7_anyFits
theorem gV_X7_117 : GoodIn tblG (wsV RX7 117 RX7 yX7_anyFits (wsG yX7_anyFits cX7_anyFits 5 (some .boolean))) := tgV ml_X7_117 im_X7_anyFits se_X7_anyFits ini_X7 gW_X7_anyFits
theorem hv_X7_anyFits : yX7_anyFits.cls = RX7 ∧ yX7_anyFits.cls ≠ "java/lang/invoke/MethodHandle" ∧ yX7_anyFits.cls ≠ "java/lang/invoke/VarHandle" ∧ (parseMethodDescriptor yX7_anyFits.desc).map (fun d => d.parameters.length) = some 0 := by decide +kernel
theorem ml_X7_127 : Cond.methodLink RX7 127 yX7_lowestNext ∈ tblG := tg 1024 (by decide +kernel) (by decide +kernel)
theorem im_X7_lowestNext : Cond.instanceMethod yX7_lowestNext ∈ tblG := tg 1026 (by decide +kernel) (by decide +kernel)
theorem se_X7_lowestNext : Cond.selects RX7 yX7_lowestNext yX7_lowestNext ∈ tblG := tg 25 (by decide +kernel) (by decide +kernel)
theorem cd_X7_lowestNext : Cond.code yX7_lowestNext cX7_lowestNext 6 (some .int) ∈ tblG := tg 1027 (by decide +kernel) (by decide +kernel)
theorem gW_X7_lowestNext : GoodIn tblG (wsG yX7_lowestNext cX7_lowestNext 6 (some .int)) := tgi cd_X7_lowestNext
theorem gV_X7_127 : GoodIn tblG (wsV RX7 127 RX7 yX7_lowestNext (wsG yX7_lowestNext cX7_lowestNext 6 (some .int))) := tgV ml_X7_127 im_X7_lowestNext se_X7_lowestNext ini_X7 gW_X7_lowestNext
theorem hv_X7_lowestNext : yX7_lowestNext.cls = RX7 ∧ yX7_lowestNext.cls ≠ "java/lang/invoke/MethodHandle" ∧ yX7_lowestNext.cls ≠ "java/lang/invoke/VarHandle" ∧ (parseMethodDescriptor yX7_lowestNext.desc).map (fun d => d.parameters.length) = some 3 := by decide +kernel
