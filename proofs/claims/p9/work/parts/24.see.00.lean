theorem dgX5_bodiesFrom_0 : ∀ r ∈ ([(0, (.iconst 0, 1)), (1, (.istore_n 3, 1)), (2, (.iconst 0, 1)), (3, (.istore 4, 2)), (5, (.iload 4, 2)), (7, (.iconst 4, 1)), (8, (.if_icmp .ge 39, 3)), (11, (.aload_n 0, 1)), (12, (.iload_n 1, 1)), (13, (.iload 4, 2)), (15, (.iload_n 2, 1)), (16, (.iconst 0, 1)), (17, (.invokevirtual 91, 3)), (20, (.iload_n 3, 1)), (21, (.aload_n 0, 1)), (22, (.getfield 39, 3)), (25, (.iconst (-1), 1)), (26, (.if_icmp .ne 7, 3)), (29, (.iconst 0, 1)), (30, (.goto 9, 3)), (33, (.iconst 1, 1)), (34, (.aload_n 0, 1)), (35, (.getfield 39, 3)), (38, (.ishl, 1)), (39, (.ior, 1)), (40, (.istore_n 3, 1)), (41, (.iinc 4 1, 3)), (44, (.goto (-39), 3)), (47, (.iload_n 3, 1)), (48, (.ireturn, 1))] : List (Nat × (Instr × Nat))), decode cX5_bodiesFrom r.1 = .ok r.2 := by decide +kernel
theorem dX5_bodiesFrom_0 : decode cX5_bodiesFrom 0 = .ok (.iconst 0, 1) := dgX5_bodiesFrom_0 (0, (.iconst 0, 1)) (List.mem_of_getElem? (i := 0) rfl)
theorem dX5_bodiesFrom_1 : decode cX5_bodiesFrom 1 = .ok (.istore_n 3, 1) := dgX5_bodiesFrom_0 (1, (.istore_n 3, 1)) (List.mem_of_getElem? (i := 1) rfl)
theorem dX5_bodiesFrom_2 : decode cX5_bodiesFrom 2 = .ok (.iconst 0, 1) := dgX5_bodiesFrom_0 (2, (.iconst 0, 1)) (List.mem_of_getElem? (i := 2) rfl)
theorem dX5_bodiesFrom_3 : decode cX5_bodiesFrom 3 = .ok (.istore 4, 2) := dgX5_bodiesFrom_0 (3, (.istore 4, 2)) (List.mem_of_getElem? (i := 3) rfl)
theorem dX5_bodiesFrom_5 : decode cX5_bodiesFrom 5 = .ok (.iload 4, 2) := dgX5_bodiesFrom_0 (5, (.iload 4, 2)) (List.mem_of_getElem? (i := 4) rfl)
theorem dX5_bodiesFrom_7 : decode cX5_bodiesFrom 7 = .ok (.iconst 4, 1) := dgX5_bodiesFrom_0 (7, (.iconst 4, 1)) (List.mem_of_getElem? (i := 5) rfl)
theorem dX5_bodiesFrom_8 : decode cX5_bodiesFrom 8 = .ok (.if_icmp .ge 39, 3) := dgX5_bodiesFrom_0 (8, (.if_icmp .ge 39, 3)) (List.mem_of_getElem? (i := 6) rfl)
theorem dX5_bodiesFrom_11 : decode cX5_bodiesFrom 11 = .ok (.aload_n 0, 1) := dgX5_bodiesFrom_0 (11, (.aload_n 0, 1)) (List.mem_of_getElem? (i := 7) rfl)
theorem dX5_bodiesFrom_12 : decode cX5_bodiesFrom 12 = .ok (.iload_n 1, 1) := dgX5_bodiesFrom_0 (12, (.iload_n 1, 1)) (List.mem_of_getElem? (i := 8) rfl)
theorem dX5_bodiesFrom_13 : decode cX5_bodiesFrom 13 = .ok (.iload 4, 2) := dgX5_bodiesFrom_0 (13, (.iload 4, 2)) (List.mem_of_getElem? (i := 9) rfl)
theorem dX5_bodiesFrom_15 : decode cX5_bodiesFrom 15 = .ok (.iload_n 2, 1) := dgX5_bodiesFrom_0 (15, (.iload_n 2, 1)) (List.mem_of_getElem? (i := 10) rfl)
theorem dX5_bodiesFrom_16 : decode cX5_bodiesFrom 16 = .ok (.iconst 0, 1) := dgX5_bodiesFrom_0 (16, (.iconst 0, 1)) (List.mem_of_getElem? (i := 11) rfl)
theorem dX5_bodiesFrom_17 : decode cX5_bodiesFrom 17 = .ok (.invokevirtual 91, 3) := dgX5_bodiesFrom_0 (17, (.invokevirtual 91, 3)) (List.mem_of_getElem? (i := 12) rfl)
theorem dX5_bodiesFrom_20 : decode cX5_bodiesFrom 20 = .ok (.iload_n 3, 1) := dgX5_bodiesFrom_0 (20, (.iload_n 3, 1)) (List.mem_of_getElem? (i := 13) rfl)
theorem dX5_bodiesFrom_21 : decode cX5_bodiesFrom 21 = .ok (.aload_n 0, 1) := dgX5_bodiesFrom_0 (21, (.aload_n 0, 1)) (List.mem_of_getElem? (i := 14) rfl)
theorem dX5_bodiesFrom_22 : decode cX5_bodiesFrom 22 = .ok (.getfield 39, 3) := dgX5_bodiesFrom_0 (22, (.getfield 39, 3)) (List.mem_of_getElem? (i := 15) rfl)
theorem dX5_bodiesFrom_25 : decode cX5_bodiesFrom 25 = .ok (.iconst (-1), 1) := dgX5_bodiesFrom_0 (25, (.iconst (-1), 1)) (List.mem_of_getElem? (i := 16) rfl)
theorem dX5_bodiesFrom_26 : decode cX5_bodiesFrom 26 = .ok (.if_icmp .ne 7, 3) := dgX5_bodiesFrom_0 (26, (.if_icmp .ne 7, 3)) (List.mem_of_getElem? (i := 17) rfl)
theorem dX5_bodiesFrom_29 : decode cX5_bodiesFrom 29 = .ok (.iconst 0, 1) := dgX5_bodiesFrom_0 (29, (.iconst 0, 1)) (List.mem_of_getElem? (i := 18) rfl)
theorem dX5_bodiesFrom_30 : decode cX5_bodiesFrom 30 = .ok (.goto 9, 3) := dgX5_bodiesFrom_0 (30, (.goto 9, 3)) (List.mem_of_getElem? (i := 19) rfl)
theorem dX5_bodiesFrom_33 : decode cX5_bodiesFrom 33 = .ok (.iconst 1, 1) := dgX5_bodiesFrom_0 (33, (.iconst 1, 1)) (List.mem_of_getElem? (i := 20) rfl)
theorem dX5_bodiesFrom_34 : decode cX5_bodiesFrom 34 = .ok (.aload_n 0, 1) := dgX5_bodiesFrom_0 (34, (.aload_n 0, 1)) (List.mem_of_getElem? (i := 21) rfl)
theorem dX5_bodiesFrom_35 : decode cX5_bodiesFrom 35 = .ok (.getfield 39, 3) := dgX5_bodiesFrom_0 (35, (.getfield 39, 3)) (List.mem_of_getElem? (i := 22) rfl)
theorem dX5_bodiesFrom_38 : decode cX5_bodiesFrom 38 = .ok (.ishl, 1) := dgX5_bodiesFrom_0 (38, (.ishl, 1)) (List.mem_of_getElem? (i := 23) rfl)
theorem dX5_bodiesFrom_39 : decode cX5_bodiesFrom 39 = .ok (.ior, 1) := dgX5_bodiesFrom_0 (39, (.ior, 1)) (List.mem_of_getElem? (i := 24) rfl)
theorem dX5_bodiesFrom_40 : decode cX5_bodiesFrom 40 = .ok (.istore_n 3, 1) := dgX5_bodiesFrom_0 (40, (.istore_n 3, 1)) (List.mem_of_getElem? (i := 25) rfl)
theorem dX5_bodiesFrom_41 : decode cX5_bodiesFrom 41 = .ok (.iinc 4 1, 3) := dgX5_bodiesFrom_0 (41, (.iinc 4 1, 3)) (List.mem_of_getElem? (i := 26) rfl)
theorem dX5_bodiesFrom_44 : decode cX5_bodiesFrom 44 = .ok (.goto (-39), 3) := dgX5_bodiesFrom_0 (44, (.goto (-39), 3)) (List.mem_of_getElem? (i := 27) rfl)
theorem dX5_bodiesFrom_47 : decode cX5_bodiesFrom 47 = .ok (.iload_n 3, 1) := dgX5_bodiesFrom_0 (47, (.iload_n 3, 1)) (List.mem_of_getElem? (i := 28) rfl)
theorem dX5_bodiesFrom_48 : decode cX5_bodiesFrom 48 = .ok (.ireturn, 1) := dgX5_bodiesFrom_0 (48, (.ireturn, 1)) (List.mem_of_getElem? (i := 29) rfl)
theorem ml_X5_91 : Cond.methodLink RX5 91 yX5_run ∈ tblG := tg 882 (by decide +kernel) (by decide +kernel)
theorem im_X5_run : Cond.instanceMethod yX5_run ∈ tblG := tg 812 (by decide +kernel) (by decide +kernel)
theorem se_X5_run : Cond.selects RX5 yX5_run yX5_run ∈ tblG := tg 813 (by decide +kernel) (by decide +kernel)
theorem cd_X5_run : Cond.code yX5_run cX5_run 9 none ∈ tblG := tg 814 (by decide +kernel) (by decide +kernel)
theorem gW_X5_run : GoodIn tblG (wsG yX5_run cX5_run 9 none) := tgi cd_X5_run
theorem gV_X5_91 : GoodIn tblG (wsV RX5 91 RX5 yX5_run (wsG yX5_run cX5_run 9 none)) := tgV ml_X5_91 im_X5_run se_X5_run ini_X5 gW_X5_run
theorem hv_X5_run : yX5_run.cls = RX5 ∧ yX5_run.cls ≠ "java/lang/invoke/MethodHandle" ∧ yX5_run.cls ≠ "java/lang/invoke/VarHandle" ∧ (parseMethodDescriptor yX5_run.desc).map (fun d => d.parameters.length) = some 4 := by decide +kernel
set_option maxHeartbeats 4000000 in
set_option maxRecDepth 100000 in
theorem s_bodiesFromN (l : Launch) (G : g5_G) (a_k a_h a_g a_gn a_b a_bn a_p a_pn a_bb a_j a_as a_sk a_l a_pt a_s a_w : Nat) (sz : Nat) (e_le : Int32) (e_st : Int32) (e_fo : Int32) (e_lc : Int32) (e_g : Int32) (e_b : Int32) (e_p : Int32) (e_ln : Int32) (e_se : Int32) (e_lh : Int32) (e_br : Int32) (e_we : Int32) (e_me : Int32) (e_ce : Int32) (e_wy : Int32) (e_ho : Int32) (e_ov : Int32) (p_c : Int32) (p_h : Int32) (e_wa : Int64) (e_gb : Int64) (f_g : Nat → Int32) (f_b : Nat → Int32) (f_p : Nat → Int32) (f_bb : Nat → Int64) (f_as : Nat → Int32) (f_sk : Nat → Int64) (f_l : Nat → Option Nat) (f_pt : Nat → Int32) (h_e_g : 0 ≤ e_g.toInt ∧ e_g.toInt ≤ 6) (h_e_b : 0 ≤ e_b.toInt ∧ e_b.toInt ≤ 5) (h_e_p : 0 ≤ e_p.toInt ∧ e_p.toInt ≤ 8) (h_e_ov : 0 ≤ e_ov.toInt ∧ e_ov.toInt ≤ 1) (e_gk : gOK f_g e_g.toInt) (e_pk : gOK f_p e_p.toInt) (e_gi : inT e_gb f_g e_g.toInt) (e_f : e_fo.toInt < 0 ∨ e_lc.toInt ≤ e_fo.toInt) : Met l yX5_bodiesFrom (wsG yX5_bodiesFrom cX5_bodiesFrom 5 (some .int)) ({ frames := 14, cells := 0, slots := 0, locals := 556 }) (va_Pc [.ref a_k, .int p_c, .int p_h] (g5_P G [(a_k, (oc5 a_h a_j a_pt e_ln e_se e_lh e_br e_we e_me e_ce e_wy e_ho e_ov)), (a_h, (oc1 e_wa e_le e_st e_fo e_lc a_l a_g a_b a_s a_p a_w e_gb a_bb)), (a_g, (oc6 6 5 a_gn e_g)), (a_gn, (arI G 30 f_g)), (a_b, (oc6 5 24 a_bn e_b)), (a_bn, (arI G 120 f_b)), (a_p, (oc6 8 5 a_pn e_p)), (a_pn, (arI G 40 f_p)), (a_bb, (arJ G 24 f_bb)), (a_j, (oc2 a_as a_sk)), (a_as, (arI G 8 f_as)), (a_sk, (arJ G 50 f_sk)), (a_l, (arW G 6 f_l)), (a_pt, (arI G 200 f_pt))] sz)) (va_Qi (fun (r : Int32) (u : va_W) => (∃ (o_r : Int32) (o_ln : Int32) (o_se : Int32) (o_lh : Int32) (o_br : Int32) (o_we : Int32) (o_me : Int32) (o_ce : Int32) (o_wy : Int32) (o_ho : Int32) (o_ov : Int32) (o_pt : Nat → Int32) (o_as : Nat → Int32) (o_sk : Nat → Int64), (0 ≤ o_ov.toInt ∧ o_ov.toInt ≤ 1) ∧ (r = o_r) ∧ (u = [(a_k, (oc5 a_h a_j a_pt o_ln o_se o_lh o_br o_we o_me o_ce o_wy o_ho o_ov)), (a_h, (oc1 e_wa e_le e_st e_fo e_lc a_l a_g a_b a_s a_p a_w e_gb a_bb)), (a_g, (oc6 6 5 a_gn e_g)), (a_gn, (arI G 30 f_g)), (a_b, (oc6 5 24 a_bn e_b)), (a_bn, (arI G 120 f_b)), (a_p, (oc6 8 5 a_pn e_p)), (a_pn, (arI G 40 f_p)), (a_bb, (arJ G 24 f_bb)), (a_j, (oc2 a_as a_sk)), (a_as, (arI G 8 o_as)), (a_sk, (arJ G 50 o_sk)), (a_l, (arW G 6 f_l)), (a_pt, (arI G 200 o_pt))]))) (g5_B G (va_A [(a_k, (oc5 a_h a_j a_pt e_ln e_se e_lh e_br e_we e_me e_ce e_wy e_ho e_ov)), (a_h, (oc1 e_wa e_le e_st e_fo e_lc a_l a_g a_b a_s a_p a_w e_gb a_bb)), (a_g, (oc6 6 5 a_gn e_g)), (a_gn, (arI G 30 f_g)), (a_b, (oc6 5 24 a_bn e_b)), (a_bn, (arI G 120 f_b)), (a_p, (oc6 8 5 a_pn e_p)), (a_pn, (arI G 40 f_p)), (a_bb, (arJ G 24 f_bb)), (a_j, (oc2 a_as a_sk)), (a_as, (arI G 8 f_as)), (a_sk, (arJ G 50 f_sk)), (a_l, (arW G 6 f_l)), (a_pt, (arI G 200 f_pt))] sz)) (va_A [(a_k, (oc5 a_h a_j a_pt e_ln e_se e_lh e_br e_we e_me e_ce e_wy e_ho e_ov)), (a_h, (oc1 e_wa e_le e_st e_fo e_lc a_l a_g a_b a_s a_p a_w e_gb a_bb)), (a_g, (oc6 6 5 a_gn e_g)), (a_gn, (arI G 30 f_g)), (a_b, (oc6 5 24 a_bn e_b)), (a_bn, (arI G 120 f_b)), (a_p, (oc6 8 5 a_pn e_p)), (a_pn, (arI G 40 f_p)), (a_bb, (arJ G 24 f_bb)), (a_j, (oc2 a_as a_sk)), (a_as, (arI G 8 f_as)), (a_sk, (arJ G 50 f_sk)), (a_l, (arW G 6 f_l)), (a_pt, (arI G 200 f_pt))] sz)) 0 0 (va_A [(a_k, (oc5 a_h a_j a_pt e_ln e_se e_lh e_br e_we e_me e_ce e_wy e_ho e_ov)), (a_h, (oc1 e_wa e_le e_st e_fo e_lc a_l a_g a_b a_s a_p a_w e_gb a_bb)), (a_g, (oc6 6 5 a_gn e_g)), (a_gn, (arI G 30 f_g)), (a_b, (oc6 5 24 a_bn e_b)), (a_bn, (arI G 120 f_b)), (a_p, (oc6 8 5 a_pn e_p)), (a_pn, (arI G 40 f_p)), (a_bb, (arJ G 24 f_bb)), (a_j, (oc2 a_as a_sk)), (a_as, (arI G 8 f_as)), (a_sk, (arJ G 50 f_sk)), (a_l, (arW G 6 f_l)), (a_pt, (arI G 200 f_pt))] sz) := by
  refine Met.ofW (cc := cX5_bodiesFrom) (maxL := 5) (ret := (some .int)) (by decide) rfl ?_
  intro p e s m args below meth c s₁ B hml hv
  obtain ⟨rfl, hsz, hP, hK, hD0, hN, hT⟩ := hv
  have hx := B.exec
  have hb := B.bytes
  have hr := B.returns
  have hts : ∀ w ∈ tblG, w.before _ s = true := fun w h => atoms_spec (ws := (wsG yX5_bodiesFrom cX5_bodiesFrom 5 (some .int))) B.pre w (List.mem_cons_of_mem _ h)
  have hown : s.vm.findClass RX5 = some m.cls := findClass_of_methodNamed B.named
  have hlocks := B.notSynchronized
  subst hsz
  have hD := hD0.self (sz := s.heap.size)
  generalize hAe : va_A [(a_k, (oc5 a_h a_j a_pt e_ln e_se e_lh e_br e_we e_me e_ce e_wy e_ho e_ov)), (a_h, (oc1 e_wa e_le e_st e_fo e_lc a_l a_g a_b a_s a_p a_w e_gb a_bb)), (a_g, (oc6 6 5 a_gn e_g)), (a_gn, (arI G 30 f_g)), (a_b, (oc6 5 24 a_bn e_b)), (a_bn, (arI G 120 f_b)), (a_p, (oc6 8 5 a_pn e_p)), (a_pn, (arI G 40 f_p)), (a_bb, (arJ G 24 f_bb)), (a_j, (oc2 a_as a_sk)), (a_as, (arI G 8 f_as)), (a_sk, (arJ G 50 f_sk)), (a_l, (arW G 6 f_l)), (a_pt, (arI G 200 f_pt))] s.heap.size = A at hD hT ⊢
  have hA : ∀ q : Nat, s.heap.size ≤ q → A q := fun q h => by rw [← hAe]; exact Or.inr h
  have hS : va_S A s.heap s.heap [] := va_S.rf
  have hP : va_P G.1 vwCl [(a_k, (oc5 a_h a_j a_pt e_ln e_se e_lh e_br e_we e_me e_ce e_wy e_ho e_ov)), (a_h, (oc1 e_wa e_le e_st e_fo e_lc a_l a_g a_b a_s a_p a_w e_gb a_bb)), (a_g, (oc6 6 5 a_gn e_g)), (a_gn, (arI G 30 f_g)), (a_b, (oc6 5 24 a_bn e_b)), (a_bn, (arI G 120 f_b)), (a_p, (oc6 8 5 a_pn e_p)), (a_pn, (arI G 40 f_p)), (a_bb, (arJ G 24 f_bb)), (a_j, (oc2 a_as a_sk)), (a_as, (arI G 8 f_as)), (a_sk, (arJ G 50 f_sk)), (a_l, (arW G 6 f_l)), (a_pt, (arI G 200 f_pt))] s.heap := hP
  have hl := lv_entry ([.ref a_k, .int p_c, .int p_h]) (n := 5) (Nat.le_of_ble_eq_true rfl)
  rw [lg_entry_eq]
  generalize (lg_sl ([.ref a_k, .int p_c, .int p_h]) ++ List.replicate (5 - (lg_sl ([.ref a_k, .int p_c, .int p_h])).length) Slot.unset).toArray = ls at hl ⊢
  have hl : lv_has ls 5 [(0, .ref a_k), (1, .int p_c), (2, .int p_h)] := hl
  refine lv_iconst (v := 0) hx hb dX5_bodiesFrom_0 (by decide) ?_
  refine lv_istore_n (lv' := [(3, .int 0), (0, .ref a_k), (1, .int p_c), (2, .int p_h)]) hx hb dX5_bodiesFrom_1 rfl hl (by decide) rfl (fun ls hl => ?_)
  refine lv_iconst (v := 0) hx hb dX5_bodiesFrom_2 (by decide) ?_
  refine lv_istore (lv' := [(4, .int 0), (3, .int 0), (0, .ref a_k), (1, .int p_c), (2, .int p_h)]) hx hb dX5_bodiesFrom_3 hl (by decide) rfl (fun ls hl => ?_)
  refine g5_loop (α := (Int32) × (Int32) × (Int32) × (Int32) × (Int32) × (Int32) × (Int32) × (Int32) × (Int32) × (Int32) × (Int32) × (Nat → Int32) × (Nat → Int32) × (Nat → Int64) × (Int32)) (fun (q : (Int32) × (Int32) × (Int32) × (Int32) × (Int32) × (Int32) × (Int32) × (Int32) × (Int32) × (Int32) × (Int32) × (Nat → Int32) × (Nat → Int32) × (Nat → Int64) × (Int32)) (ls : Array Slot) (H : Heap) (locs : List Loc) => match q with | (k_d, k_b, k_se, k_lh, k_br, k_we, k_me, k_ce, k_wy, k_ho, k_ov, k_pt, k_as, k_sk, k_ln) => lv_has ls 5 [(3, .int k_b), (4, .int k_d), (0, .ref a_k), (1, .int p_c), (2, .int p_h)] ∧ va_P G.1 vwCl [(a_k, (oc5 a_h a_j a_pt k_ln k_se k_lh k_br k_we k_me k_ce k_wy k_ho k_ov)), (a_h, (oc1 e_wa e_le e_st e_fo e_lc a_l a_g a_b a_s a_p a_w e_gb a_bb)), (a_g, (oc6 6 5 a_gn e_g)), (a_gn, (arI G 30 f_g)), (a_b, (oc6 5 24 a_bn e_b)), (a_bn, (arI G 120 f_b)), (a_p, (oc6 8 5 a_pn e_p)), (a_pn, (arI G 40 f_p)), (a_bb, (arJ G 24 f_bb)), (a_j, (oc2 a_as a_sk)), (a_as, (arI G 8 k_as)), (a_sk, (arJ G 50 k_sk)), (a_l, (arW G 6 f_l)), (a_pt, (arI G 200 k_pt))] H ∧ va_D A [(a_k, (oc5 a_h a_j a_pt k_ln k_se k_lh k_br k_we k_me k_ce k_wy k_ho k_ov)), (a_h, (oc1 e_wa e_le e_st e_fo e_lc a_l a_g a_b a_s a_p a_w e_gb a_bb)), (a_g, (oc6 6 5 a_gn e_g)), (a_gn, (arI G 30 f_g)), (a_b, (oc6 5 24 a_bn e_b)), (a_bn, (arI G 120 f_b)), (a_p, (oc6 8 5 a_pn e_p)), (a_pn, (arI G 40 f_p)), (a_bb, (arJ G 24 f_bb)), (a_j, (oc2 a_as a_sk)), (a_as, (arI G 8 k_as)), (a_sk, (arJ G 50 k_sk)), (a_l, (arW G 6 f_l)), (a_pt, (arI G 200 k_pt))] ∧ va_S A s.heap H locs ∧ (0 ≤ k_d.toInt ∧ k_d.toInt ≤ 4) ∧ (0 ≤ k_ov.toInt ∧ k_ov.toInt ≤ 1)) (fun (q : (Int32) × (Int32) × (Int32) × (Int32) × (Int32) × (Int32) × (Int32) × (Int32) × (Int32) × (Int32) × (Int32) × (Nat → Int32) × (Nat → Int32) × (Nat → Int64) × (Int32)) => match q with | (k_d, k_b, k_se, k_lh, k_br, k_we, k_me, k_ce, k_wy, k_ho, k_ov, k_pt, k_as, k_sk, k_ln) => Int.toNat (4 - k_d.toInt)) (0, 0, e_se, e_lh, e_br, e_we, e_me, e_ce, e_wy, e_ho, e_ov, f_pt, f_as, f_sk, e_ln) ⟨lv_sub hl [1, 0, 2, 3, 4] rfl, hP, hD, hS, ⟨by decide, by decide⟩, h_e_ov⟩ ?_
  rintro ⟨k_d, k_b, k_se, k_lh, k_br, k_we, k_me, k_ce, k_wy, k_ho, k_ov, k_pt, k_as, k_sk, k_ln⟩ ls H locs ⟨hl, hP, hD, hS, i_1, i_2⟩ ih_5_3
  have hl : lv_has ls 5 [(3, .int k_b), (4, .int k_d), (0, .ref a_k), (1, .int p_c), (2, .int p_h)] := hl
  have i_1 : 0 ≤ k_d.toInt ∧ k_d.toInt ≤ 4 := i_1
  have i_2 : 0 ≤ k_ov.toInt ∧ k_ov.toInt ≤ 1 := i_2
  refine g5_rs [(a_k, (oc5 a_h a_j a_pt k_ln k_se k_lh k_br k_we k_me k_ce k_wy k_ho k_ov)), (a_h, (oc1 e_wa e_le e_st e_fo e_lc a_l a_g a_b a_s a_p a_w e_gb a_bb)), (a_g, (oc6 6 5 a_gn e_g)), (a_gn, (arI G 30 f_g)), (a_b, (oc6 5 24 a_bn e_b)), (a_bn, (arI G 120 f_b)), (a_p, (oc6 8 5 a_pn e_p)), (a_pn, (arI G 40 f_p)), (a_bb, (arJ G 24 f_bb)), (a_j, (oc2 a_as a_sk)), (a_as, (arI G 8 k_as)), (a_sk, (arJ G 50 k_sk)), (a_l, (arW G 6 f_l)), (a_pt, (arI G 200 k_pt))] hP hD (fun hP hD => ?_)
  refine lv_iload hx hb dX5_bodiesFrom_5 (lv_at hl 1 rfl) ?_
  refine lv_iconst (v := 4) hx hb dX5_bodiesFrom_7 (by decide) ?_
  refine lv_icmp_ge (tgt := 47) hx hb dX5_bodiesFrom_8 (by decide) (fun c_4 => ?_) (fun c_4 => ?_)
  ·
    have i_4 : k_d.toInt ≥ 4 := by have z := g5_ge (a := k_d.toInt) (b := 4) (by rfl) (by decide) c_4; omega
    refine lv_iload_n hx hb dX5_bodiesFrom_47 rfl (lv_at hl 0 rfl) ?_
    exact W.iret (v := k_b) hx hb hr (fun t ht hW => ⟨⟨k_b, [(a_k, (oc5 a_h a_j a_pt k_ln k_se k_lh k_br k_we k_me k_ce k_wy k_ho k_ov)), (a_h, (oc1 e_wa e_le e_st e_fo e_lc a_l a_g a_b a_s a_p a_w e_gb a_bb)), (a_g, (oc6 6 5 a_gn e_g)), (a_gn, (arI G 30 f_g)), (a_b, (oc6 5 24 a_bn e_b)), (a_bn, (arI G 120 f_b)), (a_p, (oc6 8 5 a_pn e_p)), (a_pn, (arI G 40 f_p)), (a_bb, (arJ G 24 f_bb)), (a_j, (oc2 a_as a_sk)), (a_as, (arI G 8 k_as)), (a_sk, (arJ G 50 k_sk)), (a_l, (arW G 6 f_l)), (a_pt, (arI G 200 k_pt))], rfl, ⟨k_b, k_ln, k_se, k_lh, k_br, k_we, k_me, k_ce, k_wy, k_ho, k_ov, k_pt, k_as, k_sk, i_2, rfl, rfl⟩, by rw [ht]; exact hP.sub [0, 1, 2, 3, 4, 5, 6, 7, 8, 9, 10, 11, 12, 13] rfl, hD.sub [0, 1, 2, 3, 4, 5, 6, 7, 8, 9, 10, 11, 12, 13] (by decide) rfl⟩, hS.F ht⟩) hS.2.2 dX5_bodiesFrom_48
  ·
    have i_4 : k_d.toInt < 4 := by have z := g5_geN (a := k_d.toInt) (b := 4) (by rfl) (by decide) c_4; omega
    refine lv_aload_n hx hb dX5_bodiesFrom_11 rfl (lv_at hl 2 rfl) ?_
    refine lv_iload_n hx hb dX5_bodiesFrom_12 rfl (lv_at hl 3 rfl) ?_
    refine lv_iload hx hb dX5_bodiesFrom_13 (lv_at hl 1 rfl) ?_
    refine lv_iload_n hx hb dX5_bodiesFrom_15 rfl (lv_at hl 4 rfl) ?_
    refine lv_iconst (v := 0) hx hb dX5_bodiesFrom_16 (by decide) ?_
    obtain ⟨hPc, hDc, hFc⟩ := g5_sub3 (wc := [(a_k, (oc5 a_h a_j a_pt k_ln k_se k_lh k_br k_we k_me k_ce k_wy k_ho k_ov)), (a_h, (oc1 e_wa e_le e_st e_fo e_lc a_l a_g a_b a_s a_p a_w e_gb a_bb)), (a_g, (oc6 6 5 a_gn e_g)), (a_gn, (arI G 30 f_g)), (a_b, (oc6 5 24 a_bn e_b)), (a_bn, (arI G 120 f_b)), (a_p, (oc6 8 5 a_pn e_p)), (a_pn, (arI G 40 f_p)), (a_bb, (arJ G 24 f_bb)), (a_j, (oc2 a_as a_sk)), (a_as, (arI G 8 k_as)), (a_sk, (arJ G 50 k_sk)), (a_l, (arW G 6 f_l)), (a_pt, (arI G 200 k_pt))]) hP hD hS hA [0, 1, 2, 3, 4, 5, 6, 7, 8, 9, 10, 11, 12, 13] (by decide) rfl
    refine va_callv (va_runV (As := [.int p_c, .int k_d, .int p_h, .int 0]) (rest := []) ⟨hx, hb, hml, hown, hts⟩ (k_runN l G a_k a_h a_g a_gn a_b a_bn a_p a_pn a_bb a_j a_as a_sk a_l a_pt a_s a_w H.size e_le e_st e_fo e_lc e_g e_b e_p k_ln k_se k_lh k_br k_we k_me k_ce k_wy k_ho k_ov p_c k_d p_h 0 e_wa e_gb f_g f_b f_p f_bb k_as k_sk f_l k_pt h_e_g h_e_b h_e_p i_2 (e_gk) (e_pk) (e_gi) (e_f)) (cwV 4 hts gV_X5_91 rfl rfl rfl hv_X5_run ⟨Nat.le_of_ble_eq_true rfl, Nat.le_of_ble_eq_true rfl⟩) (g5_preV hPc hK hDc hN hT hS hFc (ci := 5) (q0 := 0) rfl rfl) rfl rfl hl.1 rfl (lv_room (Nat.le_of_ble_eq_true rfl)) dX5_bodiesFrom_17 ⟨Nat.le_of_ble_eq_true rfl, Nat.le_of_ble_eq_true rfl⟩) hS (fun q _ h => hFc q h) hFc (fun u t H1 locs ht hvm hw hB hz1 hk1 hS => ?_)
    obtain ⟨hP1, hD1⟩ := hB
    rw [ht] at hP1
    obtain ⟨z8, z9, z10, z11, z12, z13, z14, z15, z16, z17, z18, z19, z20, i_5, i_6, i_7, rfl⟩ := hw
    have i_5 : 0 ≤ z8.toInt ∧ z8.toInt ≤ 200 := i_5
    have i_6 : 0 ≤ z17.toInt ∧ z17.toInt ≤ 1 := i_6
    have i_7 : ∀ j : Nat, (j : Int) < z8.toInt → 0 ≤ (z18 j).toInt ∧ (z18 j).toInt ≤ 1535 := i_7
    obtain ⟨hP, hD⟩ := va_join (wr := []) hP hD [0, 1, 2, 3, 4, 5, 6, 7, 8, 9, 10, 11, 12, 13] [] rfl rfl (by decide) (by decide) hk1 hFc hP1 hD1
    generalize H1 = H at hP hS ⊢
    refine g5_rs [(a_k, (oc5 a_h a_j a_pt z8 z9 z10 z11 z12 z13 z14 z15 z16 z17)), (a_h, (oc1 e_wa e_le e_st e_fo e_lc a_l a_g a_b a_s a_p a_w e_gb a_bb)), (a_g, (oc6 6 5 a_gn e_g)), (a_gn, (arI G 30 f_g)), (a_b, (oc6 5 24 a_bn e_b)), (a_bn, (arI G 120 f_b)), (a_p, (oc6 8 5 a_pn e_p)), (a_pn, (arI G 40 f_p)), (a_bb, (arJ G 24 f_bb)), (a_j, (oc2 a_as a_sk)), (a_as, (arI G 8 z19)), (a_sk, (arJ G 50 z20)), (a_l, (arW G 6 f_l)), (a_pt, (arI G 200 z18))] hP hD (fun hP hD => ?_)
    refine lv_iload_n hx hb dX5_bodiesFrom_20 rfl (lv_at hl 0 rfl) ?_
    refine lv_aload_n hx hb dX5_bodiesFrom_21 rfl (lv_at hl 2 rfl) ?_
    refine va_get (D := G.1) (ci := 5) (v := .int z9) (C := RX5) (T := TX5) (N := 13) hx hb hts inG_X5 hown hK hP 0 rfl rfl 4 (by decide) (hts _ fl_X5_39) (fun _ h9 => h9) rfl dX5_bodiesFrom_22 ?_
    refine lv_iconst (v := (-1)) hx hb dX5_bodiesFrom_25 (by decide) ?_
    refine lv_icmp_ne (tgt := 33) hx hb dX5_bodiesFrom_26 (by decide) (fun c_21 => ?_) (fun c_21 => ?_)
    ·
      have n_21 : gNe (z9.toInt) ((-1)) := by have z := g5_ne (a := z9.toInt) (b := (-1)) (by rfl) (by decide) c_21; unfold gNe; omega
      refine lv_iconst (v := 1) hx hb dX5_bodiesFrom_33 (by decide) ?_
      refine lv_aload_n hx hb dX5_bodiesFrom_34 rfl (lv_at hl 2 rfl) ?_
      refine va_get (D := G.1) (ci := 5) (v := .int z9) (C := RX5) (T := TX5) (N := 13) hx hb hts inG_X5 hown hK hP 0 rfl rfl 4 (by decide) (hts _ fl_X5_39) (fun _ h9 => h9) rfl dX5_bodiesFrom_35 ?_
      refine lv_ishl hx hb dX5_bodiesFrom_38 ?_
      refine lv_ior hx hb dX5_bodiesFrom_39 ?_
      refine lv_istore_n (lv' := [(3, .int (k_b ||| (1 <<< (z9 &&& 31)))), (4, .int k_d), (0, .ref a_k), (1, .int p_c), (2, .int p_h)]) hx hb dX5_bodiesFrom_40 rfl hl (by decide) rfl (fun ls hl => ?_)
      refine lv_iinc (v := (k_d + 1)) (lv' := [(4, .int (k_d + 1)), (3, .int (k_b ||| (1 <<< (z9 &&& 31)))), (0, .ref a_k), (1, .int p_c), (2, .int p_h)]) hx hb dX5_bodiesFrom_41 hl (k := 1) rfl rfl (by decide) rfl (fun ls hl => ?_)
      have t_22 : (k_d + 1).toInt = k_d.toInt + 1 := g5_iadd (a := k_d.toInt) (b := 1) rfl (by decide) (by omega) (by omega)
      refine lv_goto (tgt := 5) hx hb dX5_bodiesFrom_44 (by decide) ?_
      exact ih_5_3 ((k_d + 1), (k_b ||| (1 <<< (z9 &&& 31))), z9, z10, z11, z12, z13, z14, z15, z16, z17, z18, z19, z20, z8) ls H locs (show Int.toNat (4 - (k_d + 1).toInt) < Int.toNat (4 - k_d.toInt) from g_up (show k_d.toInt < (k_d + 1).toInt by omega) (show k_d.toInt < 4 by omega)) ⟨lv_sub hl [1, 0, 2, 3, 4] rfl, hP, hD, hS, ⟨by omega, by omega⟩, i_6⟩
    ·
      have i_21 : z9.toInt = (-1) := by have z := g5_neN (a := z9.toInt) (b := (-1)) (by rfl) (by decide) c_21; omega
      refine lv_iconst (v := 0) hx hb dX5_bodiesFrom_29 (by decide) ?_
      refine lv_goto (tgt := 39) hx hb dX5_bodiesFrom_30 (by decide) ?_
      refine lv_ior hx hb dX5_bodiesFrom_39 ?_
      refine g5_ti (v := k_b) (by simp) ?_
      refine lv_istore_n (lv' := [(3, .int k_b), (4, .int k_d), (0, .ref a_k), (1, .int p_c), (2, .int p_h)]) hx hb dX5_bodiesFrom_40 rfl hl (by decide) rfl (fun ls hl => ?_)
      refine lv_iinc (v := (k_d + 1)) (lv' := [(4, .int (k_d + 1)), (3, .int k_b), (0, .ref a_k), (1, .int p_c), (2, .int p_h)]) hx hb dX5_bodiesFrom_41 hl (k := 1) rfl rfl (by decide) rfl (fun ls hl => ?_)
      have t_23 : (k_d + 1).toInt = k_d.toInt + 1 := g5_iadd (a := k_d.toInt) (b := 1) rfl (by decide) (by omega) (by omega)
      refine lv_goto (tgt := 5) hx hb dX5_bodiesFrom_44 (by decide) ?_
      exact ih_5_3 ((k_d + 1), k_b, z9, z10, z11, z12, z13, z14, z15, z16, z17, z18, z19, z20, z8) ls H locs (show Int.toNat (4 - (k_d + 1).toInt) < Int.toNat (4 - k_d.toInt) from g_up (show k_d.toInt < (k_d + 1).toInt by omega) (show k_d.toInt < 4 by omega)) ⟨lv_sub hl [1, 0, 2, 3, 4] rfl, hP, hD, hS, ⟨by omega, by omega⟩, i_6⟩
theorem dgX5_findsBody_0 : ∀ r ∈ ([(0, (.aload_n 0, 1)), (1, (.iconst 0, 1)), (2, (.putfield 95, 3)), (5, (.iconst 0, 1)), (6, (.istore 4, 2)), (8, (.iload 4, 2)), (10, (.iconst 4, 1)), (11, (.if_icmp .ge 28, 3)), (14, (.aload_n 0, 1)), (15, (.iload_n 2, 1)), (16, (.iload 4, 2)), (18, (.iload_n 3, 1)), (19, (.iconst 0, 1)), (20, (.invokevirtual 91, 3)), (23, (.aload_n 0, 1)), (24, (.getfield 39, 3)), (27, (.iload_n 1, 1)), (28, (.if_icmp .ne 5, 3)), (31, (.iconst 1, 1)), (32, (.ireturn, 1)), (33, (.iinc 4 1, 3)), (36, (.goto (-28), 3)), (39, (.iconst 0, 1)), (40, (.ireturn, 1))] : List (Nat × (Instr × Nat))), decode cX5_findsBody r.1 = .ok r.2 := by decide +kernel
theorem dX5_findsBody_0 : decode cX5_findsBody 0 = .ok (.aload_n 0, 1) := dgX5_findsBody_0 (0, (.aload_n 0, 1)) (List.mem_of_getElem? (i := 0) rfl)
theorem dX5_findsBody_1 : decode cX5_findsBody 1 = .ok (.iconst 0, 1) := dgX5_findsBody_0 (1, (.iconst 0, 1)) (List.mem_of_getElem? (i := 1) rfl)
theorem dX5_findsBody_2 : decode cX5_findsBody 2 = .ok (.putfield 95, 3) := dgX5_findsBody_0 (2, (.putfield 95, 3)) (List.mem_of_getElem? (i := 2) rfl)
theorem dX5_findsBody_5 : decode cX5_findsBody 5 = .ok (.iconst 0, 1) := dgX5_findsBody_0 (5, (.iconst 0, 1)) (List.mem_of_getElem? (i := 3) rfl)
theorem dX5_findsBody_6 : decode cX5_findsBody 6 = .ok (.istore 4, 2) := dgX5_findsBody_0 (6, (.istore 4, 2)) (List.mem_of_getElem? (i := 4) rfl)
theorem dX5_findsBody_8 : decode cX5_findsBody 8 = .ok (.iload 4, 2) := dgX5_findsBody_0 (8, (.iload 4, 2)) (List.mem_of_getElem? (i := 5) rfl)
theorem dX5_findsBody_10 : decode cX5_findsBody 10 = .ok (.iconst 4, 1) := dgX5_findsBody_0 (10, (.iconst 4, 1)) (List.mem_of_getElem? (i := 6) rfl)
theorem dX5_findsBody_11 : decode cX5_findsBody 11 = .ok (.if_icmp .ge 28, 3) := dgX5_findsBody_0 (11, (.if_icmp .ge 28, 3)) (List.mem_of_getElem? (i := 7) rfl)
theorem dX5_findsBody_14 : decode cX5_findsBody 14 = .ok (.aload_n 0, 1) := dgX5_findsBody_0 (14, (.aload_n 0, 1)) (List.mem_of_getElem? (i := 8) rfl)
theorem dX5_findsBody_15 : decode cX5_findsBody 15 = .ok (.iload_n 2, 1) := dgX5_findsBody_0 (15, (.iload_n 2, 1)) (List.mem_of_getElem? (i := 9) rfl)
theorem dX5_findsBody_16 : decode cX5_findsBody 16 = .ok (.iload 4, 2) := dgX5_findsBody_0 (16, (.iload 4, 2)) (List.mem_of_getElem? (i := 10) rfl)
theorem dX5_findsBody_18 : decode cX5_findsBody 18 = .ok (.iload_n 3, 1) := dgX5_findsBody_0 (18, (.iload_n 3, 1)) (List.mem_of_getElem? (i := 11) rfl)
theorem dX5_findsBody_19 : decode cX5_findsBody 19 = .ok (.iconst 0, 1) := dgX5_findsBody_0 (19, (.iconst 0, 1)) (List.mem_of_getElem? (i := 12) rfl)
theorem dX5_findsBody_20 : decode cX5_findsBody 20 = .ok (.invokevirtual 91, 3) := dgX5_findsBody_0 (20, (.invokevirtual 91, 3)) (List.mem_of_getElem? (i := 13) rfl)
theorem dX5_findsBody_23 : decode cX5_findsBody 23 = .ok (.aload_n 0, 1) := dgX5_findsBody_0 (23, (.aload_n 0, 1)) (List.mem_of_getElem? (i := 14) rfl)
theorem dX5_findsBody_24 : decode cX5_findsBody 24 = .ok (.getfield 39, 3) := dgX5_findsBody_0 (24, (.getfield 39, 3)) (List.mem_of_getElem? (i := 15) rfl)
theorem dX5_findsBody_27 : decode cX5_findsBody 27 = .ok (.iload_n 1, 1) := dgX5_findsBody_0 (27, (.iload_n 1, 1)) (List.mem_of_getElem? (i := 16) rfl)
theorem dX5_findsBody_28 : decode cX5_findsBody 28 = .ok (.if_icmp .ne 5, 3) := dgX5_findsBody_0 (28, (.if_icmp .ne 5, 3)) (List.mem_of_getElem? (i := 17) rfl)
theorem dX5_findsBody_31 : decode cX5_findsBody 31 = .ok (.iconst 1, 1) := dgX5_findsBody_0 (31, (.iconst 1, 1)) (List.mem_of_getElem? (i := 18) rfl)
theorem dX5_findsBody_32 : decode cX5_findsBody 32 = .ok (.ireturn, 1) := dgX5_findsBody_0 (32, (.ireturn, 1)) (List.mem_of_getElem? (i := 19) rfl)
theorem dX5_findsBody_33 : decode cX5_findsBody 33 = .ok (.iinc 4 1, 3) := dgX5_findsBody_0 (33, (.iinc 4 1, 3)) (List.mem_of_getElem? (i := 20) rfl)
theorem dX5_findsBody_36 : decode cX5_findsBody 36 = .ok (.goto (-28), 3) := dgX5_findsBody_0 (36, (.goto (-28), 3)) (List.mem_of_getElem? (i := 21) rfl)
theorem dX5_findsBody_39 : decode cX5_findsBody 39 = .ok (.iconst 0, 1) := dgX5_findsBody_0 (39, (.iconst 0, 1)) (List.mem_of_getElem? (i := 22) rfl)
theorem dX5_findsBody_40 : decode cX5_findsBody 40 = .ok (.ireturn, 1) := dgX5_findsBody_0 (40, (.ireturn, 1)) (List.mem_of_getElem? (i := 23) rfl)
set_option maxHeartbeats 4000000 in
set_option maxRecDepth 100000 in
theorem s_findsBodyN (l : Launch) (G : g5_G) (a_k a_h a_g a_gn a_b a_bn a_p a_pn a_bb a_j a_as a_sk a_l a_pt a_s a_w : Nat) (sz : Nat) (e_le : Int32) (e_st : Int32) (e_fo : Int32) (e_lc : Int32) (e_g : Int32) (e_b : Int32) (e_p : Int32) (e_ln : Int32) (e_se : Int32) (e_lh : Int32) (e_br : Int32) (e_we : Int32) (e_me : Int32) (e_ce : Int32) (e_wy : Int32) (e_ho : Int32) (e_ov : Int32) (p_c : Int32) (p_h : Int32) (p_b : Int32) (e_wa : Int64) (e_gb : Int64) (f_g : Nat → Int32) (f_b : Nat → Int32) (f_p : Nat → Int32) (f_bb : Nat → Int64) (f_as : Nat → Int32) (f_sk : Nat → Int64) (f_l : Nat → Option Nat) (f_pt : Nat → Int32) (h_e_g : 0 ≤ e_g.toInt ∧ e_g.toInt ≤ 6) (h_e_b : 0 ≤ e_b.toInt ∧ e_b.toInt ≤ 5) (h_e_p : 0 ≤ e_p.toInt ∧ e_p.toInt ≤ 8) (h_e_ov : 0 ≤ e_ov.toInt ∧ e_ov.toInt ≤ 1) (e_gk : gOK f_g e_g.toInt) (e_pk : gOK f_p e_p.toInt) (e_gi : inT e_gb f_g e_g.toInt) (e_f : e_fo.toInt < 0 ∨ e_lc.toInt ≤ e_fo.toInt) : Met l yX5_findsBody (wsG yX5_findsBody cX5_findsBody 5 (some .boolean)) ({ frames := 14, cells := 0, slots := 0, locals := 556 }) (va_Pc [.ref a_k, .int p_b, .int p_c, .int p_h] (g5_P G [(a_k, (oc5 a_h a_j a_pt e_ln e_se e_lh e_br e_we e_me e_ce e_wy e_ho e_ov)), (a_h, (oc1 e_wa e_le e_st e_fo e_lc a_l a_g a_b a_s a_p a_w e_gb a_bb)), (a_g, (oc6 6 5 a_gn e_g)), (a_gn, (arI G 30 f_g)), (a_b, (oc6 5 24 a_bn e_b)), (a_bn, (arI G 120 f_b)), (a_p, (oc6 8 5 a_pn e_p)), (a_pn, (arI G 40 f_p)), (a_bb, (arJ G 24 f_bb)), (a_j, (oc2 a_as a_sk)), (a_as, (arI G 8 f_as)), (a_sk, (arJ G 50 f_sk)), (a_l, (arW G 6 f_l)), (a_pt, (arI G 200 f_pt))] sz)) (va_Qi (fun (r : Int32) (u : va_W) => (∃ (o_r : Int32) (o_ln : Int32) (o_se : Int32) (o_lh : Int32) (o_br : Int32) (o_we : Int32) (o_me : Int32) (o_ce : Int32) (o_wy : Int32) (o_ho : Int32) (o_ov : Int32) (o_pt : Nat → Int32) (o_as : Nat → Int32) (o_sk : Nat → Int64), (0 ≤ o_r.toInt ∧ o_r.toInt ≤ 1) ∧ (0 ≤ o_ov.toInt ∧ o_ov.toInt ≤ 1) ∧ (r = o_r) ∧ (u = [(a_k, (oc5 a_h a_j a_pt o_ln o_se o_lh o_br o_we o_me o_ce o_wy o_ho o_ov)), (a_h, (oc1 e_wa e_le e_st e_fo e_lc a_l a_g a_b a_s a_p a_w e_gb a_bb)), (a_g, (oc6 6 5 a_gn e_g)), (a_gn, (arI G 30 f_g)), (a_b, (oc6 5 24 a_bn e_b)), (a_bn, (arI G 120 f_b)), (a_p, (oc6 8 5 a_pn e_p)), (a_pn, (arI G 40 f_p)), (a_bb, (arJ G 24 f_bb)), (a_j, (oc2 a_as a_sk)), (a_as, (arI G 8 o_as)), (a_sk, (arJ G 50 o_sk)), (a_l, (arW G 6 f_l)), (a_pt, (arI G 200 o_pt))]))) (g5_B G (va_A [(a_k, (oc5 a_h a_j a_pt e_ln e_se e_lh e_br e_we e_me e_ce e_wy e_ho e_ov)), (a_h, (oc1 e_wa e_le e_st e_fo e_lc a_l a_g a_b a_s a_p a_w e_gb a_bb)), (a_g, (oc6 6 5 a_gn e_g)), (a_gn, (arI G 30 f_g)), (a_b, (oc6 5 24 a_bn e_b)), (a_bn, (arI G 120 f_b)), (a_p, (oc6 8 5 a_pn e_p)), (a_pn, (arI G 40 f_p)), (a_bb, (arJ G 24 f_bb)), (a_j, (oc2 a_as a_sk)), (a_as, (arI G 8 f_as)), (a_sk, (arJ G 50 f_sk)), (a_l, (arW G 6 f_l)), (a_pt, (arI G 200 f_pt))] sz)) (va_A [(a_k, (oc5 a_h a_j a_pt e_ln e_se e_lh e_br e_we e_me e_ce e_wy e_ho e_ov)), (a_h, (oc1 e_wa e_le e_st e_fo e_lc a_l a_g a_b a_s a_p a_w e_gb a_bb)), (a_g, (oc6 6 5 a_gn e_g)), (a_gn, (arI G 30 f_g)), (a_b, (oc6 5 24 a_bn e_b)), (a_bn, (arI G 120 f_b)), (a_p, (oc6 8 5 a_pn e_p)), (a_pn, (arI G 40 f_p)), (a_bb, (arJ G 24 f_bb)), (a_j, (oc2 a_as a_sk)), (a_as, (arI G 8 f_as)), (a_sk, (arJ G 50 f_sk)), (a_l, (arW G 6 f_l)), (a_pt, (arI G 200 f_pt))] sz)) 0 0 (va_A [(a_k, (oc5 a_h a_j a_pt e_ln e_se e_lh e_br e_we e_me e_ce e_wy e_ho e_ov)), (a_h, (oc1 e_wa e_le e_st e_fo e_lc a_l a_g a_b a_s a_p a_w e_gb a_bb)), (a_g, (oc6 6 5 a_gn e_g)), (a_gn, (arI G 30 f_g)), (a_b, (oc6 5 24 a_bn e_b)), (a_bn, (arI G 120 f_b)), (a_p, (oc6 8 5 a_pn e_p)), (a_pn, (arI G 40 f_p)), (a_bb, (arJ G 24 f_bb)), (a_j, (oc2 a_as a_sk)), (a_as, (arI G 8 f_as)), (a_sk, (arJ G 50 f_sk)), (a_l, (arW G 6 f_l)), (a_pt, (arI G 200 f_pt))] sz) := by
  refine Met.ofW (cc := cX5_findsBody) (maxL := 5) (ret := (some .boolean)) (by decide) rfl ?_
  intro p e s m args below meth c s₁ B hml hv
  obtain ⟨rfl, hsz, hP, hK, hD0, hN, hT⟩ := hv
  have hx := B.exec
  have hb := B.bytes
  have hr := B.returns
  have hts : ∀ w ∈ tblG, w.before _ s = true := fun w h => atoms_spec (ws := (wsG yX5_findsBody cX5_findsBody 5 (some .boolean))) B.pre w (List.mem_cons_of_mem _ h)
  have hown : s.vm.findClass RX5 = some m.cls := findClass_of_methodNamed B.named
  have hlocks := B.notSynchronized
  subst hsz
  have hD := hD0.self (sz := s.heap.size)
  generalize hAe : va_A [(a_k, (oc5 a_h a_j a_pt e_ln e_se e_lh e_br e_we e_me e_ce e_wy e_ho e_ov)), (a_h, (oc1 e_wa e_le e_st e_fo e_lc a_l a_g a_b a_s a_p a_w e_gb a_bb)), (a_g, (oc6 6 5 a_gn e_g)), (a_gn, (arI G 30 f_g)), (a_b, (oc6 5 24 a_bn e_b)), (a_bn, (arI G 120 f_b)), (a_p, (oc6 8 5 a_pn e_p)), (a_pn, (arI G 40 f_p)), (a_bb, (arJ G 24 f_bb)), (a_j, (oc2 a_as a_sk)), (a_as, (arI G 8 f_as)), (a_sk, (arJ G 50 f_sk)), (a_l, (arW G 6 f_l)), (a_pt, (arI G 200 f_pt))] s.heap.size = A at hD hT ⊢
  have hA : ∀ q : Nat, s.heap.size ≤ q → A q := fun q h => by rw [← hAe]; exact Or.inr h
  have hS : va_S A s.heap s.heap [] := va_S.rf
  have hP : va_P G.1 vwCl [(a_k, (oc5 a_h a_j a_pt e_ln e_se e_lh e_br e_we e_me e_ce e_wy e_ho e_ov)), (a_h, (oc1 e_wa e_le e_st e_fo e_lc a_l a_g a_b a_s a_p a_w e_gb a_bb)), (a_g, (oc6 6 5 a_gn e_g)), (a_gn, (arI G 30 f_g)), (a_b, (oc6 5 24 a_bn e_b)), (a_bn, (arI G 120 f_b)), (a_p, (oc6 8 5 a_pn e_p)), (a_pn, (arI G 40 f_p)), (a_bb, (arJ G 24 f_bb)), (a_j, (oc2 a_as a_sk)), (a_as, (arI G 8 f_as)), (a_sk, (arJ G 50 f_sk)), (a_l, (arW G 6 f_l)), (a_pt, (arI G 200 f_pt))] s.heap := hP
  have hl := lv_entry ([.ref a_k, .int p_b, .int p_c, .int p_h]) (n := 5) (Nat.le_of_ble_eq_true rfl)
  rw [lg_entry_eq]
  generalize (lg_sl ([.ref a_k, .int p_b, .int p_c, .int p_h]) ++ List.replicate (5 - (lg_sl ([.ref a_k, .int p_b, .int p_c, .int p_h])).length) Slot.unset).toArray = ls at hl ⊢
  have hl : lv_has ls 5 [(0, .ref a_k), (1, .int p_b), (2, .int p_c), (3, .int p_h)] := hl
  refine lv_aload_n hx hb dX5_findsBody_0 rfl (lv_at hl 0 rfl) ?_
  refine lv_iconst (v := 0) hx hb dX5_findsBody_1 (by decide) ?_
  refine va_put (D := G.1) (ci := 5) (v := .int 0) (ty := .int) (C := RX5) (T := TX5) (N := 13) hx hb hts inG_X5 tyX5 tyX5_ok nmX5 hown hK hP hD hS 0 rfl rfl 8 (by decide) (hts _ fl_X5_95) (fun _ h9 => h9) rfl (by decide +kernel) rfl rfl (Nat.le_of_ble_eq_true rfl) dX5_findsBody_2 (fun H locs hP hD hS => ?_)
  refine g5_rs [(a_k, (oc5 a_h a_j a_pt e_ln e_se e_lh e_br e_we 0 e_ce e_wy e_ho e_ov)), (a_h, (oc1 e_wa e_le e_st e_fo e_lc a_l a_g a_b a_s a_p a_w e_gb a_bb)), (a_g, (oc6 6 5 a_gn e_g)), (a_gn, (arI G 30 f_g)), (a_b, (oc6 5 24 a_bn e_b)), (a_bn, (arI G 120 f_b)), (a_p, (oc6 8 5 a_pn e_p)), (a_pn, (arI G 40 f_p)), (a_bb, (arJ G 24 f_bb)), (a_j, (oc2 a_as a_sk)), (a_as, (arI G 8 f_as)), (a_sk, (arJ G 50 f_sk)), (a_l, (arW G 6 f_l)), (a_pt, (arI G 200 f_pt))] hP hD (fun hP hD => ?_)
  refine lv_iconst (v := 0) hx hb dX5_findsBody_5 (by decide) ?_
  refine lv_istore (lv' := [(4, .int 0), (0, .ref a_k), (1, .int p_b), (2, .int p_c), (3, .int p_h)]) hx hb dX5_findsBody_6 hl (by decide) rfl (fun ls hl => ?_)
  refine g5_loop (α := (Int32) × (Int32) × (Int32) × (Int32) × (Int32) × (Int32) × (Int32) × (Int32) × (Int32) × (Int32) × (Nat → Int32) × (Nat → Int32) × (Nat → Int64) × (Int32)) (fun (q : (Int32) × (Int32) × (Int32) × (Int32) × (Int32) × (Int32) × (Int32) × (Int32) × (Int32) × (Int32) × (Nat → Int32) × (Nat → Int32) × (Nat → Int64) × (Int32)) (ls : Array Slot) (H : Heap) (locs : List Loc) => match q with | (k_d, k_se, k_lh, k_br, k_we, k_me, k_ce, k_wy, k_ho, k_ov, k_pt, k_as, k_sk, k_ln) => lv_has ls 5 [(4, .int k_d), (0, .ref a_k), (1, .int p_b), (2, .int p_c), (3, .int p_h)] ∧ va_P G.1 vwCl [(a_k, (oc5 a_h a_j a_pt k_ln k_se k_lh k_br k_we k_me k_ce k_wy k_ho k_ov)), (a_h, (oc1 e_wa e_le e_st e_fo e_lc a_l a_g a_b a_s a_p a_w e_gb a_bb)), (a_g, (oc6 6 5 a_gn e_g)), (a_gn, (arI G 30 f_g)), (a_b, (oc6 5 24 a_bn e_b)), (a_bn, (arI G 120 f_b)), (a_p, (oc6 8 5 a_pn e_p)), (a_pn, (arI G 40 f_p)), (a_bb, (arJ G 24 f_bb)), (a_j, (oc2 a_as a_sk)), (a_as, (arI G 8 k_as)), (a_sk, (arJ G 50 k_sk)), (a_l, (arW G 6 f_l)), (a_pt, (arI G 200 k_pt))] H ∧ va_D A [(a_k, (oc5 a_h a_j a_pt k_ln k_se k_lh k_br k_we k_me k_ce k_wy k_ho k_ov)), (a_h, (oc1 e_wa e_le e_st e_fo e_lc a_l a_g a_b a_s a_p a_w e_gb a_bb)), (a_g, (oc6 6 5 a_gn e_g)), (a_gn, (arI G 30 f_g)), (a_b, (oc6 5 24 a_bn e_b)), (a_bn, (arI G 120 f_b)), (a_p, (oc6 8 5 a_pn e_p)), (a_pn, (arI G 40 f_p)), (a_bb, (arJ G 24 f_bb)), (a_j, (oc2 a_as a_sk)), (a_as, (arI G 8 k_as)), (a_sk, (arJ G 50 k_sk)), (a_l, (arW G 6 f_l)), (a_pt, (arI G 200 k_pt))] ∧ va_S A s.heap H locs ∧ (0 ≤ k_d.toInt ∧ k_d.toInt ≤ 4) ∧ (0 ≤ k_ov.toInt ∧ k_ov.toInt ≤ 1)) (fun (q : (Int32) × (Int32) × (Int32) × (Int32) × (Int32) × (Int32) × (Int32) × (Int32) × (Int32) × (Int32) × (Nat → Int32) × (Nat → Int32) × (Nat → Int64) × (Int32)) => match q with | (k_d, k_se, k_lh, k_br, k_we, k_me, k_ce, k_wy, k_ho, k_ov, k_pt, k_as, k_sk, k_ln) => Int.toNat (4 - k_d.toInt)) (0, e_se, e_lh, e_br, e_we, 0, e_ce, e_wy, e_ho, e_ov, f_pt, f_as, f_sk, e_ln) ⟨lv_sub hl [0, 1, 2, 3, 4] rfl, hP, hD, hS, ⟨by decide, by decide⟩, h_e_ov⟩ ?_
  rintro ⟨k_d, k_se, k_lh, k_br, k_we, k_me, k_ce, k_wy, k_ho, k_ov, k_pt, k_as, k_sk, k_ln⟩ ls H locs ⟨hl, hP, hD, hS, i_1, i_2⟩ ih_8_3
  have hl : lv_has ls 5 [(4, .int k_d), (0, .ref a_k), (1, .int p_b), (2, .int p_c), (3, .int p_h)] := hl
  have i_1 : 0 ≤ k_d.toInt ∧ k_d.toInt ≤ 4 := i_1
  have i_2 : 0 ≤ k_ov.toInt ∧ k_ov.toInt ≤ 1 := i_2
  refine g5_rs [(a_k, (oc5 a_h a_j a_pt k_ln k_se k_lh k_br k_we k_me k_ce k_wy k_ho k_ov)), (a_h, (oc1 e_wa e_le e_st e_fo e_lc a_l a_g a_b a_s a_p a_w e_gb a_bb)), (a_g, (oc6 6 5 a_gn e_g)), (a_gn, (arI G 30 f_g)), (a_b, (oc6 5 24 a_bn e_b)), (a_bn, (arI G 120 f_b)), (a_p, (oc6 8 5 a_pn e_p)), (a_pn, (arI G 40 f_p)), (a_bb, (arJ G 24 f_bb)), (a_j, (oc2 a_as a_sk)), (a_as, (arI G 8 k_as)), (a_sk, (arJ G 50 k_sk)), (a_l, (arW G 6 f_l)), (a_pt, (arI G 200 k_pt))] hP hD (fun hP hD => ?_)
  refine lv_iload hx hb dX5_findsBody_8 (lv_at hl 0 rfl) ?_
  refine lv_iconst (v := 4) hx hb dX5_findsBody_10 (by decide) ?_
  refine lv_icmp_ge (tgt := 39) hx hb dX5_findsBody_11 (by decide) (fun c_4 => ?_) (fun c_4 => ?_)
  ·
    have i_4 : k_d.toInt ≥ 4 := by have z := g5_ge (a := k_d.toInt) (b := 4) (by rfl) (by decide) c_4; omega
    refine lv_iconst (v := 0) hx hb dX5_findsBody_39 (by decide) ?_
    exact W.zret (v := 0) hx hb hr rfl (fun t ht hW => ⟨⟨0, [(a_k, (oc5 a_h a_j a_pt k_ln k_se k_lh k_br k_we k_me k_ce k_wy k_ho k_ov)), (a_h, (oc1 e_wa e_le e_st e_fo e_lc a_l a_g a_b a_s a_p a_w e_gb a_bb)), (a_g, (oc6 6 5 a_gn e_g)), (a_gn, (arI G 30 f_g)), (a_b, (oc6 5 24 a_bn e_b)), (a_bn, (arI G 120 f_b)), (a_p, (oc6 8 5 a_pn e_p)), (a_pn, (arI G 40 f_p)), (a_bb, (arJ G 24 f_bb)), (a_j, (oc2 a_as a_sk)), (a_as, (arI G 8 k_as)), (a_sk, (arJ G 50 k_sk)), (a_l, (arW G 6 f_l)), (a_pt, (arI G 200 k_pt))], rfl, ⟨0, k_ln, k_se, k_lh, k_br, k_we, k_me, k_ce, k_wy, k_ho, k_ov, k_pt, k_as, k_sk, ⟨by have zc_o_r : (0 : Int32).toInt = 0 := (by decide); omega, by have zc_o_r : (0 : Int32).toInt = 0 := (by decide); omega⟩, i_2, rfl, rfl⟩, by rw [ht]; exact hP.sub [0, 1, 2, 3, 4, 5, 6, 7, 8, 9, 10, 11, 12, 13] rfl, hD.sub [0, 1, 2, 3, 4, 5, 6, 7, 8, 9, 10, 11, 12, 13] (by decide) rfl⟩, hS.F ht⟩) hS.2.2 dX5_findsBody_40
  ·
    have i_4 : k_d.toInt < 4 := by have z := g5_geN (a := k_d.toInt) (b := 4) (by rfl) (by decide) c_4; omega
    refine lv_aload_n hx hb dX5_findsBody_14 rfl (lv_at hl 1 rfl) ?_
    refine lv_iload_n hx hb dX5_findsBody_15 rfl (lv_at hl 3 rfl) ?_
    refine lv_iload hx hb dX5_findsBody_16 (lv_at hl 0 rfl) ?_
    refine lv_iload_n hx hb dX5_findsBody_18 rfl (lv_at hl 4 rfl) ?_
    refine lv_iconst (v := 0) hx hb dX5_findsBody_19 (by decide) ?_
    obtain ⟨hPc, hDc, hFc⟩ := g5_sub3 (wc := [(a_k, (oc5 a_h a_j a_pt k_ln k_se k_lh k_br k_we k_me k_ce k_wy k_ho k_ov)), (a_h, (oc1 e_wa e_le e_st e_fo e_lc a_l a_g a_b a_s a_p a_w e_gb a_bb)), (a_g, (oc6 6 5 a_gn e_g)), (a_gn, (arI G 30 f_g)), (a_b, (oc6 5 24 a_bn e_b)), (a_bn, (arI G 120 f_b)), (a_p, (oc6 8 5 a_pn e_p)), (a_pn, (arI G 40 f_p)), (a_bb, (arJ G 24 f_bb)), (a_j, (oc2 a_as a_sk)), (a_as, (arI G 8 k_as)), (a_sk, (arJ G 50 k_sk)), (a_l, (arW G 6 f_l)), (a_pt, (arI G 200 k_pt))]) hP hD hS hA [0, 1, 2, 3, 4, 5, 6, 7, 8, 9, 10, 11, 12, 13] (by decide) rfl
    refine va_callv (va_runV (As := [.int p_c, .int k_d, .int p_h, .int 0]) (rest := []) ⟨hx, hb, hml, hown, hts⟩ (k_runN l G a_k a_h a_g a_gn a_b a_bn a_p a_pn a_bb a_j a_as a_sk a_l a_pt a_s a_w H.size e_le e_st e_fo e_lc e_g e_b e_p k_ln k_se k_lh k_br k_we k_me k_ce k_wy k_ho k_ov p_c k_d p_h 0 e_wa e_gb f_g f_b f_p f_bb k_as k_sk f_l k_pt h_e_g h_e_b h_e_p i_2 (e_gk) (e_pk) (e_gi) (e_f)) (cwV 4 hts gV_X5_91 rfl rfl rfl hv_X5_run ⟨Nat.le_of_ble_eq_true rfl, Nat.le_of_ble_eq_true rfl⟩) (g5_preV hPc hK hDc hN hT hS hFc (ci := 5) (q0 := 0) rfl rfl) rfl rfl hl.1 rfl (lv_room (Nat.le_of_ble_eq_true rfl)) dX5_findsBody_20 ⟨Nat.le_of_ble_eq_true rfl, Nat.le_of_ble_eq_true rfl⟩) hS (fun q _ h => hFc q h) hFc (fun u t H1 locs ht hvm hw hB hz1 hk1 hS => ?_)
    obtain ⟨hP1, hD1⟩ := hB
    rw [ht] at hP1
    obtain ⟨z8, z9, z10, z11, z12, z13, z14, z15, z16, z17, z18, z19, z20, i_5, i_6, i_7, rfl⟩ := hw
    have i_5 : 0 ≤ z8.toInt ∧ z8.toInt ≤ 200 := i_5
    have i_6 : 0 ≤ z17.toInt ∧ z17.toInt ≤ 1 := i_6
    have i_7 : ∀ j : Nat, (j : Int) < z8.toInt → 0 ≤ (z18 j).toInt ∧ (z18 j).toInt ≤ 1535 := i_7
    obtain ⟨hP, hD⟩ := va_join (wr := []) hP hD [0, 1, 2, 3, 4, 5, 6, 7, 8, 9, 10, 11, 12, 13] [] rfl rfl (by decide) (by decide) hk1 hFc hP1 hD1
    generalize H1 = H at hP hS ⊢
    refine g5_rs [(a_k, (oc5 a_h a_j a_pt z8 z9 z10 z11 z12 z13 z14 z15 z16 z17)), (a_h, (oc1 e_wa e_le e_st e_fo e_lc a_l a_g a_b a_s a_p a_w e_gb a_bb)), (a_g, (oc6 6 5 a_gn e_g)), (a_gn, (arI G 30 f_g)), (a_b, (oc6 5 24 a_bn e_b)), (a_bn, (arI G 120 f_b)), (a_p, (oc6 8 5 a_pn e_p)), (a_pn, (arI G 40 f_p)), (a_bb, (arJ G 24 f_bb)), (a_j, (oc2 a_as a_sk)), (a_as, (arI G 8 z19)), (a_sk, (arJ G 50 z20)), (a_l, (arW G 6 f_l)), (a_pt, (arI G 200 z18))] hP hD (fun hP hD => ?_)
    refine lv_aload_n hx hb dX5_findsBody_23 rfl (lv_at hl 1 rfl) ?_
    refine va_get (D := G.1) (ci := 5) (v := .int z9) (C := RX5) (T := TX5) (N := 13) hx hb hts inG_X5 hown hK hP 0 rfl rfl 4 (by decide) (hts _ fl_X5_39) (fun _ h9 => h9) rfl dX5_findsBody_24 ?_
    refine lv_iload_n hx hb dX5_findsBody_27 rfl (lv_at hl 2 rfl) ?_
    refine lv_icmp_ne (tgt := 33) hx hb dX5_findsBody_28 (by decide) (fun c_21 => ?_) (fun c_21 => ?_)
    ·
      have n_21 : gNe (z9.toInt) (p_b.toInt) := by have z := g5_ne (a := z9.toInt) (b := p_b.toInt) (by rfl) (by rfl) c_21; unfold gNe; omega
      refine lv_iinc (v := (k_d + 1)) (lv' := [(4, .int (k_d + 1)), (0, .ref a_k), (1, .int p_b), (2, .int p_c), (3, .int p_h)]) hx hb dX5_findsBody_33 hl (k := 0) rfl rfl (by decide) rfl (fun ls hl => ?_)
      have t_22 : (k_d + 1).toInt = k_d.toInt + 1 := g5_iadd (a := k_d.toInt) (b := 1) rfl (by decide) (by omega) (by omega)
      refine lv_goto (tgt := 8) hx hb dX5_findsBody_36 (by decide) ?_
      exact ih_8_3 ((k_d + 1), z9, z10, z11, z12, z13, z14, z15, z16, z17, z18, z19, z20, z8) ls H locs (show Int.toNat (4 - (k_d + 1).toInt) < Int.toNat (4 - k_d.toInt) from g_up (show k_d.toInt < (k_d + 1).toInt by omega) (show k_d.toInt < 4 by omega)) ⟨lv_sub hl [0, 1, 2, 3, 4] rfl, hP, hD, hS, ⟨by omega, by omega⟩, i_6⟩
    ·
      have i_21 : z9.toInt = p_b.toInt := by have z := g5_neN (a := z9.toInt) (b := p_b.toInt) (by rfl) (by rfl) c_21; omega
      refine lv_iconst (v := 1) hx hb dX5_findsBody_31 (by decide) ?_
      exact W.zret (v := 1) hx hb hr rfl (fun t ht hW => ⟨⟨1, [(a_k, (oc5 a_h a_j a_pt z8 z9 z10 z11 z12 z13 z14 z15 z16 z17)), (a_h, (oc1 e_wa e_le e_st e_fo e_lc a_l a_g a_b a_s a_p a_w e_gb a_bb)), (a_g, (oc6 6 5 a_gn e_g)), (a_gn, (arI G 30 f_g)), (a_b, (oc6 5 24 a_bn e_b)), (a_bn, (arI G 120 f_b)), (a_p, (oc6 8 5 a_pn e_p)), (a_pn, (arI G 40 f_p)), (a_bb, (arJ G 24 f_bb)), (a_j, (oc2 a_as a_sk)), (a_as, (arI G 8 z19)), (a_sk, (arJ G 50 z20)), (a_l, (arW G 6 f_l)), (a_pt, (arI G 200 z18))], rfl, ⟨1, z8, z9, z10, z11, z12, z13, z14, z15, z16, z17, z18, z19, z20, ⟨by have zc_o_r : (1 : Int32).toInt = 1 := (by decide); omega, by have zc_o_r : (1 : Int32).toInt = 1 := (by decide); omega⟩, i_6, rfl, rfl⟩, by rw [ht]; exact hP.sub [0, 1, 2, 3, 4, 5, 6, 7, 8, 9, 10, 11, 12, 13] rfl, hD.sub [0, 1, 2, 3, 4, 5, 6, 7, 8, 9, 10, 11, 12, 13] (by decide) rfl⟩, hS.F ht⟩) hS.2.2 dX5_findsBody_32
theorem dgX5_cellsFrom_0 : ∀ r ∈ ([(0, (.lconst 0, 1)), (1, (.lstore_n 3, 1)), (2, (.iconst 0, 1)), (3, (.istore 5, 2)), (5, (.iload 5, 2)), (7, (.iconst 4, 1)), (8, (.if_icmp .ge 51, 3)), (11, (.aload_n 0, 1)), (12, (.iload_n 1, 1)), (13, (.iload 5, 2)), (15, (.iload_n 2, 1)), (16, (.iconst 0, 1)), (17, (.invokevirtual 91, 3)), (20, (.iconst 0, 1)), (21, (.istore 6, 2)), (23, (.iload 6, 2)), (25, (.aload_n 0, 1)), (26, (.getfield 36, 3)), (29, (.if_icmp .ge 24, 3)), (32, (.lload_n 3, 1)), (33, (.lconst 1, 1)), (34, (.aload_n 0, 1)), (35, (.getfield 18, 3)), (38, (.iload 6, 2)), (40, (.iaload, 1)), (41, (.bipush 64, 2)), (43, (.irem, 1)), (44, (.lshl, 1)), (45, (.lor, 1)), (46, (.lstore_n 3, 1)), (47, (.iinc 6 1, 3)), (50, (.goto (-27), 3)), (53, (.iinc 5 1, 3)), (56, (.goto (-51), 3)), (59, (.lload_n 3, 1)), (60, (.lreturn, 1))] : List (Nat × (Instr × Nat))), decode cX5_cellsFrom r.1 = .ok r.2 := by decide +kernel
theorem dX5_cellsFrom_0 : decode cX5_cellsFrom 0 = .ok (.lconst 0, 1) := dgX5_cellsFrom_0 (0, (.lconst 0, 1)) (List.mem_of_getElem? (i := 0) rfl)
theorem dX5_cellsFrom_1 : decode cX5_cellsFrom 1 = .ok (.lstore_n 3, 1) := dgX5_cellsFrom_0 (1, (.lstore_n 3, 1)) (List.mem_of_getElem? (i := 1) rfl)
theorem dX5_cellsFrom_2 : decode cX5_cellsFrom 2 = .ok (.iconst 0, 1) := dgX5_cellsFrom_0 (2, (.iconst 0, 1)) (List.mem_of_getElem? (i := 2) rfl)
theorem dX5_cellsFrom_3 : decode cX5_cellsFrom 3 = .ok (.istore 5, 2) := dgX5_cellsFrom_0 (3, (.istore 5, 2)) (List.mem_of_getElem? (i := 3) rfl)
theorem dX5_cellsFrom_5 : decode cX5_cellsFrom 5 = .ok (.iload 5, 2) := dgX5_cellsFrom_0 (5, (.iload 5, 2)) (List.mem_of_getElem? (i := 4) rfl)
theorem dX5_cellsFrom_7 : decode cX5_cellsFrom 7 = .ok (.iconst 4, 1) := dgX5_cellsFrom_0 (7, (.iconst 4, 1)) (List.mem_of_getElem? (i := 5) rfl)
theorem dX5_cellsFrom_8 : decode cX5_cellsFrom 8 = .ok (.if_icmp .ge 51, 3) := dgX5_cellsFrom_0 (8, (.if_icmp .ge 51, 3)) (List.mem_of_getElem? (i := 6) rfl)
theorem dX5_cellsFrom_11 : decode cX5_cellsFrom 11 = .ok (.aload_n 0, 1) := dgX5_cellsFrom_0 (11, (.aload_n 0, 1)) (List.mem_of_getElem? (i := 7) rfl)
theorem dX5_cellsFrom_12 : decode cX5_cellsFrom 12 = .ok (.iload_n 1, 1) := dgX5_cellsFrom_0 (12, (.iload_n 1, 1)) (List.mem_of_getElem? (i := 8) rfl)
theorem dX5_cellsFrom_13 : decode cX5_cellsFrom 13 = .ok (.iload 5, 2) := dgX5_cellsFrom_0 (13, (.iload 5, 2)) (List.mem_of_getElem? (i := 9) rfl)
theorem dX5_cellsFrom_15 : decode cX5_cellsFrom 15 = .ok (.iload_n 2, 1) := dgX5_cellsFrom_0 (15, (.iload_n 2, 1)) (List.mem_of_getElem? (i := 10) rfl)
theorem dX5_cellsFrom_16 : decode cX5_cellsFrom 16 = .ok (.iconst 0, 1) := dgX5_cellsFrom_0 (16, (.iconst 0, 1)) (List.mem_of_getElem? (i := 11) rfl)
theorem dX5_cellsFrom_17 : decode cX5_cellsFrom 17 = .ok (.invokevirtual 91, 3) := dgX5_cellsFrom_0 (17, (.invokevirtual 91, 3)) (List.mem_of_getElem? (i := 12) rfl)
theorem dX5_cellsFrom_20 : decode cX5_cellsFrom 20 = .ok (.iconst 0, 1) := dgX5_cellsFrom_0 (20, (.iconst 0, 1)) (List.mem_of_getElem? (i := 13) rfl)
theorem dX5_cellsFrom_21 : decode cX5_cellsFrom 21 = .ok (.istore 6, 2) := dgX5_cellsFrom_0 (21, (.istore 6, 2)) (List.mem_of_getElem? (i := 14) rfl)
theorem dX5_cellsFrom_23 : decode cX5_cellsFrom 23 = .ok (.iload 6, 2) := dgX5_cellsFrom_0 (23, (.iload 6, 2)) (List.mem_of_getElem? (i := 15) rfl)
theorem dX5_cellsFrom_25 : decode cX5_cellsFrom 25 = .ok (.aload_n 0, 1) := dgX5_cellsFrom_0 (25, (.aload_n 0, 1)) (List.mem_of_getElem? (i := 16) rfl)
theorem dX5_cellsFrom_26 : decode cX5_cellsFrom 26 = .ok (.getfield 36, 3) := dgX5_cellsFrom_0 (26, (.getfield 36, 3)) (List.mem_of_getElem? (i := 17) rfl)
theorem dX5_cellsFrom_29 : decode cX5_cellsFrom 29 = .ok (.if_icmp .ge 24, 3) := dgX5_cellsFrom_0 (29, (.if_icmp .ge 24, 3)) (List.mem_of_getElem? (i := 18) rfl)
theorem dX5_cellsFrom_32 : decode cX5_cellsFrom 32 = .ok (.lload_n 3, 1) := dgX5_cellsFrom_0 (32, (.lload_n 3, 1)) (List.mem_of_getElem? (i := 19) rfl)
theorem dX5_cellsFrom_33 : decode cX5_cellsFrom 33 = .ok (.lconst 1, 1) := dgX5_cellsFrom_0 (33, (.lconst 1, 1)) (List.mem_of_getElem? (i := 20) rfl)
theorem dX5_cellsFrom_34 : decode cX5_cellsFrom 34 = .ok (.aload_n 0, 1) := dgX5_cellsFrom_0 (34, (.aload_n 0, 1)) (List.mem_of_getElem? (i := 21) rfl)
theorem dX5_cellsFrom_35 : decode cX5_cellsFrom 35 = .ok (.getfield 18, 3) := dgX5_cellsFrom_0 (35, (.getfield 18, 3)) (List.mem_of_getElem? (i := 22) rfl)
theorem dX5_cellsFrom_38 : decode cX5_cellsFrom 38 = .ok (.iload 6, 2) := dgX5_cellsFrom_0 (38, (.iload 6, 2)) (List.mem_of_getElem? (i := 23) rfl)
theorem dX5_cellsFrom_40 : decode cX5_cellsFrom 40 = .ok (.iaload, 1) := dgX5_cellsFrom_0 (40, (.iaload, 1)) (List.mem_of_getElem? (i := 24) rfl)
theorem dX5_cellsFrom_41 : decode cX5_cellsFrom 41 = .ok (.bipush 64, 2) := dgX5_cellsFrom_0 (41, (.bipush 64, 2)) (List.mem_of_getElem? (i := 25) rfl)
theorem dX5_cellsFrom_43 : decode cX5_cellsFrom 43 = .ok (.irem, 1) := dgX5_cellsFrom_0 (43, (.irem, 1)) (List.mem_of_getElem? (i := 26) rfl)
theorem dX5_cellsFrom_44 : decode cX5_cellsFrom 44 = .ok (.lshl, 1) := dgX5_cellsFrom_0 (44, (.lshl, 1)) (List.mem_of_getElem? (i := 27) rfl)
theorem dX5_cellsFrom_45 : decode cX5_cellsFrom 45 = .ok (.lor, 1) := dgX5_cellsFrom_0 (45, (.lor, 1)) (List.mem_of_getElem? (i := 28) rfl)
theorem dX5_cellsFrom_46 : decode cX5_cellsFrom 46 = .ok (.lstore_n 3, 1) := dgX5_cellsFrom_0 (46, (.lstore_n 3, 1)) (List.mem_of_getElem? (i := 29) rfl)
theorem dX5_cellsFrom_47 : decode cX5_cellsFrom 47 = .ok (.iinc 6 1, 3) := dgX5_cellsFrom_0 (47, (.iinc 6 1, 3)) (List.mem_of_getElem? (i := 30) rfl)
theorem dX5_cellsFrom_50 : decode cX5_cellsFrom 50 = .ok (.goto (-27), 3) := dgX5_cellsFrom_0 (50, (.goto (-27), 3)) (List.mem_of_getElem? (i := 31) rfl)
theorem dX5_cellsFrom_53 : decode cX5_cellsFrom 53 = .ok (.iinc 5 1, 3) := dgX5_cellsFrom_0 (53, (.iinc 5 1, 3)) (List.mem_of_getElem? (i := 32) rfl)
theorem dX5_cellsFrom_56 : decode cX5_cellsFrom 56 = .ok (.goto (-51), 3) := dgX5_cellsFrom_0 (56, (.goto (-51), 3)) (List.mem_of_getElem? (i := 33) rfl)
theorem dX5_cellsFrom_59 : decode cX5_cellsFrom 59 = .ok (.lload_n 3, 1) := dgX5_cellsFrom_0 (59, (.lload_n 3, 1)) (List.mem_of_getElem? (i := 34) rfl)
theorem dX5_cellsFrom_60 : decode cX5_cellsFrom 60 = .ok (.lreturn, 1) := dgX5_cellsFrom_0 (60, (.lreturn, 1)) (List.mem_of_getElem? (i := 35) rfl)
set_option maxHeartbeats 4000000 in
set_option maxRecDepth 100000 in
theorem s_cellsFromN (l : Launch) (G : g5_G) (a_k a_h a_g a_gn a_b a_bn a_p a_pn a_bb a_j a_as a_sk a_l a_pt a_s a_w : Nat) (sz : Nat) (e_le : Int32) (e_st : Int32) (e_fo : Int32) (e_lc : Int32) (e_g : Int32) (e_b : Int32) (e_p : Int32) (e_ln : Int32) (e_se : Int32) (e_lh : Int32) (e_br : Int32) (e_we : Int32) (e_me : Int32) (e_ce : Int32) (e_wy : Int32) (e_ho : Int32) (e_ov : Int32) (p_c : Int32) (p_h : Int32) (e_wa : Int64) (e_gb : Int64) (f_g : Nat → Int32) (f_b : Nat → Int32) (f_p : Nat → Int32) (f_bb : Nat → Int64) (f_as : Nat → Int32) (f_sk : Nat → Int64) (f_l : Nat → Option Nat) (f_pt : Nat → Int32) (h_e_g : 0 ≤ e_g.toInt ∧ e_g.toInt ≤ 6) (h_e_b : 0 ≤ e_b.toInt ∧ e_b.toInt ≤ 5) (h_e_p : 0 ≤ e_p.toInt ∧ e_p.toInt ≤ 8) (h_e_ov : 0 ≤ e_ov.toInt ∧ e_ov.toInt ≤ 1) (e_gk : gOK f_g e_g.toInt) (e_pk : gOK f_p e_p.toInt) (e_gi : inT e_gb f_g e_g.toInt) (e_f : e_fo.toInt < 0 ∨ e_lc.toInt ≤ e_fo.toInt) : Met l yX5_cellsFrom (wsG yX5_cellsFrom cX5_cellsFrom 7 (some .long)) ({ frames := 14, cells := 0, slots := 0, locals := 556 }) (va_Pc [.ref a_k, .int p_c, .int p_h] (g5_P G [(a_k, (oc5 a_h a_j a_pt e_ln e_se e_lh e_br e_we e_me e_ce e_wy e_ho e_ov)), (a_h, (oc1 e_wa e_le e_st e_fo e_lc a_l a_g a_b a_s a_p a_w e_gb a_bb)), (a_g, (oc6 6 5 a_gn e_g)), (a_gn, (arI G 30 f_g)), (a_b, (oc6 5 24 a_bn e_b)), (a_bn, (arI G 120 f_b)), (a_p, (oc6 8 5 a_pn e_p)), (a_pn, (arI G 40 f_p)), (a_bb, (arJ G 24 f_bb)), (a_j, (oc2 a_as a_sk)), (a_as, (arI G 8 f_as)), (a_sk, (arJ G 50 f_sk)), (a_l, (arW G 6 f_l)), (a_pt, (arI G 200 f_pt))] sz)) (va_Ql (fun (r : Int64) (u : va_W) => (∃ (o_r : Int64) (o_ln : Int32) (o_se : Int32) (o_lh : Int32) (o_br : Int32) (o_we : Int32) (o_me : Int32) (o_ce : Int32) (o_wy : Int32) (o_ho : Int32) (o_ov : Int32) (o_pt : Nat → Int32) (o_as : Nat → Int32) (o_sk : Nat → Int64), (0 ≤ o_ov.toInt ∧ o_ov.toInt ≤ 1) ∧ (r = o_r) ∧ (u = [(a_k, (oc5 a_h a_j a_pt o_ln o_se o_lh o_br o_we o_me o_ce o_wy o_ho o_ov)), (a_h, (oc1 e_wa e_le e_st e_fo e_lc a_l a_g a_b a_s a_p a_w e_gb a_bb)), (a_g, (oc6 6 5 a_gn e_g)), (a_gn, (arI G 30 f_g)), (a_b, (oc6 5 24 a_bn e_b)), (a_bn, (arI G 120 f_b)), (a_p, (oc6 8 5 a_pn e_p)), (a_pn, (arI G 40 f_p)), (a_bb, (arJ G 24 f_bb)), (a_j, (oc2 a_as a_sk)), (a_as, (arI G 8 o_as)), (a_sk, (arJ G 50 o_sk)), (a_l, (arW G 6 f_l)), (a_pt, (arI G 200 o_pt))]))) (g5_B G (va_A [(a_k, (oc5 a_h a_j a_pt e_ln e_se e_lh e_br e_we e_me e_ce e_wy e_ho e_ov)), (a_h, (oc1 e_wa e_le e_st e_fo e_lc a_l a_g a_b a_s a_p a_w e_gb a_bb)), (a_g, (oc6 6 5 a_gn e_g)), (a_gn, (arI G 30 f_g)), (a_b, (oc6 5 24 a_bn e_b)), (a_bn, (arI G 120 f_b)), (a_p, (oc6 8 5 a_pn e_p)), (a_pn, (arI G 40 f_p)), (a_bb, (arJ G 24 f_bb)), (a_j, (oc2 a_as a_sk)), (a_as, (arI G 8 f_as)), (a_sk, (arJ G 50 f_sk)), (a_l, (arW G 6 f_l)), (a_pt, (arI G 200 f_pt))] sz)) (va_A [(a_k, (oc5 a_h a_j a_pt e_ln e_se e_lh e_br e_we e_me e_ce e_wy e_ho e_ov)), (a_h, (oc1 e_wa e_le e_st e_fo e_lc a_l a_g a_b a_s a_p a_w e_gb a_bb)), (a_g, (oc6 6 5 a_gn e_g)), (a_gn, (arI G 30 f_g)), (a_b, (oc6 5 24 a_bn e_b)), (a_bn, (arI G 120 f_b)), (a_p, (oc6 8 5 a_pn e_p)), (a_pn, (arI G 40 f_p)), (a_bb, (arJ G 24 f_bb)), (a_j, (oc2 a_as a_sk)), (a_as, (arI G 8 f_as)), (a_sk, (arJ G 50 f_sk)), (a_l, (arW G 6 f_l)), (a_pt, (arI G 200 f_pt))] sz)) 0 0 (va_A [(a_k, (oc5 a_h a_j a_pt e_ln e_se e_lh e_br e_we e_me e_ce e_wy e_ho e_ov)), (a_h, (oc1 e_wa e_le e_st e_fo e_lc a_l a_g a_b a_s a_p a_w e_gb a_bb)), (a_g, (oc6 6 5 a_gn e_g)), (a_gn, (arI G 30 f_g)), (a_b, (oc6 5 24 a_bn e_b)), (a_bn, (arI G 120 f_b)), (a_p, (oc6 8 5 a_pn e_p)), (a_pn, (arI G 40 f_p)), (a_bb, (arJ G 24 f_bb)), (a_j, (oc2 a_as a_sk)), (a_as, (arI G 8 f_as)), (a_sk, (arJ G 50 f_sk)), (a_l, (arW G 6 f_l)), (a_pt, (arI G 200 f_pt))] sz) := by
  refine Met.ofW (cc := cX5_cellsFrom) (maxL := 7) (ret := (some .long)) (by decide) rfl ?_
  intro p e s m args below meth c s₁ B hml hv
  obtain ⟨rfl, hsz, hP, hK, hD0, hN, hT⟩ := hv
  have hx := B.exec
  have hb := B.bytes
  have hr := B.returns
  have hts : ∀ w ∈ tblG, w.before _ s = true := fun w h => atoms_spec (ws := (wsG yX5_cellsFrom cX5_cellsFrom 7 (some .long))) B.pre w (List.mem_cons_of_mem _ h)
  have hown : s.vm.findClass RX5 = some m.cls := findClass_of_methodNamed B.named
  have hlocks := B.notSynchronized
  subst hsz
  have hD := hD0.self (sz := s.heap.size)
  generalize hAe : va_A [(a_k, (oc5 a_h a_j a_pt e_ln e_se e_lh e_br e_we e_me e_ce e_wy e_ho e_ov)), (a_h, (oc1 e_wa e_le e_st e_fo e_lc a_l a_g a_b a_s a_p a_w e_gb a_bb)), (a_g, (oc6 6 5 a_gn e_g)), (a_gn, (arI G 30 f_g)), (a_b, (oc6 5 24 a_bn e_b)), (a_bn, (arI G 120 f_b)), (a_p, (oc6 8 5 a_pn e_p)), (a_pn, (arI G 40 f_p)), (a_bb, (arJ G 24 f_bb)), (a_j, (oc2 a_as a_sk)), (a_as, (arI G 8 f_as)), (a_sk, (arJ G 50 f_sk)), (a_l, (arW G 6 f_l)), (a_pt, (arI G 200 f_pt))] s.heap.size = A at hD hT ⊢
  have hA : ∀ q : Nat, s.heap.size ≤ q → A q := fun q h => by rw [← hAe]; exact Or.inr h
  have hS : va_S A s.heap s.heap [] := va_S.rf
  have hP : va_P G.1 vwCl [(a_k, (oc5 a_h a_j a_pt e_ln e_se e_lh e_br e_we e_me e_ce e_wy e_ho e_ov)), (a_h, (oc1 e_wa e_le e_st e_fo e_lc a_l a_g a_b a_s a_p a_w e_gb a_bb)), (a_g, (oc6 6 5 a_gn e_g)), (a_gn, (arI G 30 f_g)), (a_b, (oc6 5 24 a_bn e_b)), (a_bn, (arI G 120 f_b)), (a_p, (oc6 8 5 a_pn e_p)), (a_pn, (arI G 40 f_p)), (a_bb, (arJ G 24 f_bb)), (a_j, (oc2 a_as a_sk)), (a_as, (arI G 8 f_as)), (a_sk, (arJ G 50 f_sk)), (a_l, (arW G 6 f_l)), (a_pt, (arI G 200 f_pt))] s.heap := hP
  have hl := lv_entry ([.ref a_k, .int p_c, .int p_h]) (n := 7) (Nat.le_of_ble_eq_true rfl)
  rw [lg_entry_eq]
  generalize (lg_sl ([.ref a_k, .int p_c, .int p_h]) ++ List.replicate (7 - (lg_sl ([.ref a_k, .int p_c, .int p_h])).length) Slot.unset).toArray = ls at hl ⊢
  have hl : lv_has ls 7 [(0, .ref a_k), (1, .int p_c), (2, .int p_h)] := hl
  refine lv_lconst (v := 0) hx hb dX5_cellsFrom_0 (by decide) ?_
  refine lv_lstore_n (lv' := [(3, .long 0), (0, .ref a_k), (1, .int p_c), (2, .int p_h)]) hx hb dX5_cellsFrom_1 rfl hl (by decide) rfl (fun ls hl => ?_)
  refine lv_iconst (v := 0) hx hb dX5_cellsFrom_2 (by decide) ?_
  refine lv_istore (lv' := [(5, .int 0), (3, .long 0), (0, .ref a_k), (1, .int p_c), (2, .int p_h)]) hx hb dX5_cellsFrom_3 hl (by decide) rfl (fun ls hl => ?_)
  refine g5_loop (α := (Int32) × (Int64) × (Int32) × (Int32) × (Int32) × (Int32) × (Int32) × (Int32) × (Int32) × (Int32) × (Int32) × (Nat → Int32) × (Nat → Int32) × (Nat → Int64) × (Int32)) (fun (q : (Int32) × (Int64) × (Int32) × (Int32) × (Int32) × (Int32) × (Int32) × (Int32) × (Int32) × (Int32) × (Int32) × (Nat → Int32) × (Nat → Int32) × (Nat → Int64) × (Int32)) (ls : Array Slot) (H : Heap) (locs : List Loc) => match q with | (k_d, k_b, k_se, k_lh, k_br, k_we, k_me, k_ce, k_wy, k_ho, k_ov, k_pt, k_as, k_sk, k_ln) => lv_has ls 7 [(3, .long k_b), (5, .int k_d), (0, .ref a_k), (1, .int p_c), (2, .int p_h)] ∧ va_P G.1 vwCl [(a_k, (oc5 a_h a_j a_pt k_ln k_se k_lh k_br k_we k_me k_ce k_wy k_ho k_ov)), (a_h, (oc1 e_wa e_le e_st e_fo e_lc a_l a_g a_b a_s a_p a_w e_gb a_bb)), (a_g, (oc6 6 5 a_gn e_g)), (a_gn, (arI G 30 f_g)), (a_b, (oc6 5 24 a_bn e_b)), (a_bn, (arI G 120 f_b)), (a_p, (oc6 8 5 a_pn e_p)), (a_pn, (arI G 40 f_p)), (a_bb, (arJ G 24 f_bb)), (a_j, (oc2 a_as a_sk)), (a_as, (arI G 8 k_as)), (a_sk, (arJ G 50 k_sk)), (a_l, (arW G 6 f_l)), (a_pt, (arI G 200 k_pt))] H ∧ va_D A [(a_k, (oc5 a_h a_j a_pt k_ln k_se k_lh k_br k_we k_me k_ce k_wy k_ho k_ov)), (a_h, (oc1 e_wa e_le e_st e_fo e_lc a_l a_g a_b a_s a_p a_w e_gb a_bb)), (a_g, (oc6 6 5 a_gn e_g)), (a_gn, (arI G 30 f_g)), (a_b, (oc6 5 24 a_bn e_b)), (a_bn, (arI G 120 f_b)), (a_p, (oc6 8 5 a_pn e_p)), (a_pn, (arI G 40 f_p)), (a_bb, (arJ G 24 f_bb)), (a_j, (oc2 a_as a_sk)), (a_as, (arI G 8 k_as)), (a_sk, (arJ G 50 k_sk)), (a_l, (arW G 6 f_l)), (a_pt, (arI G 200 k_pt))] ∧ va_S A s.heap H locs ∧ (0 ≤ k_d.toInt ∧ k_d.toInt ≤ 4) ∧ (0 ≤ k_ov.toInt ∧ k_ov.toInt ≤ 1)) (fun (q : (Int32) × (Int64) × (Int32) × (Int32) × (Int32) × (Int32) × (Int32) × (Int32) × (Int32) × (Int32) × (Int32) × (Nat → Int32) × (Nat → Int32) × (Nat → Int64) × (Int32)) => match q with | (k_d, k_b, k_se, k_lh, k_br, k_we, k_me, k_ce, k_wy, k_ho, k_ov, k_pt, k_as, k_sk, k_ln) => Int.toNat (4 - k_d.toInt)) (0, 0, e_se, e_lh, e_br, e_we, e_me, e_ce, e_wy, e_ho, e_ov, f_pt, f_as, f_sk, e_ln) ⟨lv_sub hl [1, 0, 2, 3, 4] rfl, hP, hD, hS, ⟨by decide, by decide⟩, h_e_ov⟩ ?_
  rintro ⟨k_d, k_b, k_se, k_lh, k_br, k_we, k_me, k_ce, k_wy, k_ho, k_ov, k_pt, k_as, k_sk, k_ln⟩ ls H locs ⟨hl, hP, hD, hS, i_1, i_2⟩ ih_5_3
  have hl : lv_has ls 7 [(3, .long k_b), (5, .int k_d), (0, .ref a_k), (1, .int p_c), (2, .int p_h)] := hl
  have i_1 : 0 ≤ k_d.toInt ∧ k_d.toInt ≤ 4 := i_1
  have i_2 : 0 ≤ k_ov.toInt ∧ k_ov.toInt ≤ 1 := i_2
  refine g5_rs [(a_k, (oc5 a_h a_j a_pt k_ln k_se k_lh k_br k_we k_me k_ce k_wy k_ho k_ov)), (a_h, (oc1 e_wa e_le e_st e_fo e_lc a_l a_g a_b a_s a_p a_w e_gb a_bb)), (a_g, (oc6 6 5 a_gn e_g)), (a_gn, (arI G 30 f_g)), (a_b, (oc6 5 24 a_bn e_b)), (a_bn, (arI G 120 f_b)), (a_p, (oc6 8 5 a_pn e_p)), (a_pn, (arI G 40 f_p)), (a_bb, (arJ G 24 f_bb)), (a_j, (oc2 a_as a_sk)), (a_as, (arI G 8 k_as)), (a_sk, (arJ G 50 k_sk)), (a_l, (arW G 6 f_l)), (a_pt, (arI G 200 k_pt))] hP hD (fun hP hD => ?_)
  refine lv_iload hx hb dX5_cellsFrom_5 (lv_at hl 1 rfl) ?_
  refine lv_iconst (v := 4) hx hb dX5_cellsFrom_7 (by decide) ?_
  refine lv_icmp_ge (tgt := 59) hx hb dX5_cellsFrom_8 (by decide) (fun c_4 => ?_) (fun c_4 => ?_)
  ·
    have i_4 : k_d.toInt ≥ 4 := by have z := g5_ge (a := k_d.toInt) (b := 4) (by rfl) (by decide) c_4; omega
    refine lv_lload_n hx hb dX5_cellsFrom_59 rfl (lv_at hl 0 rfl) ?_
    exact W.lret (v := k_b) hx hb hr (fun t ht hW => ⟨⟨k_b, [(a_k, (oc5 a_h a_j a_pt k_ln k_se k_lh k_br k_we k_me k_ce k_wy k_ho k_ov)), (a_h, (oc1 e_wa e_le e_st e_fo e_lc a_l a_g a_b a_s a_p a_w e_gb a_bb)), (a_g, (oc6 6 5 a_gn e_g)), (a_gn, (arI G 30 f_g)), (a_b, (oc6 5 24 a_bn e_b)), (a_bn, (arI G 120 f_b)), (a_p, (oc6 8 5 a_pn e_p)), (a_pn, (arI G 40 f_p)), (a_bb, (arJ G 24 f_bb)), (a_j, (oc2 a_as a_sk)), (a_as, (arI G 8 k_as)), (a_sk, (arJ G 50 k_sk)), (a_l, (arW G 6 f_l)), (a_pt, (arI G 200 k_pt))], rfl, ⟨k_b, k_ln, k_se, k_lh, k_br, k_we, k_me, k_ce, k_wy, k_ho, k_ov, k_pt, k_as, k_sk, i_2, rfl, rfl⟩, by rw [ht]; exact hP.sub [0, 1, 2, 3, 4, 5, 6, 7, 8, 9, 10, 11, 12, 13] rfl, hD.sub [0, 1, 2, 3, 4, 5, 6, 7, 8, 9, 10, 11, 12, 13] (by decide) rfl⟩, hS.F ht⟩) hS.2.2 dX5_cellsFrom_60
  ·
    have i_4 : k_d.toInt < 4 := by have z := g5_geN (a := k_d.toInt) (b := 4) (by rfl) (by decide) c_4; omega
    refine lv_aload_n hx hb dX5_cellsFrom_11 rfl (lv_at hl 2 rfl) ?_
    refine lv_iload_n hx hb dX5_cellsFrom_12 rfl (lv_at hl 3 rfl) ?_
    refine lv_iload hx hb dX5_cellsFrom_13 (lv_at hl 1 rfl) ?_
    refine lv_iload_n hx hb dX5_cellsFrom_15 rfl (lv_at hl 4 rfl) ?_
    refine lv_iconst (v := 0) hx hb dX5_cellsFrom_16 (by decide) ?_
    obtain ⟨hPc, hDc, hFc⟩ := g5_sub3 (wc := [(a_k, (oc5 a_h a_j a_pt k_ln k_se k_lh k_br k_we k_me k_ce k_wy k_ho k_ov)), (a_h, (oc1 e_wa e_le e_st e_fo e_lc a_l a_g a_b a_s a_p a_w e_gb a_bb)), (a_g, (oc6 6 5 a_gn e_g)), (a_gn, (arI G 30 f_g)), (a_b, (oc6 5 24 a_bn e_b)), (a_bn, (arI G 120 f_b)), (a_p, (oc6 8 5 a_pn e_p)), (a_pn, (arI G 40 f_p)), (a_bb, (arJ G 24 f_bb)), (a_j, (oc2 a_as a_sk)), (a_as, (arI G 8 k_as)), (a_sk, (arJ G 50 k_sk)), (a_l, (arW G 6 f_l)), (a_pt, (arI G 200 k_pt))]) hP hD hS hA [0, 1, 2, 3, 4, 5, 6, 7, 8, 9, 10, 11, 12, 13] (by decide) rfl
    refine va_callv (va_runV (As := [.int p_c, .int k_d, .int p_h, .int 0]) (rest := []) ⟨hx, hb, hml, hown, hts⟩ (k_runN l G a_k a_h a_g a_gn a_b a_bn a_p a_pn a_bb a_j a_as a_sk a_l a_pt a_s a_w H.size e_le e_st e_fo e_lc e_g e_b e_p k_ln k_se k_lh k_br k_we k_me k_ce k_wy k_ho k_ov p_c k_d p_h 0 e_wa e_gb f_g f_b f_p f_bb k_as k_sk f_l k_pt h_e_g h_e_b h_e_p i_2 (e_gk) (e_pk) (e_gi) (e_f)) (cwV 4 hts gV_X5_91 rfl rfl rfl hv_X5_run ⟨Nat.le_of_ble_eq_true rfl, Nat.le_of_ble_eq_true rfl⟩) (g5_preV hPc hK hDc hN hT hS hFc (ci := 5) (q0 := 0) rfl rfl) rfl rfl hl.1 rfl (lv_room (Nat.le_of_ble_eq_true rfl)) dX5_cellsFrom_17 ⟨Nat.le_of_ble_eq_true rfl, Nat.le_of_ble_eq_true rfl⟩) hS (fun q _ h => hFc q h) hFc (fun u t H1 locs ht hvm hw hB hz1 hk1 hS => ?_)
    obtain ⟨hP1, hD1⟩ := hB
    rw [ht] at hP1
    obtain ⟨z8, z9, z10, z11, z12, z13, z14, z15, z16, z17, z18, z19, z20, i_5, i_6, i_7, rfl⟩ := hw
    have i_5 : 0 ≤ z8.toInt ∧ z8.toInt ≤ 200 := i_5
    have i_6 : 0 ≤ z17.toInt ∧ z17.toInt ≤ 1 := i_6
    have i_7 : ∀ j : Nat, (j : Int) < z8.toInt → 0 ≤ (z18 j).toInt ∧ (z18 j).toInt ≤ 1535 := i_7
    obtain ⟨hP, hD⟩ := va_join (wr := []) hP hD [0, 1, 2, 3, 4, 5, 6, 7, 8, 9, 10, 11, 12, 13] [] rfl rfl (by decide) (by decide) hk1 hFc hP1 hD1
    generalize H1 = H at hP hS ⊢
    refine g5_rs [(a_k, (oc5 a_h a_j a_pt z8 z9 z10 z11 z12 z13 z14 z15 z16 z17)), (a_h, (oc1 e_wa e_le e_st e_fo e_lc a_l a_g a_b a_s a_p a_w e_gb a_bb)), (a_g, (oc6 6 5 a_gn e_g)), (a_gn, (arI G 30 f_g)), (a_b, (oc6 5 24 a_bn e_b)), (a_bn, (arI G 120 f_b)), (a_p, (oc6 8 5 a_pn e_p)), (a_pn, (arI G 40 f_p)), (a_bb, (arJ G 24 f_bb)), (a_j, (oc2 a_as a_sk)), (a_as, (arI G 8 z19)), (a_sk, (arJ G 50 z20)), (a_l, (arW G 6 f_l)), (a_pt, (arI G 200 z18))] hP hD (fun hP hD => ?_)
    refine lv_iconst (v := 0) hx hb dX5_cellsFrom_20 (by decide) ?_
    refine lv_istore (lv' := [(6, .int 0), (3, .long k_b), (5, .int k_d), (0, .ref a_k), (1, .int p_c), (2, .int p_h)]) hx hb dX5_cellsFrom_21 hl (by decide) rfl (fun ls hl => ?_)
    refine g5_loop (α := (Int32) × (Int64)) (fun (q : (Int32) × (Int64)) (ls : Array Slot) (H : Heap) (locs : List Loc) => match q with | (k_i, k_x) => lv_has ls 7 [(3, .long k_x), (6, .int k_i), (5, .int k_d), (0, .ref a_k), (1, .int p_c), (2, .int p_h)] ∧ va_P G.1 vwCl [(a_k, (oc5 a_h a_j a_pt z8 z9 z10 z11 z12 z13 z14 z15 z16 z17)), (a_h, (oc1 e_wa e_le e_st e_fo e_lc a_l a_g a_b a_s a_p a_w e_gb a_bb)), (a_g, (oc6 6 5 a_gn e_g)), (a_gn, (arI G 30 f_g)), (a_b, (oc6 5 24 a_bn e_b)), (a_bn, (arI G 120 f_b)), (a_p, (oc6 8 5 a_pn e_p)), (a_pn, (arI G 40 f_p)), (a_bb, (arJ G 24 f_bb)), (a_j, (oc2 a_as a_sk)), (a_as, (arI G 8 z19)), (a_sk, (arJ G 50 z20)), (a_l, (arW G 6 f_l)), (a_pt, (arI G 200 z18))] H ∧ va_D A [(a_k, (oc5 a_h a_j a_pt z8 z9 z10 z11 z12 z13 z14 z15 z16 z17)), (a_h, (oc1 e_wa e_le e_st e_fo e_lc a_l a_g a_b a_s a_p a_w e_gb a_bb)), (a_g, (oc6 6 5 a_gn e_g)), (a_gn, (arI G 30 f_g)), (a_b, (oc6 5 24 a_bn e_b)), (a_bn, (arI G 120 f_b)), (a_p, (oc6 8 5 a_pn e_p)), (a_pn, (arI G 40 f_p)), (a_bb, (arJ G 24 f_bb)), (a_j, (oc2 a_as a_sk)), (a_as, (arI G 8 z19)), (a_sk, (arJ G 50 z20)), (a_l, (arW G 6 f_l)), (a_pt, (arI G 200 z18))] ∧ va_S A s.heap H locs ∧ (0 ≤ k_i.toInt ∧ k_i.toInt ≤ 200)) (fun (q : (Int32) × (Int64)) => match q with | (k_i, k_x) => Int.toNat (200 - k_i.toInt)) (0, k_b) ⟨lv_sub hl [1, 0, 2, 3, 4, 5] rfl, hP, hD, hS, ⟨by decide, by decide⟩⟩ ?_
    rintro ⟨k_i, k_x⟩ ls H locs ⟨hl, hP, hD, hS, i_21⟩ ih_23_22
    have hl : lv_has ls 7 [(3, .long k_x), (6, .int k_i), (5, .int k_d), (0, .ref a_k), (1, .int p_c), (2, .int p_h)] := hl
    have i_21 : 0 ≤ k_i.toInt ∧ k_i.toInt ≤ 200 := i_21
    refine g5_rs [(a_k, (oc5 a_h a_j a_pt z8 z9 z10 z11 z12 z13 z14 z15 z16 z17)), (a_h, (oc1 e_wa e_le e_st e_fo e_lc a_l a_g a_b a_s a_p a_w e_gb a_bb)), (a_g, (oc6 6 5 a_gn e_g)), (a_gn, (arI G 30 f_g)), (a_b, (oc6 5 24 a_bn e_b)), (a_bn, (arI G 120 f_b)), (a_p, (oc6 8 5 a_pn e_p)), (a_pn, (arI G 40 f_p)), (a_bb, (arJ G 24 f_bb)), (a_j, (oc2 a_as a_sk)), (a_as, (arI G 8 z19)), (a_sk, (arJ G 50 z20)), (a_l, (arW G 6 f_l)), (a_pt, (arI G 200 z18))] hP hD (fun hP hD => ?_)
    refine lv_iload hx hb dX5_cellsFrom_23 (lv_at hl 1 rfl) ?_
    refine lv_aload_n hx hb dX5_cellsFrom_25 rfl (lv_at hl 3 rfl) ?_
    refine va_get (D := G.1) (ci := 5) (v := .int z8) (C := RX5) (T := TX5) (N := 13) hx hb hts inG_X5 hown hK hP 0 rfl rfl 3 (by decide) (hts _ fl_X5_36) (fun _ h9 => h9) rfl dX5_cellsFrom_26 ?_
    refine lv_icmp_ge (tgt := 53) hx hb dX5_cellsFrom_29 (by decide) (fun c_23 => ?_) (fun c_23 => ?_)
    ·
      have i_23 : k_i.toInt ≥ z8.toInt := by have z := g5_ge (a := k_i.toInt) (b := z8.toInt) (by rfl) (by rfl) c_23; omega
      refine lv_iinc (v := (k_d + 1)) (lv' := [(5, .int (k_d + 1)), (3, .long k_x), (6, .int k_i), (0, .ref a_k), (1, .int p_c), (2, .int p_h)]) hx hb dX5_cellsFrom_53 hl (k := 2) rfl rfl (by decide) rfl (fun ls hl => ?_)
      have t_24 : (k_d + 1).toInt = k_d.toInt + 1 := g5_iadd (a := k_d.toInt) (b := 1) rfl (by decide) (by omega) (by omega)
      refine lv_goto (tgt := 5) hx hb dX5_cellsFrom_56 (by decide) ?_
      exact ih_5_3 ((k_d + 1), k_x, z9, z10, z11, z12, z13, z14, z15, z16, z17, z18, z19, z20, z8) ls H locs (show Int.toNat (4 - (k_d + 1).toInt) < Int.toNat (4 - k_d.toInt) from g_up (show k_d.toInt < (k_d + 1).toInt by omega) (show k_d.toInt < 4 by omega)) ⟨lv_sub hl [1, 0, 3, 4, 5] rfl, hP, hD, hS, ⟨by omega, by omega⟩, i_6⟩
    ·
      have i_23 : k_i.toInt < z8.toInt := by have z := g5_geN (a := k_i.toInt) (b := z8.toInt) (by rfl) (by rfl) c_23; omega
      refine lv_lload_n hx hb dX5_cellsFrom_32 rfl (lv_at hl 0 rfl) ?_
      refine lv_lconst (v := 1) hx hb dX5_cellsFrom_33 (by decide) ?_
      refine lv_aload_n hx hb dX5_cellsFrom_34 rfl (lv_at hl 3 rfl) ?_
      refine va_get (D := G.1) (ci := 5) (v := .ref a_pt) (C := RX5) (T := TX5) (N := 13) hx hb hts inG_X5 hown hK hP 0 rfl rfl 2 (by decide) (hts _ fl_X5_18) (fun _ h9 => h9) rfl dX5_cellsFrom_35 ?_
      refine lv_iload hx hb dX5_cellsFrom_38 (lv_at hl 1 rfl) ?_
      refine va_iald hx hb hK hP 13 0 rfl rfl (i := k_i) (vp_in_iff.mpr ⟨by omega, by omega⟩) dX5_cellsFrom_40 ?_
      have hp_25 : 0 ≤ (z18 k_i.toNatClampNeg).toInt ∧ (z18 k_i.toNatClampNeg).toInt ≤ 1535 := i_7 _ (by have zz := g5_clamp k_i; omega)
      refine lv_bipush (v := 64) hx hb dX5_cellsFrom_41 (by decide) ?_
      refine lv_irem hx hb dX5_cellsFrom_43 (by decide) ?_
      have t_26 : ((z18 k_i.toNatClampNeg) - (z18 k_i.toNatClampNeg) / 64 * 64).toInt = (z18 k_i.toNatClampNeg).toInt % 64 := g5_irem (a := (z18 k_i.toNatClampNeg).toInt) (b := 64) rfl (by decide) (by omega) (by decide)
      refine lv_lshl (v := ((1 : Int64) <<< (((z18 k_i.toNatClampNeg) - (z18 k_i.toNatClampNeg) / 64 * 64).toInt64 &&& 63))) hx hb dX5_cellsFrom_44 rfl ?_
      refine lv_lor hx hb dX5_cellsFrom_45 ?_
      refine lv_lstore_n (lv' := [(3, .long (k_x ||| ((1 : Int64) <<< (((z18 k_i.toNatClampNeg) - (z18 k_i.toNatClampNeg) / 64 * 64).toInt64 &&& 63)))), (6, .int k_i), (5, .int k_d), (0, .ref a_k), (1, .int p_c), (2, .int p_h)]) hx hb dX5_cellsFrom_46 rfl hl (by decide) rfl (fun ls hl => ?_)
      refine lv_iinc (v := (k_i + 1)) (lv' := [(6, .int (k_i + 1)), (3, .long (k_x ||| ((1 : Int64) <<< (((z18 k_i.toNatClampNeg) - (z18 k_i.toNatClampNeg) / 64 * 64).toInt64 &&& 63)))), (5, .int k_d), (0, .ref a_k), (1, .int p_c), (2, .int p_h)]) hx hb dX5_cellsFrom_47 hl (k := 1) rfl rfl (by decide) rfl (fun ls hl => ?_)
      have t_27 : (k_i + 1).toInt = k_i.toInt + 1 := g5_iadd (a := k_i.toInt) (b := 1) rfl (by decide) (by omega) (by omega)
      refine lv_goto (tgt := 23) hx hb dX5_cellsFrom_50 (by decide) ?_
      exact ih_23_22 ((k_i + 1), (k_x ||| ((1 : Int64) <<< (((z18 k_i.toNatClampNeg) - (z18 k_i.toNatClampNeg) / 64 * 64).toInt64 &&& 63)))) ls H locs (show Int.toNat (200 - (k_i + 1).toInt) < Int.toNat (200 - k_i.toInt) from g_up (show k_i.toInt < (k_i + 1).toInt by omega) (show k_i.toInt < 200 by omega)) ⟨lv_sub hl [1, 0, 2, 3, 4, 5] rfl, hP, hD, hS, ⟨by omega, by omega⟩⟩
theorem dgX5_lateness_0 : ∀ r ∈ ([(0, (.iconst (-1), 1)), (1, (.istore 4, 2)), (3, (.iconst 0, 1)), (4, (.istore 5, 2)), (6, (.iload 5, 2)), (8, (.iconst 4, 1)), (9, (.if_icmp .ge 51, 3)), (12, (.aload_n 0, 1)), (13, (.iload_n 1, 1)), (14, (.iload 5, 2)), (16, (.iload_n 2, 1)), (17, (.iconst 0, 1)), (18, (.invokevirtual 91, 3)), (21, (.iload_n 2, 1)), (22, (.aload_n 0, 1)), (23, (.getfield 42, 3)), (26, (.isub, 1)), (27, (.istore 6, 2)), (29, (.aload_n 0, 1)), (30, (.getfield 39, 3)), (33, (.iload_n 3, 1)), (34, (.if_icmp .ne 20, 3)), (37, (.iload 4, 2)), (39, (.iconst (-1), 1)), (40, (.if_icmp .eq 10, 3)), (43, (.iload 6, 2)), (45, (.iload 4, 2)), (47, (.if_icmp .ge 7, 3)), (50, (.iload 6, 2)), (52, (.istore 4, 2)), (54, (.iinc 5 1, 3)), (57, (.goto (-51), 3)), (60, (.iload 4, 2)), (62, (.ireturn, 1))] : List (Nat × (Instr × Nat))), decode cX5_lateness r.1 = .ok r.2 := by decide +kernel
theorem dX5_lateness_0 : decode cX5_lateness 0 = .ok (.iconst (-1), 1) := dgX5_lateness_0 (0, (.iconst (-1), 1)) (List.mem_of_getElem? (i := 0) rfl)
theorem dX5_lateness_1 : decode cX5_lateness 1 = .ok (.istore 4, 2) := dgX5_lateness_0 (1, (.istore 4, 2)) (List.mem_of_getElem? (i := 1) rfl)
theorem dX5_lateness_3 : decode cX5_lateness 3 = .ok (.iconst 0, 1) := dgX5_lateness_0 (3, (.iconst 0, 1)) (List.mem_of_getElem? (i := 2) rfl)
theorem dX5_lateness_4 : decode cX5_lateness 4 = .ok (.istore 5, 2) := dgX5_lateness_0 (4, (.istore 5, 2)) (List.mem_of_getElem? (i := 3) rfl)
theorem dX5_lateness_6 : decode cX5_lateness 6 = .ok (.iload 5, 2) := dgX5_lateness_0 (6, (.iload 5, 2)) (List.mem_of_getElem? (i := 4) rfl)
theorem dX5_lateness_8 : decode cX5_lateness 8 = .ok (.iconst 4, 1) := dgX5_lateness_0 (8, (.iconst 4, 1)) (List.mem_of_getElem? (i := 5) rfl)
theorem dX5_lateness_9 : decode cX5_lateness 9 = .ok (.if_icmp .ge 51, 3) := dgX5_lateness_0 (9, (.if_icmp .ge 51, 3)) (List.mem_of_getElem? (i := 6) rfl)
theorem dX5_lateness_12 : decode cX5_lateness 12 = .ok (.aload_n 0, 1) := dgX5_lateness_0 (12, (.aload_n 0, 1)) (List.mem_of_getElem? (i := 7) rfl)
theorem dX5_lateness_13 : decode cX5_lateness 13 = .ok (.iload_n 1, 1) := dgX5_lateness_0 (13, (.iload_n 1, 1)) (List.mem_of_getElem? (i := 8) rfl)
theorem dX5_lateness_14 : decode cX5_lateness 14 = .ok (.iload 5, 2) := dgX5_lateness_0 (14, (.iload 5, 2)) (List.mem_of_getElem? (i := 9) rfl)
theorem dX5_lateness_16 : decode cX5_lateness 16 = .ok (.iload_n 2, 1) := dgX5_lateness_0 (16, (.iload_n 2, 1)) (List.mem_of_getElem? (i := 10) rfl)
theorem dX5_lateness_17 : decode cX5_lateness 17 = .ok (.iconst 0, 1) := dgX5_lateness_0 (17, (.iconst 0, 1)) (List.mem_of_getElem? (i := 11) rfl)
theorem dX5_lateness_18 : decode cX5_lateness 18 = .ok (.invokevirtual 91, 3) := dgX5_lateness_0 (18, (.invokevirtual 91, 3)) (List.mem_of_getElem? (i := 12) rfl)
theorem dX5_lateness_21 : decode cX5_lateness 21 = .ok (.iload_n 2, 1) := dgX5_lateness_0 (21, (.iload_n 2, 1)) (List.mem_of_getElem? (i := 13) rfl)
theorem dX5_lateness_22 : decode cX5_lateness 22 = .ok (.aload_n 0, 1) := dgX5_lateness_0 (22, (.aload_n 0, 1)) (List.mem_of_getElem? (i := 14) rfl)
theorem dX5_lateness_23 : decode cX5_lateness 23 = .ok (.getfield 42, 3) := dgX5_lateness_0 (23, (.getfield 42, 3)) (List.mem_of_getElem? (i := 15) rfl)
theorem dX5_lateness_26 : decode cX5_lateness 26 = .ok (.isub, 1) := dgX5_lateness_0 (26, (.isub, 1)) (List.mem_of_getElem? (i := 16) rfl)
theorem dX5_lateness_27 : decode cX5_lateness 27 = .ok (.istore 6, 2) := dgX5_lateness_0 (27, (.istore 6, 2)) (List.mem_of_getElem? (i := 17) rfl)
theorem dX5_lateness_29 : decode cX5_lateness 29 = .ok (.aload_n 0, 1) := dgX5_lateness_0 (29, (.aload_n 0, 1)) (List.mem_of_getElem? (i := 18) rfl)
theorem dX5_lateness_30 : decode cX5_lateness 30 = .ok (.getfield 39, 3) := dgX5_lateness_0 (30, (.getfield 39, 3)) (List.mem_of_getElem? (i := 19) rfl)
theorem dX5_lateness_33 : decode cX5_lateness 33 = .ok (.iload_n 3, 1) := dgX5_lateness_0 (33, (.iload_n 3, 1)) (List.mem_of_getElem? (i := 20) rfl)
theorem dX5_lateness_34 : decode cX5_lateness 34 = .ok (.if_icmp .ne 20, 3) := dgX5_lateness_0 (34, (.if_icmp .ne 20, 3)) (List.mem_of_getElem? (i := 21) rfl)
theorem dX5_lateness_37 : decode cX5_lateness 37 = .ok (.iload 4, 2) := dgX5_lateness_0 (37, (.iload 4, 2)) (List.mem_of_getElem? (i := 22) rfl)
theorem dX5_lateness_39 : decode cX5_lateness 39 = .ok (.iconst (-1), 1) := dgX5_lateness_0 (39, (.iconst (-1), 1)) (List.mem_of_getElem? (i := 23) rfl)
theorem dX5_lateness_40 : decode cX5_lateness 40 = .ok (.if_icmp .eq 10, 3) := dgX5_lateness_0 (40, (.if_icmp .eq 10, 3)) (List.mem_of_getElem? (i := 24) rfl)
theorem dX5_lateness_43 : decode cX5_lateness 43 = .ok (.iload 6, 2) := dgX5_lateness_0 (43, (.iload 6, 2)) (List.mem_of_getElem? (i := 25) rfl)
theorem dX5_lateness_45 : decode cX5_lateness 45 = .ok (.iload 4, 2) := dgX5_lateness_0 (45, (.iload 4, 2)) (List.mem_of_getElem? (i := 26) rfl)
theorem dX5_lateness_47 : decode cX5_lateness 47 = .ok (.if_icmp .ge 7, 3) := dgX5_lateness_0 (47, (.if_icmp .ge 7, 3)) (List.mem_of_getElem? (i := 27) rfl)
theorem dX5_lateness_50 : decode cX5_lateness 50 = .ok (.iload 6, 2) := dgX5_lateness_0 (50, (.iload 6, 2)) (List.mem_of_getElem? (i := 28) rfl)
theorem dX5_lateness_52 : decode cX5_lateness 52 = .ok (.istore 4, 2) := dgX5_lateness_0 (52, (.istore 4, 2)) (List.mem_of_getElem? (i := 29) rfl)
theorem dX5_lateness_54 : decode cX5_lateness 54 = .ok (.iinc 5 1, 3) := dgX5_lateness_0 (54, (.iinc 5 1, 3)) (List.mem_of_getElem? (i := 30) rfl)
theorem dX5_lateness_57 : decode cX5_lateness 57 = .ok (.goto (-51), 3) := dgX5_lateness_0 (57, (.goto (-51), 3)) (List.mem_of_getElem? (i := 31) rfl)
theorem dX5_lateness_60 : decode cX5_lateness 60 = .ok (.iload 4, 2) := dgX5_lateness_0 (60, (.iload 4, 2)) (List.mem_of_getElem? (i := 32) rfl)
theorem dX5_lateness_62 : decode cX5_lateness 62 = .ok (.ireturn, 1) := dgX5_lateness_0 (62, (.ireturn, 1)) (List.mem_of_getElem? (i := 33) rfl)
set_option maxHeartbeats 4000000 in
set_option maxRecDepth 100000 in
theorem s_latenessN (l : Launch) (G : g5_G) (a_k a_h a_g a_gn a_b a_bn a_p a_pn a_bb a_j a_as a_sk a_l a_pt a_s a_w : Nat) (sz : Nat) (e_le : Int32) (e_st : Int32) (e_fo : Int32) (e_lc : Int32) (e_g : Int32) (e_b : Int32) (e_p : Int32) (e_ln : Int32) (e_se : Int32) (e_lh : Int32) (e_br : Int32) (e_we : Int32) (e_me : Int32) (e_ce : Int32) (e_wy : Int32) (e_ho : Int32) (e_ov : Int32) (p_c : Int32) (p_h : Int32) (p_b : Int32) (e_wa : Int64) (e_gb : Int64) (f_g : Nat → Int32) (f_b : Nat → Int32) (f_p : Nat → Int32) (f_bb : Nat → Int64) (f_as : Nat → Int32) (f_sk : Nat → Int64) (f_l : Nat → Option Nat) (f_pt : Nat → Int32) (h_e_g : 0 ≤ e_g.toInt ∧ e_g.toInt ≤ 6) (h_e_b : 0 ≤ e_b.toInt ∧ e_b.toInt ≤ 5) (h_e_p : 0 ≤ e_p.toInt ∧ e_p.toInt ≤ 8) (h_e_ov : 0 ≤ e_ov.toInt ∧ e_ov.toInt ≤ 1) (e_gk : gOK f_g e_g.toInt) (e_pk : gOK f_p e_p.toInt) (e_gi : inT e_gb f_g e_g.toInt) (e_f : e_fo.toInt < 0 ∨ e_lc.toInt ≤ e_fo.toInt) : Met l yX5_lateness (wsG yX5_lateness cX5_lateness 7 (some .int)) ({ frames := 14, cells := 0, slots := 0, locals := 556 }) (va_Pc [.ref a_k, .int p_c, .int p_h, .int p_b] (g5_P G [(a_k, (oc5 a_h a_j a_pt e_ln e_se e_lh e_br e_we e_me e_ce e_wy e_ho e_ov)), (a_h, (oc1 e_wa e_le e_st e_fo e_lc a_l a_g a_b a_s a_p a_w e_gb a_bb)), (a_g, (oc6 6 5 a_gn e_g)), (a_gn, (arI G 30 f_g)), (a_b, (oc6 5 24 a_bn e_b)), (a_bn, (arI G 120 f_b)), (a_p, (oc6 8 5 a_pn e_p)), (a_pn, (arI G 40 f_p)), (a_bb, (arJ G 24 f_bb)), (a_j, (oc2 a_as a_sk)), (a_as, (arI G 8 f_as)), (a_sk, (arJ G 50 f_sk)), (a_l, (arW G 6 f_l)), (a_pt, (arI G 200 f_pt))] sz)) (va_Qi (fun (r : Int32) (u : va_W) => (∃ (o_r : Int32) (o_ln : Int32) (o_se : Int32) (o_lh : Int32) (o_br : Int32) (o_we : Int32) (o_me : Int32) (o_ce : Int32) (o_wy : Int32) (o_ho : Int32) (o_ov : Int32) (o_pt : Nat → Int32) (o_as : Nat → Int32) (o_sk : Nat → Int64), (0 ≤ o_ov.toInt ∧ o_ov.toInt ≤ 1) ∧ (r = o_r) ∧ (u = [(a_k, (oc5 a_h a_j a_pt o_ln o_se o_lh o_br o_we o_me o_ce o_wy o_ho o_ov)), (a_h, (oc1 e_wa e_le e_st e_fo e_lc a_l a_g a_b a_s a_p a_w e_gb a_bb)), (a_g, (oc6 6 5 a_gn e_g)), (a_gn, (arI G 30 f_g)), (a_b, (oc6 5 24 a_bn e_b)), (a_bn, (arI G 120 f_b)), (a_p, (oc6 8 5 a_pn e_p)), (a_pn, (arI G 40 f_p)), (a_bb, (arJ G 24 f_bb)), (a_j, (oc2 a_as a_sk)), (a_as, (arI G 8 o_as)), (a_sk, (arJ G 50 o_sk)), (a_l, (arW G 6 f_l)), (a_pt, (arI G 200 o_pt))]))) (g5_B G (va_A [(a_k, (oc5 a_h a_j a_pt e_ln e_se e_lh e_br e_we e_me e_ce e_wy e_ho e_ov)), (a_h, (oc1 e_wa e_le e_st e_fo e_lc a_l a_g a_b a_s a_p a_w e_gb a_bb)), (a_g, (oc6 6 5 a_gn e_g)), (a_gn, (arI G 30 f_g)), (a_b, (oc6 5 24 a_bn e_b)), (a_bn, (arI G 120 f_b)), (a_p, (oc6 8 5 a_pn e_p)), (a_pn, (arI G 40 f_p)), (a_bb, (arJ G 24 f_bb)), (a_j, (oc2 a_as a_sk)), (a_as, (arI G 8 f_as)), (a_sk, (arJ G 50 f_sk)), (a_l, (arW G 6 f_l)), (a_pt, (arI G 200 f_pt))] sz)) (va_A [(a_k, (oc5 a_h a_j a_pt e_ln e_se e_lh e_br e_we e_me e_ce e_wy e_ho e_ov)), (a_h, (oc1 e_wa e_le e_st e_fo e_lc a_l a_g a_b a_s a_p a_w e_gb a_bb)), (a_g, (oc6 6 5 a_gn e_g)), (a_gn, (arI G 30 f_g)), (a_b, (oc6 5 24 a_bn e_b)), (a_bn, (arI G 120 f_b)), (a_p, (oc6 8 5 a_pn e_p)), (a_pn, (arI G 40 f_p)), (a_bb, (arJ G 24 f_bb)), (a_j, (oc2 a_as a_sk)), (a_as, (arI G 8 f_as)), (a_sk, (arJ G 50 f_sk)), (a_l, (arW G 6 f_l)), (a_pt, (arI G 200 f_pt))] sz)) 0 0 (va_A [(a_k, (oc5 a_h a_j a_pt e_ln e_se e_lh e_br e_we e_me e_ce e_wy e_ho e_ov)), (a_h, (oc1 e_wa e_le e_st e_fo e_lc a_l a_g a_b a_s a_p a_w e_gb a_bb)), (a_g, (oc6 6 5 a_gn e_g)), (a_gn, (arI G 30 f_g)), (a_b, (oc6 5 24 a_bn e_b)), (a_bn, (arI G 120 f_b)), (a_p, (oc6 8 5 a_pn e_p)), (a_pn, (arI G 40 f_p)), (a_bb, (arJ G 24 f_bb)), (a_j, (oc2 a_as a_sk)), (a_as, (arI G 8 f_as)), (a_sk, (arJ G 50 f_sk)), (a_l, (arW G 6 f_l)), (a_pt, (arI G 200 f_pt))] sz) := by
  refine Met.ofW (cc := cX5_lateness) (maxL := 7) (ret := (some .int)) (by decide) rfl ?_
  intro p e s m args below meth c s₁ B hml hv
  obtain ⟨rfl, hsz, hP, hK, hD0, hN, hT⟩ := hv
  have hx := B.exec
  have hb := B.bytes
  have hr := B.returns
  have hts : ∀ w ∈ tblG, w.before _ s = true := fun w h => atoms_spec (ws := (wsG yX5_lateness cX5_lateness 7 (some .int))) B.pre w (List.mem_cons_of_mem _ h)
  have hown : s.vm.findClass RX5 = some m.cls := findClass_of_methodNamed B.named
  have hlocks := B.notSynchronized
  subst hsz
  have hD := hD0.self (sz := s.heap.size)
  generalize hAe : va_A [(a_k, (oc5 a_h a_j a_pt e_ln e_se e_lh e_br e_we e_me e_ce e_wy e_ho e_ov)), (a_h, (oc1 e_wa e_le e_st e_fo e_lc a_l a_g a_b a_s a_p a_w e_gb a_bb)), (a_g, (oc6 6 5 a_gn e_g)), (a_gn, (arI G 30 f_g)), (a_b, (oc6 5 24 a_bn e_b)), (a_bn, (arI G 120 f_b)), (a_p, (oc6 8 5 a_pn e_p)), (a_pn, (arI G 40 f_p)), (a_bb, (arJ G 24 f_bb)), (a_j, (oc2 a_as a_sk)), (a_as, (arI G 8 f_as)), (a_sk, (arJ G 50 f_sk)), (a_l, (arW G 6 f_l)), (a_pt, (arI G 200 f_pt))] s.heap.size = A at hD hT ⊢
  have hA : ∀ q : Nat, s.heap.size ≤ q → A q := fun q h => by rw [← hAe]; exact Or.inr h
  have hS : va_S A s.heap s.heap [] := va_S.rf
  have hP : va_P G.1 vwCl [(a_k, (oc5 a_h a_j a_pt e_ln e_se e_lh e_br e_we e_me e_ce e_wy e_ho e_ov)), (a_h, (oc1 e_wa e_le e_st e_fo e_lc a_l a_g a_b a_s a_p a_w e_gb a_bb)), (a_g, (oc6 6 5 a_gn e_g)), (a_gn, (arI G 30 f_g)), (a_b, (oc6 5 24 a_bn e_b)), (a_bn, (arI G 120 f_b)), (a_p, (oc6 8 5 a_pn e_p)), (a_pn, (arI G 40 f_p)), (a_bb, (arJ G 24 f_bb)), (a_j, (oc2 a_as a_sk)), (a_as, (arI G 8 f_as)), (a_sk, (arJ G 50 f_sk)), (a_l, (arW G 6 f_l)), (a_pt, (arI G 200 f_pt))] s.heap := hP
  have hl := lv_entry ([.ref a_k, .int p_c, .int p_h, .int p_b]) (n := 7) (Nat.le_of_ble_eq_true rfl)
  rw [lg_entry_eq]
  generalize (lg_sl ([.ref a_k, .int p_c, .int p_h, .int p_b]) ++ List.replicate (7 - (lg_sl ([.ref a_k, .int p_c, .int p_h, .int p_b])).length) Slot.unset).toArray = ls at hl ⊢
  have hl : lv_has ls 7 [(0, .ref a_k), (1, .int p_c), (2, .int p_h), (3, .int p_b)] := hl
  refine lv_iconst (v := (-1)) hx hb dX5_lateness_0 (by decide) ?_
  refine lv_istore (lv' := [(4, .int (-1)), (0, .ref a_k), (1, .int p_c), (2, .int p_h), (3, .int p_b)]) hx hb dX5_lateness_1 hl (by decide) rfl (fun ls hl => ?_)
  refine lv_iconst (v := 0) hx hb dX5_lateness_3 (by decide) ?_
  refine lv_istore (lv' := [(5, .int 0), (4, .int (-1)), (0, .ref a_k), (1, .int p_c), (2, .int p_h), (3, .int p_b)]) hx hb dX5_lateness_4 hl (by decide) rfl (fun ls hl => ?_)
  refine g5_loop (α := (Int32) × (Int32) × (Int32) × (Int32) × (Int32) × (Int32) × (Int32) × (Int32) × (Int32) × (Int32) × (Int32) × (Nat → Int32) × (Nat → Int32) × (Nat → Int64) × (Int32)) (fun (q : (Int32) × (Int32) × (Int32) × (Int32) × (Int32) × (Int32) × (Int32) × (Int32) × (Int32) × (Int32) × (Int32) × (Nat → Int32) × (Nat → Int32) × (Nat → Int64) × (Int32)) (ls : Array Slot) (H : Heap) (locs : List Loc) => match q with | (k_d, k_l, k_se, k_lh, k_br, k_we, k_me, k_ce, k_wy, k_ho, k_ov, k_pt, k_as, k_sk, k_ln) => lv_has ls 7 [(4, .int k_l), (5, .int k_d), (0, .ref a_k), (1, .int p_c), (2, .int p_h), (3, .int p_b)] ∧ va_P G.1 vwCl [(a_k, (oc5 a_h a_j a_pt k_ln k_se k_lh k_br k_we k_me k_ce k_wy k_ho k_ov)), (a_h, (oc1 e_wa e_le e_st e_fo e_lc a_l a_g a_b a_s a_p a_w e_gb a_bb)), (a_g, (oc6 6 5 a_gn e_g)), (a_gn, (arI G 30 f_g)), (a_b, (oc6 5 24 a_bn e_b)), (a_bn, (arI G 120 f_b)), (a_p, (oc6 8 5 a_pn e_p)), (a_pn, (arI G 40 f_p)), (a_bb, (arJ G 24 f_bb)), (a_j, (oc2 a_as a_sk)), (a_as, (arI G 8 k_as)), (a_sk, (arJ G 50 k_sk)), (a_l, (arW G 6 f_l)), (a_pt, (arI G 200 k_pt))] H ∧ va_D A [(a_k, (oc5 a_h a_j a_pt k_ln k_se k_lh k_br k_we k_me k_ce k_wy k_ho k_ov)), (a_h, (oc1 e_wa e_le e_st e_fo e_lc a_l a_g a_b a_s a_p a_w e_gb a_bb)), (a_g, (oc6 6 5 a_gn e_g)), (a_gn, (arI G 30 f_g)), (a_b, (oc6 5 24 a_bn e_b)), (a_bn, (arI G 120 f_b)), (a_p, (oc6 8 5 a_pn e_p)), (a_pn, (arI G 40 f_p)), (a_bb, (arJ G 24 f_bb)), (a_j, (oc2 a_as a_sk)), (a_as, (arI G 8 k_as)), (a_sk, (arJ G 50 k_sk)), (a_l, (arW G 6 f_l)), (a_pt, (arI G 200 k_pt))] ∧ va_S A s.heap H locs ∧ (0 ≤ k_d.toInt ∧ k_d.toInt ≤ 4) ∧ (0 ≤ k_ov.toInt ∧ k_ov.toInt ≤ 1)) (fun (q : (Int32) × (Int32) × (Int32) × (Int32) × (Int32) × (Int32) × (Int32) × (Int32) × (Int32) × (Int32) × (Int32) × (Nat → Int32) × (Nat → Int32) × (Nat → Int64) × (Int32)) => match q with | (k_d, k_l, k_se, k_lh, k_br, k_we, k_me, k_ce, k_wy, k_ho, k_ov, k_pt, k_as, k_sk, k_ln) => Int.toNat (4 - k_d.toInt)) (0, (-1), e_se, e_lh, e_br, e_we, e_me, e_ce, e_wy, e_ho, e_ov, f_pt, f_as, f_sk, e_ln) ⟨lv_sub hl [1, 0, 2, 3, 4, 5] rfl, hP, hD, hS, ⟨by decide, by decide⟩, h_e_ov⟩ ?_
  rintro ⟨k_d, k_l, k_se, k_lh, k_br, k_we, k_me, k_ce, k_wy, k_ho, k_ov, k_pt, k_as, k_sk, k_ln⟩ ls H locs ⟨hl, hP, hD, hS, i_1, i_2⟩ ih_6_3
  have hl : lv_has ls 7 [(4, .int k_l), (5, .int k_d), (0, .ref a_k), (1, .int p_c), (2, .int p_h), (3, .int p_b)] := hl
  have i_1 : 0 ≤ k_d.toInt ∧ k_d.toInt ≤ 4 := i_1
  have i_2 : 0 ≤ k_ov.toInt ∧ k_ov.toInt ≤ 1 := i_2
  refine g5_rs [(a_k, (oc5 a_h a_j a_pt k_ln k_se k_lh k_br k_we k_me k_ce k_wy k_ho k_ov)), (a_h, (oc1 e_wa e_le e_st e_fo e_lc a_l a_g a_b a_s a_p a_w e_gb a_bb)), (a_g, (oc6 6 5 a_gn e_g)), (a_gn, (arI G 30 f_g)), (a_b, (oc6 5 24 a_bn e_b)), (a_bn, (arI G 120 f_b)), (a_p, (oc6 8 5 a_pn e_p)), (a_pn, (arI G 40 f_p)), (a_bb, (arJ G 24 f_bb)), (a_j, (oc2 a_as a_sk)), (a_as, (arI G 8 k_as)), (a_sk, (arJ G 50 k_sk)), (a_l, (arW G 6 f_l)), (a_pt, (arI G 200 k_pt))] hP hD (fun hP hD => ?_)
  refine lv_iload hx hb dX5_lateness_6 (lv_at hl 1 rfl) ?_
  refine lv_iconst (v := 4) hx hb dX5_lateness_8 (by decide) ?_
  refine lv_icmp_ge (tgt := 60) hx hb dX5_lateness_9 (by decide) (fun c_4 => ?_) (fun c_4 => ?_)
  ·
    have i_4 : k_d.toInt ≥ 4 := by have z := g5_ge (a := k_d.toInt) (b := 4) (by rfl) (by decide) c_4; omega
    refine lv_iload hx hb dX5_lateness_60 (lv_at hl 0 rfl) ?_
    exact W.iret (v := k_l) hx hb hr (fun t ht hW => ⟨⟨k_l, [(a_k, (oc5 a_h a_j a_pt k_ln k_se k_lh k_br k_we k_me k_ce k_wy k_ho k_ov)), (a_h, (oc1 e_wa e_le e_st e_fo e_lc a_l a_g a_b a_s a_p a_w e_gb a_bb)), (a_g, (oc6 6 5 a_gn e_g)), (a_gn, (arI G 30 f_g)), (a_b, (oc6 5 24 a_bn e_b)), (a_bn, (arI G 120 f_b)), (a_p, (oc6 8 5 a_pn e_p)), (a_pn, (arI G 40 f_p)), (a_bb, (arJ G 24 f_bb)), (a_j, (oc2 a_as a_sk)), (a_as, (arI G 8 k_as)), (a_sk, (arJ G 50 k_sk)), (a_l, (arW G 6 f_l)), (a_pt, (arI G 200 k_pt))], rfl, ⟨k_l, k_ln, k_se, k_lh, k_br, k_we, k_me, k_ce, k_wy, k_ho, k_ov, k_pt, k_as, k_sk, i_2, rfl, rfl⟩, by rw [ht]; exact hP.sub [0, 1, 2, 3, 4, 5, 6, 7, 8, 9, 10, 11, 12, 13] rfl, hD.sub [0, 1, 2, 3, 4, 5, 6, 7, 8, 9, 10, 11, 12, 13] (by decide) rfl⟩, hS.F ht⟩) hS.2.2 dX5_lateness_62
  ·
    have i_4 : k_d.toInt < 4 := by have z := g5_geN (a := k_d.toInt) (b := 4) (by rfl) (by decide) c_4; omega
    refine lv_aload_n hx hb dX5_lateness_12 rfl (lv_at hl 2 rfl) ?_
    refine lv_iload_n hx hb dX5_lateness_13 rfl (lv_at hl 3 rfl) ?_
    refine lv_iload hx hb dX5_lateness_14 (lv_at hl 1 rfl) ?_
    refine lv_iload_n hx hb dX5_lateness_16 rfl (lv_at hl 4 rfl) ?_
    refine lv_iconst (v := 0) hx hb dX5_lateness_17 (by decide) ?_
    obtain ⟨hPc, hDc, hFc⟩ := g5_sub3 (wc := [(a_k, (oc5 a_h a_j a_pt k_ln k_se k_lh k_br k_we k_me k_ce k_wy k_ho k_ov)), (a_h, (oc1 e_wa e_le e_st e_fo e_lc a_l a_g a_b a_s a_p a_w e_gb a_bb)), (a_g, (oc6 6 5 a_gn e_g)), (a_gn, (arI G 30 f_g)), (a_b, (oc6 5 24 a_bn e_b)), (a_bn, (arI G 120 f_b)), (a_p, (oc6 8 5 a_pn e_p)), (a_pn, (arI G 40 f_p)), (a_bb, (arJ G 24 f_bb)), (a_j, (oc2 a_as a_sk)), (a_as, (arI G 8 k_as)), (a_sk, (arJ G 50 k_sk)), (a_l, (arW G 6 f_l)), (a_pt, (arI G 200 k_pt))]) hP hD hS hA [0, 1, 2, 3, 4, 5, 6, 7, 8, 9, 10, 11, 12, 13] (by decide) rfl
    refine va_callv (va_runV (As := [.int p_c, .int k_d, .int p_h, .int 0]) (rest := []) ⟨hx, hb, hml, hown, hts⟩ (k_runN l G a_k a_h a_g a_gn a_b a_bn a_p a_pn a_bb a_j a_as a_sk a_l a_pt a_s a_w H.size e_le e_st e_fo e_lc e_g e_b e_p k_ln k_se k_lh k_br k_we k_me k_ce k_wy k_ho k_ov p_c k_d p_h 0 e_wa e_gb f_g f_b f_p f_bb k_as k_sk f_l k_pt h_e_g h_e_b h_e_p i_2 (e_gk) (e_pk) (e_gi) (e_f)) (cwV 4 hts gV_X5_91 rfl rfl rfl hv_X5_run ⟨Nat.le_of_ble_eq_true rfl, Nat.le_of_ble_eq_true rfl⟩) (g5_preV hPc hK hDc hN hT hS hFc (ci := 5) (q0 := 0) rfl rfl) rfl rfl hl.1 rfl (lv_room (Nat.le_of_ble_eq_true rfl)) dX5_lateness_18 ⟨Nat.le_of_ble_eq_true rfl, Nat.le_of_ble_eq_true rfl⟩) hS (fun q _ h => hFc q h) hFc (fun u t H1 locs ht hvm hw hB hz1 hk1 hS => ?_)
    obtain ⟨hP1, hD1⟩ := hB
    rw [ht] at hP1
    obtain ⟨z8, z9, z10, z11, z12, z13, z14, z15, z16, z17, z18, z19, z20, i_5, i_6, i_7, rfl⟩ := hw
    have i_5 : 0 ≤ z8.toInt ∧ z8.toInt ≤ 200 := i_5
    have i_6 : 0 ≤ z17.toInt ∧ z17.toInt ≤ 1 := i_6
    have i_7 : ∀ j : Nat, (j : Int) < z8.toInt → 0 ≤ (z18 j).toInt ∧ (z18 j).toInt ≤ 1535 := i_7
    obtain ⟨hP, hD⟩ := va_join (wr := []) hP hD [0, 1, 2, 3, 4, 5, 6, 7, 8, 9, 10, 11, 12, 13] [] rfl rfl (by decide) (by decide) hk1 hFc hP1 hD1
    generalize H1 = H at hP hS ⊢
    refine g5_rs [(a_k, (oc5 a_h a_j a_pt z8 z9 z10 z11 z12 z13 z14 z15 z16 z17)), (a_h, (oc1 e_wa e_le e_st e_fo e_lc a_l a_g a_b a_s a_p a_w e_gb a_bb)), (a_g, (oc6 6 5 a_gn e_g)), (a_gn, (arI G 30 f_g)), (a_b, (oc6 5 24 a_bn e_b)), (a_bn, (arI G 120 f_b)), (a_p, (oc6 8 5 a_pn e_p)), (a_pn, (arI G 40 f_p)), (a_bb, (arJ G 24 f_bb)), (a_j, (oc2 a_as a_sk)), (a_as, (arI G 8 z19)), (a_sk, (arJ G 50 z20)), (a_l, (arW G 6 f_l)), (a_pt, (arI G 200 z18))] hP hD (fun hP hD => ?_)
    refine lv_iload_n hx hb dX5_lateness_21 rfl (lv_at hl 4 rfl) ?_
    refine lv_aload_n hx hb dX5_lateness_22 rfl (lv_at hl 2 rfl) ?_
    refine va_get (D := G.1) (ci := 5) (v := .int z10) (C := RX5) (T := TX5) (N := 13) hx hb hts inG_X5 hown hK hP 0 rfl rfl 5 (by decide) (hts _ fl_X5_42) (fun _ h9 => h9) rfl dX5_lateness_23 ?_
    refine lv_isub hx hb dX5_lateness_26 ?_
    refine lv_istore (lv' := [(6, .int (p_h - z10)), (4, .int k_l), (5, .int k_d), (0, .ref a_k), (1, .int p_c), (2, .int p_h), (3, .int p_b)]) hx hb dX5_lateness_27 hl (by decide) rfl (fun ls hl => ?_)
    refine lv_aload_n hx hb dX5_lateness_29 rfl (lv_at hl 3 rfl) ?_
    refine va_get (D := G.1) (ci := 5) (v := .int z9) (C := RX5) (T := TX5) (N := 13) hx hb hts inG_X5 hown hK hP 0 rfl rfl 4 (by decide) (hts _ fl_X5_39) (fun _ h9 => h9) rfl dX5_lateness_30 ?_
    refine lv_iload_n hx hb dX5_lateness_33 rfl (lv_at hl 6 rfl) ?_
    refine lv_icmp_ne (tgt := 54) hx hb dX5_lateness_34 (by decide) (fun c_21 => ?_) (fun c_21 => ?_)
    ·
      have n_21 : gNe (z9.toInt) (p_b.toInt) := by have z := g5_ne (a := z9.toInt) (b := p_b.toInt) (by rfl) (by rfl) c_21; unfold gNe; omega
      refine lv_iinc (v := (k_d + 1)) (lv' := [(5, .int (k_d + 1)), (6, .int (p_h - z10)), (4, .int k_l), (0, .ref a_k), (1, .int p_c), (2, .int p_h), (3, .int p_b)]) hx hb dX5_lateness_54 hl (k := 2) rfl rfl (by decide) rfl (fun ls hl => ?_)
      have t_22 : (k_d + 1).toInt = k_d.toInt + 1 := g5_iadd (a := k_d.toInt) (b := 1) rfl (by decide) (by omega) (by omega)
      refine lv_goto (tgt := 6) hx hb dX5_lateness_57 (by decide) ?_
      exact ih_6_3 ((k_d + 1), k_l, z9, z10, z11, z12, z13, z14, z15, z16, z17, z18, z19, z20, z8) ls H locs (show Int.toNat (4 - (k_d + 1).toInt) < Int.toNat (4 - k_d.toInt) from g_up (show k_d.toInt < (k_d + 1).toInt by omega) (show k_d.toInt < 4 by omega)) ⟨lv_sub hl [2, 0, 3, 4, 5, 6] rfl, hP, hD, hS, ⟨by omega, by omega⟩, i_6⟩
    ·
      have i_21 : z9.toInt = p_b.toInt := by have z := g5_neN (a := z9.toInt) (b := p_b.toInt) (by rfl) (by rfl) c_21; omega
      refine lv_iload hx hb dX5_lateness_37 (lv_at hl 1 rfl) ?_
      refine lv_iconst (v := (-1)) hx hb dX5_lateness_39 (by decide) ?_
      refine lv_icmp_eq (tgt := 50) hx hb dX5_lateness_40 (by decide) (fun c_23 => ?_) (fun c_23 => ?_)
      ·
        have i_23 : k_l.toInt = (-1) := by have z := g5_eq (a := k_l.toInt) (b := (-1)) (by rfl) (by decide) c_23; omega
        refine lv_iload hx hb dX5_lateness_50 (lv_at hl 0 rfl) ?_
        refine lv_istore (lv' := [(4, .int (p_h - z10)), (6, .int (p_h - z10)), (5, .int k_d), (0, .ref a_k), (1, .int p_c), (2, .int p_h), (3, .int p_b)]) hx hb dX5_lateness_52 hl (by decide) rfl (fun ls hl => ?_)
        refine lv_iinc (v := (k_d + 1)) (lv' := [(5, .int (k_d + 1)), (4, .int (p_h - z10)), (6, .int (p_h - z10)), (0, .ref a_k), (1, .int p_c), (2, .int p_h), (3, .int p_b)]) hx hb dX5_lateness_54 hl (k := 2) rfl rfl (by decide) rfl (fun ls hl => ?_)
        have t_24 : (k_d + 1).toInt = k_d.toInt + 1 := g5_iadd (a := k_d.toInt) (b := 1) rfl (by decide) (by omega) (by omega)
        refine lv_goto (tgt := 6) hx hb dX5_lateness_57 (by decide) ?_
        exact ih_6_3 ((k_d + 1), (p_h - z10), z9, z10, z11, z12, z13, z14, z15, z16, z17, z18, z19, z20, z8) ls H locs (show Int.toNat (4 - (k_d + 1).toInt) < Int.toNat (4 - k_d.toInt) from g_up (show k_d.toInt < (k_d + 1).toInt by omega) (show k_d.toInt < 4 by omega)) ⟨lv_sub hl [1, 0, 3, 4, 5, 6] rfl, hP, hD, hS, ⟨by omega, by omega⟩, i_6⟩
      ·
        have n_23 : gNe (k_l.toInt) ((-1)) := by have z := g5_eqN (a := k_l.toInt) (b := (-1)) (by rfl) (by decide) c_23; unfold gNe; omega
        refine lv_iload hx hb dX5_lateness_43 (lv_at hl 0 rfl) ?_
        refine lv_iload hx hb dX5_lateness_45 (lv_at hl 1 rfl) ?_
        refine lv_icmp_ge (tgt := 54) hx hb dX5_lateness_47 (by decide) (fun c_25 => ?_) (fun c_25 => ?_)
        ·
          have i_25 : (p_h - z10).toInt ≥ k_l.toInt := by have z := g5_ge (a := (p_h - z10).toInt) (b := k_l.toInt) (by rfl) (by rfl) c_25; omega
          refine lv_iinc (v := (k_d + 1)) (lv' := [(5, .int (k_d + 1)), (6, .int (p_h - z10)), (4, .int k_l), (0, .ref a_k), (1, .int p_c), (2, .int p_h), (3, .int p_b)]) hx hb dX5_lateness_54 hl (k := 2) rfl rfl (by decide) rfl (fun ls hl => ?_)
          have t_26 : (k_d + 1).toInt = k_d.toInt + 1 := g5_iadd (a := k_d.toInt) (b := 1) rfl (by decide) (by omega) (by omega)
          refine lv_goto (tgt := 6) hx hb dX5_lateness_57 (by decide) ?_
          exact ih_6_3 ((k_d + 1), k_l, z9, z10, z11, z12, z13, z14, z15, z16, z17, z18, z19, z20, z8) ls H locs (show Int.toNat (4 - (k_d + 1).toInt) < Int.toNat (4 - k_d.toInt) from g_up (show k_d.toInt < (k_d + 1).toInt by omega) (show k_d.toInt < 4 by omega)) ⟨lv_sub hl [2, 0, 3, 4, 5, 6] rfl, hP, hD, hS, ⟨by omega, by omega⟩, i_6⟩
        ·
          have i_25 : (p_h - z10).toInt < k_l.toInt := by have z := g5_geN (a := (p_h - z10).toInt) (b := k_l.toInt) (by rfl) (by rfl) c_25; omega
          refine lv_iload hx hb dX5_lateness_50 (lv_at hl 0 rfl) ?_
          refine lv_istore (lv' := [(4, .int (p_h - z10)), (6, .int (p_h - z10)), (5, .int k_d), (0, .ref a_k), (1, .int p_c), (2, .int p_h), (3, .int p_b)]) hx hb dX5_lateness_52 hl (by decide) rfl (fun ls hl => ?_)
          refine lv_iinc (v := (k_d + 1)) (lv' := [(5, .int (k_d + 1)), (4, .int (p_h - z10)), (6, .int (p_h - z10)), (0, .ref a_k), (1, .int p_c), (2, .int p_h), (3, .int p_b)]) hx hb dX5_lateness_54 hl (k := 2) rfl rfl (by decide) rfl (fun ls hl => ?_)
          have t_27 : (k_d + 1).toInt = k_d.toInt + 1 := g5_iadd (a := k_d.toInt) (b := 1) rfl (by decide) (by omega) (by omega)
          refine lv_goto (tgt := 6) hx hb dX5_lateness_57 (by decide) ?_
          exact ih_6_3 ((k_d + 1), (p_h - z10), z9, z10, z11, z12, z13, z14, z15, z16, z17, z18, z19, z20, z8) ls H locs (show Int.toNat (4 - (k_d + 1).toInt) < Int.toNat (4 - k_d.toInt) from g_up (show k_d.toInt < (k_d + 1).toInt by omega) (show k_d.toInt < 4 by omega)) ⟨lv_sub hl [1, 0, 3, 4, 5, 6] rfl, hP, hD, hS, ⟨by omega, by omega⟩, i_6⟩
