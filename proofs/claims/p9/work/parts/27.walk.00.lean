theorem dgX9_spread_0 : ∀ r ∈ ([(0, (.lload_n 1, 1)), (1, (.lload_n 1, 1)), (2, (.bipush 8, 2)), (4, (.lshl, 1)), (5, (.lor, 1)), (6, (.lload_n 1, 1)), (7, (.bipush 8, 2)), (9, (.lushr, 1)), (10, (.lor, 1)), (11, (.lload_n 1, 1)), (12, (.ldc2_w 70, 3)), (15, (.land, 1)), (16, (.iconst 1, 1)), (17, (.lshl, 1)), (18, (.lor, 1)), (19, (.lload_n 1, 1)), (20, (.ldc2_w 72, 3)), (23, (.land, 1)), (24, (.iconst 1, 1)), (25, (.lushr, 1)), (26, (.lor, 1)), (27, (.lstore_n 3, 1)), (28, (.lload_n 3, 1)), (29, (.aload_n 0, 1)), (30, (.getfield 19, 3)), (33, (.getfield 74, 3)), (36, (.ldc2_w 78, 3)), (39, (.lxor, 1)), (40, (.land, 1)), (41, (.lreturn, 1))] : List (Nat × (Instr × Nat))), decode cX9_spread r.1 = .ok r.2 := by decide +kernel
theorem dX9_spread_0 : decode cX9_spread 0 = .ok (.lload_n 1, 1) := dgX9_spread_0 (0, (.lload_n 1, 1)) (List.mem_of_getElem? (i := 0) rfl)
theorem dX9_spread_1 : decode cX9_spread 1 = .ok (.lload_n 1, 1) := dgX9_spread_0 (1, (.lload_n 1, 1)) (List.mem_of_getElem? (i := 1) rfl)
theorem dX9_spread_2 : decode cX9_spread 2 = .ok (.bipush 8, 2) := dgX9_spread_0 (2, (.bipush 8, 2)) (List.mem_of_getElem? (i := 2) rfl)
theorem dX9_spread_4 : decode cX9_spread 4 = .ok (.lshl, 1) := dgX9_spread_0 (4, (.lshl, 1)) (List.mem_of_getElem? (i := 3) rfl)
theorem dX9_spread_5 : decode cX9_spread 5 = .ok (.lor, 1) := dgX9_spread_0 (5, (.lor, 1)) (List.mem_of_getElem? (i := 4) rfl)
theorem dX9_spread_6 : decode cX9_spread 6 = .ok (.lload_n 1, 1) := dgX9_spread_0 (6, (.lload_n 1, 1)) (List.mem_of_getElem? (i := 5) rfl)
theorem dX9_spread_7 : decode cX9_spread 7 = .ok (.bipush 8, 2) := dgX9_spread_0 (7, (.bipush 8, 2)) (List.mem_of_getElem? (i := 6) rfl)
theorem dX9_spread_9 : decode cX9_spread 9 = .ok (.lushr, 1) := dgX9_spread_0 (9, (.lushr, 1)) (List.mem_of_getElem? (i := 7) rfl)
theorem dX9_spread_10 : decode cX9_spread 10 = .ok (.lor, 1) := dgX9_spread_0 (10, (.lor, 1)) (List.mem_of_getElem? (i := 8) rfl)
theorem dX9_spread_11 : decode cX9_spread 11 = .ok (.lload_n 1, 1) := dgX9_spread_0 (11, (.lload_n 1, 1)) (List.mem_of_getElem? (i := 9) rfl)
theorem dX9_spread_12 : decode cX9_spread 12 = .ok (.ldc2_w 70, 3) := dgX9_spread_0 (12, (.ldc2_w 70, 3)) (List.mem_of_getElem? (i := 10) rfl)
theorem dX9_spread_15 : decode cX9_spread 15 = .ok (.land, 1) := dgX9_spread_0 (15, (.land, 1)) (List.mem_of_getElem? (i := 11) rfl)
theorem dX9_spread_16 : decode cX9_spread 16 = .ok (.iconst 1, 1) := dgX9_spread_0 (16, (.iconst 1, 1)) (List.mem_of_getElem? (i := 12) rfl)
theorem dX9_spread_17 : decode cX9_spread 17 = .ok (.lshl, 1) := dgX9_spread_0 (17, (.lshl, 1)) (List.mem_of_getElem? (i := 13) rfl)
theorem dX9_spread_18 : decode cX9_spread 18 = .ok (.lor, 1) := dgX9_spread_0 (18, (.lor, 1)) (List.mem_of_getElem? (i := 14) rfl)
theorem dX9_spread_19 : decode cX9_spread 19 = .ok (.lload_n 1, 1) := dgX9_spread_0 (19, (.lload_n 1, 1)) (List.mem_of_getElem? (i := 15) rfl)
theorem dX9_spread_20 : decode cX9_spread 20 = .ok (.ldc2_w 72, 3) := dgX9_spread_0 (20, (.ldc2_w 72, 3)) (List.mem_of_getElem? (i := 16) rfl)
theorem dX9_spread_23 : decode cX9_spread 23 = .ok (.land, 1) := dgX9_spread_0 (23, (.land, 1)) (List.mem_of_getElem? (i := 17) rfl)
theorem dX9_spread_24 : decode cX9_spread 24 = .ok (.iconst 1, 1) := dgX9_spread_0 (24, (.iconst 1, 1)) (List.mem_of_getElem? (i := 18) rfl)
theorem dX9_spread_25 : decode cX9_spread 25 = .ok (.lushr, 1) := dgX9_spread_0 (25, (.lushr, 1)) (List.mem_of_getElem? (i := 19) rfl)
theorem dX9_spread_26 : decode cX9_spread 26 = .ok (.lor, 1) := dgX9_spread_0 (26, (.lor, 1)) (List.mem_of_getElem? (i := 20) rfl)
theorem dX9_spread_27 : decode cX9_spread 27 = .ok (.lstore_n 3, 1) := dgX9_spread_0 (27, (.lstore_n 3, 1)) (List.mem_of_getElem? (i := 21) rfl)
theorem dX9_spread_28 : decode cX9_spread 28 = .ok (.lload_n 3, 1) := dgX9_spread_0 (28, (.lload_n 3, 1)) (List.mem_of_getElem? (i := 22) rfl)
theorem dX9_spread_29 : decode cX9_spread 29 = .ok (.aload_n 0, 1) := dgX9_spread_0 (29, (.aload_n 0, 1)) (List.mem_of_getElem? (i := 23) rfl)
theorem dX9_spread_30 : decode cX9_spread 30 = .ok (.getfield 19, 3) := dgX9_spread_0 (30, (.getfield 19, 3)) (List.mem_of_getElem? (i := 24) rfl)
theorem dX9_spread_33 : decode cX9_spread 33 = .ok (.getfield 74, 3) := dgX9_spread_0 (33, (.getfield 74, 3)) (List.mem_of_getElem? (i := 25) rfl)
theorem dX9_spread_36 : decode cX9_spread 36 = .ok (.ldc2_w 78, 3) := dgX9_spread_0 (36, (.ldc2_w 78, 3)) (List.mem_of_getElem? (i := 26) rfl)
theorem dX9_spread_39 : decode cX9_spread 39 = .ok (.lxor, 1) := dgX9_spread_0 (39, (.lxor, 1)) (List.mem_of_getElem? (i := 27) rfl)
theorem dX9_spread_40 : decode cX9_spread 40 = .ok (.land, 1) := dgX9_spread_0 (40, (.land, 1)) (List.mem_of_getElem? (i := 28) rfl)
theorem dX9_spread_41 : decode cX9_spread 41 = .ok (.lreturn, 1) := dgX9_spread_0 (41, (.lreturn, 1)) (List.mem_of_getElem? (i := 29) rfl)
theorem kl_X9_70 : Cond.constantLong RX9 70 9187201950435737471 ∈ tblG := tg 1119 (by decide +kernel) (by decide +kernel)
theorem kl_X9_72 : Cond.constantLong RX9 72 (-72340172838076674) ∈ tblG := tg 1120 (by decide +kernel) (by decide +kernel)
theorem inG_X9 : ∀ w ∈ wsX90, w ∈ tblG := tgs [384, 386, 388, 390] (by decide +kernel) (by decide +kernel)
theorem fl_X9_19 : Cond.fieldLink RX9 19 "LateGlass$Walker" "house" "LLateGlass$House;" ∈ tblG := tg 380 (by decide +kernel) (by decide +kernel)
theorem fl_X9_74 : Cond.fieldLink RX9 74 "LateGlass$House" "walls" "J" ∈ tblG := tg 157 (by decide +kernel) (by decide +kernel)
theorem kl_X9_78 : Cond.constantLong RX9 78 (-1) ∈ tblG := tg 1121 (by decide +kernel) (by decide +kernel)
set_option maxHeartbeats 4000000 in
set_option maxRecDepth 100000 in
theorem a_spread (l : Launch) (G : g5_G) (a_h a_wk a_l a_g a_b a_s a_p a_w a_bb a_k a_go a_mt : Nat) (sz : Nat) (e_le : Int32) (e_st : Int32) (e_fo : Int32) (e_lc : Int32) (e_wa : Int64) (e_gb : Int64) (p_x : Int64) : Met l yX9_spread (wsG yX9_spread cX9_spread 5 (some .long)) ({ frames := 0, cells := 0, slots := 0, locals := 0 }) (va_Pc [.ref a_wk, .long p_x] (g5_P G [(a_h, (oc1 e_wa e_le e_st e_fo e_lc a_l a_g a_b a_s a_p a_w e_gb a_bb)), (a_wk, (oc9 a_h a_k a_go a_mt))] sz)) (va_Ql (fun (r : Int64) (u : va_W) => (∃ (o_r : Int64), (r = o_r) ∧ (u = [(a_h, (oc1 e_wa e_le e_st e_fo e_lc a_l a_g a_b a_s a_p a_w e_gb a_bb)), (a_wk, (oc9 a_h a_k a_go a_mt))]))) (g5_B G (va_A [(a_h, (oc1 e_wa e_le e_st e_fo e_lc a_l a_g a_b a_s a_p a_w e_gb a_bb)), (a_wk, (oc9 a_h a_k a_go a_mt))] sz)) (va_A [(a_h, (oc1 e_wa e_le e_st e_fo e_lc a_l a_g a_b a_s a_p a_w e_gb a_bb)), (a_wk, (oc9 a_h a_k a_go a_mt))] sz)) 0 0 (va_A [(a_h, (oc1 e_wa e_le e_st e_fo e_lc a_l a_g a_b a_s a_p a_w e_gb a_bb)), (a_wk, (oc9 a_h a_k a_go a_mt))] sz) := by
  refine Met.ofW (cc := cX9_spread) (maxL := 5) (ret := (some .long)) (by decide) rfl ?_
  intro p e s m args below meth c s₁ B hml hv
  obtain ⟨rfl, hsz, hP, hK, hD0, hN, hT⟩ := hv
  have hx := B.exec
  have hb := B.bytes
  have hr := B.returns
  have hts : ∀ w ∈ tblG, w.before _ s = true := fun w h => atoms_spec (ws := (wsG yX9_spread cX9_spread 5 (some .long))) B.pre w (List.mem_cons_of_mem _ h)
  have hown : s.vm.findClass RX9 = some m.cls := findClass_of_methodNamed B.named
  have hlocks := B.notSynchronized
  subst hsz
  have hD := hD0.self (sz := s.heap.size)
  generalize hAe : va_A [(a_h, (oc1 e_wa e_le e_st e_fo e_lc a_l a_g a_b a_s a_p a_w e_gb a_bb)), (a_wk, (oc9 a_h a_k a_go a_mt))] s.heap.size = A at hD hT ⊢
  have hA : ∀ q : Nat, s.heap.size ≤ q → A q := fun q h => by rw [← hAe]; exact Or.inr h
  have hS : va_S A s.heap s.heap [] := va_S.rf
  have hP : va_P G.1 vwCl [(a_h, (oc1 e_wa e_le e_st e_fo e_lc a_l a_g a_b a_s a_p a_w e_gb a_bb)), (a_wk, (oc9 a_h a_k a_go a_mt))] s.heap := hP
  have hl := lv_entry ([.ref a_wk, .long p_x]) (n := 5) (Nat.le_of_ble_eq_true rfl)
  rw [lg_entry_eq]
  generalize (lg_sl ([.ref a_wk, .long p_x]) ++ List.replicate (5 - (lg_sl ([.ref a_wk, .long p_x])).length) Slot.unset).toArray = ls at hl ⊢
  have hl : lv_has ls 5 [(0, .ref a_wk), (1, .long p_x)] := hl
  refine lv_lload_n hx hb dX9_spread_0 rfl (lv_at hl 1 rfl) ?_
  refine lv_lload_n hx hb dX9_spread_1 rfl (lv_at hl 1 rfl) ?_
  refine lv_bipush (v := 8) hx hb dX9_spread_2 (by decide) ?_
  refine lv_lshl (v := ((p_x : Int64) <<< ((8 : Int32).toInt64 &&& 63))) hx hb dX9_spread_4 rfl ?_
  refine lv_lor hx hb dX9_spread_5 ?_
  refine lv_lload_n hx hb dX9_spread_6 rfl (lv_at hl 1 rfl) ?_
  refine lv_bipush (v := 8) hx hb dX9_spread_7 (by decide) ?_
  refine lv_lushr (v := ((p_x.toUInt64 >>> ((8 : Int32).toInt64.toUInt64 &&& Int64.toUInt64 63)).toInt64)) hx hb dX9_spread_9 rfl ?_
  refine lv_lor hx hb dX9_spread_10 ?_
  refine lv_lload_n hx hb dX9_spread_11 rfl (lv_at hl 1 rfl) ?_
  refine lv_ldc2 (v := 9187201950435737471) hx hb hown (hts _ kl_X9_70) dX9_spread_12 ?_
  refine lv_land hx hb dX9_spread_15 ?_
  refine lv_iconst (v := 1) hx hb dX9_spread_16 (by decide) ?_
  refine lv_lshl (v := (((p_x &&& 9187201950435737471) : Int64) <<< ((1 : Int32).toInt64 &&& 63))) hx hb dX9_spread_17 rfl ?_
  refine lv_lor hx hb dX9_spread_18 ?_
  refine lv_lload_n hx hb dX9_spread_19 rfl (lv_at hl 1 rfl) ?_
  refine lv_ldc2 (v := (-72340172838076674)) hx hb hown (hts _ kl_X9_72) dX9_spread_20 ?_
  refine lv_land hx hb dX9_spread_23 ?_
  refine lv_iconst (v := 1) hx hb dX9_spread_24 (by decide) ?_
  refine lv_lushr (v := (((p_x &&& (-72340172838076674)).toUInt64 >>> ((1 : Int32).toInt64.toUInt64 &&& Int64.toUInt64 63)).toInt64)) hx hb dX9_spread_25 rfl ?_
  refine lv_lor hx hb dX9_spread_26 ?_
  refine lv_lstore_n (lv' := [(3, .long ((((p_x ||| ((p_x : Int64) <<< ((8 : Int32).toInt64 &&& 63))) ||| ((p_x.toUInt64 >>> ((8 : Int32).toInt64.toUInt64 &&& Int64.toUInt64 63)).toInt64)) ||| (((p_x &&& 9187201950435737471) : Int64) <<< ((1 : Int32).toInt64 &&& 63))) ||| (((p_x &&& (-72340172838076674)).toUInt64 >>> ((1 : Int32).toInt64.toUInt64 &&& Int64.toUInt64 63)).toInt64))), (0, .ref a_wk), (1, .long p_x)]) hx hb dX9_spread_27 rfl hl (by decide) rfl (fun ls hl => ?_)
  refine lv_lload_n hx hb dX9_spread_28 rfl (lv_at hl 0 rfl) ?_
  refine lv_aload_n hx hb dX9_spread_29 rfl (lv_at hl 1 rfl) ?_
  refine va_get (D := G.1) (ci := 9) (v := .ref a_h) (C := RX9) (T := TX9) (N := 4) hx hb hts inG_X9 hown hK hP 1 rfl rfl 0 (by decide) (hts _ fl_X9_19) (fun _ h9 => h9) rfl dX9_spread_30 ?_
  refine va_get (D := G.1) (ci := 1) (v := .long e_wa) (C := RX1) (T := TX1) (N := 13) hx hb hts inG_X1 hown hK hP 0 rfl rfl 0 (by decide) (hts _ fl_X9_74) (fun _ h9 => h9) rfl dX9_spread_33 ?_
  refine lv_ldc2 (v := (-1)) hx hb hown (hts _ kl_X9_78) dX9_spread_36 ?_
  refine lv_lxor hx hb dX9_spread_39 ?_
  refine lv_land hx hb dX9_spread_40 ?_
  exact W.lret (v := (((((p_x ||| ((p_x : Int64) <<< ((8 : Int32).toInt64 &&& 63))) ||| ((p_x.toUInt64 >>> ((8 : Int32).toInt64.toUInt64 &&& Int64.toUInt64 63)).toInt64)) ||| (((p_x &&& 9187201950435737471) : Int64) <<< ((1 : Int32).toInt64 &&& 63))) ||| (((p_x &&& (-72340172838076674)).toUInt64 >>> ((1 : Int32).toInt64.toUInt64 &&& Int64.toUInt64 63)).toInt64)) &&& (e_wa ^^^ (-1)))) hx hb hr (fun t ht hW => ⟨⟨(((((p_x ||| ((p_x : Int64) <<< ((8 : Int32).toInt64 &&& 63))) ||| ((p_x.toUInt64 >>> ((8 : Int32).toInt64.toUInt64 &&& Int64.toUInt64 63)).toInt64)) ||| (((p_x &&& 9187201950435737471) : Int64) <<< ((1 : Int32).toInt64 &&& 63))) ||| (((p_x &&& (-72340172838076674)).toUInt64 >>> ((1 : Int32).toInt64.toUInt64 &&& Int64.toUInt64 63)).toInt64)) &&& (e_wa ^^^ (-1))), [(a_h, (oc1 e_wa e_le e_st e_fo e_lc a_l a_g a_b a_s a_p a_w e_gb a_bb)), (a_wk, (oc9 a_h a_k a_go a_mt))], rfl, ⟨(((((p_x ||| ((p_x : Int64) <<< ((8 : Int32).toInt64 &&& 63))) ||| ((p_x.toUInt64 >>> ((8 : Int32).toInt64.toUInt64 &&& Int64.toUInt64 63)).toInt64)) ||| (((p_x &&& 9187201950435737471) : Int64) <<< ((1 : Int32).toInt64 &&& 63))) ||| (((p_x &&& (-72340172838076674)).toUInt64 >>> ((1 : Int32).toInt64.toUInt64 &&& Int64.toUInt64 63)).toInt64)) &&& (e_wa ^^^ (-1))), rfl, rfl⟩, by rw [ht]; exact hP.sub [0, 1] rfl, hD.sub [0, 1] (by decide) rfl⟩, hS.F ht⟩) hS.2.2 dX9_spread_41
theorem dgX9_isEverIn_0 : ∀ r ∈ ([(0, (.iconst 0, 1)), (1, (.istore_n 3, 1)), (2, (.iload_n 3, 1)), (3, (.iload_n 2, 1)), (4, (.if_icmp .ge 27, 3)), (7, (.aload_n 0, 1)), (8, (.getfield 19, 3)), (11, (.getfield 31, 3)), (14, (.iload_n 1, 1)), (15, (.iload_n 3, 1)), (16, (.invokevirtual 37, 3)), (19, (.iconst (-1), 1)), (20, (.if_icmp .eq 5, 3)), (23, (.iconst 1, 1)), (24, (.ireturn, 1)), (25, (.iinc 3 1, 3)), (28, (.goto (-26), 3)), (31, (.iconst 0, 1)), (32, (.ireturn, 1))] : List (Nat × (Instr × Nat))), decode cX9_isEverIn r.1 = .ok r.2 := by decide +kernel
theorem dX9_isEverIn_0 : decode cX9_isEverIn 0 = .ok (.iconst 0, 1) := dgX9_isEverIn_0 (0, (.iconst 0, 1)) (List.mem_of_getElem? (i := 0) rfl)
theorem dX9_isEverIn_1 : decode cX9_isEverIn 1 = .ok (.istore_n 3, 1) := dgX9_isEverIn_0 (1, (.istore_n 3, 1)) (List.mem_of_getElem? (i := 1) rfl)
theorem dX9_isEverIn_2 : decode cX9_isEverIn 2 = .ok (.iload_n 3, 1) := dgX9_isEverIn_0 (2, (.iload_n 3, 1)) (List.mem_of_getElem? (i := 2) rfl)
theorem dX9_isEverIn_3 : decode cX9_isEverIn 3 = .ok (.iload_n 2, 1) := dgX9_isEverIn_0 (3, (.iload_n 2, 1)) (List.mem_of_getElem? (i := 3) rfl)
theorem dX9_isEverIn_4 : decode cX9_isEverIn 4 = .ok (.if_icmp .ge 27, 3) := dgX9_isEverIn_0 (4, (.if_icmp .ge 27, 3)) (List.mem_of_getElem? (i := 4) rfl)
theorem dX9_isEverIn_7 : decode cX9_isEverIn 7 = .ok (.aload_n 0, 1) := dgX9_isEverIn_0 (7, (.aload_n 0, 1)) (List.mem_of_getElem? (i := 5) rfl)
theorem dX9_isEverIn_8 : decode cX9_isEverIn 8 = .ok (.getfield 19, 3) := dgX9_isEverIn_0 (8, (.getfield 19, 3)) (List.mem_of_getElem? (i := 6) rfl)
theorem dX9_isEverIn_11 : decode cX9_isEverIn 11 = .ok (.getfield 31, 3) := dgX9_isEverIn_0 (11, (.getfield 31, 3)) (List.mem_of_getElem? (i := 7) rfl)
theorem dX9_isEverIn_14 : decode cX9_isEverIn 14 = .ok (.iload_n 1, 1) := dgX9_isEverIn_0 (14, (.iload_n 1, 1)) (List.mem_of_getElem? (i := 8) rfl)
theorem dX9_isEverIn_15 : decode cX9_isEverIn 15 = .ok (.iload_n 3, 1) := dgX9_isEverIn_0 (15, (.iload_n 3, 1)) (List.mem_of_getElem? (i := 9) rfl)
theorem dX9_isEverIn_16 : decode cX9_isEverIn 16 = .ok (.invokevirtual 37, 3) := dgX9_isEverIn_0 (16, (.invokevirtual 37, 3)) (List.mem_of_getElem? (i := 10) rfl)
theorem dX9_isEverIn_19 : decode cX9_isEverIn 19 = .ok (.iconst (-1), 1) := dgX9_isEverIn_0 (19, (.iconst (-1), 1)) (List.mem_of_getElem? (i := 11) rfl)
theorem dX9_isEverIn_20 : decode cX9_isEverIn 20 = .ok (.if_icmp .eq 5, 3) := dgX9_isEverIn_0 (20, (.if_icmp .eq 5, 3)) (List.mem_of_getElem? (i := 12) rfl)
theorem dX9_isEverIn_23 : decode cX9_isEverIn 23 = .ok (.iconst 1, 1) := dgX9_isEverIn_0 (23, (.iconst 1, 1)) (List.mem_of_getElem? (i := 13) rfl)
theorem dX9_isEverIn_24 : decode cX9_isEverIn 24 = .ok (.ireturn, 1) := dgX9_isEverIn_0 (24, (.ireturn, 1)) (List.mem_of_getElem? (i := 14) rfl)
theorem dX9_isEverIn_25 : decode cX9_isEverIn 25 = .ok (.iinc 3 1, 3) := dgX9_isEverIn_0 (25, (.iinc 3 1, 3)) (List.mem_of_getElem? (i := 15) rfl)
theorem dX9_isEverIn_28 : decode cX9_isEverIn 28 = .ok (.goto (-26), 3) := dgX9_isEverIn_0 (28, (.goto (-26), 3)) (List.mem_of_getElem? (i := 16) rfl)
theorem dX9_isEverIn_31 : decode cX9_isEverIn 31 = .ok (.iconst 0, 1) := dgX9_isEverIn_0 (31, (.iconst 0, 1)) (List.mem_of_getElem? (i := 17) rfl)
theorem dX9_isEverIn_32 : decode cX9_isEverIn 32 = .ok (.ireturn, 1) := dgX9_isEverIn_0 (32, (.ireturn, 1)) (List.mem_of_getElem? (i := 18) rfl)
theorem fl_X9_31 : Cond.fieldLink RX9 31 "LateGlass$House" "bodies" "LLateGlass$Table;" ∈ tblG := tg 175 (by decide +kernel) (by decide +kernel)
theorem ml_X9_37 : Cond.methodLink RX9 37 yX6_get ∈ tblG := tg 1109 (by decide +kernel) (by decide +kernel)
theorem gV_X9_37 : GoodIn tblG (wsV RX9 37 RX6 yX6_get (wsG yX6_get cX6_get 3 (some .int))) := tgV ml_X9_37 im_X6_get se_X6_get ini_X6 gW_X6_get
set_option maxHeartbeats 4000000 in
set_option maxRecDepth 100000 in
theorem a_isEverIn (l : Launch) (G : g5_G) (a_h a_b a_bn a_wk a_l a_g a_s a_p a_w a_bb a_k a_go a_mt : Nat) (sz : Nat) (e_le : Int32) (e_st : Int32) (e_fo : Int32) (e_lc : Int32) (e_b : Int32) (p_b : Int32) (p_n : Int32) (e_wa : Int64) (e_gb : Int64) (f_b : Nat → Int32) (h_e_b : 0 ≤ e_b.toInt ∧ e_b.toInt ≤ 5) (h_p_n : 0 ≤ p_n.toInt ∧ p_n.toInt ≤ 24) : Met l yX9_isEverIn (wsG yX9_isEverIn cX9_isEverIn 4 (some .boolean)) ({ frames := 1, cells := 0, slots := 0, locals := 22 }) (va_Pc [.ref a_wk, .int p_b, .int p_n] (g5_P G [(a_h, (oc1 e_wa e_le e_st e_fo e_lc a_l a_g a_b a_s a_p a_w e_gb a_bb)), (a_b, (oc6 5 24 a_bn e_b)), (a_bn, (arI G 120 f_b)), (a_wk, (oc9 a_h a_k a_go a_mt))] sz)) (va_Qi (fun (r : Int32) (u : va_W) => (∃ (o_r : Int32), (0 ≤ o_r.toInt ∧ o_r.toInt ≤ 1) ∧ (r = o_r) ∧ (u = [(a_h, (oc1 e_wa e_le e_st e_fo e_lc a_l a_g a_b a_s a_p a_w e_gb a_bb)), (a_b, (oc6 5 24 a_bn e_b)), (a_bn, (arI G 120 f_b)), (a_wk, (oc9 a_h a_k a_go a_mt))]))) (g5_B G (va_A [(a_h, (oc1 e_wa e_le e_st e_fo e_lc a_l a_g a_b a_s a_p a_w e_gb a_bb)), (a_b, (oc6 5 24 a_bn e_b)), (a_bn, (arI G 120 f_b)), (a_wk, (oc9 a_h a_k a_go a_mt))] sz)) (va_A [(a_h, (oc1 e_wa e_le e_st e_fo e_lc a_l a_g a_b a_s a_p a_w e_gb a_bb)), (a_b, (oc6 5 24 a_bn e_b)), (a_bn, (arI G 120 f_b)), (a_wk, (oc9 a_h a_k a_go a_mt))] sz)) 0 0 (va_A [(a_h, (oc1 e_wa e_le e_st e_fo e_lc a_l a_g a_b a_s a_p a_w e_gb a_bb)), (a_b, (oc6 5 24 a_bn e_b)), (a_bn, (arI G 120 f_b)), (a_wk, (oc9 a_h a_k a_go a_mt))] sz) := by
  refine Met.ofW (cc := cX9_isEverIn) (maxL := 4) (ret := (some .boolean)) (by decide) rfl ?_
  intro p e s m args below meth c s₁ B hml hv
  obtain ⟨rfl, hsz, hP, hK, hD0, hN, hT⟩ := hv
  have hx := B.exec
  have hb := B.bytes
  have hr := B.returns
  have hts : ∀ w ∈ tblG, w.before _ s = true := fun w h => atoms_spec (ws := (wsG yX9_isEverIn cX9_isEverIn 4 (some .boolean))) B.pre w (List.mem_cons_of_mem _ h)
  have hown : s.vm.findClass RX9 = some m.cls := findClass_of_methodNamed B.named
  have hlocks := B.notSynchronized
  subst hsz
  have hD := hD0.self (sz := s.heap.size)
  generalize hAe : va_A [(a_h, (oc1 e_wa e_le e_st e_fo e_lc a_l a_g a_b a_s a_p a_w e_gb a_bb)), (a_b, (oc6 5 24 a_bn e_b)), (a_bn, (arI G 120 f_b)), (a_wk, (oc9 a_h a_k a_go a_mt))] s.heap.size = A at hD hT ⊢
  have hA : ∀ q : Nat, s.heap.size ≤ q → A q := fun q h => by rw [← hAe]; exact Or.inr h
  have hS : va_S A s.heap s.heap [] := va_S.rf
  have hP : va_P G.1 vwCl [(a_h, (oc1 e_wa e_le e_st e_fo e_lc a_l a_g a_b a_s a_p a_w e_gb a_bb)), (a_b, (oc6 5 24 a_bn e_b)), (a_bn, (arI G 120 f_b)), (a_wk, (oc9 a_h a_k a_go a_mt))] s.heap := hP
  have hl := lv_entry ([.ref a_wk, .int p_b, .int p_n]) (n := 4) (Nat.le_of_ble_eq_true rfl)
  rw [lg_entry_eq]
  generalize (lg_sl ([.ref a_wk, .int p_b, .int p_n]) ++ List.replicate (4 - (lg_sl ([.ref a_wk, .int p_b, .int p_n])).length) Slot.unset).toArray = ls at hl ⊢
  have hl : lv_has ls 4 [(0, .ref a_wk), (1, .int p_b), (2, .int p_n)] := hl
  refine lv_iconst (v := 0) hx hb dX9_isEverIn_0 (by decide) ?_
  refine lv_istore_n (lv' := [(3, .int 0), (0, .ref a_wk), (1, .int p_b), (2, .int p_n)]) hx hb dX9_isEverIn_1 rfl hl (by decide) rfl (fun ls hl => ?_)
  refine g5_loop (α := (Int32)) (fun (k_i : (Int32)) (ls : Array Slot) (H : Heap) (locs : List Loc) => lv_has ls 4 [(3, .int k_i), (0, .ref a_wk), (1, .int p_b), (2, .int p_n)] ∧ va_P G.1 vwCl [(a_h, (oc1 e_wa e_le e_st e_fo e_lc a_l a_g a_b a_s a_p a_w e_gb a_bb)), (a_b, (oc6 5 24 a_bn e_b)), (a_bn, (arI G 120 f_b)), (a_wk, (oc9 a_h a_k a_go a_mt))] H ∧ va_D A [(a_h, (oc1 e_wa e_le e_st e_fo e_lc a_l a_g a_b a_s a_p a_w e_gb a_bb)), (a_b, (oc6 5 24 a_bn e_b)), (a_bn, (arI G 120 f_b)), (a_wk, (oc9 a_h a_k a_go a_mt))] ∧ va_S A s.heap H locs ∧ (0 ≤ k_i.toInt ∧ k_i.toInt ≤ 24)) (fun (k_i : (Int32)) => Int.toNat (24 - k_i.toInt)) 0 ⟨lv_sub hl [0, 1, 2, 3] rfl, hP, hD, hS, ⟨by decide, by decide⟩⟩ ?_
  rintro k_i ls H locs ⟨hl, hP, hD, hS, i_1⟩ ih_2_2
  have hl : lv_has ls 4 [(3, .int k_i), (0, .ref a_wk), (1, .int p_b), (2, .int p_n)] := hl
  have i_1 : 0 ≤ k_i.toInt ∧ k_i.toInt ≤ 24 := i_1
  refine g5_rs [(a_h, (oc1 e_wa e_le e_st e_fo e_lc a_l a_g a_b a_s a_p a_w e_gb a_bb)), (a_b, (oc6 5 24 a_bn e_b)), (a_bn, (arI G 120 f_b)), (a_wk, (oc9 a_h a_k a_go a_mt))] hP hD (fun hP hD => ?_)
  refine lv_iload_n hx hb dX9_isEverIn_2 rfl (lv_at hl 0 rfl) ?_
  refine lv_iload_n hx hb dX9_isEverIn_3 rfl (lv_at hl 3 rfl) ?_
  refine lv_icmp_ge (tgt := 31) hx hb dX9_isEverIn_4 (by decide) (fun c_3 => ?_) (fun c_3 => ?_)
  ·
    have i_3 : k_i.toInt ≥ p_n.toInt := by have z := g5_ge (a := k_i.toInt) (b := p_n.toInt) (by rfl) (by rfl) c_3; omega
    refine lv_iconst (v := 0) hx hb dX9_isEverIn_31 (by decide) ?_
    exact W.zret (v := 0) hx hb hr rfl (fun t ht hW => ⟨⟨0, [(a_h, (oc1 e_wa e_le e_st e_fo e_lc a_l a_g a_b a_s a_p a_w e_gb a_bb)), (a_b, (oc6 5 24 a_bn e_b)), (a_bn, (arI G 120 f_b)), (a_wk, (oc9 a_h a_k a_go a_mt))], rfl, ⟨0, ⟨by have zc_o_r : (0 : Int32).toInt = 0 := (by decide); omega, by have zc_o_r : (0 : Int32).toInt = 0 := (by decide); omega⟩, rfl, rfl⟩, by rw [ht]; exact hP.sub [0, 1, 2, 3] rfl, hD.sub [0, 1, 2, 3] (by decide) rfl⟩, hS.F ht⟩) hS.2.2 dX9_isEverIn_32
  ·
    have i_3 : k_i.toInt < p_n.toInt := by have z := g5_geN (a := k_i.toInt) (b := p_n.toInt) (by rfl) (by rfl) c_3; omega
    refine lv_aload_n hx hb dX9_isEverIn_7 rfl (lv_at hl 1 rfl) ?_
    refine va_get (D := G.1) (ci := 9) (v := .ref a_h) (C := RX9) (T := TX9) (N := 4) hx hb hts inG_X9 hown hK hP 3 rfl rfl 0 (by decide) (hts _ fl_X9_19) (fun _ h9 => h9) rfl dX9_isEverIn_8 ?_
    refine va_get (D := G.1) (ci := 1) (v := .ref a_b) (C := RX1) (T := TX1) (N := 13) hx hb hts inG_X1 hown hK hP 0 rfl rfl 7 (by decide) (hts _ fl_X9_31) (fun _ h9 => h9) rfl dX9_isEverIn_11 ?_
    refine lv_iload_n hx hb dX9_isEverIn_14 rfl (lv_at hl 2 rfl) ?_
    refine lv_iload_n hx hb dX9_isEverIn_15 rfl (lv_at hl 0 rfl) ?_
    obtain ⟨hPc, hDc, hFc⟩ := g5_sub3 (wc := [(a_b, (oc6 5 24 a_bn e_b)), (a_bn, (arI G 120 f_b))]) hP hD hS hA [1, 2] (by decide) rfl
    refine va_calli (va_runV (As := [.int p_b, .int k_i]) (rest := []) ⟨hx, hb, hml, hown, hts⟩ (t_get_B l G a_b a_bn H.size e_b p_b k_i f_b h_e_b) (cwV 2 hts gV_X9_37 rfl rfl rfl hv_X6_get ⟨Nat.le_of_ble_eq_true rfl, Nat.le_of_ble_eq_true rfl⟩) (g5_preV hPc hK hDc hN hT hS hFc (ci := 6) (q0 := 0) rfl rfl) rfl rfl hl.1 rfl (lv_room (Nat.le_of_ble_eq_true rfl)) dX9_isEverIn_16 ⟨Nat.le_of_ble_eq_true rfl, Nat.le_of_ble_eq_true rfl⟩) hS (fun q _ h => hFc q h) hFc (fun r u t H1 locs ht hvm hw hB hz1 hk1 hS => ?_)
    obtain ⟨hP1, hD1⟩ := hB
    rw [ht] at hP1
    obtain ⟨z5, i_4, y6, rfl⟩ := hw
    have i_4 : z5 = tget f_b e_b.toInt 24 p_b.toInt k_i.toInt := i_4
    obtain ⟨hP, hD⟩ := va_join (wr := [(a_h, (oc1 e_wa e_le e_st e_fo e_lc a_l a_g a_b a_s a_p a_w e_gb a_bb)), (a_wk, (oc9 a_h a_k a_go a_mt))]) hP hD [1, 2] [0, 3] rfl rfl (by decide) (by decide) hk1 hFc hP1 hD1
    generalize H1 = H at hP hS ⊢
    refine g5_rs [(a_h, (oc1 e_wa e_le e_st e_fo e_lc a_l a_g a_b a_s a_p a_w e_gb a_bb)), (a_wk, (oc9 a_h a_k a_go a_mt)), (a_b, (oc6 5 24 a_bn e_b)), (a_bn, (arI G 120 f_b))] hP hD (fun hP hD => ?_)
    refine g5_ti (v := z5) y6 ?_
    refine lv_iconst (v := (-1)) hx hb dX9_isEverIn_19 (by decide) ?_
    refine lv_icmp_eq (tgt := 25) hx hb dX9_isEverIn_20 (by decide) (fun c_7 => ?_) (fun c_7 => ?_)
    ·
      have i_7 : z5.toInt = (-1) := by have z := g5_eq (a := z5.toInt) (b := (-1)) (by rfl) (by decide) c_7; omega
      refine lv_iinc (v := (k_i + 1)) (lv' := [(3, .int (k_i + 1)), (0, .ref a_wk), (1, .int p_b), (2, .int p_n)]) hx hb dX9_isEverIn_25 hl (k := 0) rfl rfl (by decide) rfl (fun ls hl => ?_)
      have t_8 : (k_i + 1).toInt = k_i.toInt + 1 := g5_iadd (a := k_i.toInt) (b := 1) rfl (by decide) (by omega) (by omega)
      refine lv_goto (tgt := 2) hx hb dX9_isEverIn_28 (by decide) ?_
      exact ih_2_2 (k_i + 1) ls H locs (show Int.toNat (24 - (k_i + 1).toInt) < Int.toNat (24 - k_i.toInt) from g_up (show k_i.toInt < (k_i + 1).toInt by omega) (show k_i.toInt < 24 by omega)) ⟨lv_sub hl [0, 1, 2, 3] rfl, hP.sub [0, 2, 3, 1] rfl, hD.sub [0, 2, 3, 1] (by decide) rfl, hS, ⟨by omega, by omega⟩⟩
    ·
      have n_7 : gNe (z5.toInt) ((-1)) := by have z := g5_eqN (a := z5.toInt) (b := (-1)) (by rfl) (by decide) c_7; unfold gNe; omega
      refine lv_iconst (v := 1) hx hb dX9_isEverIn_23 (by decide) ?_
      exact W.zret (v := 1) hx hb hr rfl (fun t ht hW => ⟨⟨1, [(a_h, (oc1 e_wa e_le e_st e_fo e_lc a_l a_g a_b a_s a_p a_w e_gb a_bb)), (a_b, (oc6 5 24 a_bn e_b)), (a_bn, (arI G 120 f_b)), (a_wk, (oc9 a_h a_k a_go a_mt))], rfl, ⟨1, ⟨by have zc_o_r : (1 : Int32).toInt = 1 := (by decide); omega, by have zc_o_r : (1 : Int32).toInt = 1 := (by decide); omega⟩, rfl, rfl⟩, by rw [ht]; exact hP.sub [0, 2, 3, 1] rfl, hD.sub [0, 2, 3, 1] (by decide) rfl⟩, hS.F ht⟩) hS.2.2 dX9_isEverIn_24
theorem dgX9_firstSight_0 : ∀ r ∈ ([(0, (.lconst 1, 1)), (1, (.iload_n 2, 1)), (2, (.lshl, 1)), (3, (.lstore 5, 2)), (5, (.aload_n 0, 1)), (6, (.iload_n 1, 1)), (7, (.iload_n 3, 1)), (8, (.invokevirtual 27, 3)), (11, (.istore 7, 2)), (13, (.iload_n 3, 1)), (14, (.istore 8, 2)), (16, (.iload 8, 2)), (18, (.iload 4, 2)), (20, (.if_icmp .ge 168, 3)), (23, (.iload 7, 2)), (25, (.ifCond .ne 20, 3)), (28, (.aload_n 0, 1)), (29, (.getfield 19, 3)), (32, (.getfield 31, 3)), (35, (.iload_n 1, 1)), (36, (.iload 8, 2)), (38, (.invokevirtual 37, 3)), (41, (.iconst (-1), 1)), (42, (.if_icmp .eq 7, 3)), (45, (.iconst 1, 1)), (46, (.goto 4, 3)), (49, (.iconst 0, 1)), (50, (.istore 7, 2)), (52, (.lconst 0, 1)), (53, (.lstore 9, 2)), (55, (.iconst 0, 1)), (56, (.istore 11, 2)), (58, (.iload 11, 2)), (60, (.bipush 64, 2)), (62, (.if_icmp .ge 93, 3)), (65, (.iload 7, 2)), (67, (.ifCond .eq 32, 3)), (70, (.lload 5, 2)), (72, (.iload 11, 2)), (74, (.invokestatic 43, 3))] : List (Nat × (Instr × Nat))), decode cX9_firstSight r.1 = .ok r.2 := by decide +kernel
theorem dX9_firstSight_0 : decode cX9_firstSight 0 = .ok (.lconst 1, 1) := dgX9_firstSight_0 (0, (.lconst 1, 1)) (List.mem_of_getElem? (i := 0) rfl)
theorem dX9_firstSight_1 : decode cX9_firstSight 1 = .ok (.iload_n 2, 1) := dgX9_firstSight_0 (1, (.iload_n 2, 1)) (List.mem_of_getElem? (i := 1) rfl)
theorem dX9_firstSight_2 : decode cX9_firstSight 2 = .ok (.lshl, 1) := dgX9_firstSight_0 (2, (.lshl, 1)) (List.mem_of_getElem? (i := 2) rfl)
theorem dX9_firstSight_3 : decode cX9_firstSight 3 = .ok (.lstore 5, 2) := dgX9_firstSight_0 (3, (.lstore 5, 2)) (List.mem_of_getElem? (i := 3) rfl)
theorem dX9_firstSight_5 : decode cX9_firstSight 5 = .ok (.aload_n 0, 1) := dgX9_firstSight_0 (5, (.aload_n 0, 1)) (List.mem_of_getElem? (i := 4) rfl)
theorem dX9_firstSight_6 : decode cX9_firstSight 6 = .ok (.iload_n 1, 1) := dgX9_firstSight_0 (6, (.iload_n 1, 1)) (List.mem_of_getElem? (i := 5) rfl)
theorem dX9_firstSight_7 : decode cX9_firstSight 7 = .ok (.iload_n 3, 1) := dgX9_firstSight_0 (7, (.iload_n 3, 1)) (List.mem_of_getElem? (i := 6) rfl)
theorem dX9_firstSight_8 : decode cX9_firstSight 8 = .ok (.invokevirtual 27, 3) := dgX9_firstSight_0 (8, (.invokevirtual 27, 3)) (List.mem_of_getElem? (i := 7) rfl)
theorem dX9_firstSight_11 : decode cX9_firstSight 11 = .ok (.istore 7, 2) := dgX9_firstSight_0 (11, (.istore 7, 2)) (List.mem_of_getElem? (i := 8) rfl)
theorem dX9_firstSight_13 : decode cX9_firstSight 13 = .ok (.iload_n 3, 1) := dgX9_firstSight_0 (13, (.iload_n 3, 1)) (List.mem_of_getElem? (i := 9) rfl)
theorem dX9_firstSight_14 : decode cX9_firstSight 14 = .ok (.istore 8, 2) := dgX9_firstSight_0 (14, (.istore 8, 2)) (List.mem_of_getElem? (i := 10) rfl)
theorem dX9_firstSight_16 : decode cX9_firstSight 16 = .ok (.iload 8, 2) := dgX9_firstSight_0 (16, (.iload 8, 2)) (List.mem_of_getElem? (i := 11) rfl)
theorem dX9_firstSight_18 : decode cX9_firstSight 18 = .ok (.iload 4, 2) := dgX9_firstSight_0 (18, (.iload 4, 2)) (List.mem_of_getElem? (i := 12) rfl)
theorem dX9_firstSight_20 : decode cX9_firstSight 20 = .ok (.if_icmp .ge 168, 3) := dgX9_firstSight_0 (20, (.if_icmp .ge 168, 3)) (List.mem_of_getElem? (i := 13) rfl)
theorem dX9_firstSight_23 : decode cX9_firstSight 23 = .ok (.iload 7, 2) := dgX9_firstSight_0 (23, (.iload 7, 2)) (List.mem_of_getElem? (i := 14) rfl)
theorem dX9_firstSight_25 : decode cX9_firstSight 25 = .ok (.ifCond .ne 20, 3) := dgX9_firstSight_0 (25, (.ifCond .ne 20, 3)) (List.mem_of_getElem? (i := 15) rfl)
theorem dX9_firstSight_28 : decode cX9_firstSight 28 = .ok (.aload_n 0, 1) := dgX9_firstSight_0 (28, (.aload_n 0, 1)) (List.mem_of_getElem? (i := 16) rfl)
theorem dX9_firstSight_29 : decode cX9_firstSight 29 = .ok (.getfield 19, 3) := dgX9_firstSight_0 (29, (.getfield 19, 3)) (List.mem_of_getElem? (i := 17) rfl)
theorem dX9_firstSight_32 : decode cX9_firstSight 32 = .ok (.getfield 31, 3) := dgX9_firstSight_0 (32, (.getfield 31, 3)) (List.mem_of_getElem? (i := 18) rfl)
theorem dX9_firstSight_35 : decode cX9_firstSight 35 = .ok (.iload_n 1, 1) := dgX9_firstSight_0 (35, (.iload_n 1, 1)) (List.mem_of_getElem? (i := 19) rfl)
theorem dX9_firstSight_36 : decode cX9_firstSight 36 = .ok (.iload 8, 2) := dgX9_firstSight_0 (36, (.iload 8, 2)) (List.mem_of_getElem? (i := 20) rfl)
theorem dX9_firstSight_38 : decode cX9_firstSight 38 = .ok (.invokevirtual 37, 3) := dgX9_firstSight_0 (38, (.invokevirtual 37, 3)) (List.mem_of_getElem? (i := 21) rfl)
theorem dX9_firstSight_41 : decode cX9_firstSight 41 = .ok (.iconst (-1), 1) := dgX9_firstSight_0 (41, (.iconst (-1), 1)) (List.mem_of_getElem? (i := 22) rfl)
theorem dX9_firstSight_42 : decode cX9_firstSight 42 = .ok (.if_icmp .eq 7, 3) := dgX9_firstSight_0 (42, (.if_icmp .eq 7, 3)) (List.mem_of_getElem? (i := 23) rfl)
theorem dX9_firstSight_45 : decode cX9_firstSight 45 = .ok (.iconst 1, 1) := dgX9_firstSight_0 (45, (.iconst 1, 1)) (List.mem_of_getElem? (i := 24) rfl)
theorem dX9_firstSight_46 : decode cX9_firstSight 46 = .ok (.goto 4, 3) := dgX9_firstSight_0 (46, (.goto 4, 3)) (List.mem_of_getElem? (i := 25) rfl)
theorem dX9_firstSight_49 : decode cX9_firstSight 49 = .ok (.iconst 0, 1) := dgX9_firstSight_0 (49, (.iconst 0, 1)) (List.mem_of_getElem? (i := 26) rfl)
theorem dX9_firstSight_50 : decode cX9_firstSight 50 = .ok (.istore 7, 2) := dgX9_firstSight_0 (50, (.istore 7, 2)) (List.mem_of_getElem? (i := 27) rfl)
theorem dX9_firstSight_52 : decode cX9_firstSight 52 = .ok (.lconst 0, 1) := dgX9_firstSight_0 (52, (.lconst 0, 1)) (List.mem_of_getElem? (i := 28) rfl)
theorem dX9_firstSight_53 : decode cX9_firstSight 53 = .ok (.lstore 9, 2) := dgX9_firstSight_0 (53, (.lstore 9, 2)) (List.mem_of_getElem? (i := 29) rfl)
theorem dX9_firstSight_55 : decode cX9_firstSight 55 = .ok (.iconst 0, 1) := dgX9_firstSight_0 (55, (.iconst 0, 1)) (List.mem_of_getElem? (i := 30) rfl)
theorem dX9_firstSight_56 : decode cX9_firstSight 56 = .ok (.istore 11, 2) := dgX9_firstSight_0 (56, (.istore 11, 2)) (List.mem_of_getElem? (i := 31) rfl)
theorem dX9_firstSight_58 : decode cX9_firstSight 58 = .ok (.iload 11, 2) := dgX9_firstSight_0 (58, (.iload 11, 2)) (List.mem_of_getElem? (i := 32) rfl)
theorem dX9_firstSight_60 : decode cX9_firstSight 60 = .ok (.bipush 64, 2) := dgX9_firstSight_0 (60, (.bipush 64, 2)) (List.mem_of_getElem? (i := 33) rfl)
theorem dX9_firstSight_62 : decode cX9_firstSight 62 = .ok (.if_icmp .ge 93, 3) := dgX9_firstSight_0 (62, (.if_icmp .ge 93, 3)) (List.mem_of_getElem? (i := 34) rfl)
theorem dX9_firstSight_65 : decode cX9_firstSight 65 = .ok (.iload 7, 2) := dgX9_firstSight_0 (65, (.iload 7, 2)) (List.mem_of_getElem? (i := 35) rfl)
theorem dX9_firstSight_67 : decode cX9_firstSight 67 = .ok (.ifCond .eq 32, 3) := dgX9_firstSight_0 (67, (.ifCond .eq 32, 3)) (List.mem_of_getElem? (i := 36) rfl)
theorem dX9_firstSight_70 : decode cX9_firstSight 70 = .ok (.lload 5, 2) := dgX9_firstSight_0 (70, (.lload 5, 2)) (List.mem_of_getElem? (i := 37) rfl)
theorem dX9_firstSight_72 : decode cX9_firstSight 72 = .ok (.iload 11, 2) := dgX9_firstSight_0 (72, (.iload 11, 2)) (List.mem_of_getElem? (i := 38) rfl)
theorem dX9_firstSight_74 : decode cX9_firstSight 74 = .ok (.invokestatic 43, 3) := dgX9_firstSight_0 (74, (.invokestatic 43, 3)) (List.mem_of_getElem? (i := 39) rfl)
theorem dgX9_firstSight_1 : ∀ r ∈ ([(77, (.ifCond .eq 22, 3)), (80, (.aload_n 0, 1)), (81, (.getfield 23, 3)), (84, (.iload_n 1, 1)), (85, (.iload 11, 2)), (87, (.iload 8, 2)), (89, (.invokevirtual 47, 3)), (92, (.ifCond .eq 7, 3)), (95, (.iconst 1, 1)), (96, (.goto 4, 3)), (99, (.iconst 0, 1)), (100, (.istore 12, 2)), (102, (.lload 9, 2)), (104, (.iload 12, 2)), (106, (.ifCond .eq 10, 3)), (109, (.lconst 1, 1)), (110, (.iload 11, 2)), (112, (.lshl, 1)), (113, (.goto 4, 3)), (116, (.lconst 0, 1)), (117, (.lor, 1)), (118, (.lstore 9, 2)), (120, (.aload_n 0, 1)), (121, (.getfield 15, 3)), (124, (.iload 8, 2)), (126, (.bipush 64, 2)), (128, (.imul, 1)), (129, (.iload 11, 2)), (131, (.iadd, 1)), (132, (.iload 7, 2)), (134, (.ifCond .eq 13, 3)), (137, (.aload_n 0, 1)), (138, (.getfield 23, 3)), (141, (.getfield 53, 3)), (144, (.goto 4, 3)), (147, (.iconst 0, 1)), (148, (.iastore, 1)), (149, (.iinc 11 1, 3)), (152, (.goto (-94), 3)), (155, (.aload_n 0, 1))] : List (Nat × (Instr × Nat))), decode cX9_firstSight r.1 = .ok r.2 := by decide +kernel
theorem dX9_firstSight_77 : decode cX9_firstSight 77 = .ok (.ifCond .eq 22, 3) := dgX9_firstSight_1 (77, (.ifCond .eq 22, 3)) (List.mem_of_getElem? (i := 0) rfl)
theorem dX9_firstSight_80 : decode cX9_firstSight 80 = .ok (.aload_n 0, 1) := dgX9_firstSight_1 (80, (.aload_n 0, 1)) (List.mem_of_getElem? (i := 1) rfl)
theorem dX9_firstSight_81 : decode cX9_firstSight 81 = .ok (.getfield 23, 3) := dgX9_firstSight_1 (81, (.getfield 23, 3)) (List.mem_of_getElem? (i := 2) rfl)
theorem dX9_firstSight_84 : decode cX9_firstSight 84 = .ok (.iload_n 1, 1) := dgX9_firstSight_1 (84, (.iload_n 1, 1)) (List.mem_of_getElem? (i := 3) rfl)
theorem dX9_firstSight_85 : decode cX9_firstSight 85 = .ok (.iload 11, 2) := dgX9_firstSight_1 (85, (.iload 11, 2)) (List.mem_of_getElem? (i := 4) rfl)
theorem dX9_firstSight_87 : decode cX9_firstSight 87 = .ok (.iload 8, 2) := dgX9_firstSight_1 (87, (.iload 8, 2)) (List.mem_of_getElem? (i := 5) rfl)
theorem dX9_firstSight_89 : decode cX9_firstSight 89 = .ok (.invokevirtual 47, 3) := dgX9_firstSight_1 (89, (.invokevirtual 47, 3)) (List.mem_of_getElem? (i := 6) rfl)
theorem dX9_firstSight_92 : decode cX9_firstSight 92 = .ok (.ifCond .eq 7, 3) := dgX9_firstSight_1 (92, (.ifCond .eq 7, 3)) (List.mem_of_getElem? (i := 7) rfl)
theorem dX9_firstSight_95 : decode cX9_firstSight 95 = .ok (.iconst 1, 1) := dgX9_firstSight_1 (95, (.iconst 1, 1)) (List.mem_of_getElem? (i := 8) rfl)
theorem dX9_firstSight_96 : decode cX9_firstSight 96 = .ok (.goto 4, 3) := dgX9_firstSight_1 (96, (.goto 4, 3)) (List.mem_of_getElem? (i := 9) rfl)
theorem dX9_firstSight_99 : decode cX9_firstSight 99 = .ok (.iconst 0, 1) := dgX9_firstSight_1 (99, (.iconst 0, 1)) (List.mem_of_getElem? (i := 10) rfl)
theorem dX9_firstSight_100 : decode cX9_firstSight 100 = .ok (.istore 12, 2) := dgX9_firstSight_1 (100, (.istore 12, 2)) (List.mem_of_getElem? (i := 11) rfl)
theorem dX9_firstSight_102 : decode cX9_firstSight 102 = .ok (.lload 9, 2) := dgX9_firstSight_1 (102, (.lload 9, 2)) (List.mem_of_getElem? (i := 12) rfl)
theorem dX9_firstSight_104 : decode cX9_firstSight 104 = .ok (.iload 12, 2) := dgX9_firstSight_1 (104, (.iload 12, 2)) (List.mem_of_getElem? (i := 13) rfl)
theorem dX9_firstSight_106 : decode cX9_firstSight 106 = .ok (.ifCond .eq 10, 3) := dgX9_firstSight_1 (106, (.ifCond .eq 10, 3)) (List.mem_of_getElem? (i := 14) rfl)
theorem dX9_firstSight_109 : decode cX9_firstSight 109 = .ok (.lconst 1, 1) := dgX9_firstSight_1 (109, (.lconst 1, 1)) (List.mem_of_getElem? (i := 15) rfl)
theorem dX9_firstSight_110 : decode cX9_firstSight 110 = .ok (.iload 11, 2) := dgX9_firstSight_1 (110, (.iload 11, 2)) (List.mem_of_getElem? (i := 16) rfl)
theorem dX9_firstSight_112 : decode cX9_firstSight 112 = .ok (.lshl, 1) := dgX9_firstSight_1 (112, (.lshl, 1)) (List.mem_of_getElem? (i := 17) rfl)
theorem dX9_firstSight_113 : decode cX9_firstSight 113 = .ok (.goto 4, 3) := dgX9_firstSight_1 (113, (.goto 4, 3)) (List.mem_of_getElem? (i := 18) rfl)
theorem dX9_firstSight_116 : decode cX9_firstSight 116 = .ok (.lconst 0, 1) := dgX9_firstSight_1 (116, (.lconst 0, 1)) (List.mem_of_getElem? (i := 19) rfl)
theorem dX9_firstSight_117 : decode cX9_firstSight 117 = .ok (.lor, 1) := dgX9_firstSight_1 (117, (.lor, 1)) (List.mem_of_getElem? (i := 20) rfl)
theorem dX9_firstSight_118 : decode cX9_firstSight 118 = .ok (.lstore 9, 2) := dgX9_firstSight_1 (118, (.lstore 9, 2)) (List.mem_of_getElem? (i := 21) rfl)
theorem dX9_firstSight_120 : decode cX9_firstSight 120 = .ok (.aload_n 0, 1) := dgX9_firstSight_1 (120, (.aload_n 0, 1)) (List.mem_of_getElem? (i := 22) rfl)
theorem dX9_firstSight_121 : decode cX9_firstSight 121 = .ok (.getfield 15, 3) := dgX9_firstSight_1 (121, (.getfield 15, 3)) (List.mem_of_getElem? (i := 23) rfl)
theorem dX9_firstSight_124 : decode cX9_firstSight 124 = .ok (.iload 8, 2) := dgX9_firstSight_1 (124, (.iload 8, 2)) (List.mem_of_getElem? (i := 24) rfl)
theorem dX9_firstSight_126 : decode cX9_firstSight 126 = .ok (.bipush 64, 2) := dgX9_firstSight_1 (126, (.bipush 64, 2)) (List.mem_of_getElem? (i := 25) rfl)
theorem dX9_firstSight_128 : decode cX9_firstSight 128 = .ok (.imul, 1) := dgX9_firstSight_1 (128, (.imul, 1)) (List.mem_of_getElem? (i := 26) rfl)
theorem dX9_firstSight_129 : decode cX9_firstSight 129 = .ok (.iload 11, 2) := dgX9_firstSight_1 (129, (.iload 11, 2)) (List.mem_of_getElem? (i := 27) rfl)
theorem dX9_firstSight_131 : decode cX9_firstSight 131 = .ok (.iadd, 1) := dgX9_firstSight_1 (131, (.iadd, 1)) (List.mem_of_getElem? (i := 28) rfl)
theorem dX9_firstSight_132 : decode cX9_firstSight 132 = .ok (.iload 7, 2) := dgX9_firstSight_1 (132, (.iload 7, 2)) (List.mem_of_getElem? (i := 29) rfl)
theorem dX9_firstSight_134 : decode cX9_firstSight 134 = .ok (.ifCond .eq 13, 3) := dgX9_firstSight_1 (134, (.ifCond .eq 13, 3)) (List.mem_of_getElem? (i := 30) rfl)
theorem dX9_firstSight_137 : decode cX9_firstSight 137 = .ok (.aload_n 0, 1) := dgX9_firstSight_1 (137, (.aload_n 0, 1)) (List.mem_of_getElem? (i := 31) rfl)
theorem dX9_firstSight_138 : decode cX9_firstSight 138 = .ok (.getfield 23, 3) := dgX9_firstSight_1 (138, (.getfield 23, 3)) (List.mem_of_getElem? (i := 32) rfl)
theorem dX9_firstSight_141 : decode cX9_firstSight 141 = .ok (.getfield 53, 3) := dgX9_firstSight_1 (141, (.getfield 53, 3)) (List.mem_of_getElem? (i := 33) rfl)
theorem dX9_firstSight_144 : decode cX9_firstSight 144 = .ok (.goto 4, 3) := dgX9_firstSight_1 (144, (.goto 4, 3)) (List.mem_of_getElem? (i := 34) rfl)
theorem dX9_firstSight_147 : decode cX9_firstSight 147 = .ok (.iconst 0, 1) := dgX9_firstSight_1 (147, (.iconst 0, 1)) (List.mem_of_getElem? (i := 35) rfl)
theorem dX9_firstSight_148 : decode cX9_firstSight 148 = .ok (.iastore, 1) := dgX9_firstSight_1 (148, (.iastore, 1)) (List.mem_of_getElem? (i := 36) rfl)
theorem dX9_firstSight_149 : decode cX9_firstSight 149 = .ok (.iinc 11 1, 3) := dgX9_firstSight_1 (149, (.iinc 11 1, 3)) (List.mem_of_getElem? (i := 37) rfl)
theorem dX9_firstSight_152 : decode cX9_firstSight 152 = .ok (.goto (-94), 3) := dgX9_firstSight_1 (152, (.goto (-94), 3)) (List.mem_of_getElem? (i := 38) rfl)
theorem dX9_firstSight_155 : decode cX9_firstSight 155 = .ok (.aload_n 0, 1) := dgX9_firstSight_1 (155, (.aload_n 0, 1)) (List.mem_of_getElem? (i := 39) rfl)
theorem dgX9_firstSight_2 : ∀ r ∈ ([(156, (.getfield 9, 3)), (159, (.iload 8, 2)), (161, (.lload 9, 2)), (163, (.lastore, 1)), (164, (.lload 9, 2)), (166, (.lconst 0, 1)), (167, (.lcmp, 1)), (168, (.ifCond .eq 6, 3)), (171, (.iload 8, 2)), (173, (.ireturn, 1)), (174, (.aload_n 0, 1)), (175, (.lload 5, 2)), (177, (.invokevirtual 56, 3)), (180, (.lstore 5, 2)), (182, (.iinc 8 1, 3)), (185, (.goto (-169), 3)), (188, (.iconst (-1), 1)), (189, (.ireturn, 1))] : List (Nat × (Instr × Nat))), decode cX9_firstSight r.1 = .ok r.2 := by decide +kernel
theorem dX9_firstSight_156 : decode cX9_firstSight 156 = .ok (.getfield 9, 3) := dgX9_firstSight_2 (156, (.getfield 9, 3)) (List.mem_of_getElem? (i := 0) rfl)
theorem dX9_firstSight_159 : decode cX9_firstSight 159 = .ok (.iload 8, 2) := dgX9_firstSight_2 (159, (.iload 8, 2)) (List.mem_of_getElem? (i := 1) rfl)
theorem dX9_firstSight_161 : decode cX9_firstSight 161 = .ok (.lload 9, 2) := dgX9_firstSight_2 (161, (.lload 9, 2)) (List.mem_of_getElem? (i := 2) rfl)
theorem dX9_firstSight_163 : decode cX9_firstSight 163 = .ok (.lastore, 1) := dgX9_firstSight_2 (163, (.lastore, 1)) (List.mem_of_getElem? (i := 3) rfl)
theorem dX9_firstSight_164 : decode cX9_firstSight 164 = .ok (.lload 9, 2) := dgX9_firstSight_2 (164, (.lload 9, 2)) (List.mem_of_getElem? (i := 4) rfl)
theorem dX9_firstSight_166 : decode cX9_firstSight 166 = .ok (.lconst 0, 1) := dgX9_firstSight_2 (166, (.lconst 0, 1)) (List.mem_of_getElem? (i := 5) rfl)
theorem dX9_firstSight_167 : decode cX9_firstSight 167 = .ok (.lcmp, 1) := dgX9_firstSight_2 (167, (.lcmp, 1)) (List.mem_of_getElem? (i := 6) rfl)
theorem dX9_firstSight_168 : decode cX9_firstSight 168 = .ok (.ifCond .eq 6, 3) := dgX9_firstSight_2 (168, (.ifCond .eq 6, 3)) (List.mem_of_getElem? (i := 7) rfl)
theorem dX9_firstSight_171 : decode cX9_firstSight 171 = .ok (.iload 8, 2) := dgX9_firstSight_2 (171, (.iload 8, 2)) (List.mem_of_getElem? (i := 8) rfl)
theorem dX9_firstSight_173 : decode cX9_firstSight 173 = .ok (.ireturn, 1) := dgX9_firstSight_2 (173, (.ireturn, 1)) (List.mem_of_getElem? (i := 9) rfl)
theorem dX9_firstSight_174 : decode cX9_firstSight 174 = .ok (.aload_n 0, 1) := dgX9_firstSight_2 (174, (.aload_n 0, 1)) (List.mem_of_getElem? (i := 10) rfl)
theorem dX9_firstSight_175 : decode cX9_firstSight 175 = .ok (.lload 5, 2) := dgX9_firstSight_2 (175, (.lload 5, 2)) (List.mem_of_getElem? (i := 11) rfl)
theorem dX9_firstSight_177 : decode cX9_firstSight 177 = .ok (.invokevirtual 56, 3) := dgX9_firstSight_2 (177, (.invokevirtual 56, 3)) (List.mem_of_getElem? (i := 12) rfl)
theorem dX9_firstSight_180 : decode cX9_firstSight 180 = .ok (.lstore 5, 2) := dgX9_firstSight_2 (180, (.lstore 5, 2)) (List.mem_of_getElem? (i := 13) rfl)
theorem dX9_firstSight_182 : decode cX9_firstSight 182 = .ok (.iinc 8 1, 3) := dgX9_firstSight_2 (182, (.iinc 8 1, 3)) (List.mem_of_getElem? (i := 14) rfl)
theorem dX9_firstSight_185 : decode cX9_firstSight 185 = .ok (.goto (-169), 3) := dgX9_firstSight_2 (185, (.goto (-169), 3)) (List.mem_of_getElem? (i := 15) rfl)
theorem dX9_firstSight_188 : decode cX9_firstSight 188 = .ok (.iconst (-1), 1) := dgX9_firstSight_2 (188, (.iconst (-1), 1)) (List.mem_of_getElem? (i := 16) rfl)
theorem dX9_firstSight_189 : decode cX9_firstSight 189 = .ok (.ireturn, 1) := dgX9_firstSight_2 (189, (.ireturn, 1)) (List.mem_of_getElem? (i := 17) rfl)
theorem ml_X9_27 : Cond.methodLink RX9 27 yX9_isEverIn ∈ tblG := tg 1105 (by decide +kernel) (by decide +kernel)
theorem im_X9_isEverIn : Cond.instanceMethod yX9_isEverIn ∈ tblG := tg 1107 (by decide +kernel) (by decide +kernel)
theorem se_X9_isEverIn : Cond.selects RX9 yX9_isEverIn yX9_isEverIn ∈ tblG := tg 27 (by decide +kernel) (by decide +kernel)
theorem ini_X9 : Cond.initialized RX9 ∈ tblG := tg 96 (by decide +kernel) (by decide +kernel)
theorem cd_X9_isEverIn : Cond.code yX9_isEverIn cX9_isEverIn 4 (some .boolean) ∈ tblG := tg 1108 (by decide +kernel) (by decide +kernel)
theorem gW_X9_isEverIn : GoodIn tblG (wsG yX9_isEverIn cX9_isEverIn 4 (some .boolean)) := tgi cd_X9_isEverIn
theorem gV_X9_27 : GoodIn tblG (wsV RX9 27 RX9 yX9_isEverIn (wsG yX9_isEverIn cX9_isEverIn 4 (some .boolean))) := tgV ml_X9_27 im_X9_isEverIn se_X9_isEverIn ini_X9 gW_X9_isEverIn
theorem hv_X9_isEverIn : yX9_isEverIn.cls = RX9 ∧ yX9_isEverIn.cls ≠ "java/lang/invoke/MethodHandle" ∧ yX9_isEverIn.cls ≠ "java/lang/invoke/VarHandle" ∧ (parseMethodDescriptor yX9_isEverIn.desc).map (fun d => d.parameters.length) = some 2 := by decide +kernel
theorem fl_X9_9 : Cond.fieldLink RX9 9 "LateGlass$Walker" "goals" "[J" ∈ tblG := tg 382 (by decide +kernel) (by decide +kernel)
theorem ml_X9_56 : Cond.methodLink RX9 56 yX9_spread ∈ tblG := tg 1115 (by decide +kernel) (by decide +kernel)
theorem im_X9_spread : Cond.instanceMethod yX9_spread ∈ tblG := tg 1117 (by decide +kernel) (by decide +kernel)
theorem se_X9_spread : Cond.selects RX9 yX9_spread yX9_spread ∈ tblG := tg 28 (by decide +kernel) (by decide +kernel)
theorem cd_X9_spread : Cond.code yX9_spread cX9_spread 5 (some .long) ∈ tblG := tg 1118 (by decide +kernel) (by decide +kernel)
theorem gW_X9_spread : GoodIn tblG (wsG yX9_spread cX9_spread 5 (some .long)) := tgi cd_X9_spread
theorem gV_X9_56 : GoodIn tblG (wsV RX9 56 RX9 yX9_spread (wsG yX9_spread cX9_spread 5 (some .long))) := tgV ml_X9_56 im_X9_spread se_X9_spread ini_X9 gW_X9_spread
theorem hv_X9_spread : yX9_spread.cls = RX9 ∧ yX9_spread.cls ≠ "java/lang/invoke/MethodHandle" ∧ yX9_spread.cls ≠ "java/lang/invoke/VarHandle" ∧ (parseMethodDescriptor yX9_spread.desc).map (fun d => d.parameters.length) = some 1 := by decide +kernel
theorem fl_X9_15 : Cond.fieldLink RX9 15 "LateGlass$Walker" "met" "[I" ∈ tblG := tg 383 (by decide +kernel) (by decide +kernel)
theorem fl_X9_23 : Cond.fieldLink RX9 23 "LateGlass$Walker" "eye" "LLateGlass$Look;" ∈ tblG := tg 381 (by decide +kernel) (by decide +kernel)
theorem fl_X9_53 : Cond.fieldLink RX9 53 "LateGlass$Look" "met" "I" ∈ tblG := tg 261 (by decide +kernel) (by decide +kernel)
theorem ml_X9_47 : Cond.methodLink RX9 47 yX5_findsBody ∈ tblG := tg 1111 (by decide +kernel) (by decide +kernel)
theorem im_X5_findsBody : Cond.instanceMethod yX5_findsBody ∈ tblG := tg 1112 (by decide +kernel) (by decide +kernel)
theorem se_X5_findsBody : Cond.selects RX5 yX5_findsBody yX5_findsBody ∈ tblG := tg 1113 (by decide +kernel) (by decide +kernel)
theorem cd_X5_findsBody : Cond.code yX5_findsBody cX5_findsBody 5 (some .boolean) ∈ tblG := tg 1114 (by decide +kernel) (by decide +kernel)
theorem gW_X5_findsBody : GoodIn tblG (wsG yX5_findsBody cX5_findsBody 5 (some .boolean)) := tgi cd_X5_findsBody
theorem gV_X9_47 : GoodIn tblG (wsV RX9 47 RX5 yX5_findsBody (wsG yX5_findsBody cX5_findsBody 5 (some .boolean))) := tgV ml_X9_47 im_X5_findsBody se_X5_findsBody ini_X5 gW_X5_findsBody
theorem hv_X5_findsBody : yX5_findsBody.cls = RX5 ∧ yX5_findsBody.cls ≠ "java/lang/invoke/MethodHandle" ∧ yX5_findsBody.cls ≠ "java/lang/invoke/VarHandle" ∧ (parseMethodDescriptor yX5_findsBody.desc).map (fun d => d.parameters.length) = some 3 := by decide +kernel
