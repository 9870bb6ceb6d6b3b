set_option maxHeartbeats 4000000 in
set_option maxRecDepth 100000 in
theorem kX11_row (l : Launch) (G : g5_G) (a0 a1 a2 a3 a4 a5 a6 a7 a8 a9 a10 a11 a12 : Nat) (sz : Nat) : Met l yX11_row (wsG yX11_row cX11_row 4 (some .int)) ({ frames := 1, cells := 0, slots := 0, locals := 22 }) (va_Pc [.ref a0] (g5_P G [(a0, .inr (11, [.ref a1, .ref a2, .ref a3, .ref a4, .ref a5, .ref a6, .ref a7, .ref a8, .ref a9, .ref a10, .int 0, .int 0, .int (-1), .ref a11, .int 0, .ref a12, .int 0])), (a12, .inl (G.2 0, 5, .inl (fun _ => 0)))] sz)) (va_Qi (fun (r : Int32) (u : va_W) => ((r = (-6)) ∧ (u = []))) (g5_B G (va_A [(a0, .inr (11, [.ref a1, .ref a2, .ref a3, .ref a4, .ref a5, .ref a6, .ref a7, .ref a8, .ref a9, .ref a10, .int 0, .int 0, .int (-1), .ref a11, .int 0, .ref a12, .int 0])), (a12, .inl (G.2 0, 5, .inl (fun _ => 0)))] sz)) (va_A [(a0, .inr (11, [.ref a1, .ref a2, .ref a3, .ref a4, .ref a5, .ref a6, .ref a7, .ref a8, .ref a9, .ref a10, .int 0, .int 0, .int (-1), .ref a11, .int 0, .ref a12, .int 0])), (a12, .inl (G.2 0, 5, .inl (fun _ => 0)))] sz)) 0 0 (va_A [(a0, .inr (11, [.ref a1, .ref a2, .ref a3, .ref a4, .ref a5, .ref a6, .ref a7, .ref a8, .ref a9, .ref a10, .int 0, .int 0, .int (-1), .ref a11, .int 0, .ref a12, .int 0])), (a12, .inl (G.2 0, 5, .inl (fun _ => 0)))] sz) := by
  refine Met.ofW (cc := cX11_row) (maxL := 4) (ret := (some .int)) (by decide) rfl ?_
  intro p e s m args below meth c s₁ B hml hv
  obtain ⟨rfl, hsz, hP, hK, hD0, hN, hT⟩ := hv
  have hx := B.exec
  have hb := B.bytes
  have hr := B.returns
  have hts : ∀ w ∈ tblG, w.before _ s = true := fun w h => atoms_spec (ws := (wsG yX11_row cX11_row 4 (some .int))) B.pre w (List.mem_cons_of_mem _ h)
  have hown : s.vm.findClass RX11 = some m.cls := findClass_of_methodNamed B.named
  have hlocks := B.notSynchronized
  subst hsz
  have hD := hD0.self (sz := s.heap.size)
  generalize hAe : va_A [(a0, .inr (11, [.ref a1, .ref a2, .ref a3, .ref a4, .ref a5, .ref a6, .ref a7, .ref a8, .ref a9, .ref a10, .int 0, .int 0, .int (-1), .ref a11, .int 0, .ref a12, .int 0])), (a12, .inl (G.2 0, 5, .inl (fun _ => 0)))] s.heap.size = A at hD hT ⊢
  have hA : ∀ q : Nat, s.heap.size ≤ q → A q := fun q h => by rw [← hAe]; exact Or.inr h
  have hS : va_S A s.heap s.heap [] := va_S.rf
  have hP : va_P G.1 vwCl [(a0, .inr (11, [.ref a1, .ref a2, .ref a3, .ref a4, .ref a5, .ref a6, .ref a7, .ref a8, .ref a9, .ref a10, .int 0, .int 0, .int (-1), .ref a11, .int 0, .ref a12, .int 0])), (a12, .inl (G.2 0, 5, .inl (fun _ => 0)))] s.heap := hP
  have hl := lv_entry ([.ref a0]) (n := 4) (Nat.le_of_ble_eq_true rfl)
  rw [lg_entry_eq]
  generalize (lg_sl ([.ref a0]) ++ List.replicate (4 - (lg_sl ([.ref a0])).length) Slot.unset).toArray = ls at hl ⊢
  have hl : lv_has ls 4 [(0, .ref a0)] := hl
  refine lv_aload_n hx hb dX11_row_0 rfl (lv_at hl 0 rfl) ?_
  refine va_get (D := G.1) (ci := 11) (v := .int 0) (C := RX11) (T := TX11) (N := 17) hx hb hts inG_X11 hown hK hP 0 rfl rfl 10 (by decide) (hts _ fl_X11_74) (fun _ h9 => h9) rfl dX11_row_1 ?_
  refine lv_if_ne (tgt := 14) hx hb dX11_row_4 (by decide) (fun c_1 => ?_) (fun c_1 => ?_)
  ·
    exact absurd c_1 (by decide)
  ·
    refine lv_aload_n hx hb dX11_row_7 rfl (lv_at hl 0 rfl) ?_
    refine lv_bipush (v := (-6)) hx hb dX11_row_8 (by decide) ?_
    have hPc := hP.sub (ws' := [(a0, .inr (11, [.ref a1, .ref a2, .ref a3, .ref a4, .ref a5, .ref a6, .ref a7, .ref a8, .ref a9, .ref a10, .int 0, .int 0, .int (-1), .ref a11, .int 0, .ref a12, .int 0])), (a12, .inl (G.2 0, 5, .inl (fun _ => 0)))]) [0, 1] rfl
    have hDc := hD.sub (ws' := [(a0, .inr (11, [.ref a1, .ref a2, .ref a3, .ref a4, .ref a5, .ref a6, .ref a7, .ref a8, .ref a9, .ref a10, .int 0, .int 0, .int (-1), .ref a11, .int 0, .ref a12, .int 0])), (a12, .inl (G.2 0, 5, .inl (fun _ => 0)))]) [0, 1] (by decide) rfl
    have hFc := va_free (wc := [(a0, .inr (11, [.ref a1, .ref a2, .ref a3, .ref a4, .ref a5, .ref a6, .ref a7, .ref a8, .ref a9, .ref a10, .int 0, .int 0, .int (-1), .ref a11, .int 0, .ref a12, .int 0])), (a12, .inl (G.2 0, 5, .inl (fun _ => 0)))]) hD hS hA [0, 1] rfl
    refine va_calli (va_runV (As := [.int (-6)]) (rest := []) ⟨hx, hb, hml, hown, hts⟩ (kX11_refuse_3 l G a0 a1 a2 a3 a4 a5 a6 a7 a8 a9 a10 a11 a12 s.heap.size) (cwV 1 hts gV_X11_104 rfl rfl rfl hv_X11_refuse ⟨Nat.le_of_ble_eq_true rfl, Nat.le_of_ble_eq_true rfl⟩) (g5_preV hPc hK hDc hN hT hS hFc (ci := 11) (q0 := 0) rfl rfl) rfl rfl hl.1 rfl (lv_room (Nat.le_of_ble_eq_true rfl)) dX11_row_10 ⟨Nat.le_of_ble_eq_true rfl, Nat.le_of_ble_eq_true rfl⟩) hS (fun q _ h => hFc q h) hFc (fun r u t H1 locs ht hvm hw hB hz1 hk1 hS => ?_)
    obtain ⟨hP1, hD1⟩ := hB
    rw [ht] at hP1
    obtain ⟨rfl, rfl⟩ := hw
    obtain ⟨hP, hD⟩ := va_join (wr := []) (w1 := [(a0, .inr (11, [.ref a1, .ref a2, .ref a3, .ref a4, .ref a5, .ref a6, .ref a7, .ref a8, .ref a9, .ref a10, .int 0, .int 0, .int (-1), .ref a11, .int 0, .ref a12, .int (-6)])), (a12, .inl (G.2 0, 5, .inl (upd (fun _ => 0) 4 1)))]) hP hD [0, 1] [] rfl rfl (by decide) (by decide) hk1 hFc hP1 hD1
    generalize H1 = H at hP hS ⊢
    have hP : va_P G.1 vwCl [(a0, .inr (11, [.ref a1, .ref a2, .ref a3, .ref a4, .ref a5, .ref a6, .ref a7, .ref a8, .ref a9, .ref a10, .int 0, .int 0, .int (-1), .ref a11, .int 0, .ref a12, .int (-6)])), (a12, .inl (G.2 0, 5, .inl (upd (fun _ => 0) 4 1)))] H := hP
    have hD : va_D A [(a0, .inr (11, [.ref a1, .ref a2, .ref a3, .ref a4, .ref a5, .ref a6, .ref a7, .ref a8, .ref a9, .ref a10, .int 0, .int 0, .int (-1), .ref a11, .int 0, .ref a12, .int (-6)])), (a12, .inl (G.2 0, 5, .inl (upd (fun _ => 0) 4 1)))] := hD
    have hP := hP.sub (ws' := []) [] rfl
    have hD := hD.sub (ws' := []) [] (by decide) rfl
    exact W.iret (v := (-6)) hx hb hr (fun t ht hW => ⟨⟨(-6), [], rfl, ⟨rfl, rfl⟩, by rw [ht]; exact hP, hD⟩, hS.F ht⟩) hS.2.2 dX11_row_13
theorem dX11_faded_0 : decode cX11_faded 0 = .ok (.aload_n 0, 1) := by decide +kernel
theorem dX11_faded_1 : decode cX11_faded 1 = .ok (.getfield 78, 3) := by decide +kernel
theorem dX11_faded_4 : decode cX11_faded 4 = .ok (.ireturn, 1) := by decide +kernel
set_option maxHeartbeats 4000000 in
set_option maxRecDepth 100000 in
theorem kX11_faded (l : Launch) (G : g5_G) (a0 a1 a2 a3 a4 a5 a6 a7 a8 a9 a10 a11 a12 : Nat) (sz : Nat) : Met l yX11_faded (wsG yX11_faded cX11_faded 1 (some .int)) ({ frames := 0, cells := 0, slots := 0, locals := 0 }) (va_Pc [.ref a0] (g5_P G [(a0, .inr (11, [.ref a1, .ref a2, .ref a3, .ref a4, .ref a5, .ref a6, .ref a7, .ref a8, .ref a9, .ref a10, .int 0, .int 0, .int (-1), .ref a11, .int 0, .ref a12, .int 0]))] sz)) (va_Qi (fun (r : Int32) (u : va_W) => ((r = 0) ∧ (u = []))) (g5_B G (va_A [(a0, .inr (11, [.ref a1, .ref a2, .ref a3, .ref a4, .ref a5, .ref a6, .ref a7, .ref a8, .ref a9, .ref a10, .int 0, .int 0, .int (-1), .ref a11, .int 0, .ref a12, .int 0]))] sz)) (va_A [(a0, .inr (11, [.ref a1, .ref a2, .ref a3, .ref a4, .ref a5, .ref a6, .ref a7, .ref a8, .ref a9, .ref a10, .int 0, .int 0, .int (-1), .ref a11, .int 0, .ref a12, .int 0]))] sz)) 0 0 (va_A [(a0, .inr (11, [.ref a1, .ref a2, .ref a3, .ref a4, .ref a5, .ref a6, .ref a7, .ref a8, .ref a9, .ref a10, .int 0, .int 0, .int (-1), .ref a11, .int 0, .ref a12, .int 0]))] sz) := by
  refine Met.ofW (cc := cX11_faded) (maxL := 1) (ret := (some .int)) (by decide) rfl ?_
  intro p e s m args below meth c s₁ B hml hv
  obtain ⟨rfl, hsz, hP, hK, hD0, hN, hT⟩ := hv
  have hx := B.exec
  have hb := B.bytes
  have hr := B.returns
  have hts : ∀ w ∈ tblG, w.before _ s = true := fun w h => atoms_spec (ws := (wsG yX11_faded cX11_faded 1 (some .int))) B.pre w (List.mem_cons_of_mem _ h)
  have hown : s.vm.findClass RX11 = some m.cls := findClass_of_methodNamed B.named
  have hlocks := B.notSynchronized
  subst hsz
  have hD := hD0.self (sz := s.heap.size)
  generalize hAe : va_A [(a0, .inr (11, [.ref a1, .ref a2, .ref a3, .ref a4, .ref a5, .ref a6, .ref a7, .ref a8, .ref a9, .ref a10, .int 0, .int 0, .int (-1), .ref a11, .int 0, .ref a12, .int 0]))] s.heap.size = A at hD hT ⊢
  have hA : ∀ q : Nat, s.heap.size ≤ q → A q := fun q h => by rw [← hAe]; exact Or.inr h
  have hS : va_S A s.heap s.heap [] := va_S.rf
  have hP : va_P G.1 vwCl [(a0, .inr (11, [.ref a1, .ref a2, .ref a3, .ref a4, .ref a5, .ref a6, .ref a7, .ref a8, .ref a9, .ref a10, .int 0, .int 0, .int (-1), .ref a11, .int 0, .ref a12, .int 0]))] s.heap := hP
  have hl := lv_entry ([.ref a0]) (n := 1) (Nat.le_of_ble_eq_true rfl)
  rw [lg_entry_eq]
  generalize (lg_sl ([.ref a0]) ++ List.replicate (1 - (lg_sl ([.ref a0])).length) Slot.unset).toArray = ls at hl ⊢
  have hl : lv_has ls 1 [(0, .ref a0)] := hl
  refine lv_aload_n hx hb dX11_faded_0 rfl (lv_at hl 0 rfl) ?_
  refine va_get (D := G.1) (ci := 11) (v := .int 0) (C := RX11) (T := TX11) (N := 17) hx hb hts inG_X11 hown hK hP 0 rfl rfl 11 (by decide) (hts _ fl_X11_78) (fun _ h9 => h9) rfl dX11_faded_1 ?_
  have hP := hP.sub (ws' := []) [] rfl
  have hD := hD.sub (ws' := []) [] (by decide) rfl
  exact W.iret (v := 0) hx hb hr (fun t ht hW => ⟨⟨0, [], rfl, ⟨rfl, rfl⟩, by rw [ht]; exact hP, hD⟩, hS.F ht⟩) hS.2.2 dX11_faded_4
theorem fl_X11_192 : Cond.fieldLink RX11 192 "LateGlass$House" "lawCount" "I" ∈ tblG := tg 167 (by decide +kernel) (by decide +kernel)
theorem dX8_cut_0 : decode cX8_cut 0 = .ok (.iconst 0, 1) := by decide +kernel
theorem dX8_cut_1 : decode cX8_cut 1 = .ok (.istore_n 3, 1) := by decide +kernel
theorem dX8_cut_2 : decode cX8_cut 2 = .ok (.iconst 0, 1) := by decide +kernel
theorem dX8_cut_3 : decode cX8_cut 3 = .ok (.istore 4, 2) := by decide +kernel
theorem dX8_cut_5 : decode cX8_cut 5 = .ok (.iconst 0, 1) := by decide +kernel
theorem dX8_cut_6 : decode cX8_cut 6 = .ok (.istore 5, 2) := by decide +kernel
theorem dX8_cut_8 : decode cX8_cut 8 = .ok (.iload 5, 2) := by decide +kernel
theorem dX8_cut_10 : decode cX8_cut 10 = .ok (.iload_n 2, 1) := by decide +kernel
theorem dX8_cut_11 : decode cX8_cut 11 = .ok (.if_icmp .ge 90, 3) := by decide +kernel
theorem dX8_cut_14 : decode cX8_cut 14 = .ok (.iload 4, 2) := by decide +kernel
theorem dX8_cut_16 : decode cX8_cut 16 = .ok (.iload_n 2, 1) := by decide +kernel
theorem dX8_cut_17 : decode cX8_cut 17 = .ok (.if_icmp .ge 84, 3) := by decide +kernel
theorem dX8_cut_20 : decode cX8_cut 20 = .ok (.aload_n 1, 1) := by decide +kernel
theorem dX8_cut_21 : decode cX8_cut 21 = .ok (.iload 4, 2) := by decide +kernel
theorem dX8_cut_23 : decode cX8_cut 23 = .ok (.iload_n 2, 1) := by decide +kernel
theorem dX8_cut_24 : decode cX8_cut 24 = .ok (.invokestatic 21, 3) := by decide +kernel
theorem dX8_cut_27 : decode cX8_cut 27 = .ok (.istore 6, 2) := by decide +kernel
theorem dX8_cut_29 : decode cX8_cut 29 = .ok (.aload_n 1, 1) := by decide +kernel
theorem dX8_cut_30 : decode cX8_cut 30 = .ok (.iload 4, 2) := by decide +kernel
theorem dX8_cut_32 : decode cX8_cut 32 = .ok (.iaload, 1) := by decide +kernel
theorem dX8_cut_33 : decode cX8_cut 33 = .ok (.bipush 32, 2) := by decide +kernel
theorem dX8_cut_35 : decode cX8_cut 35 = .ok (.if_icmp .eq 56, 3) := by decide +kernel
theorem dX8_cut_38 : decode cX8_cut 38 = .ok (.aload_n 0, 1) := by decide +kernel
theorem dX8_cut_39 : decode cX8_cut 39 = .ok (.getfield 18, 3) := by decide +kernel
theorem dX8_cut_42 : decode cX8_cut 42 = .ok (.iload_n 3, 1) := by decide +kernel
theorem dX8_cut_43 : decode cX8_cut 43 = .ok (.iload 4, 2) := by decide +kernel
theorem dX8_cut_45 : decode cX8_cut 45 = .ok (.iastore, 1) := by decide +kernel
theorem dX8_cut_46 : decode cX8_cut 46 = .ok (.aload_n 0, 1) := by decide +kernel
theorem dX8_cut_47 : decode cX8_cut 47 = .ok (.getfield 15, 3) := by decide +kernel
theorem dX8_cut_50 : decode cX8_cut 50 = .ok (.iload_n 3, 1) := by decide +kernel
theorem dX8_cut_51 : decode cX8_cut 51 = .ok (.aload_n 1, 1) := by decide +kernel
theorem dX8_cut_52 : decode cX8_cut 52 = .ok (.iload 4, 2) := by decide +kernel
theorem dX8_cut_54 : decode cX8_cut 54 = .ok (.iaload, 1) := by decide +kernel
theorem dX8_cut_55 : decode cX8_cut 55 = .ok (.invokestatic 25, 3) := by decide +kernel
theorem dX8_cut_58 : decode cX8_cut 58 = .ok (.ifCond .eq 14, 3) := by decide +kernel
theorem dX8_cut_61 : decode cX8_cut 61 = .ok (.aload_n 1, 1) := by decide +kernel
theorem dX8_cut_62 : decode cX8_cut 62 = .ok (.iload 4, 2) := by decide +kernel
theorem dX8_cut_64 : decode cX8_cut 64 = .ok (.iload 6, 2) := by decide +kernel
theorem dX8_cut_66 : decode cX8_cut 66 = .ok (.invokestatic 29, 3) := by decide +kernel
theorem dX8_cut_69 : decode cX8_cut 69 = .ok (.goto 4, 3) := by decide +kernel
theorem dX8_cut_72 : decode cX8_cut 72 = .ok (.iconst 0, 1) := by decide +kernel
theorem dX8_cut_73 : decode cX8_cut 73 = .ok (.iastore, 1) := by decide +kernel
theorem dX8_cut_74 : decode cX8_cut 74 = .ok (.aload_n 0, 1) := by decide +kernel
theorem dX8_cut_75 : decode cX8_cut 75 = .ok (.getfield 9, 3) := by decide +kernel
theorem dX8_cut_78 : decode cX8_cut 78 = .ok (.iload_n 3, 1) := by decide +kernel
theorem dX8_cut_79 : decode cX8_cut 79 = .ok (.aload_n 1, 1) := by decide +kernel
theorem dX8_cut_80 : decode cX8_cut 80 = .ok (.iload 4, 2) := by decide +kernel
theorem dX8_cut_82 : decode cX8_cut 82 = .ok (.iload 6, 2) := by decide +kernel
theorem dX8_cut_84 : decode cX8_cut 84 = .ok (.invokestatic 32, 3) := by decide +kernel
theorem dX8_cut_87 : decode cX8_cut 87 = .ok (.iastore, 1) := by decide +kernel
theorem dX8_cut_88 : decode cX8_cut 88 = .ok (.iinc 3 1, 3) := by decide +kernel
theorem dX8_cut_91 : decode cX8_cut 91 = .ok (.iload 6, 2) := by decide +kernel
theorem dX8_cut_93 : decode cX8_cut 93 = .ok (.istore 4, 2) := by decide +kernel
theorem dX8_cut_95 : decode cX8_cut 95 = .ok (.iinc 5 1, 3) := by decide +kernel
theorem dX8_cut_98 : decode cX8_cut 98 = .ok (.goto (-90), 3) := by decide +kernel
theorem dX8_cut_101 : decode cX8_cut 101 = .ok (.aload_n 0, 1) := by decide +kernel
theorem dX8_cut_102 : decode cX8_cut 102 = .ok (.getfield 18, 3) := by decide +kernel
theorem dX8_cut_105 : decode cX8_cut 105 = .ok (.iload_n 3, 1) := by decide +kernel
theorem dX8_cut_106 : decode cX8_cut 106 = .ok (.iload_n 2, 1) := by decide +kernel
theorem dX8_cut_107 : decode cX8_cut 107 = .ok (.iastore, 1) := by decide +kernel
theorem dX8_cut_108 : decode cX8_cut 108 = .ok (.aload_n 0, 1) := by decide +kernel
theorem dX8_cut_109 : decode cX8_cut 109 = .ok (.getfield 9, 3) := by decide +kernel
theorem dX8_cut_112 : decode cX8_cut 112 = .ok (.iload_n 3, 1) := by decide +kernel
theorem dX8_cut_113 : decode cX8_cut 113 = .ok (.sipush 302, 3) := by decide +kernel
theorem dX8_cut_116 : decode cX8_cut 116 = .ok (.iastore, 1) := by decide +kernel
theorem dX8_cut_117 : decode cX8_cut 117 = .ok (.return_, 1) := by decide +kernel
set_option maxHeartbeats 4000000 in
set_option maxRecDepth 100000 in
theorem kX8_cut (l : Launch) (G : g5_G) (a0 a1 a2 a3 a4 : Nat) (sz : Nat) : Met l yX8_cut (wsG yX8_cut cX8_cut 7 none) ({ frames := 0, cells := 0, slots := 0, locals := 0 }) (va_Pc [.ref a0, .ref a1, .int 0] (g5_P G [(a0, .inr (8, [.ref a2, .ref a3, .ref a4])), (a4, .inl (G.2 0, 401, .inl (fun _ => 0))), (a2, .inl (G.2 0, 401, .inl (fun _ => 0)))] sz)) (va_Qv (fun (u : va_W) => ((u = [(a0, .inr (8, [.ref a2, .ref a3, .ref a4])), (a4, .inl (G.2 0, 401, .inl (upd (fun _ => 0) 0 0))), (a2, .inl (G.2 0, 401, .inl (upd (fun _ => 0) 0 302)))]))) (g5_B G (va_A [(a0, .inr (8, [.ref a2, .ref a3, .ref a4])), (a4, .inl (G.2 0, 401, .inl (fun _ => 0))), (a2, .inl (G.2 0, 401, .inl (fun _ => 0)))] sz)) (va_A [(a0, .inr (8, [.ref a2, .ref a3, .ref a4])), (a4, .inl (G.2 0, 401, .inl (fun _ => 0))), (a2, .inl (G.2 0, 401, .inl (fun _ => 0)))] sz)) 0 0 (va_A [(a0, .inr (8, [.ref a2, .ref a3, .ref a4])), (a4, .inl (G.2 0, 401, .inl (fun _ => 0))), (a2, .inl (G.2 0, 401, .inl (fun _ => 0)))] sz) := by
  refine Met.ofW (cc := cX8_cut) (maxL := 7) (ret := none) (by decide) rfl ?_
  intro p e s m args below meth c s₁ B hml hv
  obtain ⟨rfl, hsz, hP, hK, hD0, hN, hT⟩ := hv
  have hx := B.exec
  have hb := B.bytes
  have hr := B.returns
  have hts : ∀ w ∈ tblG, w.before _ s = true := fun w h => atoms_spec (ws := (wsG yX8_cut cX8_cut 7 none)) B.pre w (List.mem_cons_of_mem _ h)
  have hown : s.vm.findClass RX8 = some m.cls := findClass_of_methodNamed B.named
  have hlocks := B.notSynchronized
  subst hsz
  have hD := hD0.self (sz := s.heap.size)
  generalize hAe : va_A [(a0, .inr (8, [.ref a2, .ref a3, .ref a4])), (a4, .inl (G.2 0, 401, .inl (fun _ => 0))), (a2, .inl (G.2 0, 401, .inl (fun _ => 0)))] s.heap.size = A at hD hT ⊢
  have hA : ∀ q : Nat, s.heap.size ≤ q → A q := fun q h => by rw [← hAe]; exact Or.inr h
  have hS : va_S A s.heap s.heap [] := va_S.rf
  have hP : va_P G.1 vwCl [(a0, .inr (8, [.ref a2, .ref a3, .ref a4])), (a4, .inl (G.2 0, 401, .inl (fun _ => 0))), (a2, .inl (G.2 0, 401, .inl (fun _ => 0)))] s.heap := hP
  have hl := lv_entry ([.ref a0, .ref a1, .int 0]) (n := 7) (Nat.le_of_ble_eq_true rfl)
  rw [lg_entry_eq]
  generalize (lg_sl ([.ref a0, .ref a1, .int 0]) ++ List.replicate (7 - (lg_sl ([.ref a0, .ref a1, .int 0])).length) Slot.unset).toArray = ls at hl ⊢
  have hl : lv_has ls 7 [(0, .ref a0), (1, .ref a1), (2, .int 0)] := hl
  refine lv_iconst (v := 0) hx hb dX8_cut_0 (by decide) ?_
  refine lv_istore_n (lv' := [(3, .int 0), (0, .ref a0), (1, .ref a1), (2, .int 0)]) hx hb dX8_cut_1 rfl hl (by decide) rfl (fun ls hl => ?_)
  refine lv_iconst (v := 0) hx hb dX8_cut_2 (by decide) ?_
  refine lv_istore (lv' := [(4, .int 0), (3, .int 0), (0, .ref a0), (1, .ref a1), (2, .int 0)]) hx hb dX8_cut_3 hl (by decide) rfl (fun ls hl => ?_)
  refine lv_iconst (v := 0) hx hb dX8_cut_5 (by decide) ?_
  refine lv_istore (lv' := [(5, .int 0), (4, .int 0), (3, .int 0), (0, .ref a0), (1, .ref a1), (2, .int 0)]) hx hb dX8_cut_6 hl (by decide) rfl (fun ls hl => ?_)
  refine lv_iload hx hb dX8_cut_8 (lv_at hl 0 rfl) ?_
  refine lv_iload_n hx hb dX8_cut_10 rfl (lv_at hl 5 rfl) ?_
  refine lv_icmp_ge (tgt := 101) hx hb dX8_cut_11 (by decide) (fun c_1 => ?_) (fun c_1 => ?_)
  ·
    refine lv_aload_n hx hb dX8_cut_101 rfl (lv_at hl 3 rfl) ?_
    refine va_get (D := G.1) (ci := 8) (v := .ref a4) (C := RX8) (T := TX8) (N := 3) hx hb hts inG_X8 hown hK hP 0 rfl rfl 2 (by decide) (hts _ fl_X8_18) (fun _ h9 => h9) rfl dX8_cut_102 ?_
    refine lv_iload_n hx hb dX8_cut_105 rfl (lv_at hl 2 rfl) ?_
    refine lv_iload_n hx hb dX8_cut_106 rfl (lv_at hl 5 rfl) ?_
    refine va_iast hx hb hK hP hD hS 1 0 rfl rfl (i := 0) (x := 0) (by unfold vp_in; decide) dX8_cut_107 (fun H locs hP hD hS => ?_)
    have hP : va_P G.1 vwCl [(a0, .inr (8, [.ref a2, .ref a3, .ref a4])), (a4, .inl (G.2 0, 401, .inl (upd (fun _ => 0) 0 0))), (a2, .inl (G.2 0, 401, .inl (fun _ => 0)))] H := hP
    have hD : va_D A [(a0, .inr (8, [.ref a2, .ref a3, .ref a4])), (a4, .inl (G.2 0, 401, .inl (upd (fun _ => 0) 0 0))), (a2, .inl (G.2 0, 401, .inl (fun _ => 0)))] := hD
    refine lv_aload_n hx hb dX8_cut_108 rfl (lv_at hl 3 rfl) ?_
    refine va_get (D := G.1) (ci := 8) (v := .ref a2) (C := RX8) (T := TX8) (N := 3) hx hb hts inG_X8 hown hK hP 0 rfl rfl 0 (by decide) (hts _ fl_X8_9) (fun _ h9 => h9) rfl dX8_cut_109 ?_
    refine lv_iload_n hx hb dX8_cut_112 rfl (lv_at hl 2 rfl) ?_
    refine lv_sipush (v := 302) hx hb dX8_cut_113 (by decide) ?_
    refine va_iast hx hb hK hP hD hS 2 0 rfl rfl (i := 0) (x := 302) (by unfold vp_in; decide) dX8_cut_116 (fun H locs hP hD hS => ?_)
    have hP : va_P G.1 vwCl [(a0, .inr (8, [.ref a2, .ref a3, .ref a4])), (a4, .inl (G.2 0, 401, .inl (upd (fun _ => 0) 0 0))), (a2, .inl (G.2 0, 401, .inl (upd (fun _ => 0) 0 302)))] H := hP
    have hD : va_D A [(a0, .inr (8, [.ref a2, .ref a3, .ref a4])), (a4, .inl (G.2 0, 401, .inl (upd (fun _ => 0) 0 0))), (a2, .inl (G.2 0, 401, .inl (upd (fun _ => 0) 0 302)))] := hD
    exact W.vret hx hb hr (fun t ht hW => ⟨⟨[(a0, .inr (8, [.ref a2, .ref a3, .ref a4])), (a4, .inl (G.2 0, 401, .inl (upd (fun _ => 0) 0 0))), (a2, .inl (G.2 0, 401, .inl (upd (fun _ => 0) 0 302)))], rfl, rfl, by rw [ht]; exact hP, hD⟩, hS.F ht⟩) hS.2.2 dX8_cut_117
  ·
    exact absurd c_1 (by decide)
theorem ml_X4_32 : Cond.methodLink RX4 32 yX8_cut ∈ tblG := tg 645 (by decide +kernel) (by decide +kernel)
theorem im_X8_cut : Cond.instanceMethod yX8_cut ∈ tblG := tg 646 (by decide +kernel) (by decide +kernel)
theorem se_X8_cut : Cond.selects RX8 yX8_cut yX8_cut ∈ tblG := tg 647 (by decide +kernel) (by decide +kernel)
theorem cd_X8_cut : Cond.code yX8_cut cX8_cut 7 none ∈ tblG := tg 648 (by decide +kernel) (by decide +kernel)
theorem gW_X8_cut : GoodIn tblG (wsG yX8_cut cX8_cut 7 none) := tgi cd_X8_cut
theorem gV_X4_32 : GoodIn tblG (wsV RX4 32 RX8 yX8_cut (wsG yX8_cut cX8_cut 7 none)) := tgV ml_X4_32 im_X8_cut se_X8_cut ini_X8 gW_X8_cut
theorem hv_X8_cut : yX8_cut.cls = RX8 ∧ yX8_cut.cls ≠ "java/lang/invoke/MethodHandle" ∧ yX8_cut.cls ≠ "java/lang/invoke/VarHandle" ∧ (parseMethodDescriptor yX8_cut.desc).map (fun d => d.parameters.length) = some 2 := by decide +kernel
theorem fl_X4_36 : Cond.fieldLink RX4 36 "LateGlass$LawReader" "length" "I" ∈ tblG := tg 422 (by decide +kernel) (by decide +kernel)
theorem fl_X4_39 : Cond.fieldLink RX4 39 "LateGlass$LawReader" "parts" "I" ∈ tblG := tg 423 (by decide +kernel) (by decide +kernel)
theorem fl_X4_42 : Cond.fieldLink RX4 42 "LateGlass$LawReader" "at" "I" ∈ tblG := tg 424 (by decide +kernel) (by decide +kernel)
theorem dX8_kindAt_0 : decode cX8_kindAt 0 = .ok (.iload_n 1, 1) := by decide +kernel
theorem dX8_kindAt_1 : decode cX8_kindAt 1 = .ok (.ifCond .lt 21, 3) := by decide +kernel
theorem dX8_kindAt_4 : decode cX8_kindAt 4 = .ok (.iload_n 1, 1) := by decide +kernel
theorem dX8_kindAt_5 : decode cX8_kindAt 5 = .ok (.aload_n 0, 1) := by decide +kernel
theorem dX8_kindAt_6 : decode cX8_kindAt 6 = .ok (.getfield 9, 3) := by decide +kernel
theorem dX8_kindAt_9 : decode cX8_kindAt 9 = .ok (.arraylength, 1) := by decide +kernel
theorem dX8_kindAt_10 : decode cX8_kindAt 10 = .ok (.if_icmp .ge 12, 3) := by decide +kernel
theorem dX8_kindAt_13 : decode cX8_kindAt 13 = .ok (.aload_n 0, 1) := by decide +kernel
theorem dX8_kindAt_14 : decode cX8_kindAt 14 = .ok (.getfield 9, 3) := by decide +kernel
theorem dX8_kindAt_17 : decode cX8_kindAt 17 = .ok (.iload_n 1, 1) := by decide +kernel
theorem dX8_kindAt_18 : decode cX8_kindAt 18 = .ok (.iaload, 1) := by decide +kernel
theorem dX8_kindAt_19 : decode cX8_kindAt 19 = .ok (.goto 6, 3) := by decide +kernel
theorem dX8_kindAt_22 : decode cX8_kindAt 22 = .ok (.sipush 302, 3) := by decide +kernel
theorem dX8_kindAt_25 : decode cX8_kindAt 25 = .ok (.ireturn, 1) := by decide +kernel
set_option maxHeartbeats 4000000 in
set_option maxRecDepth 100000 in
theorem kX8_kindAt (l : Launch) (G : g5_G) (a0 a1 a2 a3 : Nat) (sz : Nat) : Met l yX8_kindAt (wsG yX8_kindAt cX8_kindAt 2 (some .int)) ({ frames := 0, cells := 0, slots := 0, locals := 0 }) (va_Pc [.ref a0, .int 0] (g5_P G [(a0, .inr (8, [.ref a1, .ref a2, .ref a3])), (a1, .inl (G.2 0, 401, .inl (upd (fun _ => 0) 0 302)))] sz)) (va_Qi (fun (r : Int32) (u : va_W) => ((r = 302) ∧ (u = [(a0, .inr (8, [.ref a1, .ref a2, .ref a3])), (a1, .inl (G.2 0, 401, .inl (upd (fun _ => 0) 0 302)))]))) (g5_B G (va_A [(a0, .inr (8, [.ref a1, .ref a2, .ref a3])), (a1, .inl (G.2 0, 401, .inl (upd (fun _ => 0) 0 302)))] sz)) (va_A [(a0, .inr (8, [.ref a1, .ref a2, .ref a3])), (a1, .inl (G.2 0, 401, .inl (upd (fun _ => 0) 0 302)))] sz)) 0 0 (va_A [(a0, .inr (8, [.ref a1, .ref a2, .ref a3])), (a1, .inl (G.2 0, 401, .inl (upd (fun _ => 0) 0 302)))] sz) := by
  refine Met.ofW (cc := cX8_kindAt) (maxL := 2) (ret := (some .int)) (by decide) rfl ?_
  intro p e s m args below meth c s₁ B hml hv
  obtain ⟨rfl, hsz, hP, hK, hD0, hN, hT⟩ := hv
  have hx := B.exec
  have hb := B.bytes
  have hr := B.returns
  have hts : ∀ w ∈ tblG, w.before _ s = true := fun w h => atoms_spec (ws := (wsG yX8_kindAt cX8_kindAt 2 (some .int))) B.pre w (List.mem_cons_of_mem _ h)
  have hown : s.vm.findClass RX8 = some m.cls := findClass_of_methodNamed B.named
  have hlocks := B.notSynchronized
  subst hsz
  have hD := hD0.self (sz := s.heap.size)
  generalize hAe : va_A [(a0, .inr (8, [.ref a1, .ref a2, .ref a3])), (a1, .inl (G.2 0, 401, .inl (upd (fun _ => 0) 0 302)))] s.heap.size = A at hD hT ⊢
  have hA : ∀ q : Nat, s.heap.size ≤ q → A q := fun q h => by rw [← hAe]; exact Or.inr h
  have hS : va_S A s.heap s.heap [] := va_S.rf
  have hP : va_P G.1 vwCl [(a0, .inr (8, [.ref a1, .ref a2, .ref a3])), (a1, .inl (G.2 0, 401, .inl (upd (fun _ => 0) 0 302)))] s.heap := hP
  have hl := lv_entry ([.ref a0, .int 0]) (n := 2) (Nat.le_of_ble_eq_true rfl)
  rw [lg_entry_eq]
  generalize (lg_sl ([.ref a0, .int 0]) ++ List.replicate (2 - (lg_sl ([.ref a0, .int 0])).length) Slot.unset).toArray = ls at hl ⊢
  have hl : lv_has ls 2 [(0, .ref a0), (1, .int 0)] := hl
  refine lv_iload_n hx hb dX8_kindAt_0 rfl (lv_at hl 1 rfl) ?_
  refine lv_if_lt (tgt := 22) hx hb dX8_kindAt_1 (by decide) (fun c_1 => ?_) (fun c_1 => ?_)
  ·
    exact absurd c_1 (by decide)
  ·
    refine lv_iload_n hx hb dX8_kindAt_4 rfl (lv_at hl 1 rfl) ?_
    refine lv_aload_n hx hb dX8_kindAt_5 rfl (lv_at hl 0 rfl) ?_
    refine va_get (D := G.1) (ci := 8) (v := .ref a1) (C := RX8) (T := TX8) (N := 3) hx hb hts inG_X8 hown hK hP 0 rfl rfl 0 (by decide) (hts _ fl_X8_9) (fun _ h9 => h9) rfl dX8_kindAt_6 ?_
    refine va_alen hx hb hK hP 1 0 rfl rfl (v := 401) (by show Int32.ofNat 401 = 401; decide) dX8_kindAt_9 ?_
    refine lv_icmp_ge (tgt := 22) hx hb dX8_kindAt_10 (by decide) (fun c_2 => ?_) (fun c_2 => ?_)
    ·
      exact absurd c_2 (by decide)
    ·
      refine lv_aload_n hx hb dX8_kindAt_13 rfl (lv_at hl 0 rfl) ?_
      refine va_get (D := G.1) (ci := 8) (v := .ref a1) (C := RX8) (T := TX8) (N := 3) hx hb hts inG_X8 hown hK hP 0 rfl rfl 0 (by decide) (hts _ fl_X8_9) (fun _ h9 => h9) rfl dX8_kindAt_14 ?_
      refine lv_iload_n hx hb dX8_kindAt_17 rfl (lv_at hl 1 rfl) ?_
      refine va_iald hx hb hK hP 1 0 rfl rfl (i := 0) (by unfold vp_in; decide) dX8_kindAt_18 ?_
      refine g5_ti (v := 302) rfl ?_
      refine lv_goto (tgt := 25) hx hb dX8_kindAt_19 (by decide) ?_
      exact W.iret (v := 302) hx hb hr (fun t ht hW => ⟨⟨302, [(a0, .inr (8, [.ref a1, .ref a2, .ref a3])), (a1, .inl (G.2 0, 401, .inl (upd (fun _ => 0) 0 302)))], rfl, ⟨rfl, rfl⟩, by rw [ht]; exact hP, hD⟩, hS.F ht⟩) hS.2.2 dX8_kindAt_25
theorem ml_X4_69 : Cond.methodLink RX4 69 yX8_kindAt ∈ tblG := tg 720 (by decide +kernel) (by decide +kernel)
theorem im_X8_kindAt : Cond.instanceMethod yX8_kindAt ∈ tblG := tg 721 (by decide +kernel) (by decide +kernel)
theorem se_X8_kindAt : Cond.selects RX8 yX8_kindAt yX8_kindAt ∈ tblG := tg 722 (by decide +kernel) (by decide +kernel)
theorem cd_X8_kindAt : Cond.code yX8_kindAt cX8_kindAt 2 (some .int) ∈ tblG := tg 723 (by decide +kernel) (by decide +kernel)
theorem gW_X8_kindAt : GoodIn tblG (wsG yX8_kindAt cX8_kindAt 2 (some .int)) := tgi cd_X8_kindAt
theorem gV_X4_69 : GoodIn tblG (wsV RX4 69 RX8 yX8_kindAt (wsG yX8_kindAt cX8_kindAt 2 (some .int))) := tgV ml_X4_69 im_X8_kindAt se_X8_kindAt ini_X8 gW_X8_kindAt
theorem hv_X8_kindAt : yX8_kindAt.cls = RX8 ∧ yX8_kindAt.cls ≠ "java/lang/invoke/MethodHandle" ∧ yX8_kindAt.cls ≠ "java/lang/invoke/VarHandle" ∧ (parseMethodDescriptor yX8_kindAt.desc).map (fun d => d.parameters.length) = some 1 := by decide +kernel
theorem dX4_readClause_0 : decode cX4_readClause 0 = .ok (.aload_n 0, 1) := by decide +kernel
theorem dX4_readClause_1 : decode cX4_readClause 1 = .ok (.getfield 12, 3) := by decide +kernel
theorem dX4_readClause_4 : decode cX4_readClause 4 = .ok (.aload_n 0, 1) := by decide +kernel
theorem dX4_readClause_5 : decode cX4_readClause 5 = .ok (.getfield 42, 3) := by decide +kernel
theorem dX4_readClause_8 : decode cX4_readClause 8 = .ok (.invokevirtual 69, 3) := by decide +kernel
theorem dX4_readClause_11 : decode cX4_readClause 11 = .ok (.sipush 256, 3) := by decide +kernel
theorem dX4_readClause_14 : decode cX4_readClause 14 = .ok (.isub, 1) := by decide +kernel
theorem dX4_readClause_15 : decode cX4_readClause 15 = .ok (.istore_n 2, 1) := by decide +kernel
theorem dX4_readClause_16 : decode cX4_readClause 16 = .ok (.iload_n 2, 1) := by decide +kernel
theorem dX4_readClause_17 : decode cX4_readClause 17 = .ok (.ifCond .lt 8, 3) := by decide +kernel
theorem dX4_readClause_20 : decode cX4_readClause 20 = .ok (.iload_n 2, 1) := by decide +kernel
theorem dX4_readClause_21 : decode cX4_readClause 21 = .ok (.iconst 4, 1) := by decide +kernel
theorem dX4_readClause_22 : decode cX4_readClause 22 = .ok (.if_icmp .lt 5, 3) := by decide +kernel
theorem dX4_readClause_25 : decode cX4_readClause 25 = .ok (.iconst 0, 1) := by decide +kernel
theorem dX4_readClause_26 : decode cX4_readClause 26 = .ok (.ireturn, 1) := by decide +kernel
theorem dX4_readClause_27 : decode cX4_readClause 27 = .ok (.aload_n 0, 1) := by decide +kernel
theorem dX4_readClause_28 : decode cX4_readClause 28 = .ok (.dup, 1) := by decide +kernel
theorem dX4_readClause_29 : decode cX4_readClause 29 = .ok (.getfield 42, 3) := by decide +kernel
theorem dX4_readClause_32 : decode cX4_readClause 32 = .ok (.iconst 1, 1) := by decide +kernel
theorem dX4_readClause_33 : decode cX4_readClause 33 = .ok (.iadd, 1) := by decide +kernel
theorem dX4_readClause_34 : decode cX4_readClause 34 = .ok (.putfield 42, 3) := by decide +kernel
theorem dX4_readClause_37 : decode cX4_readClause 37 = .ok (.aload_n 0, 1) := by decide +kernel
theorem dX4_readClause_38 : decode cX4_readClause 38 = .ok (.getfield 18, 3) := by decide +kernel
theorem dX4_readClause_41 : decode cX4_readClause 41 = .ok (.iload_n 1, 1) := by decide +kernel
theorem dX4_readClause_42 : decode cX4_readClause 42 = .ok (.iload_n 2, 1) := by decide +kernel
theorem dX4_readClause_43 : decode cX4_readClause 43 = .ok (.iastore, 1) := by decide +kernel
theorem dX4_readClause_44 : decode cX4_readClause 44 = .ok (.aload_n 0, 1) := by decide +kernel
theorem dX4_readClause_45 : decode cX4_readClause 45 = .ok (.getfield 22, 3) := by decide +kernel
theorem dX4_readClause_48 : decode cX4_readClause 48 = .ok (.iload_n 1, 1) := by decide +kernel
theorem dX4_readClause_49 : decode cX4_readClause 49 = .ok (.aload_n 0, 1) := by decide +kernel
theorem dX4_readClause_50 : decode cX4_readClause 50 = .ok (.getfield 36, 3) := by decide +kernel
theorem dX4_readClause_53 : decode cX4_readClause 53 = .ok (.iastore, 1) := by decide +kernel
theorem dX4_readClause_54 : decode cX4_readClause 54 = .ok (.iload_n 2, 1) := by decide +kernel
theorem dX4_readClause_55 : decode cX4_readClause 55 = .ok (.ifCond .eq 8, 3) := by decide +kernel
theorem dX4_readClause_58 : decode cX4_readClause 58 = .ok (.iload_n 2, 1) := by decide +kernel
theorem dX4_readClause_59 : decode cX4_readClause 59 = .ok (.iconst 1, 1) := by decide +kernel
theorem dX4_readClause_60 : decode cX4_readClause 60 = .ok (.if_icmp .ne 13, 3) := by decide +kernel
theorem dX4_readClause_63 : decode cX4_readClause 63 = .ok (.aload_n 0, 1) := by decide +kernel
theorem dX4_readClause_64 : decode cX4_readClause 64 = .ok (.iconst 0, 1) := by decide +kernel
theorem dX4_readClause_65 : decode cX4_readClause 65 = .ok (.invokevirtual 73, 3) := by decide +kernel
theorem dX4_readClause_68 : decode cX4_readClause 68 = .ok (.ifCond .ne 5, 3) := by decide +kernel
theorem dX4_readClause_71 : decode cX4_readClause 71 = .ok (.iconst 0, 1) := by decide +kernel
theorem dX4_readClause_72 : decode cX4_readClause 72 = .ok (.ireturn, 1) := by decide +kernel
theorem dX4_readClause_73 : decode cX4_readClause 73 = .ok (.aload_n 0, 1) := by decide +kernel
theorem dX4_readClause_74 : decode cX4_readClause 74 = .ok (.sipush 260, 3) := by decide +kernel
theorem dX4_readClause_77 : decode cX4_readClause 77 = .ok (.invokevirtual 63, 3) := by decide +kernel
theorem dX4_readClause_80 : decode cX4_readClause 80 = .ok (.ifCond .ne 5, 3) := by decide +kernel
theorem dX4_readClause_83 : decode cX4_readClause 83 = .ok (.iconst 1, 1) := by decide +kernel
theorem dX4_readClause_84 : decode cX4_readClause 84 = .ok (.ireturn, 1) := by decide +kernel
theorem dX4_readClause_85 : decode cX4_readClause 85 = .ok (.aload_n 0, 1) := by decide +kernel
theorem dX4_readClause_86 : decode cX4_readClause 86 = .ok (.iconst 0, 1) := by decide +kernel
theorem dX4_readClause_87 : decode cX4_readClause 87 = .ok (.invokevirtual 76, 3) := by decide +kernel
theorem dX4_readClause_90 : decode cX4_readClause 90 = .ok (.ifCond .ne 5, 3) := by decide +kernel
theorem dX4_readClause_93 : decode cX4_readClause 93 = .ok (.iconst 0, 1) := by decide +kernel
theorem dX4_readClause_94 : decode cX4_readClause 94 = .ok (.ireturn, 1) := by decide +kernel
theorem dX4_readClause_95 : decode cX4_readClause 95 = .ok (.aload_n 0, 1) := by decide +kernel
theorem dX4_readClause_96 : decode cX4_readClause 96 = .ok (.bipush 10, 2) := by decide +kernel
theorem dX4_readClause_98 : decode cX4_readClause 98 = .ok (.iconst 0, 1) := by decide +kernel
theorem dX4_readClause_99 : decode cX4_readClause 99 = .ok (.invokevirtual 79, 3) := by decide +kernel
theorem dX4_readClause_102 : decode cX4_readClause 102 = .ok (.pop, 1) := by decide +kernel
theorem dX4_readClause_103 : decode cX4_readClause 103 = .ok (.iconst 1, 1) := by decide +kernel
theorem dX4_readClause_104 : decode cX4_readClause 104 = .ok (.ireturn, 1) := by decide +kernel
set_option maxHeartbeats 4000000 in
set_option maxRecDepth 100000 in
theorem kX4_readClause (l : Launch) (G : g5_G) (a0 a1 a2 a3 a4 a5 a6 a7 : Nat) (sz : Nat) : Met l yX4_readClause (wsG yX4_readClause cX4_readClause 3 (some .boolean)) ({ frames := 1, cells := 0, slots := 0, locals := 21 }) (va_Pc [.ref a0, .int 0] (g5_P G [(a0, .inr (4, [.ref a1, .ref a2, .ref a3, .ref a4, .int 0, .int 0, .int 0, .int (-1)])), (a1, .inr (8, [.ref a5, .ref a6, .ref a7])), (a5, .inl (G.2 0, 401, .inl (upd (fun _ => 0) 0 302)))] sz)) (va_Qi (fun (r : Int32) (u : va_W) => ((r = 0) ∧ (u = [(a0, .inr (4, [.ref a1, .ref a2, .ref a3, .ref a4, .int 0, .int 0, .int 0, .int (-1)])), (a1, .inr (8, [.ref a5, .ref a6, .ref a7])), (a5, .inl (G.2 0, 401, .inl (upd (fun _ => 0) 0 302)))]))) (g5_B G (va_A [(a0, .inr (4, [.ref a1, .ref a2, .ref a3, .ref a4, .int 0, .int 0, .int 0, .int (-1)])), (a1, .inr (8, [.ref a5, .ref a6, .ref a7])), (a5, .inl (G.2 0, 401, .inl (upd (fun _ => 0) 0 302)))] sz)) (va_A [(a0, .inr (4, [.ref a1, .ref a2, .ref a3, .ref a4, .int 0, .int 0, .int 0, .int (-1)])), (a1, .inr (8, [.ref a5, .ref a6, .ref a7])), (a5, .inl (G.2 0, 401, .inl (upd (fun _ => 0) 0 302)))] sz)) 0 0 (va_A [(a0, .inr (4, [.ref a1, .ref a2, .ref a3, .ref a4, .int 0, .int 0, .int 0, .int (-1)])), (a1, .inr (8, [.ref a5, .ref a6, .ref a7])), (a5, .inl (G.2 0, 401, .inl (upd (fun _ => 0) 0 302)))] sz) := by
  refine Met.ofW (cc := cX4_readClause) (maxL := 3) (ret := (some .boolean)) (by decide) rfl ?_
  intro p e s m args below meth c s₁ B hml hv
  obtain ⟨rfl, hsz, hP, hK, hD0, hN, hT⟩ := hv
  have hx := B.exec
  have hb := B.bytes
  have hr := B.returns
  have hts : ∀ w ∈ tblG, w.before _ s = true := fun w h => atoms_spec (ws := (wsG yX4_readClause cX4_readClause 3 (some .boolean))) B.pre w (List.mem_cons_of_mem _ h)
  have hown : s.vm.findClass RX4 = some m.cls := findClass_of_methodNamed B.named
  have hlocks := B.notSynchronized
  subst hsz
  have hD := hD0.self (sz := s.heap.size)
  generalize hAe : va_A [(a0, .inr (4, [.ref a1, .ref a2, .ref a3, .ref a4, .int 0, .int 0, .int 0, .int (-1)])), (a1, .inr (8, [.ref a5, .ref a6, .ref a7])), (a5, .inl (G.2 0, 401, .inl (upd (fun _ => 0) 0 302)))] s.heap.size = A at hD hT ⊢
  have hA : ∀ q : Nat, s.heap.size ≤ q → A q := fun q h => by rw [← hAe]; exact Or.inr h
  have hS : va_S A s.heap s.heap [] := va_S.rf
  have hP : va_P G.1 vwCl [(a0, .inr (4, [.ref a1, .ref a2, .ref a3, .ref a4, .int 0, .int 0, .int 0, .int (-1)])), (a1, .inr (8, [.ref a5, .ref a6, .ref a7])), (a5, .inl (G.2 0, 401, .inl (upd (fun _ => 0) 0 302)))] s.heap := hP
  have hl := lv_entry ([.ref a0, .int 0]) (n := 3) (Nat.le_of_ble_eq_true rfl)
  rw [lg_entry_eq]
  generalize (lg_sl ([.ref a0, .int 0]) ++ List.replicate (3 - (lg_sl ([.ref a0, .int 0])).length) Slot.unset).toArray = ls at hl ⊢
  have hl : lv_has ls 3 [(0, .ref a0), (1, .int 0)] := hl
  refine lv_aload_n hx hb dX4_readClause_0 rfl (lv_at hl 0 rfl) ?_
  refine va_get (D := G.1) (ci := 4) (v := .ref a1) (C := RX4) (T := TX4) (N := 8) hx hb hts inG_X4 hown hK hP 0 rfl rfl 0 (by decide) (hts _ fl_X4_12) (fun _ h9 => h9) rfl dX4_readClause_1 ?_
  refine lv_aload_n hx hb dX4_readClause_4 rfl (lv_at hl 0 rfl) ?_
  refine va_get (D := G.1) (ci := 4) (v := .int 0) (C := RX4) (T := TX4) (N := 8) hx hb hts inG_X4 hown hK hP 0 rfl rfl 6 (by decide) (hts _ fl_X4_42) (fun _ h9 => h9) rfl dX4_readClause_5 ?_
  have hPc := hP.sub (ws' := [(a1, .inr (8, [.ref a5, .ref a6, .ref a7])), (a5, .inl (G.2 0, 401, .inl (upd (fun _ => 0) 0 302)))]) [1, 2] rfl
  have hDc := hD.sub (ws' := [(a1, .inr (8, [.ref a5, .ref a6, .ref a7])), (a5, .inl (G.2 0, 401, .inl (upd (fun _ => 0) 0 302)))]) [1, 2] (by decide) rfl
  have hFc := va_free (wc := [(a1, .inr (8, [.ref a5, .ref a6, .ref a7])), (a5, .inl (G.2 0, 401, .inl (upd (fun _ => 0) 0 302)))]) hD hS hA [1, 2] rfl
  refine va_calli (va_runV (As := [.int 0]) (rest := []) ⟨hx, hb, hml, hown, hts⟩ (kX8_kindAt l G a1 a5 a6 a7 s.heap.size) (cwV 1 hts gV_X4_69 rfl rfl rfl hv_X8_kindAt ⟨Nat.le_of_ble_eq_true rfl, Nat.le_of_ble_eq_true rfl⟩) (g5_preV hPc hK hDc hN hT hS hFc (ci := 8) (q0 := 0) rfl rfl) rfl rfl hl.1 rfl (lv_room (Nat.le_of_ble_eq_true rfl)) dX4_readClause_8 ⟨Nat.le_of_ble_eq_true rfl, Nat.le_of_ble_eq_true rfl⟩) hS (fun q _ h => hFc q h) hFc (fun r u t H1 locs ht hvm hw hB hz1 hk1 hS => ?_)
  obtain ⟨hP1, hD1⟩ := hB
  rw [ht] at hP1
  obtain ⟨rfl, rfl⟩ := hw
  obtain ⟨hP, hD⟩ := va_join (wr := [(a0, .inr (4, [.ref a1, .ref a2, .ref a3, .ref a4, .int 0, .int 0, .int 0, .int (-1)]))]) (w1 := [(a1, .inr (8, [.ref a5, .ref a6, .ref a7])), (a5, .inl (G.2 0, 401, .inl (upd (fun _ => 0) 0 302)))]) hP hD [1, 2] [0] rfl rfl (by decide) (by decide) hk1 hFc hP1 hD1
  generalize H1 = H at hP hS ⊢
  have hP : va_P G.1 vwCl [(a0, .inr (4, [.ref a1, .ref a2, .ref a3, .ref a4, .int 0, .int 0, .int 0, .int (-1)])), (a1, .inr (8, [.ref a5, .ref a6, .ref a7])), (a5, .inl (G.2 0, 401, .inl (upd (fun _ => 0) 0 302)))] H := hP
  have hD : va_D A [(a0, .inr (4, [.ref a1, .ref a2, .ref a3, .ref a4, .int 0, .int 0, .int 0, .int (-1)])), (a1, .inr (8, [.ref a5, .ref a6, .ref a7])), (a5, .inl (G.2 0, 401, .inl (upd (fun _ => 0) 0 302)))] := hD
  refine lv_sipush (v := 256) hx hb dX4_readClause_11 (by decide) ?_
  refine lv_isub hx hb dX4_readClause_14 ?_
  refine g5_ti (v := 46) (by decide) ?_
  refine lv_istore_n (lv' := [(2, .int 46), (0, .ref a0), (1, .int 0)]) hx hb dX4_readClause_15 rfl hl (by decide) rfl (fun ls hl => ?_)
  refine lv_iload_n hx hb dX4_readClause_16 rfl (lv_at hl 0 rfl) ?_
  refine lv_if_lt (tgt := 25) hx hb dX4_readClause_17 (by decide) (fun c_1 => ?_) (fun c_1 => ?_)
  ·
    exact absurd c_1 (by decide)
  ·
    refine lv_iload_n hx hb dX4_readClause_20 rfl (lv_at hl 0 rfl) ?_
    refine lv_iconst (v := 4) hx hb dX4_readClause_21 (by decide) ?_
    refine lv_icmp_lt (tgt := 27) hx hb dX4_readClause_22 (by decide) (fun c_2 => ?_) (fun c_2 => ?_)
    ·
      exact absurd c_2 (by decide)
    ·
      refine lv_iconst (v := 0) hx hb dX4_readClause_25 (by decide) ?_
      exact W.zret (v := 0) hx hb hr rfl (fun t ht hW => ⟨⟨0, [(a0, .inr (4, [.ref a1, .ref a2, .ref a3, .ref a4, .int 0, .int 0, .int 0, .int (-1)])), (a1, .inr (8, [.ref a5, .ref a6, .ref a7])), (a5, .inl (G.2 0, 401, .inl (upd (fun _ => 0) 0 302)))], rfl, ⟨rfl, rfl⟩, by rw [ht]; exact hP, hD⟩, hS.F ht⟩) hS.2.2 dX4_readClause_26
theorem ml_X4_45 : Cond.methodLink RX4 45 yX4_readClause ∈ tblG := tg 716 (by decide +kernel) (by decide +kernel)
theorem im_X4_readClause : Cond.instanceMethod yX4_readClause ∈ tblG := tg 718 (by decide +kernel) (by decide +kernel)
theorem se_X4_readClause : Cond.selects RX4 yX4_readClause yX4_readClause ∈ tblG := tg 4 (by decide +kernel) (by decide +kernel)
theorem cd_X4_readClause : Cond.code yX4_readClause cX4_readClause 3 (some .boolean) ∈ tblG := tg 719 (by decide +kernel) (by decide +kernel)
theorem gW_X4_readClause : GoodIn tblG (wsG yX4_readClause cX4_readClause 3 (some .boolean)) := tgi cd_X4_readClause
theorem gV_X4_45 : GoodIn tblG (wsV RX4 45 RX4 yX4_readClause (wsG yX4_readClause cX4_readClause 3 (some .boolean))) := tgV ml_X4_45 im_X4_readClause se_X4_readClause ini_X4 gW_X4_readClause
theorem hv_X4_readClause : yX4_readClause.cls = RX4 ∧ yX4_readClause.cls ≠ "java/lang/invoke/MethodHandle" ∧ yX4_readClause.cls ≠ "java/lang/invoke/VarHandle" ∧ (parseMethodDescriptor yX4_readClause.desc).map (fun d => d.parameters.length) = some 1 := by decide +kernel
theorem fl_X4_66 : Cond.fieldLink RX4 66 "LateGlass$Tokens" "places" "[I" ∈ tblG := tg 410 (by decide +kernel) (by decide +kernel)
theorem dX4_read_0 : decode cX4_read 0 = .ok (.aload_n 0, 1) := by decide +kernel
theorem dX4_read_1 : decode cX4_read 1 = .ok (.getfield 12, 3) := by decide +kernel
theorem dX4_read_4 : decode cX4_read 4 = .ok (.aload_n 1, 1) := by decide +kernel
theorem dX4_read_5 : decode cX4_read 5 = .ok (.iload_n 2, 1) := by decide +kernel
theorem dX4_read_6 : decode cX4_read 6 = .ok (.invokevirtual 32, 3) := by decide +kernel
theorem dX4_read_9 : decode cX4_read 9 = .ok (.aload_n 0, 1) := by decide +kernel
theorem dX4_read_10 : decode cX4_read 10 = .ok (.iconst 0, 1) := by decide +kernel
theorem dX4_read_11 : decode cX4_read 11 = .ok (.putfield 36, 3) := by decide +kernel
theorem dX4_read_14 : decode cX4_read 14 = .ok (.aload_n 0, 1) := by decide +kernel
theorem dX4_read_15 : decode cX4_read 15 = .ok (.iconst 0, 1) := by decide +kernel
theorem dX4_read_16 : decode cX4_read 16 = .ok (.putfield 39, 3) := by decide +kernel
theorem dX4_read_19 : decode cX4_read 19 = .ok (.aload_n 0, 1) := by decide +kernel
theorem dX4_read_20 : decode cX4_read 20 = .ok (.iconst 0, 1) := by decide +kernel
theorem dX4_read_21 : decode cX4_read 21 = .ok (.putfield 42, 3) := by decide +kernel
theorem dX4_read_24 : decode cX4_read 24 = .ok (.iconst 0, 1) := by decide +kernel
theorem dX4_read_25 : decode cX4_read 25 = .ok (.istore_n 3, 1) := by decide +kernel
theorem dX4_read_26 : decode cX4_read 26 = .ok (.iload_n 3, 1) := by decide +kernel
theorem dX4_read_27 : decode cX4_read 27 = .ok (.bipush 12, 2) := by decide +kernel
theorem dX4_read_29 : decode cX4_read 29 = .ok (.if_icmp .ge 98, 3) := by decide +kernel
theorem dX4_read_32 : decode cX4_read 32 = .ok (.aload_n 0, 1) := by decide +kernel
theorem dX4_read_33 : decode cX4_read 33 = .ok (.iload_n 3, 1) := by decide +kernel
theorem dX4_read_34 : decode cX4_read 34 = .ok (.invokevirtual 45, 3) := by decide +kernel
theorem dX4_read_37 : decode cX4_read 37 = .ok (.ifCond .eq 90, 3) := by decide +kernel
theorem dX4_read_40 : decode cX4_read 40 = .ok (.aload_n 0, 1) := by decide +kernel
theorem dX4_read_41 : decode cX4_read 41 = .ok (.sipush 302, 3) := by decide +kernel
theorem dX4_read_44 : decode cX4_read 44 = .ok (.invokevirtual 49, 3) := by decide +kernel
theorem dX4_read_47 : decode cX4_read 47 = .ok (.ifCond .eq 62, 3) := by decide +kernel
theorem dX4_read_50 : decode cX4_read 50 = .ok (.aload_n 0, 1) := by decide +kernel
theorem dX4_read_51 : decode cX4_read 51 = .ok (.iconst (-1), 1) := by decide +kernel
theorem dX4_read_52 : decode cX4_read 52 = .ok (.putfield 28, 3) := by decide +kernel
theorem dX4_read_55 : decode cX4_read 55 = .ok (.aload_n 0, 1) := by decide +kernel
theorem dX4_read_56 : decode cX4_read 56 = .ok (.getfield 22, 3) := by decide +kernel
theorem dX4_read_59 : decode cX4_read 59 = .ok (.iload_n 3, 1) := by decide +kernel
theorem dX4_read_60 : decode cX4_read 60 = .ok (.iconst 1, 1) := by decide +kernel
theorem dX4_read_61 : decode cX4_read 61 = .ok (.iadd, 1) := by decide +kernel
theorem dX4_read_62 : decode cX4_read 62 = .ok (.aload_n 0, 1) := by decide +kernel
theorem dX4_read_63 : decode cX4_read 63 = .ok (.getfield 36, 3) := by decide +kernel
theorem dX4_read_66 : decode cX4_read 66 = .ok (.iastore, 1) := by decide +kernel
theorem dX4_read_67 : decode cX4_read 67 = .ok (.new 52, 3) := by decide +kernel
theorem dX4_read_70 : decode cX4_read 70 = .ok (.dup, 1) := by decide +kernel
theorem dX4_read_71 : decode cX4_read 71 = .ok (.iload_n 3, 1) := by decide +kernel
theorem dX4_read_72 : decode cX4_read 72 = .ok (.iconst 1, 1) := by decide +kernel
theorem dX4_read_73 : decode cX4_read 73 = .ok (.iadd, 1) := by decide +kernel
theorem dX4_read_74 : decode cX4_read 74 = .ok (.aload_n 0, 1) := by decide +kernel
theorem dX4_read_75 : decode cX4_read 75 = .ok (.getfield 18, 3) := by decide +kernel
theorem dX4_read_78 : decode cX4_read 78 = .ok (.iload_n 3, 1) := by decide +kernel
theorem dX4_read_79 : decode cX4_read 79 = .ok (.iconst 1, 1) := by decide +kernel
theorem dX4_read_80 : decode cX4_read 80 = .ok (.iadd, 1) := by decide +kernel
theorem dX4_read_81 : decode cX4_read 81 = .ok (.invokestatic 54, 3) := by decide +kernel
theorem dX4_read_84 : decode cX4_read 84 = .ok (.aload_n 0, 1) := by decide +kernel
theorem dX4_read_85 : decode cX4_read 85 = .ok (.getfield 22, 3) := by decide +kernel
theorem dX4_read_88 : decode cX4_read 88 = .ok (.iload_n 3, 1) := by decide +kernel
theorem dX4_read_89 : decode cX4_read 89 = .ok (.iconst 2, 1) := by decide +kernel
theorem dX4_read_90 : decode cX4_read 90 = .ok (.iadd, 1) := by decide +kernel
theorem dX4_read_91 : decode cX4_read 91 = .ok (.invokestatic 54, 3) := by decide +kernel
theorem dX4_read_94 : decode cX4_read 94 = .ok (.aload_n 0, 1) := by decide +kernel
theorem dX4_read_95 : decode cX4_read 95 = .ok (.getfield 25, 3) := by decide +kernel
theorem dX4_read_98 : decode cX4_read 98 = .ok (.aload_n 0, 1) := by decide +kernel
theorem dX4_read_99 : decode cX4_read 99 = .ok (.getfield 36, 3) := by decide +kernel
theorem dX4_read_102 : decode cX4_read 102 = .ok (.invokestatic 54, 3) := by decide +kernel
theorem dX4_read_105 : decode cX4_read 105 = .ok (.invokespecial 60, 3) := by decide +kernel
theorem dX4_read_108 : decode cX4_read 108 = .ok (.areturn, 1) := by decide +kernel
theorem dX4_read_109 : decode cX4_read 109 = .ok (.aload_n 0, 1) := by decide +kernel
theorem dX4_read_110 : decode cX4_read 110 = .ok (.bipush 59, 2) := by decide +kernel
theorem dX4_read_112 : decode cX4_read 112 = .ok (.invokevirtual 63, 3) := by decide +kernel
theorem dX4_read_115 : decode cX4_read 115 = .ok (.ifCond .ne 6, 3) := by decide +kernel
theorem dX4_read_118 : decode cX4_read 118 = .ok (.goto 9, 3) := by decide +kernel
theorem dX4_read_121 : decode cX4_read 121 = .ok (.iinc 3 1, 3) := by decide +kernel
theorem dX4_read_124 : decode cX4_read 124 = .ok (.goto (-98), 3) := by decide +kernel
theorem dX4_read_127 : decode cX4_read 127 = .ok (.aload_n 0, 1) := by decide +kernel
theorem dX4_read_128 : decode cX4_read 128 = .ok (.aload_n 0, 1) := by decide +kernel
theorem dX4_read_129 : decode cX4_read 129 = .ok (.getfield 42, 3) := by decide +kernel
theorem dX4_read_132 : decode cX4_read 132 = .ok (.aload_n 0, 1) := by decide +kernel
theorem dX4_read_133 : decode cX4_read 133 = .ok (.getfield 12, 3) := by decide +kernel
theorem dX4_read_136 : decode cX4_read 136 = .ok (.getfield 66, 3) := by decide +kernel
theorem dX4_read_139 : decode cX4_read 139 = .ok (.arraylength, 1) := by decide +kernel
theorem dX4_read_140 : decode cX4_read 140 = .ok (.if_icmp .ge 18, 3) := by decide +kernel
theorem dX4_read_143 : decode cX4_read 143 = .ok (.aload_n 0, 1) := by decide +kernel
theorem dX4_read_144 : decode cX4_read 144 = .ok (.getfield 12, 3) := by decide +kernel
theorem dX4_read_147 : decode cX4_read 147 = .ok (.getfield 66, 3) := by decide +kernel
theorem dX4_read_150 : decode cX4_read 150 = .ok (.aload_n 0, 1) := by decide +kernel
theorem dX4_read_151 : decode cX4_read 151 = .ok (.getfield 42, 3) := by decide +kernel
theorem dX4_read_154 : decode cX4_read 154 = .ok (.iaload, 1) := by decide +kernel
theorem dX4_read_155 : decode cX4_read 155 = .ok (.goto 4, 3) := by decide +kernel
theorem dX4_read_158 : decode cX4_read 158 = .ok (.iload_n 2, 1) := by decide +kernel
theorem dX4_read_159 : decode cX4_read 159 = .ok (.putfield 28, 3) := by decide +kernel
theorem dX4_read_162 : decode cX4_read 162 = .ok (.aconst_null, 1) := by decide +kernel
theorem dX4_read_163 : decode cX4_read 163 = .ok (.areturn, 1) := by decide +kernel
set_option maxHeartbeats 4000000 in
set_option maxRecDepth 100000 in
theorem kX4_read (l : Launch) (G : g5_G) (a0 a1 a2 a3 a4 a5 a6 a7 a8 : Nat) (sz : Nat) : Met l yX4_read (wsG yX4_read cX4_read 4 (some (.object "LateGlass$Law"))) ({ frames := 2, cells := 0, slots := 0, locals := 43 }) (va_Pc [.ref a0, .ref a1, .int 0] (g5_P G [(a0, .inr (4, [.ref a2, .ref a3, .ref a4, .ref a5, .int 0, .int 0, .int 0, .int (-1)])), (a2, .inr (8, [.ref a6, .ref a7, .ref a8])), (a8, .inl (G.2 0, 401, .inl (fun _ => 0))), (a6, .inl (G.2 0, 401, .inl (fun _ => 0)))] sz)) (va_Qq (fun (r : Option Nat) (u : va_W) => ((r = none) ∧ (u = [(a8, .inl (G.2 0, 401, .inl (upd (fun _ => 0) 0 0))), (a0, .inr (4, [.ref a2, .ref a3, .ref a4, .ref a5, .int 0, .int 0, .int 0, .int 0])), (a2, .inr (8, [.ref a6, .ref a7, .ref a8])), (a6, .inl (G.2 0, 401, .inl (upd (fun _ => 0) 0 302)))]))) (g5_B G (va_A [(a0, .inr (4, [.ref a2, .ref a3, .ref a4, .ref a5, .int 0, .int 0, .int 0, .int (-1)])), (a2, .inr (8, [.ref a6, .ref a7, .ref a8])), (a8, .inl (G.2 0, 401, .inl (fun _ => 0))), (a6, .inl (G.2 0, 401, .inl (fun _ => 0)))] sz)) (va_A [(a0, .inr (4, [.ref a2, .ref a3, .ref a4, .ref a5, .int 0, .int 0, .int 0, .int (-1)])), (a2, .inr (8, [.ref a6, .ref a7, .ref a8])), (a8, .inl (G.2 0, 401, .inl (fun _ => 0))), (a6, .inl (G.2 0, 401, .inl (fun _ => 0)))] sz)) 0 0 (va_A [(a0, .inr (4, [.ref a2, .ref a3, .ref a4, .ref a5, .int 0, .int 0, .int 0, .int (-1)])), (a2, .inr (8, [.ref a6, .ref a7, .ref a8])), (a8, .inl (G.2 0, 401, .inl (fun _ => 0))), (a6, .inl (G.2 0, 401, .inl (fun _ => 0)))] sz) := by
  refine Met.ofW (cc := cX4_read) (maxL := 4) (ret := (some (.object "LateGlass$Law"))) (by decide) rfl ?_
  intro p e s m args below meth c s₁ B hml hv
  obtain ⟨rfl, hsz, hP, hK, hD0, hN, hT⟩ := hv
  have hx := B.exec
  have hb := B.bytes
  have hr := B.returns
  have hts : ∀ w ∈ tblG, w.before _ s = true := fun w h => atoms_spec (ws := (wsG yX4_read cX4_read 4 (some (.object "LateGlass$Law")))) B.pre w (List.mem_cons_of_mem _ h)
  have hown : s.vm.findClass RX4 = some m.cls := findClass_of_methodNamed B.named
  have hlocks := B.notSynchronized
  subst hsz
  have hD := hD0.self (sz := s.heap.size)
  generalize hAe : va_A [(a0, .inr (4, [.ref a2, .ref a3, .ref a4, .ref a5, .int 0, .int 0, .int 0, .int (-1)])), (a2, .inr (8, [.ref a6, .ref a7, .ref a8])), (a8, .inl (G.2 0, 401, .inl (fun _ => 0))), (a6, .inl (G.2 0, 401, .inl (fun _ => 0)))] s.heap.size = A at hD hT ⊢
  have hA : ∀ q : Nat, s.heap.size ≤ q → A q := fun q h => by rw [← hAe]; exact Or.inr h
  have hS : va_S A s.heap s.heap [] := va_S.rf
  have hP : va_P G.1 vwCl [(a0, .inr (4, [.ref a2, .ref a3, .ref a4, .ref a5, .int 0, .int 0, .int 0, .int (-1)])), (a2, .inr (8, [.ref a6, .ref a7, .ref a8])), (a8, .inl (G.2 0, 401, .inl (fun _ => 0))), (a6, .inl (G.2 0, 401, .inl (fun _ => 0)))] s.heap := hP
  have hl := lv_entry ([.ref a0, .ref a1, .int 0]) (n := 4) (Nat.le_of_ble_eq_true rfl)
  rw [lg_entry_eq]
  generalize (lg_sl ([.ref a0, .ref a1, .int 0]) ++ List.replicate (4 - (lg_sl ([.ref a0, .ref a1, .int 0])).length) Slot.unset).toArray = ls at hl ⊢
  have hl : lv_has ls 4 [(0, .ref a0), (1, .ref a1), (2, .int 0)] := hl
  refine lv_aload_n hx hb dX4_read_0 rfl (lv_at hl 0 rfl) ?_
  refine va_get (D := G.1) (ci := 4) (v := .ref a2) (C := RX4) (T := TX4) (N := 8) hx hb hts inG_X4 hown hK hP 0 rfl rfl 0 (by decide) (hts _ fl_X4_12) (fun _ h9 => h9) rfl dX4_read_1 ?_
  refine lv_aload_n hx hb dX4_read_4 rfl (lv_at hl 1 rfl) ?_
  refine lv_iload_n hx hb dX4_read_5 rfl (lv_at hl 2 rfl) ?_
  have hPc := hP.sub (ws' := [(a2, .inr (8, [.ref a6, .ref a7, .ref a8])), (a8, .inl (G.2 0, 401, .inl (fun _ => 0))), (a6, .inl (G.2 0, 401, .inl (fun _ => 0)))]) [1, 2, 3] rfl
  have hDc := hD.sub (ws' := [(a2, .inr (8, [.ref a6, .ref a7, .ref a8])), (a8, .inl (G.2 0, 401, .inl (fun _ => 0))), (a6, .inl (G.2 0, 401, .inl (fun _ => 0)))]) [1, 2, 3] (by decide) rfl
  have hFc := va_free (wc := [(a2, .inr (8, [.ref a6, .ref a7, .ref a8])), (a8, .inl (G.2 0, 401, .inl (fun _ => 0))), (a6, .inl (G.2 0, 401, .inl (fun _ => 0)))]) hD hS hA [1, 2, 3] rfl
  refine va_callv (va_runV (As := [.ref a1, .int 0]) (rest := []) ⟨hx, hb, hml, hown, hts⟩ (kX8_cut l G a2 a1 a6 a7 a8 s.heap.size) (cwV 2 hts gV_X4_32 rfl rfl rfl hv_X8_cut ⟨Nat.le_of_ble_eq_true rfl, Nat.le_of_ble_eq_true rfl⟩) (g5_preV hPc hK hDc hN hT hS hFc (ci := 8) (q0 := 0) rfl rfl) rfl rfl hl.1 rfl (lv_room (Nat.le_of_ble_eq_true rfl)) dX4_read_6 ⟨Nat.le_of_ble_eq_true rfl, Nat.le_of_ble_eq_true rfl⟩) hS (fun q _ h => hFc q h) hFc (fun u t H1 locs ht hvm hw hB hz1 hk1 hS => ?_)
  obtain ⟨hP1, hD1⟩ := hB
  rw [ht] at hP1
  obtain rfl := hw
  obtain ⟨hP, hD⟩ := va_join (wr := [(a0, .inr (4, [.ref a2, .ref a3, .ref a4, .ref a5, .int 0, .int 0, .int 0, .int (-1)]))]) (w1 := [(a2, .inr (8, [.ref a6, .ref a7, .ref a8])), (a8, .inl (G.2 0, 401, .inl (upd (fun _ => 0) 0 0))), (a6, .inl (G.2 0, 401, .inl (upd (fun _ => 0) 0 302)))]) hP hD [1, 2, 3] [0] rfl rfl (by decide) (by decide) hk1 hFc hP1 hD1
  generalize H1 = H at hP hS ⊢
  have hP : va_P G.1 vwCl [(a0, .inr (4, [.ref a2, .ref a3, .ref a4, .ref a5, .int 0, .int 0, .int 0, .int (-1)])), (a2, .inr (8, [.ref a6, .ref a7, .ref a8])), (a8, .inl (G.2 0, 401, .inl (upd (fun _ => 0) 0 0))), (a6, .inl (G.2 0, 401, .inl (upd (fun _ => 0) 0 302)))] H := hP
  have hD : va_D A [(a0, .inr (4, [.ref a2, .ref a3, .ref a4, .ref a5, .int 0, .int 0, .int 0, .int (-1)])), (a2, .inr (8, [.ref a6, .ref a7, .ref a8])), (a8, .inl (G.2 0, 401, .inl (upd (fun _ => 0) 0 0))), (a6, .inl (G.2 0, 401, .inl (upd (fun _ => 0) 0 302)))] := hD
  refine lv_aload_n hx hb dX4_read_9 rfl (lv_at hl 0 rfl) ?_
  refine lv_iconst (v := 0) hx hb dX4_read_10 (by decide) ?_
  refine va_put (D := G.1) (ci := 4) (v := .int 0) (ty := .int) (C := RX4) (T := TX4) (N := 8) hx hb hts inG_X4 tyX4 tyX4_ok nmX4 hown hK hP hD hS 0 rfl rfl 4 (by decide) (hts _ fl_X4_36) (fun _ h9 => h9) rfl (by decide +kernel) rfl rfl (Nat.le_of_ble_eq_true rfl) dX4_read_11 (fun H locs hP hD hS => ?_)
  have hP : va_P G.1 vwCl [(a0, .inr (4, [.ref a2, .ref a3, .ref a4, .ref a5, .int 0, .int 0, .int 0, .int (-1)])), (a2, .inr (8, [.ref a6, .ref a7, .ref a8])), (a8, .inl (G.2 0, 401, .inl (upd (fun _ => 0) 0 0))), (a6, .inl (G.2 0, 401, .inl (upd (fun _ => 0) 0 302)))] H := hP
  have hD : va_D A [(a0, .inr (4, [.ref a2, .ref a3, .ref a4, .ref a5, .int 0, .int 0, .int 0, .int (-1)])), (a2, .inr (8, [.ref a6, .ref a7, .ref a8])), (a8, .inl (G.2 0, 401, .inl (upd (fun _ => 0) 0 0))), (a6, .inl (G.2 0, 401, .inl (upd (fun _ => 0) 0 302)))] := hD
  refine lv_aload_n hx hb dX4_read_14 rfl (lv_at hl 0 rfl) ?_
  refine lv_iconst (v := 0) hx hb dX4_read_15 (by decide) ?_
  refine va_put (D := G.1) (ci := 4) (v := .int 0) (ty := .int) (C := RX4) (T := TX4) (N := 8) hx hb hts inG_X4 tyX4 tyX4_ok nmX4 hown hK hP hD hS 0 rfl rfl 5 (by decide) (hts _ fl_X4_39) (fun _ h9 => h9) rfl (by decide +kernel) rfl rfl (Nat.le_of_ble_eq_true rfl) dX4_read_16 (fun H locs hP hD hS => ?_)
  have hP : va_P G.1 vwCl [(a0, .inr (4, [.ref a2, .ref a3, .ref a4, .ref a5, .int 0, .int 0, .int 0, .int (-1)])), (a2, .inr (8, [.ref a6, .ref a7, .ref a8])), (a8, .inl (G.2 0, 401, .inl (upd (fun _ => 0) 0 0))), (a6, .inl (G.2 0, 401, .inl (upd (fun _ => 0) 0 302)))] H := hP
  have hD : va_D A [(a0, .inr (4, [.ref a2, .ref a3, .ref a4, .ref a5, .int 0, .int 0, .int 0, .int (-1)])), (a2, .inr (8, [.ref a6, .ref a7, .ref a8])), (a8, .inl (G.2 0, 401, .inl (upd (fun _ => 0) 0 0))), (a6, .inl (G.2 0, 401, .inl (upd (fun _ => 0) 0 302)))] := hD
  refine lv_aload_n hx hb dX4_read_19 rfl (lv_at hl 0 rfl) ?_
  refine lv_iconst (v := 0) hx hb dX4_read_20 (by decide) ?_
  refine va_put (D := G.1) (ci := 4) (v := .int 0) (ty := .int) (C := RX4) (T := TX4) (N := 8) hx hb hts inG_X4 tyX4 tyX4_ok nmX4 hown hK hP hD hS 0 rfl rfl 6 (by decide) (hts _ fl_X4_42) (fun _ h9 => h9) rfl (by decide +kernel) rfl rfl (Nat.le_of_ble_eq_true rfl) dX4_read_21 (fun H locs hP hD hS => ?_)
  have hP : va_P G.1 vwCl [(a0, .inr (4, [.ref a2, .ref a3, .ref a4, .ref a5, .int 0, .int 0, .int 0, .int (-1)])), (a2, .inr (8, [.ref a6, .ref a7, .ref a8])), (a8, .inl (G.2 0, 401, .inl (upd (fun _ => 0) 0 0))), (a6, .inl (G.2 0, 401, .inl (upd (fun _ => 0) 0 302)))] H := hP
  have hD : va_D A [(a0, .inr (4, [.ref a2, .ref a3, .ref a4, .ref a5, .int 0, .int 0, .int 0, .int (-1)])), (a2, .inr (8, [.ref a6, .ref a7, .ref a8])), (a8, .inl (G.2 0, 401, .inl (upd (fun _ => 0) 0 0))), (a6, .inl (G.2 0, 401, .inl (upd (fun _ => 0) 0 302)))] := hD
  refine lv_iconst (v := 0) hx hb dX4_read_24 (by decide) ?_
  refine lv_istore_n (lv' := [(3, .int 0), (0, .ref a0), (1, .ref a1), (2, .int 0)]) hx hb dX4_read_25 rfl hl (by decide) rfl (fun ls hl => ?_)
  refine lv_iload_n hx hb dX4_read_26 rfl (lv_at hl 0 rfl) ?_
  refine lv_bipush (v := 12) hx hb dX4_read_27 (by decide) ?_
  refine lv_icmp_ge (tgt := 127) hx hb dX4_read_29 (by decide) (fun c_1 => ?_) (fun c_1 => ?_)
  ·
    exact absurd c_1 (by decide)
  ·
    refine lv_aload_n hx hb dX4_read_32 rfl (lv_at hl 1 rfl) ?_
    refine lv_iload_n hx hb dX4_read_33 rfl (lv_at hl 0 rfl) ?_
    have hPc := hP.sub (ws' := [(a0, .inr (4, [.ref a2, .ref a3, .ref a4, .ref a5, .int 0, .int 0, .int 0, .int (-1)])), (a2, .inr (8, [.ref a6, .ref a7, .ref a8])), (a6, .inl (G.2 0, 401, .inl (upd (fun _ => 0) 0 302)))]) [0, 1, 3] rfl
    have hDc := hD.sub (ws' := [(a0, .inr (4, [.ref a2, .ref a3, .ref a4, .ref a5, .int 0, .int 0, .int 0, .int (-1)])), (a2, .inr (8, [.ref a6, .ref a7, .ref a8])), (a6, .inl (G.2 0, 401, .inl (upd (fun _ => 0) 0 302)))]) [0, 1, 3] (by decide) rfl
    have hFc := va_free (wc := [(a0, .inr (4, [.ref a2, .ref a3, .ref a4, .ref a5, .int 0, .int 0, .int 0, .int (-1)])), (a2, .inr (8, [.ref a6, .ref a7, .ref a8])), (a6, .inl (G.2 0, 401, .inl (upd (fun _ => 0) 0 302)))]) hD hS hA [0, 1, 3] rfl
    refine va_calli (va_runV (As := [.int 0]) (rest := []) ⟨hx, hb, hml, hown, hts⟩ (kX4_readClause l G a0 a2 a3 a4 a5 a6 a7 a8 H.size) (cwV 1 hts gV_X4_45 rfl rfl rfl hv_X4_readClause ⟨Nat.le_of_ble_eq_true rfl, Nat.le_of_ble_eq_true rfl⟩) (g5_preV hPc hK hDc hN hT hS hFc (ci := 4) (q0 := 0) rfl rfl) rfl rfl hl.1 rfl (lv_room (Nat.le_of_ble_eq_true rfl)) dX4_read_34 ⟨Nat.le_of_ble_eq_true rfl, Nat.le_of_ble_eq_true rfl⟩) hS (fun q _ h => hFc q h) hFc (fun r u t H1 locs ht hvm hw hB hz1 hk1 hS => ?_)
    obtain ⟨hP1, hD1⟩ := hB
    rw [ht] at hP1
    obtain ⟨rfl, rfl⟩ := hw
    obtain ⟨hP, hD⟩ := va_join (wr := [(a8, .inl (G.2 0, 401, .inl (upd (fun _ => 0) 0 0)))]) (w1 := [(a0, .inr (4, [.ref a2, .ref a3, .ref a4, .ref a5, .int 0, .int 0, .int 0, .int (-1)])), (a2, .inr (8, [.ref a6, .ref a7, .ref a8])), (a6, .inl (G.2 0, 401, .inl (upd (fun _ => 0) 0 302)))]) hP hD [0, 1, 3] [2] rfl rfl (by decide) (by decide) hk1 hFc hP1 hD1
    generalize H1 = H at hP hS ⊢
    have hP : va_P G.1 vwCl [(a8, .inl (G.2 0, 401, .inl (upd (fun _ => 0) 0 0))), (a0, .inr (4, [.ref a2, .ref a3, .ref a4, .ref a5, .int 0, .int 0, .int 0, .int (-1)])), (a2, .inr (8, [.ref a6, .ref a7, .ref a8])), (a6, .inl (G.2 0, 401, .inl (upd (fun _ => 0) 0 302)))] H := hP
    have hD : va_D A [(a8, .inl (G.2 0, 401, .inl (upd (fun _ => 0) 0 0))), (a0, .inr (4, [.ref a2, .ref a3, .ref a4, .ref a5, .int 0, .int 0, .int 0, .int (-1)])), (a2, .inr (8, [.ref a6, .ref a7, .ref a8])), (a6, .inl (G.2 0, 401, .inl (upd (fun _ => 0) 0 302)))] := hD
    refine lv_if_eq (tgt := 127) hx hb dX4_read_37 (by decide) (fun c_2 => ?_) (fun c_2 => ?_)
    ·
      refine lv_aload_n hx hb dX4_read_127 rfl (lv_at hl 1 rfl) ?_
      refine lv_aload_n hx hb dX4_read_128 rfl (lv_at hl 1 rfl) ?_
      refine va_get (D := G.1) (ci := 4) (v := .int 0) (C := RX4) (T := TX4) (N := 8) hx hb hts inG_X4 hown hK hP 1 rfl rfl 6 (by decide) (hts _ fl_X4_42) (fun _ h9 => h9) rfl dX4_read_129 ?_
      refine lv_aload_n hx hb dX4_read_132 rfl (lv_at hl 1 rfl) ?_
      refine va_get (D := G.1) (ci := 4) (v := .ref a2) (C := RX4) (T := TX4) (N := 8) hx hb hts inG_X4 hown hK hP 1 rfl rfl 0 (by decide) (hts _ fl_X4_12) (fun _ h9 => h9) rfl dX4_read_133 ?_
      refine va_get (D := G.1) (ci := 8) (v := .ref a8) (C := RX8) (T := TX8) (N := 3) hx hb hts inG_X8 hown hK hP 2 rfl rfl 2 (by decide) (hts _ fl_X4_66) (fun _ h9 => h9) rfl dX4_read_136 ?_
      refine va_alen hx hb hK hP 0 0 rfl rfl (v := 401) (by show Int32.ofNat 401 = 401; decide) dX4_read_139 ?_
      refine lv_icmp_ge (tgt := 158) hx hb dX4_read_140 (by decide) (fun c_3 => ?_) (fun c_3 => ?_)
      ·
        exact absurd c_3 (by decide)
      ·
        refine lv_aload_n hx hb dX4_read_143 rfl (lv_at hl 1 rfl) ?_
        refine va_get (D := G.1) (ci := 4) (v := .ref a2) (C := RX4) (T := TX4) (N := 8) hx hb hts inG_X4 hown hK hP 1 rfl rfl 0 (by decide) (hts _ fl_X4_12) (fun _ h9 => h9) rfl dX4_read_144 ?_
        refine va_get (D := G.1) (ci := 8) (v := .ref a8) (C := RX8) (T := TX8) (N := 3) hx hb hts inG_X8 hown hK hP 2 rfl rfl 2 (by decide) (hts _ fl_X4_66) (fun _ h9 => h9) rfl dX4_read_147 ?_
        refine lv_aload_n hx hb dX4_read_150 rfl (lv_at hl 1 rfl) ?_
        refine va_get (D := G.1) (ci := 4) (v := .int 0) (C := RX4) (T := TX4) (N := 8) hx hb hts inG_X4 hown hK hP 1 rfl rfl 6 (by decide) (hts _ fl_X4_42) (fun _ h9 => h9) rfl dX4_read_151 ?_
        refine va_iald hx hb hK hP 0 0 rfl rfl (i := 0) (by unfold vp_in; decide) dX4_read_154 ?_
        refine g5_ti (v := 0) rfl ?_
        refine lv_goto (tgt := 159) hx hb dX4_read_155 (by decide) ?_
        refine va_put (D := G.1) (ci := 4) (v := .int 0) (ty := .int) (C := RX4) (T := TX4) (N := 8) hx hb hts inG_X4 tyX4 tyX4_ok nmX4 hown hK hP hD hS 1 rfl rfl 7 (by decide) (hts _ fl_X4_28) (fun _ h9 => h9) rfl (by decide +kernel) rfl rfl (Nat.le_of_ble_eq_true rfl) dX4_read_159 (fun H locs hP hD hS => ?_)
        have hP : va_P G.1 vwCl [(a8, .inl (G.2 0, 401, .inl (upd (fun _ => 0) 0 0))), (a0, .inr (4, [.ref a2, .ref a3, .ref a4, .ref a5, .int 0, .int 0, .int 0, .int 0])), (a2, .inr (8, [.ref a6, .ref a7, .ref a8])), (a6, .inl (G.2 0, 401, .inl (upd (fun _ => 0) 0 302)))] H := hP
        have hD : va_D A [(a8, .inl (G.2 0, 401, .inl (upd (fun _ => 0) 0 0))), (a0, .inr (4, [.ref a2, .ref a3, .ref a4, .ref a5, .int 0, .int 0, .int 0, .int 0])), (a2, .inr (8, [.ref a6, .ref a7, .ref a8])), (a6, .inl (G.2 0, 401, .inl (upd (fun _ => 0) 0 302)))] := hD
        refine lv_null hx hb dX4_read_162 ?_
        exact W.aret (v := .null) hx hb hr (Or.inl ⟨_, rfl⟩) (Or.inl rfl) (fun t ht hW => ⟨⟨none, [(a8, .inl (G.2 0, 401, .inl (upd (fun _ => 0) 0 0))), (a0, .inr (4, [.ref a2, .ref a3, .ref a4, .ref a5, .int 0, .int 0, .int 0, .int 0])), (a2, .inr (8, [.ref a6, .ref a7, .ref a8])), (a6, .inl (G.2 0, 401, .inl (upd (fun _ => 0) 0 302)))], rfl, ⟨rfl, rfl⟩, by rw [ht]; exact hP, hD⟩, hS.F ht⟩) hS.2.2 dX4_read_163
    ·
      exact absurd c_2 (by decide)
theorem ml_X11_195 : Cond.methodLink RX11 195 yX4_read ∈ tblG := tg 641 (by decide +kernel) (by decide +kernel)
theorem im_X4_read : Cond.instanceMethod yX4_read ∈ tblG := tg 642 (by decide +kernel) (by decide +kernel)
theorem se_X4_read : Cond.selects RX4 yX4_read yX4_read ∈ tblG := tg 643 (by decide +kernel) (by decide +kernel)
theorem cd_X4_read : Cond.code yX4_read cX4_read 4 (some (.object "LateGlass$Law")) ∈ tblG := tg 644 (by decide +kernel) (by decide +kernel)
theorem gW_X4_read : GoodIn tblG (wsG yX4_read cX4_read 4 (some (.object "LateGlass$Law"))) := tgi cd_X4_read
theorem gV_X11_195 : GoodIn tblG (wsV RX11 195 RX4 yX4_read (wsG yX4_read cX4_read 4 (some (.object "LateGlass$Law")))) := tgV ml_X11_195 im_X4_read se_X4_read ini_X4 gW_X4_read
theorem hv_X4_read : yX4_read.cls = RX4 ∧ yX4_read.cls ≠ "java/lang/invoke/MethodHandle" ∧ yX4_read.cls ≠ "java/lang/invoke/VarHandle" ∧ (parseMethodDescriptor yX4_read.desc).map (fun d => d.parameters.length) = some 2 := by decide +kernel
theorem fl_X11_199 : Cond.fieldLink RX11 199 "LateGlass$LawReader" "faultPlace" "I" ∈ tblG := tg 426 (by decide +kernel) (by decide +kernel)
set_option maxHeartbeats 4000000 in
set_option maxRecDepth 100000 in
theorem kX11_refuse_4 (l : Launch) (G : g5_G) (a0 a1 a2 a3 a4 a5 a6 a7 a8 a9 a10 a11 a12 : Nat) (sz : Nat) : Met l yX11_refuse (wsG yX11_refuse cX11_refuse 3 (some .int)) ({ frames := 0, cells := 0, slots := 0, locals := 0 }) (va_Pc [.ref a0, .int (-6)] (g5_P G [(a0, .inr (11, [.ref a1, .ref a2, .ref a3, .ref a4, .ref a5, .ref a6, .ref a7, .ref a8, .ref a9, .ref a10, .int 0, .int 0, .int 0, .ref a11, .int 0, .ref a12, .int 0])), (a12, .inl (G.2 0, 5, .inl (fun _ => 0)))] sz)) (va_Qi (fun (r : Int32) (u : va_W) => ((r = (-6)) ∧ (u = [(a0, .inr (11, [.ref a1, .ref a2, .ref a3, .ref a4, .ref a5, .ref a6, .ref a7, .ref a8, .ref a9, .ref a10, .int 0, .int 0, .int 0, .ref a11, .int 0, .ref a12, .int (-6)])), (a12, .inl (G.2 0, 5, .inl (upd (fun _ => 0) 4 1)))]))) (g5_B G (va_A [(a0, .inr (11, [.ref a1, .ref a2, .ref a3, .ref a4, .ref a5, .ref a6, .ref a7, .ref a8, .ref a9, .ref a10, .int 0, .int 0, .int 0, .ref a11, .int 0, .ref a12, .int 0])), (a12, .inl (G.2 0, 5, .inl (fun _ => 0)))] sz)) (va_A [(a0, .inr (11, [.ref a1, .ref a2, .ref a3, .ref a4, .ref a5, .ref a6, .ref a7, .ref a8, .ref a9, .ref a10, .int 0, .int 0, .int 0, .ref a11, .int 0, .ref a12, .int 0])), (a12, .inl (G.2 0, 5, .inl (fun _ => 0)))] sz)) 0 0 (va_A [(a0, .inr (11, [.ref a1, .ref a2, .ref a3, .ref a4, .ref a5, .ref a6, .ref a7, .ref a8, .ref a9, .ref a10, .int 0, .int 0, .int 0, .ref a11, .int 0, .ref a12, .int 0])), (a12, .inl (G.2 0, 5, .inl (fun _ => 0)))] sz) := by
  refine Met.ofW (cc := cX11_refuse) (maxL := 3) (ret := (some .int)) (by decide) rfl ?_
  intro p e s m args below meth c s₁ B hml hv
  obtain ⟨rfl, hsz, hP, hK, hD0, hN, hT⟩ := hv
  have hx := B.exec
  have hb := B.bytes
  have hr := B.returns
  have hts : ∀ w ∈ tblG, w.before _ s = true := fun w h => atoms_spec (ws := (wsG yX11_refuse cX11_refuse 3 (some .int))) B.pre w (List.mem_cons_of_mem _ h)
  have hown : s.vm.findClass RX11 = some m.cls := findClass_of_methodNamed B.named
  have hlocks := B.notSynchronized
  subst hsz
  have hD := hD0.self (sz := s.heap.size)
  generalize hAe : va_A [(a0, .inr (11, [.ref a1, .ref a2, .ref a3, .ref a4, .ref a5, .ref a6, .ref a7, .ref a8, .ref a9, .ref a10, .int 0, .int 0, .int 0, .ref a11, .int 0, .ref a12, .int 0])), (a12, .inl (G.2 0, 5, .inl (fun _ => 0)))] s.heap.size = A at hD hT ⊢
  have hA : ∀ q : Nat, s.heap.size ≤ q → A q := fun q h => by rw [← hAe]; exact Or.inr h
  have hS : va_S A s.heap s.heap [] := va_S.rf
  have hP : va_P G.1 vwCl [(a0, .inr (11, [.ref a1, .ref a2, .ref a3, .ref a4, .ref a5, .ref a6, .ref a7, .ref a8, .ref a9, .ref a10, .int 0, .int 0, .int 0, .ref a11, .int 0, .ref a12, .int 0])), (a12, .inl (G.2 0, 5, .inl (fun _ => 0)))] s.heap := hP
  have hl := lv_entry ([.ref a0, .int (-6)]) (n := 3) (Nat.le_of_ble_eq_true rfl)
  rw [lg_entry_eq]
  generalize (lg_sl ([.ref a0, .int (-6)]) ++ List.replicate (3 - (lg_sl ([.ref a0, .int (-6)])).length) Slot.unset).toArray = ls at hl ⊢
  have hl : lv_has ls 3 [(0, .ref a0), (1, .int (-6))] := hl
  refine lv_aload_n hx hb dX11_refuse_0 rfl (lv_at hl 0 rfl) ?_
  refine lv_iload_n hx hb dX11_refuse_1 rfl (lv_at hl 1 rfl) ?_
  refine va_put (D := G.1) (ci := 11) (v := .int (-6)) (ty := .int) (C := RX11) (T := TX11) (N := 17) hx hb hts inG_X11 tyX11 tyX11_ok nmX11 hown hK hP hD hS 0 rfl rfl 16 (by decide) (hts _ fl_X11_94) (fun _ h9 => h9) rfl (by decide +kernel) rfl rfl (Nat.le_of_ble_eq_true rfl) dX11_refuse_2 (fun H locs hP hD hS => ?_)
  have hP : va_P G.1 vwCl [(a0, .inr (11, [.ref a1, .ref a2, .ref a3, .ref a4, .ref a5, .ref a6, .ref a7, .ref a8, .ref a9, .ref a10, .int 0, .int 0, .int 0, .ref a11, .int 0, .ref a12, .int (-6)])), (a12, .inl (G.2 0, 5, .inl (fun _ => 0)))] H := hP
  have hD : va_D A [(a0, .inr (11, [.ref a1, .ref a2, .ref a3, .ref a4, .ref a5, .ref a6, .ref a7, .ref a8, .ref a9, .ref a10, .int 0, .int 0, .int 0, .ref a11, .int 0, .ref a12, .int (-6)])), (a12, .inl (G.2 0, 5, .inl (fun _ => 0)))] := hD
  refine lv_iload_n hx hb dX11_refuse_5 rfl (lv_at hl 1 rfl) ?_
  refine lv_bipush (v := (-3)) hx hb dX11_refuse_6 (by decide) ?_
  refine lv_icmp_lt (tgt := 18) hx hb dX11_refuse_8 (by decide) (fun c_1 => ?_) (fun c_1 => ?_)
  ·
    refine lv_iload_n hx hb dX11_refuse_18 rfl (lv_at hl 1 rfl) ?_
    refine lv_ineg hx hb dX11_refuse_19 ?_
    refine g5_ti (v := 6) (by decide) ?_
    refine lv_iconst (v := 2) hx hb dX11_refuse_20 (by decide) ?_
    refine lv_isub hx hb dX11_refuse_21 ?_
    refine g5_ti (v := 4) (by decide) ?_
    refine lv_istore_n (lv' := [(2, .int 4), (0, .ref a0), (1, .int (-6))]) hx hb dX11_refuse_22 rfl hl (by decide) rfl (fun ls hl => ?_)
    refine lv_iload_n hx hb dX11_refuse_23 rfl (lv_at hl 0 rfl) ?_
    refine lv_if_lt (tgt := 46) hx hb dX11_refuse_24 (by decide) (fun c_2 => ?_) (fun c_2 => ?_)
    ·
      exact absurd c_2 (by decide)
    ·
      refine lv_iload_n hx hb dX11_refuse_27 rfl (lv_at hl 0 rfl) ?_
      refine lv_aload_n hx hb dX11_refuse_28 rfl (lv_at hl 1 rfl) ?_
      refine va_get (D := G.1) (ci := 11) (v := .ref a12) (C := RX11) (T := TX11) (N := 17) hx hb hts inG_X11 hown hK hP 0 rfl rfl 15 (by decide) (hts _ fl_X11_91) (fun _ h9 => h9) rfl dX11_refuse_29 ?_
      refine va_alen hx hb hK hP 1 0 rfl rfl (v := 5) (by show Int32.ofNat 5 = 5; decide) dX11_refuse_32 ?_
      refine lv_icmp_ge (tgt := 46) hx hb dX11_refuse_33 (by decide) (fun c_3 => ?_) (fun c_3 => ?_)
      ·
        exact absurd c_3 (by decide)
      ·
        refine lv_aload_n hx hb dX11_refuse_36 rfl (lv_at hl 1 rfl) ?_
        refine va_get (D := G.1) (ci := 11) (v := .ref a12) (C := RX11) (T := TX11) (N := 17) hx hb hts inG_X11 hown hK hP 0 rfl rfl 15 (by decide) (hts _ fl_X11_91) (fun _ h9 => h9) rfl dX11_refuse_37 ?_
        refine lv_iload_n hx hb dX11_refuse_40 rfl (lv_at hl 0 rfl) ?_
        refine lv_dup2_11 hx hb dX11_refuse_41 rfl rfl ?_
        refine va_iald hx hb hK hP 1 0 rfl rfl (i := 4) (by unfold vp_in; decide) dX11_refuse_42 ?_
        refine g5_ti (v := 0) rfl ?_
        refine lv_iconst (v := 1) hx hb dX11_refuse_43 (by decide) ?_
        refine lv_iadd hx hb dX11_refuse_44 ?_
        refine g5_ti (v := 1) (by decide) ?_
        refine va_iast hx hb hK hP hD hS 1 0 rfl rfl (i := 4) (x := 1) (by unfold vp_in; decide) dX11_refuse_45 (fun H locs hP hD hS => ?_)
        have hP : va_P G.1 vwCl [(a0, .inr (11, [.ref a1, .ref a2, .ref a3, .ref a4, .ref a5, .ref a6, .ref a7, .ref a8, .ref a9, .ref a10, .int 0, .int 0, .int 0, .ref a11, .int 0, .ref a12, .int (-6)])), (a12, .inl (G.2 0, 5, .inl (upd (fun _ => 0) 4 1)))] H := hP
        have hD : va_D A [(a0, .inr (11, [.ref a1, .ref a2, .ref a3, .ref a4, .ref a5, .ref a6, .ref a7, .ref a8, .ref a9, .ref a10, .int 0, .int 0, .int 0, .ref a11, .int 0, .ref a12, .int (-6)])), (a12, .inl (G.2 0, 5, .inl (upd (fun _ => 0) 4 1)))] := hD
        refine lv_iload_n hx hb dX11_refuse_46 rfl (lv_at hl 2 rfl) ?_
        exact W.iret (v := (-6)) hx hb hr (fun t ht hW => ⟨⟨(-6), [(a0, .inr (11, [.ref a1, .ref a2, .ref a3, .ref a4, .ref a5, .ref a6, .ref a7, .ref a8, .ref a9, .ref a10, .int 0, .int 0, .int 0, .ref a11, .int 0, .ref a12, .int (-6)])), (a12, .inl (G.2 0, 5, .inl (upd (fun _ => 0) 4 1)))], rfl, ⟨rfl, rfl⟩, by rw [ht]; exact hP, hD⟩, hS.F ht⟩) hS.2.2 dX11_refuse_47
  ·
    exact absurd c_1 (by decide)
theorem dX11_law_0 : decode cX11_law 0 = .ok (.aload_n 0, 1) := by decide +kernel
theorem dX11_law_1 : decode cX11_law 1 = .ok (.getfield 74, 3) := by decide +kernel
theorem dX11_law_4 : decode cX11_law 4 = .ok (.istore_n 1, 1) := by decide +kernel
theorem dX11_law_5 : decode cX11_law 5 = .ok (.aload_n 0, 1) := by decide +kernel
theorem dX11_law_6 : decode cX11_law 6 = .ok (.iconst 0, 1) := by decide +kernel
theorem dX11_law_7 : decode cX11_law 7 = .ok (.putfield 74, 3) := by decide +kernel
theorem dX11_law_10 : decode cX11_law 10 = .ok (.aload_n 0, 1) := by decide +kernel
theorem dX11_law_11 : decode cX11_law 11 = .ok (.getfield 12, 3) := by decide +kernel
theorem dX11_law_14 : decode cX11_law 14 = .ok (.getfield 192, 3) := by decide +kernel
theorem dX11_law_17 : decode cX11_law 17 = .ok (.bipush 6, 2) := by decide +kernel
theorem dX11_law_19 : decode cX11_law 19 = .ok (.if_icmp .lt 10, 3) := by decide +kernel
theorem dX11_law_22 : decode cX11_law 22 = .ok (.aload_n 0, 1) := by decide +kernel
theorem dX11_law_23 : decode cX11_law 23 = .ok (.bipush (-5), 2) := by decide +kernel
theorem dX11_law_25 : decode cX11_law 25 = .ok (.invokevirtual 104, 3) := by decide +kernel
theorem dX11_law_28 : decode cX11_law 28 = .ok (.ireturn, 1) := by decide +kernel
theorem dX11_law_29 : decode cX11_law 29 = .ok (.aload_n 0, 1) := by decide +kernel
theorem dX11_law_30 : decode cX11_law 30 = .ok (.getfield 66, 3) := by decide +kernel
theorem dX11_law_33 : decode cX11_law 33 = .ok (.aload_n 0, 1) := by decide +kernel
theorem dX11_law_34 : decode cX11_law 34 = .ok (.getfield 70, 3) := by decide +kernel
theorem dX11_law_37 : decode cX11_law 37 = .ok (.iload_n 1, 1) := by decide +kernel
theorem dX11_law_38 : decode cX11_law 38 = .ok (.invokevirtual 195, 3) := by decide +kernel
theorem dX11_law_41 : decode cX11_law 41 = .ok (.astore_n 2, 1) := by decide +kernel
theorem dX11_law_42 : decode cX11_law 42 = .ok (.aload_n 0, 1) := by decide +kernel
theorem dX11_law_43 : decode cX11_law 43 = .ok (.aload_n 0, 1) := by decide +kernel
theorem dX11_law_44 : decode cX11_law 44 = .ok (.getfield 66, 3) := by decide +kernel
theorem dX11_law_47 : decode cX11_law 47 = .ok (.getfield 199, 3) := by decide +kernel
theorem dX11_law_50 : decode cX11_law 50 = .ok (.putfield 81, 3) := by decide +kernel
theorem dX11_law_53 : decode cX11_law 53 = .ok (.aload_n 2, 1) := by decide +kernel
theorem dX11_law_54 : decode cX11_law 54 = .ok (.ifnonnull 10, 3) := by decide +kernel
theorem dX11_law_57 : decode cX11_law 57 = .ok (.aload_n 0, 1) := by decide +kernel
theorem dX11_law_58 : decode cX11_law 58 = .ok (.bipush (-6), 2) := by decide +kernel
theorem dX11_law_60 : decode cX11_law 60 = .ok (.invokevirtual 104, 3) := by decide +kernel
theorem dX11_law_63 : decode cX11_law 63 = .ok (.ireturn, 1) := by decide +kernel
theorem dX11_law_64 : decode cX11_law 64 = .ok (.aload_n 0, 1) := by decide +kernel
theorem dX11_law_65 : decode cX11_law 65 = .ok (.getfield 12, 3) := by decide +kernel
theorem dX11_law_68 : decode cX11_law 68 = .ok (.getfield 200, 3) := by decide +kernel
theorem dX11_law_71 : decode cX11_law 71 = .ok (.aload_n 0, 1) := by decide +kernel
theorem dX11_law_72 : decode cX11_law 72 = .ok (.getfield 12, 3) := by decide +kernel
theorem dX11_law_75 : decode cX11_law 75 = .ok (.getfield 192, 3) := by decide +kernel
theorem dX11_law_78 : decode cX11_law 78 = .ok (.aload_n 2, 1) := by decide +kernel
theorem dX11_law_79 : decode cX11_law 79 = .ok (.aastore, 1) := by decide +kernel
theorem dX11_law_80 : decode cX11_law 80 = .ok (.aload_n 0, 1) := by decide +kernel
theorem dX11_law_81 : decode cX11_law 81 = .ok (.getfield 12, 3) := by decide +kernel
theorem dX11_law_84 : decode cX11_law 84 = .ok (.dup, 1) := by decide +kernel
theorem dX11_law_85 : decode cX11_law 85 = .ok (.getfield 192, 3) := by decide +kernel
theorem dX11_law_88 : decode cX11_law 88 = .ok (.iconst 1, 1) := by decide +kernel
theorem dX11_law_89 : decode cX11_law 89 = .ok (.iadd, 1) := by decide +kernel
theorem dX11_law_90 : decode cX11_law 90 = .ok (.putfield 192, 3) := by decide +kernel
theorem dX11_law_93 : decode cX11_law 93 = .ok (.aload_n 0, 1) := by decide +kernel
theorem dX11_law_94 : decode cX11_law 94 = .ok (.aload_n 0, 1) := by decide +kernel
theorem dX11_law_95 : decode cX11_law 95 = .ok (.getfield 12, 3) := by decide +kernel
theorem dX11_law_98 : decode cX11_law 98 = .ok (.getfield 192, 3) := by decide +kernel
theorem dX11_law_101 : decode cX11_law 101 = .ok (.iconst 1, 1) := by decide +kernel
theorem dX11_law_102 : decode cX11_law 102 = .ok (.isub, 1) := by decide +kernel
theorem dX11_law_103 : decode cX11_law 103 = .ok (.invokevirtual 121, 3) := by decide +kernel
theorem dX11_law_106 : decode cX11_law 106 = .ok (.ireturn, 1) := by decide +kernel
set_option maxHeartbeats 4000000 in
set_option maxRecDepth 100000 in
theorem kX11_law (l : Launch) (G : g5_G) (a0 a1 a2 a3 a4 a5 a6 a7 a8 a9 a10 a11 a12 a13 a14 a15 a16 a17 a18 a19 a20 a21 a22 a23 a24 a25 a26 : Nat) (sz : Nat) : Met l yX11_law (wsG yX11_law cX11_law 3 (some .int)) ({ frames := 3, cells := 0, slots := 0, locals := 66 }) (va_Pc [.ref a0] (g5_P G [(a0, .inr (11, [.ref a1, .ref a2, .ref a3, .ref a4, .ref a5, .ref a6, .ref a7, .ref a8, .ref a9, .ref a10, .int 0, .int 0, .int (-1), .ref a11, .int 0, .ref a12, .int 0])), (a1, .inr (1, [.long 0, .int 1000, .int (-1), .int (-1), .int 0, .ref a13, .ref a14, .ref a15, .ref a16, .ref a17, .ref a18, .long 0, .ref a19])), (a9, .inr (4, [.ref a20, .ref a21, .ref a22, .ref a23, .int 0, .int 0, .int 0, .int (-1)])), (a20, .inr (8, [.ref a24, .ref a25, .ref a26])), (a26, .inl (G.2 0, 401, .inl (fun _ => 0))), (a24, .inl (G.2 0, 401, .inl (fun _ => 0))), (a12, .inl (G.2 0, 5, .inl (fun _ => 0)))] sz)) (va_Qi (fun (r : Int32) (u : va_W) => ((r = (-6)) ∧ (u = []))) (g5_B G (va_A [(a0, .inr (11, [.ref a1, .ref a2, .ref a3, .ref a4, .ref a5, .ref a6, .ref a7, .ref a8, .ref a9, .ref a10, .int 0, .int 0, .int (-1), .ref a11, .int 0, .ref a12, .int 0])), (a1, .inr (1, [.long 0, .int 1000, .int (-1), .int (-1), .int 0, .ref a13, .ref a14, .ref a15, .ref a16, .ref a17, .ref a18, .long 0, .ref a19])), (a9, .inr (4, [.ref a20, .ref a21, .ref a22, .ref a23, .int 0, .int 0, .int 0, .int (-1)])), (a20, .inr (8, [.ref a24, .ref a25, .ref a26])), (a26, .inl (G.2 0, 401, .inl (fun _ => 0))), (a24, .inl (G.2 0, 401, .inl (fun _ => 0))), (a12, .inl (G.2 0, 5, .inl (fun _ => 0)))] sz)) (va_A [(a0, .inr (11, [.ref a1, .ref a2, .ref a3, .ref a4, .ref a5, .ref a6, .ref a7, .ref a8, .ref a9, .ref a10, .int 0, .int 0, .int (-1), .ref a11, .int 0, .ref a12, .int 0])), (a1, .inr (1, [.long 0, .int 1000, .int (-1), .int (-1), .int 0, .ref a13, .ref a14, .ref a15, .ref a16, .ref a17, .ref a18, .long 0, .ref a19])), (a9, .inr (4, [.ref a20, .ref a21, .ref a22, .ref a23, .int 0, .int 0, .int 0, .int (-1)])), (a20, .inr (8, [.ref a24, .ref a25, .ref a26])), (a26, .inl (G.2 0, 401, .inl (fun _ => 0))), (a24, .inl (G.2 0, 401, .inl (fun _ => 0))), (a12, .inl (G.2 0, 5, .inl (fun _ => 0)))] sz)) 0 0 (va_A [(a0, .inr (11, [.ref a1, .ref a2, .ref a3, .ref a4, .ref a5, .ref a6, .ref a7, .ref a8, .ref a9, .ref a10, .int 0, .int 0, .int (-1), .ref a11, .int 0, .ref a12, .int 0])), (a1, .inr (1, [.long 0, .int 1000, .int (-1), .int (-1), .int 0, .ref a13, .ref a14, .ref a15, .ref a16, .ref a17, .ref a18, .long 0, .ref a19])), (a9, .inr (4, [.ref a20, .ref a21, .ref a22, .ref a23, .int 0, .int 0, .int 0, .int (-1)])), (a20, .inr (8, [.ref a24, .ref a25, .ref a26])), (a26, .inl (G.2 0, 401, .inl (fun _ => 0))), (a24, .inl (G.2 0, 401, .inl (fun _ => 0))), (a12, .inl (G.2 0, 5, .inl (fun _ => 0)))] sz) := by
  refine Met.ofW (cc := cX11_law) (maxL := 3) (ret := (some .int)) (by decide) rfl ?_
  intro p e s m args below meth c s₁ B hml hv
  obtain ⟨rfl, hsz, hP, hK, hD0, hN, hT⟩ := hv
  have hx := B.exec
  have hb := B.bytes
  have hr := B.returns
  have hts : ∀ w ∈ tblG, w.before _ s = true := fun w h => atoms_spec (ws := (wsG yX11_law cX11_law 3 (some .int))) B.pre w (List.mem_cons_of_mem _ h)
  have hown : s.vm.findClass RX11 = some m.cls := findClass_of_methodNamed B.named
  have hlocks := B.notSynchronized
  subst hsz
  have hD := hD0.self (sz := s.heap.size)
  generalize hAe : va_A [(a0, .inr (11, [.ref a1, .ref a2, .ref a3, .ref a4, .ref a5, .ref a6, .ref a7, .ref a8, .ref a9, .ref a10, .int 0, .int 0, .int (-1), .ref a11, .int 0, .ref a12, .int 0])), (a1, .inr (1, [.long 0, .int 1000, .int (-1), .int (-1), .int 0, .ref a13, .ref a14, .ref a15, .ref a16, .ref a17, .ref a18, .long 0, .ref a19])), (a9, .inr (4, [.ref a20, .ref a21, .ref a22, .ref a23, .int 0, .int 0, .int 0, .int (-1)])), (a20, .inr (8, [.ref a24, .ref a25, .ref a26])), (a26, .inl (G.2 0, 401, .inl (fun _ => 0))), (a24, .inl (G.2 0, 401, .inl (fun _ => 0))), (a12, .inl (G.2 0, 5, .inl (fun _ => 0)))] s.heap.size = A at hD hT ⊢
  have hA : ∀ q : Nat, s.heap.size ≤ q → A q := fun q h => by rw [← hAe]; exact Or.inr h
  have hS : va_S A s.heap s.heap [] := va_S.rf
  have hP : va_P G.1 vwCl [(a0, .inr (11, [.ref a1, .ref a2, .ref a3, .ref a4, .ref a5, .ref a6, .ref a7, .ref a8, .ref a9, .ref a10, .int 0, .int 0, .int (-1), .ref a11, .int 0, .ref a12, .int 0])), (a1, .inr (1, [.long 0, .int 1000, .int (-1), .int (-1), .int 0, .ref a13, .ref a14, .ref a15, .ref a16, .ref a17, .ref a18, .long 0, .ref a19])), (a9, .inr (4, [.ref a20, .ref a21, .ref a22, .ref a23, .int 0, .int 0, .int 0, .int (-1)])), (a20, .inr (8, [.ref a24, .ref a25, .ref a26])), (a26, .inl (G.2 0, 401, .inl (fun _ => 0))), (a24, .inl (G.2 0, 401, .inl (fun _ => 0))), (a12, .inl (G.2 0, 5, .inl (fun _ => 0)))] s.heap := hP
  have hl := lv_entry ([.ref a0]) (n := 3) (Nat.le_of_ble_eq_true rfl)
  rw [lg_entry_eq]
  generalize (lg_sl ([.ref a0]) ++ List.replicate (3 - (lg_sl ([.ref a0])).length) Slot.unset).toArray = ls at hl ⊢
  have hl : lv_has ls 3 [(0, .ref a0)] := hl
  refine lv_aload_n hx hb dX11_law_0 rfl (lv_at hl 0 rfl) ?_
  refine va_get (D := G.1) (ci := 11) (v := .int 0) (C := RX11) (T := TX11) (N := 17) hx hb hts inG_X11 hown hK hP 0 rfl rfl 10 (by decide) (hts _ fl_X11_74) (fun _ h9 => h9) rfl dX11_law_1 ?_
  refine lv_istore_n (lv' := [(1, .int 0), (0, .ref a0)]) hx hb dX11_law_4 rfl hl (by decide) rfl (fun ls hl => ?_)
  refine lv_aload_n hx hb dX11_law_5 rfl (lv_at hl 1 rfl) ?_
  refine lv_iconst (v := 0) hx hb dX11_law_6 (by decide) ?_
  refine va_put (D := G.1) (ci := 11) (v := .int 0) (ty := .int) (C := RX11) (T := TX11) (N := 17) hx hb hts inG_X11 tyX11 tyX11_ok nmX11 hown hK hP hD hS 0 rfl rfl 10 (by decide) (hts _ fl_X11_74) (fun _ h9 => h9) rfl (by decide +kernel) rfl rfl (Nat.le_of_ble_eq_true rfl) dX11_law_7 (fun H locs hP hD hS => ?_)
  have hP : va_P G.1 vwCl [(a0, .inr (11, [.ref a1, .ref a2, .ref a3, .ref a4, .ref a5, .ref a6, .ref a7, .ref a8, .ref a9, .ref a10, .int 0, .int 0, .int (-1), .ref a11, .int 0, .ref a12, .int 0])), (a1, .inr (1, [.long 0, .int 1000, .int (-1), .int (-1), .int 0, .ref a13, .ref a14, .ref a15, .ref a16, .ref a17, .ref a18, .long 0, .ref a19])), (a9, .inr (4, [.ref a20, .ref a21, .ref a22, .ref a23, .int 0, .int 0, .int 0, .int (-1)])), (a20, .inr (8, [.ref a24, .ref a25, .ref a26])), (a26, .inl (G.2 0, 401, .inl (fun _ => 0))), (a24, .inl (G.2 0, 401, .inl (fun _ => 0))), (a12, .inl (G.2 0, 5, .inl (fun _ => 0)))] H := hP
  have hD : va_D A [(a0, .inr (11, [.ref a1, .ref a2, .ref a3, .ref a4, .ref a5, .ref a6, .ref a7, .ref a8, .ref a9, .ref a10, .int 0, .int 0, .int (-1), .ref a11, .int 0, .ref a12, .int 0])), (a1, .inr (1, [.long 0, .int 1000, .int (-1), .int (-1), .int 0, .ref a13, .ref a14, .ref a15, .ref a16, .ref a17, .ref a18, .long 0, .ref a19])), (a9, .inr (4, [.ref a20, .ref a21, .ref a22, .ref a23, .int 0, .int 0, .int 0, .int (-1)])), (a20, .inr (8, [.ref a24, .ref a25, .ref a26])), (a26, .inl (G.2 0, 401, .inl (fun _ => 0))), (a24, .inl (G.2 0, 401, .inl (fun _ => 0))), (a12, .inl (G.2 0, 5, .inl (fun _ => 0)))] := hD
  refine lv_aload_n hx hb dX11_law_10 rfl (lv_at hl 1 rfl) ?_
  refine va_get (D := G.1) (ci := 11) (v := .ref a1) (C := RX11) (T := TX11) (N := 17) hx hb hts inG_X11 hown hK hP 0 rfl rfl 0 (by decide) (hts _ fl_X11_12) (fun _ h9 => h9) rfl dX11_law_11 ?_
  refine va_get (D := G.1) (ci := 1) (v := .int 0) (C := RX1) (T := TX1) (N := 13) hx hb hts inG_X1 hown hK hP 1 rfl rfl 4 (by decide) (hts _ fl_X11_192) (fun _ h9 => h9) rfl dX11_law_14 ?_
  refine lv_bipush (v := 6) hx hb dX11_law_17 (by decide) ?_
  refine lv_icmp_lt (tgt := 29) hx hb dX11_law_19 (by decide) (fun c_1 => ?_) (fun c_1 => ?_)
  ·
    refine lv_aload_n hx hb dX11_law_29 rfl (lv_at hl 1 rfl) ?_
    refine va_get (D := G.1) (ci := 11) (v := .ref a9) (C := RX11) (T := TX11) (N := 17) hx hb hts inG_X11 hown hK hP 0 rfl rfl 8 (by decide) (hts _ fl_X11_66) (fun _ h9 => h9) rfl dX11_law_30 ?_
    refine lv_aload_n hx hb dX11_law_33 rfl (lv_at hl 1 rfl) ?_
    refine va_get (D := G.1) (ci := 11) (v := .ref a10) (C := RX11) (T := TX11) (N := 17) hx hb hts inG_X11 hown hK hP 0 rfl rfl 9 (by decide) (hts _ fl_X11_70) (fun _ h9 => h9) rfl dX11_law_34 ?_
    refine lv_iload_n hx hb dX11_law_37 rfl (lv_at hl 0 rfl) ?_
    have hPc := hP.sub (ws' := [(a9, .inr (4, [.ref a20, .ref a21, .ref a22, .ref a23, .int 0, .int 0, .int 0, .int (-1)])), (a20, .inr (8, [.ref a24, .ref a25, .ref a26])), (a26, .inl (G.2 0, 401, .inl (fun _ => 0))), (a24, .inl (G.2 0, 401, .inl (fun _ => 0)))]) [2, 3, 4, 5] rfl
    have hDc := hD.sub (ws' := [(a9, .inr (4, [.ref a20, .ref a21, .ref a22, .ref a23, .int 0, .int 0, .int 0, .int (-1)])), (a20, .inr (8, [.ref a24, .ref a25, .ref a26])), (a26, .inl (G.2 0, 401, .inl (fun _ => 0))), (a24, .inl (G.2 0, 401, .inl (fun _ => 0)))]) [2, 3, 4, 5] (by decide) rfl
    have hFc := va_free (wc := [(a9, .inr (4, [.ref a20, .ref a21, .ref a22, .ref a23, .int 0, .int 0, .int 0, .int (-1)])), (a20, .inr (8, [.ref a24, .ref a25, .ref a26])), (a26, .inl (G.2 0, 401, .inl (fun _ => 0))), (a24, .inl (G.2 0, 401, .inl (fun _ => 0)))]) hD hS hA [2, 3, 4, 5] rfl
    refine va_callq (va_runV (As := [.ref a10, .int 0]) (rest := []) ⟨hx, hb, hml, hown, hts⟩ (kX4_read l G a9 a10 a20 a21 a22 a23 a24 a25 a26 H.size) (cwV 2 hts gV_X11_195 rfl rfl rfl hv_X4_read ⟨Nat.le_of_ble_eq_true rfl, Nat.le_of_ble_eq_true rfl⟩) (g5_preV hPc hK hDc hN hT hS hFc (ci := 4) (q0 := 0) rfl rfl) rfl rfl hl.1 rfl (lv_room (Nat.le_of_ble_eq_true rfl)) dX11_law_38 ⟨Nat.le_of_ble_eq_true rfl, Nat.le_of_ble_eq_true rfl⟩) hS (fun q _ h => hFc q h) hFc (fun r u t H1 locs ht hvm hw hB hz1 hk1 hS => ?_)
    obtain ⟨hP1, hD1⟩ := hB
    rw [ht] at hP1
    obtain ⟨rfl, rfl⟩ := hw
    obtain ⟨hP, hD⟩ := va_join (wr := [(a0, .inr (11, [.ref a1, .ref a2, .ref a3, .ref a4, .ref a5, .ref a6, .ref a7, .ref a8, .ref a9, .ref a10, .int 0, .int 0, .int (-1), .ref a11, .int 0, .ref a12, .int 0])), (a1, .inr (1, [.long 0, .int 1000, .int (-1), .int (-1), .int 0, .ref a13, .ref a14, .ref a15, .ref a16, .ref a17, .ref a18, .long 0, .ref a19])), (a12, .inl (G.2 0, 5, .inl (fun _ => 0)))]) (w1 := [(a26, .inl (G.2 0, 401, .inl (upd (fun _ => 0) 0 0))), (a9, .inr (4, [.ref a20, .ref a21, .ref a22, .ref a23, .int 0, .int 0, .int 0, .int 0])), (a20, .inr (8, [.ref a24, .ref a25, .ref a26])), (a24, .inl (G.2 0, 401, .inl (upd (fun _ => 0) 0 302)))]) hP hD [2, 3, 4, 5] [0, 1, 6] rfl rfl (by decide) (by decide) hk1 hFc hP1 hD1
    generalize H1 = H at hP hS ⊢
    have hP : va_P G.1 vwCl [(a0, .inr (11, [.ref a1, .ref a2, .ref a3, .ref a4, .ref a5, .ref a6, .ref a7, .ref a8, .ref a9, .ref a10, .int 0, .int 0, .int (-1), .ref a11, .int 0, .ref a12, .int 0])), (a1, .inr (1, [.long 0, .int 1000, .int (-1), .int (-1), .int 0, .ref a13, .ref a14, .ref a15, .ref a16, .ref a17, .ref a18, .long 0, .ref a19])), (a12, .inl (G.2 0, 5, .inl (fun _ => 0))), (a26, .inl (G.2 0, 401, .inl (upd (fun _ => 0) 0 0))), (a9, .inr (4, [.ref a20, .ref a21, .ref a22, .ref a23, .int 0, .int 0, .int 0, .int 0])), (a20, .inr (8, [.ref a24, .ref a25, .ref a26])), (a24, .inl (G.2 0, 401, .inl (upd (fun _ => 0) 0 302)))] H := hP
    have hD : va_D A [(a0, .inr (11, [.ref a1, .ref a2, .ref a3, .ref a4, .ref a5, .ref a6, .ref a7, .ref a8, .ref a9, .ref a10, .int 0, .int 0, .int (-1), .ref a11, .int 0, .ref a12, .int 0])), (a1, .inr (1, [.long 0, .int 1000, .int (-1), .int (-1), .int 0, .ref a13, .ref a14, .ref a15, .ref a16, .ref a17, .ref a18, .long 0, .ref a19])), (a12, .inl (G.2 0, 5, .inl (fun _ => 0))), (a26, .inl (G.2 0, 401, .inl (upd (fun _ => 0) 0 0))), (a9, .inr (4, [.ref a20, .ref a21, .ref a22, .ref a23, .int 0, .int 0, .int 0, .int 0])), (a20, .inr (8, [.ref a24, .ref a25, .ref a26])), (a24, .inl (G.2 0, 401, .inl (upd (fun _ => 0) 0 302)))] := hD
    refine g5_tv (v := .null) rfl ?_
    refine lv_astore_nN (lv' := [(2, .null), (1, .int 0), (0, .ref a0)]) hx hb dX11_law_41 rfl hl (by decide) rfl (fun ls hl => ?_)
    refine lv_aload_n hx hb dX11_law_42 rfl (lv_at hl 2 rfl) ?_
    refine lv_aload_n hx hb dX11_law_43 rfl (lv_at hl 2 rfl) ?_
    refine va_get (D := G.1) (ci := 11) (v := .ref a9) (C := RX11) (T := TX11) (N := 17) hx hb hts inG_X11 hown hK hP 0 rfl rfl 8 (by decide) (hts _ fl_X11_66) (fun _ h9 => h9) rfl dX11_law_44 ?_
    refine va_get (D := G.1) (ci := 4) (v := .int 0) (C := RX4) (T := TX4) (N := 8) hx hb hts inG_X4 hown hK hP 4 rfl rfl 7 (by decide) (hts _ fl_X11_199) (fun _ h9 => h9) rfl dX11_law_47 ?_
    refine va_put (D := G.1) (ci := 11) (v := .int 0) (ty := .int) (C := RX11) (T := TX11) (N := 17) hx hb hts inG_X11 tyX11 tyX11_ok nmX11 hown hK hP hD hS 0 rfl rfl 12 (by decide) (hts _ fl_X11_81) (fun _ h9 => h9) rfl (by decide +kernel) rfl rfl (Nat.le_of_ble_eq_true rfl) dX11_law_50 (fun H locs hP hD hS => ?_)
    have hP : va_P G.1 vwCl [(a0, .inr (11, [.ref a1, .ref a2, .ref a3, .ref a4, .ref a5, .ref a6, .ref a7, .ref a8, .ref a9, .ref a10, .int 0, .int 0, .int 0, .ref a11, .int 0, .ref a12, .int 0])), (a1, .inr (1, [.long 0, .int 1000, .int (-1), .int (-1), .int 0, .ref a13, .ref a14, .ref a15, .ref a16, .ref a17, .ref a18, .long 0, .ref a19])), (a12, .inl (G.2 0, 5, .inl (fun _ => 0))), (a26, .inl (G.2 0, 401, .inl (upd (fun _ => 0) 0 0))), (a9, .inr (4, [.ref a20, .ref a21, .ref a22, .ref a23, .int 0, .int 0, .int 0, .int 0])), (a20, .inr (8, [.ref a24, .ref a25, .ref a26])), (a24, .inl (G.2 0, 401, .inl (upd (fun _ => 0) 0 302)))] H := hP
    have hD : va_D A [(a0, .inr (11, [.ref a1, .ref a2, .ref a3, .ref a4, .ref a5, .ref a6, .ref a7, .ref a8, .ref a9, .ref a10, .int 0, .int 0, .int 0, .ref a11, .int 0, .ref a12, .int 0])), (a1, .inr (1, [.long 0, .int 1000, .int (-1), .int (-1), .int 0, .ref a13, .ref a14, .ref a15, .ref a16, .ref a17, .ref a18, .long 0, .ref a19])), (a12, .inl (G.2 0, 5, .inl (fun _ => 0))), (a26, .inl (G.2 0, 401, .inl (upd (fun _ => 0) 0 0))), (a9, .inr (4, [.ref a20, .ref a21, .ref a22, .ref a23, .int 0, .int 0, .int 0, .int 0])), (a20, .inr (8, [.ref a24, .ref a25, .ref a26])), (a24, .inl (G.2 0, 401, .inl (upd (fun _ => 0) 0 302)))] := hD
    refine lv_aload_nN hx hb dX11_law_53 rfl (lv_at hl 0 rfl) ?_
    refine lv_ifnonnullN hx hb dX11_law_54 ?_
    refine lv_aload_n hx hb dX11_law_57 rfl (lv_at hl 2 rfl) ?_
    refine lv_bipush (v := (-6)) hx hb dX11_law_58 (by decide) ?_
    have hPc := hP.sub (ws' := [(a0, .inr (11, [.ref a1, .ref a2, .ref a3, .ref a4, .ref a5, .ref a6, .ref a7, .ref a8, .ref a9, .ref a10, .int 0, .int 0, .int 0, .ref a11, .int 0, .ref a12, .int 0])), (a12, .inl (G.2 0, 5, .inl (fun _ => 0)))]) [0, 2] rfl
    have hDc := hD.sub (ws' := [(a0, .inr (11, [.ref a1, .ref a2, .ref a3, .ref a4, .ref a5, .ref a6, .ref a7, .ref a8, .ref a9, .ref a10, .int 0, .int 0, .int 0, .ref a11, .int 0, .ref a12, .int 0])), (a12, .inl (G.2 0, 5, .inl (fun _ => 0)))]) [0, 2] (by decide) rfl
    have hFc := va_free (wc := [(a0, .inr (11, [.ref a1, .ref a2, .ref a3, .ref a4, .ref a5, .ref a6, .ref a7, .ref a8, .ref a9, .ref a10, .int 0, .int 0, .int 0, .ref a11, .int 0, .ref a12, .int 0])), (a12, .inl (G.2 0, 5, .inl (fun _ => 0)))]) hD hS hA [0, 2] rfl
    refine va_calli (va_runV (As := [.int (-6)]) (rest := []) ⟨hx, hb, hml, hown, hts⟩ (kX11_refuse_4 l G a0 a1 a2 a3 a4 a5 a6 a7 a8 a9 a10 a11 a12 H.size) (cwV 1 hts gV_X11_104 rfl rfl rfl hv_X11_refuse ⟨Nat.le_of_ble_eq_true rfl, Nat.le_of_ble_eq_true rfl⟩) (g5_preV hPc hK hDc hN hT hS hFc (ci := 11) (q0 := 0) rfl rfl) rfl rfl hl.1 rfl (lv_room (Nat.le_of_ble_eq_true rfl)) dX11_law_60 ⟨Nat.le_of_ble_eq_true rfl, Nat.le_of_ble_eq_true rfl⟩) hS (fun q _ h => hFc q h) hFc (fun r u t H1 locs ht hvm hw hB hz1 hk1 hS => ?_)
    obtain ⟨hP1, hD1⟩ := hB
    rw [ht] at hP1
    obtain ⟨rfl, rfl⟩ := hw
    obtain ⟨hP, hD⟩ := va_join (wr := [(a1, .inr (1, [.long 0, .int 1000, .int (-1), .int (-1), .int 0, .ref a13, .ref a14, .ref a15, .ref a16, .ref a17, .ref a18, .long 0, .ref a19])), (a26, .inl (G.2 0, 401, .inl (upd (fun _ => 0) 0 0))), (a9, .inr (4, [.ref a20, .ref a21, .ref a22, .ref a23, .int 0, .int 0, .int 0, .int 0])), (a20, .inr (8, [.ref a24, .ref a25, .ref a26])), (a24, .inl (G.2 0, 401, .inl (upd (fun _ => 0) 0 302)))]) (w1 := [(a0, .inr (11, [.ref a1, .ref a2, .ref a3, .ref a4, .ref a5, .ref a6, .ref a7, .ref a8, .ref a9, .ref a10, .int 0, .int 0, .int 0, .ref a11, .int 0, .ref a12, .int (-6)])), (a12, .inl (G.2 0, 5, .inl (upd (fun _ => 0) 4 1)))]) hP hD [0, 2] [1, 3, 4, 5, 6] rfl rfl (by decide) (by decide) hk1 hFc hP1 hD1
    generalize H1 = H at hP hS ⊢
    have hP : va_P G.1 vwCl [(a1, .inr (1, [.long 0, .int 1000, .int (-1), .int (-1), .int 0, .ref a13, .ref a14, .ref a15, .ref a16, .ref a17, .ref a18, .long 0, .ref a19])), (a26, .inl (G.2 0, 401, .inl (upd (fun _ => 0) 0 0))), (a9, .inr (4, [.ref a20, .ref a21, .ref a22, .ref a23, .int 0, .int 0, .int 0, .int 0])), (a20, .inr (8, [.ref a24, .ref a25, .ref a26])), (a24, .inl (G.2 0, 401, .inl (upd (fun _ => 0) 0 302))), (a0, .inr (11, [.ref a1, .ref a2, .ref a3, .ref a4, .ref a5, .ref a6, .ref a7, .ref a8, .ref a9, .ref a10, .int 0, .int 0, .int 0, .ref a11, .int 0, .ref a12, .int (-6)])), (a12, .inl (G.2 0, 5, .inl (upd (fun _ => 0) 4 1)))] H := hP
    have hD : va_D A [(a1, .inr (1, [.long 0, .int 1000, .int (-1), .int (-1), .int 0, .ref a13, .ref a14, .ref a15, .ref a16, .ref a17, .ref a18, .long 0, .ref a19])), (a26, .inl (G.2 0, 401, .inl (upd (fun _ => 0) 0 0))), (a9, .inr (4, [.ref a20, .ref a21, .ref a22, .ref a23, .int 0, .int 0, .int 0, .int 0])), (a20, .inr (8, [.ref a24, .ref a25, .ref a26])), (a24, .inl (G.2 0, 401, .inl (upd (fun _ => 0) 0 302))), (a0, .inr (11, [.ref a1, .ref a2, .ref a3, .ref a4, .ref a5, .ref a6, .ref a7, .ref a8, .ref a9, .ref a10, .int 0, .int 0, .int 0, .ref a11, .int 0, .ref a12, .int (-6)])), (a12, .inl (G.2 0, 5, .inl (upd (fun _ => 0) 4 1)))] := hD
    have hP := hP.sub (ws' := []) [] rfl
    have hD := hD.sub (ws' := []) [] (by decide) rfl
    exact W.iret (v := (-6)) hx hb hr (fun t ht hW => ⟨⟨(-6), [], rfl, ⟨rfl, rfl⟩, by rw [ht]; exact hP, hD⟩, hS.F ht⟩) hS.2.2 dX11_law_63
  ·
    exact absurd c_1 (by decide)
theorem dX11_fault_0 : decode cX11_fault 0 = .ok (.aload_n 0, 1) := by decide +kernel
theorem dX11_fault_1 : decode cX11_fault 1 = .ok (.getfield 81, 3) := by decide +kernel
theorem dX11_fault_4 : decode cX11_fault 4 = .ok (.ireturn, 1) := by decide +kernel
set_option maxHeartbeats 4000000 in
set_option maxRecDepth 100000 in
theorem kX11_fault (l : Launch) (G : g5_G) (a0 a1 a2 a3 a4 a5 a6 a7 a8 a9 a10 a11 a12 : Nat) (sz : Nat) : Met l yX11_fault (wsG yX11_fault cX11_fault 1 (some .int)) ({ frames := 0, cells := 0, slots := 0, locals := 0 }) (va_Pc [.ref a0] (g5_P G [(a0, .inr (11, [.ref a1, .ref a2, .ref a3, .ref a4, .ref a5, .ref a6, .ref a7, .ref a8, .ref a9, .ref a10, .int 0, .int 0, .int (-1), .ref a11, .int 0, .ref a12, .int 0]))] sz)) (va_Qi (fun (r : Int32) (u : va_W) => ((r = (-1)) ∧ (u = []))) (g5_B G (va_A [(a0, .inr (11, [.ref a1, .ref a2, .ref a3, .ref a4, .ref a5, .ref a6, .ref a7, .ref a8, .ref a9, .ref a10, .int 0, .int 0, .int (-1), .ref a11, .int 0, .ref a12, .int 0]))] sz)) (va_A [(a0, .inr (11, [.ref a1, .ref a2, .ref a3, .ref a4, .ref a5, .ref a6, .ref a7, .ref a8, .ref a9, .ref a10, .int 0, .int 0, .int (-1), .ref a11, .int 0, .ref a12, .int 0]))] sz)) 0 0 (va_A [(a0, .inr (11, [.ref a1, .ref a2, .ref a3, .ref a4, .ref a5, .ref a6, .ref a7, .ref a8, .ref a9, .ref a10, .int 0, .int 0, .int (-1), .ref a11, .int 0, .ref a12, .int 0]))] sz) := by
  refine Met.ofW (cc := cX11_fault) (maxL := 1) (ret := (some .int)) (by decide) rfl ?_
  intro p e s m args below meth c s₁ B hml hv
  obtain ⟨rfl, hsz, hP, hK, hD0, hN, hT⟩ := hv
  have hx := B.exec
  have hb := B.bytes
  have hr := B.returns
  have hts : ∀ w ∈ tblG, w.before _ s = true := fun w h => atoms_spec (ws := (wsG yX11_fault cX11_fault 1 (some .int))) B.pre w (List.mem_cons_of_mem _ h)
  have hown : s.vm.findClass RX11 = some m.cls := findClass_of_methodNamed B.named
  have hlocks := B.notSynchronized
  subst hsz
  have hD := hD0.self (sz := s.heap.size)
  generalize hAe : va_A [(a0, .inr (11, [.ref a1, .ref a2, .ref a3, .ref a4, .ref a5, .ref a6, .ref a7, .ref a8, .ref a9, .ref a10, .int 0, .int 0, .int (-1), .ref a11, .int 0, .ref a12, .int 0]))] s.heap.size = A at hD hT ⊢
  have hA : ∀ q : Nat, s.heap.size ≤ q → A q := fun q h => by rw [← hAe]; exact Or.inr h
  have hS : va_S A s.heap s.heap [] := va_S.rf
  have hP : va_P G.1 vwCl [(a0, .inr (11, [.ref a1, .ref a2, .ref a3, .ref a4, .ref a5, .ref a6, .ref a7, .ref a8, .ref a9, .ref a10, .int 0, .int 0, .int (-1), .ref a11, .int 0, .ref a12, .int 0]))] s.heap := hP
  have hl := lv_entry ([.ref a0]) (n := 1) (Nat.le_of_ble_eq_true rfl)
  rw [lg_entry_eq]
  generalize (lg_sl ([.ref a0]) ++ List.replicate (1 - (lg_sl ([.ref a0])).length) Slot.unset).toArray = ls at hl ⊢
  have hl : lv_has ls 1 [(0, .ref a0)] := hl
  refine lv_aload_n hx hb dX11_fault_0 rfl (lv_at hl 0 rfl) ?_
  refine va_get (D := G.1) (ci := 11) (v := .int (-1)) (C := RX11) (T := TX11) (N := 17) hx hb hts inG_X11 hown hK hP 0 rfl rfl 12 (by decide) (hts _ fl_X11_81) (fun _ h9 => h9) rfl dX11_fault_1 ?_
  have hP := hP.sub (ws' := []) [] rfl
  have hD := hD.sub (ws' := []) [] (by decide) rfl
  exact W.iret (v := (-1)) hx hb hr (fun t ht hW => ⟨⟨(-1), [], rfl, ⟨rfl, rfl⟩, by rw [ht]; exact hP, hD⟩, hS.F ht⟩) hS.2.2 dX11_fault_4
theorem fl_X11_204 : Cond.fieldLink RX11 204 "LateGlass$House" "forced" "I" ∈ tblG := tg 165 (by decide +kernel) (by decide +kernel)
set_option maxHeartbeats 4000000 in
set_option maxRecDepth 100000 in
theorem kX11_done_4 (l : Launch) (G : g5_G) (a0 a1 a2 a3 a4 a5 a6 a7 a8 a9 a10 a11 a12 : Nat) (sz : Nat) : Met l yX11_done (wsG yX11_done cX11_done 2 (some .int)) ({ frames := 0, cells := 0, slots := 0, locals := 0 }) (va_Pc [.ref a0, .int (-1)] (g5_P G [(a0, .inr (11, [.ref a1, .ref a2, .ref a3, .ref a4, .ref a5, .ref a6, .ref a7, .ref a8, .ref a9, .ref a10, .int 0, .int 0, .int (-1), .ref a11, .int 0, .ref a12, .int 0]))] sz)) (va_Qi (fun (r : Int32) (u : va_W) => ((r = (-1)) ∧ (u = [(a0, .inr (11, [.ref a1, .ref a2, .ref a3, .ref a4, .ref a5, .ref a6, .ref a7, .ref a8, .ref a9, .ref a10, .int 0, .int 0, .int (-1), .ref a11, .int 0, .ref a12, .int 0]))]))) (g5_B G (va_A [(a0, .inr (11, [.ref a1, .ref a2, .ref a3, .ref a4, .ref a5, .ref a6, .ref a7, .ref a8, .ref a9, .ref a10, .int 0, .int 0, .int (-1), .ref a11, .int 0, .ref a12, .int 0]))] sz)) (va_A [(a0, .inr (11, [.ref a1, .ref a2, .ref a3, .ref a4, .ref a5, .ref a6, .ref a7, .ref a8, .ref a9, .ref a10, .int 0, .int 0, .int (-1), .ref a11, .int 0, .ref a12, .int 0]))] sz)) 0 0 (va_A [(a0, .inr (11, [.ref a1, .ref a2, .ref a3, .ref a4, .ref a5, .ref a6, .ref a7, .ref a8, .ref a9, .ref a10, .int 0, .int 0, .int (-1), .ref a11, .int 0, .ref a12, .int 0]))] sz) := by
  refine Met.ofW (cc := cX11_done) (maxL := 2) (ret := (some .int)) (by decide) rfl ?_
  intro p e s m args below meth c s₁ B hml hv
  obtain ⟨rfl, hsz, hP, hK, hD0, hN, hT⟩ := hv
  have hx := B.exec
  have hb := B.bytes
  have hr := B.returns
  have hts : ∀ w ∈ tblG, w.before _ s = true := fun w h => atoms_spec (ws := (wsG yX11_done cX11_done 2 (some .int))) B.pre w (List.mem_cons_of_mem _ h)
  have hown : s.vm.findClass RX11 = some m.cls := findClass_of_methodNamed B.named
  have hlocks := B.notSynchronized
  subst hsz
  have hD := hD0.self (sz := s.heap.size)
  generalize hAe : va_A [(a0, .inr (11, [.ref a1, .ref a2, .ref a3, .ref a4, .ref a5, .ref a6, .ref a7, .ref a8, .ref a9, .ref a10, .int 0, .int 0, .int (-1), .ref a11, .int 0, .ref a12, .int 0]))] s.heap.size = A at hD hT ⊢
  have hA : ∀ q : Nat, s.heap.size ≤ q → A q := fun q h => by rw [← hAe]; exact Or.inr h
  have hS : va_S A s.heap s.heap [] := va_S.rf
  have hP : va_P G.1 vwCl [(a0, .inr (11, [.ref a1, .ref a2, .ref a3, .ref a4, .ref a5, .ref a6, .ref a7, .ref a8, .ref a9, .ref a10, .int 0, .int 0, .int (-1), .ref a11, .int 0, .ref a12, .int 0]))] s.heap := hP
  have hl := lv_entry ([.ref a0, .int (-1)]) (n := 2) (Nat.le_of_ble_eq_true rfl)
  rw [lg_entry_eq]
  generalize (lg_sl ([.ref a0, .int (-1)]) ++ List.replicate (2 - (lg_sl ([.ref a0, .int (-1)])).length) Slot.unset).toArray = ls at hl ⊢
  have hl : lv_has ls 2 [(0, .ref a0), (1, .int (-1))] := hl
  refine lv_aload_n hx hb dX11_done_0 rfl (lv_at hl 0 rfl) ?_
  refine lv_iconst (v := 0) hx hb dX11_done_1 (by decide) ?_
  refine va_put (D := G.1) (ci := 11) (v := .int 0) (ty := .int) (C := RX11) (T := TX11) (N := 17) hx hb hts inG_X11 tyX11 tyX11_ok nmX11 hown hK hP hD hS 0 rfl rfl 16 (by decide) (hts _ fl_X11_94) (fun _ h9 => h9) rfl (by decide +kernel) rfl rfl (Nat.le_of_ble_eq_true rfl) dX11_done_2 (fun H locs hP hD hS => ?_)
  have hP : va_P G.1 vwCl [(a0, .inr (11, [.ref a1, .ref a2, .ref a3, .ref a4, .ref a5, .ref a6, .ref a7, .ref a8, .ref a9, .ref a10, .int 0, .int 0, .int (-1), .ref a11, .int 0, .ref a12, .int 0]))] H := hP
  have hD : va_D A [(a0, .inr (11, [.ref a1, .ref a2, .ref a3, .ref a4, .ref a5, .ref a6, .ref a7, .ref a8, .ref a9, .ref a10, .int 0, .int 0, .int (-1), .ref a11, .int 0, .ref a12, .int 0]))] := hD
  refine lv_iload_n hx hb dX11_done_5 rfl (lv_at hl 1 rfl) ?_
  exact W.iret (v := (-1)) hx hb hr (fun t ht hW => ⟨⟨(-1), [(a0, .inr (11, [.ref a1, .ref a2, .ref a3, .ref a4, .ref a5, .ref a6, .ref a7, .ref a8, .ref a9, .ref a10, .int 0, .int 0, .int (-1), .ref a11, .int 0, .ref a12, .int 0]))], rfl, ⟨rfl, rfl⟩, by rw [ht]; exact hP, hD⟩, hS.F ht⟩) hS.2.2 dX11_done_6
theorem dX11_force_0 : decode cX11_force 0 = .ok (.iload_n 1, 1) := by decide +kernel
theorem dX11_force_1 : decode cX11_force 1 = .ok (.iconst (-1), 1) := by decide +kernel
theorem dX11_force_2 : decode cX11_force 2 = .ok (.if_icmp .lt 14, 3) := by decide +kernel
theorem dX11_force_5 : decode cX11_force 5 = .ok (.iload_n 1, 1) := by decide +kernel
theorem dX11_force_6 : decode cX11_force 6 = .ok (.aload_n 0, 1) := by decide +kernel
theorem dX11_force_7 : decode cX11_force 7 = .ok (.getfield 12, 3) := by decide +kernel
theorem dX11_force_10 : decode cX11_force 10 = .ok (.getfield 192, 3) := by decide +kernel
theorem dX11_force_13 : decode cX11_force 13 = .ok (.if_icmp .lt 10, 3) := by decide +kernel
theorem dX11_force_16 : decode cX11_force 16 = .ok (.aload_n 0, 1) := by decide +kernel
theorem dX11_force_17 : decode cX11_force 17 = .ok (.bipush (-2), 2) := by decide +kernel
theorem dX11_force_19 : decode cX11_force 19 = .ok (.invokevirtual 104, 3) := by decide +kernel
theorem dX11_force_22 : decode cX11_force 22 = .ok (.ireturn, 1) := by decide +kernel
theorem dX11_force_23 : decode cX11_force 23 = .ok (.aload_n 0, 1) := by decide +kernel
theorem dX11_force_24 : decode cX11_force 24 = .ok (.getfield 12, 3) := by decide +kernel
theorem dX11_force_27 : decode cX11_force 27 = .ok (.getfield 204, 3) := by decide +kernel
theorem dX11_force_30 : decode cX11_force 30 = .ok (.istore_n 2, 1) := by decide +kernel
theorem dX11_force_31 : decode cX11_force 31 = .ok (.aload_n 0, 1) := by decide +kernel
theorem dX11_force_32 : decode cX11_force 32 = .ok (.getfield 12, 3) := by decide +kernel
theorem dX11_force_35 : decode cX11_force 35 = .ok (.iload_n 1, 1) := by decide +kernel
theorem dX11_force_36 : decode cX11_force 36 = .ok (.putfield 204, 3) := by decide +kernel
theorem dX11_force_39 : decode cX11_force 39 = .ok (.aload_n 0, 1) := by decide +kernel
theorem dX11_force_40 : decode cX11_force 40 = .ok (.iload_n 2, 1) := by decide +kernel
theorem dX11_force_41 : decode cX11_force 41 = .ok (.invokevirtual 121, 3) := by decide +kernel
theorem dX11_force_44 : decode cX11_force 44 = .ok (.ireturn, 1) := by decide +kernel
set_option maxHeartbeats 4000000 in
set_option maxRecDepth 100000 in
theorem kX11_force (l : Launch) (G : g5_G) (a0 a1 a2 a3 a4 a5 a6 a7 a8 a9 a10 a11 a12 a13 a14 a15 a16 a17 a18 a19 : Nat) (sz : Nat) (n0 : Int32) : Met l yX11_force (wsG yX11_force cX11_force 3 (some .int)) ({ frames := 1, cells := 0, slots := 0, locals := 22 }) (va_Pc [.ref a0, .int n0] (g5_P G [(a0, .inr (11, [.ref a1, .ref a2, .ref a3, .ref a4, .ref a5, .ref a6, .ref a7, .ref a8, .ref a9, .ref a10, .int 0, .int 0, .int (-1), .ref a11, .int 0, .ref a12, .int 0])), (a12, .inl (G.2 0, 5, .inl (fun _ => 0))), (a1, .inr (1, [.long 0, .int 1000, .int (-1), .int (-1), .int 0, .ref a13, .ref a14, .ref a15, .ref a16, .ref a17, .ref a18, .long 0, .ref a19]))] sz)) (va_Qi (fun (r : Int32) (u : va_W) => ((n0.toInt < (-1)) ∧ (r = (-2)) ∧ (u = [])) ∨ ((n0.toInt ≥ (-1)) ∧ (n0.toInt < 0) ∧ (r = (-1)) ∧ (u = [])) ∨ ((n0.toInt ≥ (-1)) ∧ (n0.toInt ≥ 0) ∧ (r = (-2)) ∧ (u = []))) (g5_B G (va_A [(a0, .inr (11, [.ref a1, .ref a2, .ref a3, .ref a4, .ref a5, .ref a6, .ref a7, .ref a8, .ref a9, .ref a10, .int 0, .int 0, .int (-1), .ref a11, .int 0, .ref a12, .int 0])), (a12, .inl (G.2 0, 5, .inl (fun _ => 0))), (a1, .inr (1, [.long 0, .int 1000, .int (-1), .int (-1), .int 0, .ref a13, .ref a14, .ref a15, .ref a16, .ref a17, .ref a18, .long 0, .ref a19]))] sz)) (va_A [(a0, .inr (11, [.ref a1, .ref a2, .ref a3, .ref a4, .ref a5, .ref a6, .ref a7, .ref a8, .ref a9, .ref a10, .int 0, .int 0, .int (-1), .ref a11, .int 0, .ref a12, .int 0])), (a12, .inl (G.2 0, 5, .inl (fun _ => 0))), (a1, .inr (1, [.long 0, .int 1000, .int (-1), .int (-1), .int 0, .ref a13, .ref a14, .ref a15, .ref a16, .ref a17, .ref a18, .long 0, .ref a19]))] sz)) 0 0 (va_A [(a0, .inr (11, [.ref a1, .ref a2, .ref a3, .ref a4, .ref a5, .ref a6, .ref a7, .ref a8, .ref a9, .ref a10, .int 0, .int 0, .int (-1), .ref a11, .int 0, .ref a12, .int 0])), (a12, .inl (G.2 0, 5, .inl (fun _ => 0))), (a1, .inr (1, [.long 0, .int 1000, .int (-1), .int (-1), .int 0, .ref a13, .ref a14, .ref a15, .ref a16, .ref a17, .ref a18, .long 0, .ref a19]))] sz) := by
  refine Met.ofW (cc := cX11_force) (maxL := 3) (ret := (some .int)) (by decide) rfl ?_
  intro p e s m args below meth c s₁ B hml hv
  obtain ⟨rfl, hsz, hP, hK, hD0, hN, hT⟩ := hv
  have hx := B.exec
  have hb := B.bytes
  have hr := B.returns
  have hts : ∀ w ∈ tblG, w.before _ s = true := fun w h => atoms_spec (ws := (wsG yX11_force cX11_force 3 (some .int))) B.pre w (List.mem_cons_of_mem _ h)
  have hown : s.vm.findClass RX11 = some m.cls := findClass_of_methodNamed B.named
  have hlocks := B.notSynchronized
  subst hsz
  have hD := hD0.self (sz := s.heap.size)
  generalize hAe : va_A [(a0, .inr (11, [.ref a1, .ref a2, .ref a3, .ref a4, .ref a5, .ref a6, .ref a7, .ref a8, .ref a9, .ref a10, .int 0, .int 0, .int (-1), .ref a11, .int 0, .ref a12, .int 0])), (a12, .inl (G.2 0, 5, .inl (fun _ => 0))), (a1, .inr (1, [.long 0, .int 1000, .int (-1), .int (-1), .int 0, .ref a13, .ref a14, .ref a15, .ref a16, .ref a17, .ref a18, .long 0, .ref a19]))] s.heap.size = A at hD hT ⊢
  have hA : ∀ q : Nat, s.heap.size ≤ q → A q := fun q h => by rw [← hAe]; exact Or.inr h
  have hS : va_S A s.heap s.heap [] := va_S.rf
  have hP : va_P G.1 vwCl [(a0, .inr (11, [.ref a1, .ref a2, .ref a3, .ref a4, .ref a5, .ref a6, .ref a7, .ref a8, .ref a9, .ref a10, .int 0, .int 0, .int (-1), .ref a11, .int 0, .ref a12, .int 0])), (a12, .inl (G.2 0, 5, .inl (fun _ => 0))), (a1, .inr (1, [.long 0, .int 1000, .int (-1), .int (-1), .int 0, .ref a13, .ref a14, .ref a15, .ref a16, .ref a17, .ref a18, .long 0, .ref a19]))] s.heap := hP
  have hl := lv_entry ([.ref a0, .int n0]) (n := 3) (Nat.le_of_ble_eq_true rfl)
  rw [lg_entry_eq]
  generalize (lg_sl ([.ref a0, .int n0]) ++ List.replicate (3 - (lg_sl ([.ref a0, .int n0])).length) Slot.unset).toArray = ls at hl ⊢
  have hl : lv_has ls 3 [(0, .ref a0), (1, .int n0)] := hl
  refine lv_iload_n hx hb dX11_force_0 rfl (lv_at hl 1 rfl) ?_
  refine lv_iconst (v := (-1)) hx hb dX11_force_1 (by decide) ?_
  refine lv_icmp_lt (tgt := 16) hx hb dX11_force_2 (by decide) (fun c_1 => ?_) (fun c_1 => ?_)
  ·
    have i_1 : n0.toInt < (-1) := by have z := g5_lt (a := n0.toInt) (b := (-1)) (by rfl) (by decide) c_1; omega
    refine lv_aload_n hx hb dX11_force_16 rfl (lv_at hl 0 rfl) ?_
    refine lv_bipush (v := (-2)) hx hb dX11_force_17 (by decide) ?_
    have hPc := hP.sub (ws' := [(a0, .inr (11, [.ref a1, .ref a2, .ref a3, .ref a4, .ref a5, .ref a6, .ref a7, .ref a8, .ref a9, .ref a10, .int 0, .int 0, .int (-1), .ref a11, .int 0, .ref a12, .int 0])), (a12, .inl (G.2 0, 5, .inl (fun _ => 0)))]) [0, 1] rfl
    have hDc := hD.sub (ws' := [(a0, .inr (11, [.ref a1, .ref a2, .ref a3, .ref a4, .ref a5, .ref a6, .ref a7, .ref a8, .ref a9, .ref a10, .int 0, .int 0, .int (-1), .ref a11, .int 0, .ref a12, .int 0])), (a12, .inl (G.2 0, 5, .inl (fun _ => 0)))]) [0, 1] (by decide) rfl
    have hFc := va_free (wc := [(a0, .inr (11, [.ref a1, .ref a2, .ref a3, .ref a4, .ref a5, .ref a6, .ref a7, .ref a8, .ref a9, .ref a10, .int 0, .int 0, .int (-1), .ref a11, .int 0, .ref a12, .int 0])), (a12, .inl (G.2 0, 5, .inl (fun _ => 0)))]) hD hS hA [0, 1] rfl
    refine va_calli (va_runV (As := [.int (-2)]) (rest := []) ⟨hx, hb, hml, hown, hts⟩ (kX11_refuse_2 l G a0 a1 a2 a3 a4 a5 a6 a7 a8 a9 a10 a11 a12 s.heap.size) (cwV 1 hts gV_X11_104 rfl rfl rfl hv_X11_refuse ⟨Nat.le_of_ble_eq_true rfl, Nat.le_of_ble_eq_true rfl⟩) (g5_preV hPc hK hDc hN hT hS hFc (ci := 11) (q0 := 0) rfl rfl) rfl rfl hl.1 rfl (lv_room (Nat.le_of_ble_eq_true rfl)) dX11_force_19 ⟨Nat.le_of_ble_eq_true rfl, Nat.le_of_ble_eq_true rfl⟩) hS (fun q _ h => hFc q h) hFc (fun r u t H1 locs ht hvm hw hB hz1 hk1 hS => ?_)
    obtain ⟨hP1, hD1⟩ := hB
    rw [ht] at hP1
    obtain ⟨rfl, rfl⟩ := hw
    obtain ⟨hP, hD⟩ := va_join (wr := [(a1, .inr (1, [.long 0, .int 1000, .int (-1), .int (-1), .int 0, .ref a13, .ref a14, .ref a15, .ref a16, .ref a17, .ref a18, .long 0, .ref a19]))]) (w1 := [(a0, .inr (11, [.ref a1, .ref a2, .ref a3, .ref a4, .ref a5, .ref a6, .ref a7, .ref a8, .ref a9, .ref a10, .int 0, .int 0, .int (-1), .ref a11, .int 0, .ref a12, .int (-2)])), (a12, .inl (G.2 0, 5, .inl (upd (fun _ => 0) 1 1)))]) hP hD [0, 1] [2] rfl rfl (by decide) (by decide) hk1 hFc hP1 hD1
    generalize H1 = H at hP hS ⊢
    have hP : va_P G.1 vwCl [(a1, .inr (1, [.long 0, .int 1000, .int (-1), .int (-1), .int 0, .ref a13, .ref a14, .ref a15, .ref a16, .ref a17, .ref a18, .long 0, .ref a19])), (a0, .inr (11, [.ref a1, .ref a2, .ref a3, .ref a4, .ref a5, .ref a6, .ref a7, .ref a8, .ref a9, .ref a10, .int 0, .int 0, .int (-1), .ref a11, .int 0, .ref a12, .int (-2)])), (a12, .inl (G.2 0, 5, .inl (upd (fun _ => 0) 1 1)))] H := hP
    have hD : va_D A [(a1, .inr (1, [.long 0, .int 1000, .int (-1), .int (-1), .int 0, .ref a13, .ref a14, .ref a15, .ref a16, .ref a17, .ref a18, .long 0, .ref a19])), (a0, .inr (11, [.ref a1, .ref a2, .ref a3, .ref a4, .ref a5, .ref a6, .ref a7, .ref a8, .ref a9, .ref a10, .int 0, .int 0, .int (-1), .ref a11, .int 0, .ref a12, .int (-2)])), (a12, .inl (G.2 0, 5, .inl (upd (fun _ => 0) 1 1)))] := hD
    have hP := hP.sub (ws' := []) [] rfl
    have hD := hD.sub (ws' := []) [] (by decide) rfl
    exact W.iret (v := (-2)) hx hb hr (fun t ht hW => ⟨⟨(-2), [], rfl, Or.inl (⟨i_1, rfl, rfl⟩), by rw [ht]; exact hP, hD⟩, hS.F ht⟩) hS.2.2 dX11_force_22
  ·
    have i_1 : n0.toInt ≥ (-1) := by have z := g5_ltN (a := n0.toInt) (b := (-1)) (by rfl) (by decide) c_1; omega
    refine lv_iload_n hx hb dX11_force_5 rfl (lv_at hl 1 rfl) ?_
    refine lv_aload_n hx hb dX11_force_6 rfl (lv_at hl 0 rfl) ?_
    refine va_get (D := G.1) (ci := 11) (v := .ref a1) (C := RX11) (T := TX11) (N := 17) hx hb hts inG_X11 hown hK hP 0 rfl rfl 0 (by decide) (hts _ fl_X11_12) (fun _ h9 => h9) rfl dX11_force_7 ?_
    refine va_get (D := G.1) (ci := 1) (v := .int 0) (C := RX1) (T := TX1) (N := 13) hx hb hts inG_X1 hown hK hP 2 rfl rfl 4 (by decide) (hts _ fl_X11_192) (fun _ h9 => h9) rfl dX11_force_10 ?_
    refine lv_icmp_lt (tgt := 23) hx hb dX11_force_13 (by decide) (fun c_2 => ?_) (fun c_2 => ?_)
    ·
      have i_2 : n0.toInt < 0 := by have z := g5_lt (a := n0.toInt) (b := 0) (by rfl) (by decide) c_2; omega
      refine lv_aload_n hx hb dX11_force_23 rfl (lv_at hl 0 rfl) ?_
      refine va_get (D := G.1) (ci := 11) (v := .ref a1) (C := RX11) (T := TX11) (N := 17) hx hb hts inG_X11 hown hK hP 0 rfl rfl 0 (by decide) (hts _ fl_X11_12) (fun _ h9 => h9) rfl dX11_force_24 ?_
      refine va_get (D := G.1) (ci := 1) (v := .int (-1)) (C := RX1) (T := TX1) (N := 13) hx hb hts inG_X1 hown hK hP 2 rfl rfl 3 (by decide) (hts _ fl_X11_204) (fun _ h9 => h9) rfl dX11_force_27 ?_
      refine lv_istore_n (lv' := [(2, .int (-1)), (0, .ref a0), (1, .int n0)]) hx hb dX11_force_30 rfl hl (by decide) rfl (fun ls hl => ?_)
      refine lv_aload_n hx hb dX11_force_31 rfl (lv_at hl 1 rfl) ?_
      refine va_get (D := G.1) (ci := 11) (v := .ref a1) (C := RX11) (T := TX11) (N := 17) hx hb hts inG_X11 hown hK hP 0 rfl rfl 0 (by decide) (hts _ fl_X11_12) (fun _ h9 => h9) rfl dX11_force_32 ?_
      refine lv_iload_n hx hb dX11_force_35 rfl (lv_at hl 2 rfl) ?_
      refine va_put (D := G.1) (ci := 1) (v := .int n0) (ty := .int) (C := RX1) (T := TX1) (N := 13) hx hb hts inG_X1 tyX1 tyX1_ok nmX1 hown hK hP hD hS 2 rfl rfl 3 (by decide) (hts _ fl_X11_204) (fun _ h9 => h9) rfl (by decide +kernel) rfl rfl (Nat.le_of_ble_eq_true rfl) dX11_force_36 (fun H locs hP hD hS => ?_)
      have hP : va_P G.1 vwCl [(a0, .inr (11, [.ref a1, .ref a2, .ref a3, .ref a4, .ref a5, .ref a6, .ref a7, .ref a8, .ref a9, .ref a10, .int 0, .int 0, .int (-1), .ref a11, .int 0, .ref a12, .int 0])), (a12, .inl (G.2 0, 5, .inl (fun _ => 0))), (a1, .inr (1, [.long 0, .int 1000, .int (-1), .int n0, .int 0, .ref a13, .ref a14, .ref a15, .ref a16, .ref a17, .ref a18, .long 0, .ref a19]))] H := hP
      have hD : va_D A [(a0, .inr (11, [.ref a1, .ref a2, .ref a3, .ref a4, .ref a5, .ref a6, .ref a7, .ref a8, .ref a9, .ref a10, .int 0, .int 0, .int (-1), .ref a11, .int 0, .ref a12, .int 0])), (a12, .inl (G.2 0, 5, .inl (fun _ => 0))), (a1, .inr (1, [.long 0, .int 1000, .int (-1), .int n0, .int 0, .ref a13, .ref a14, .ref a15, .ref a16, .ref a17, .ref a18, .long 0, .ref a19]))] := hD
      refine lv_aload_n hx hb dX11_force_39 rfl (lv_at hl 1 rfl) ?_
      refine lv_iload_n hx hb dX11_force_40 rfl (lv_at hl 0 rfl) ?_
      have hPc := hP.sub (ws' := [(a0, .inr (11, [.ref a1, .ref a2, .ref a3, .ref a4, .ref a5, .ref a6, .ref a7, .ref a8, .ref a9, .ref a10, .int 0, .int 0, .int (-1), .ref a11, .int 0, .ref a12, .int 0]))]) [0] rfl
      have hDc := hD.sub (ws' := [(a0, .inr (11, [.ref a1, .ref a2, .ref a3, .ref a4, .ref a5, .ref a6, .ref a7, .ref a8, .ref a9, .ref a10, .int 0, .int 0, .int (-1), .ref a11, .int 0, .ref a12, .int 0]))]) [0] (by decide) rfl
      have hFc := va_free (wc := [(a0, .inr (11, [.ref a1, .ref a2, .ref a3, .ref a4, .ref a5, .ref a6, .ref a7, .ref a8, .ref a9, .ref a10, .int 0, .int 0, .int (-1), .ref a11, .int 0, .ref a12, .int 0]))]) hD hS hA [0] rfl
      refine va_calli (va_runV (As := [.int (-1)]) (rest := []) ⟨hx, hb, hml, hown, hts⟩ (kX11_done_4 l G a0 a1 a2 a3 a4 a5 a6 a7 a8 a9 a10 a11 a12 H.size) (cwV 1 hts gV_X11_121 rfl rfl rfl hv_X11_done ⟨Nat.le_of_ble_eq_true rfl, Nat.le_of_ble_eq_true rfl⟩) (g5_preV hPc hK hDc hN hT hS hFc (ci := 11) (q0 := 0) rfl rfl) rfl rfl hl.1 rfl (lv_room (Nat.le_of_ble_eq_true rfl)) dX11_force_41 ⟨Nat.le_of_ble_eq_true rfl, Nat.le_of_ble_eq_true rfl⟩) hS (fun q _ h => hFc q h) hFc (fun r u t H1 locs ht hvm hw hB hz1 hk1 hS => ?_)
      obtain ⟨hP1, hD1⟩ := hB
      rw [ht] at hP1
      obtain ⟨rfl, rfl⟩ := hw
      obtain ⟨hP, hD⟩ := va_join (wr := [(a12, .inl (G.2 0, 5, .inl (fun _ => 0))), (a1, .inr (1, [.long 0, .int 1000, .int (-1), .int n0, .int 0, .ref a13, .ref a14, .ref a15, .ref a16, .ref a17, .ref a18, .long 0, .ref a19]))]) (w1 := [(a0, .inr (11, [.ref a1, .ref a2, .ref a3, .ref a4, .ref a5, .ref a6, .ref a7, .ref a8, .ref a9, .ref a10, .int 0, .int 0, .int (-1), .ref a11, .int 0, .ref a12, .int 0]))]) hP hD [0] [1, 2] rfl rfl (by decide) (by decide) hk1 hFc hP1 hD1
      generalize H1 = H at hP hS ⊢
      have hP : va_P G.1 vwCl [(a12, .inl (G.2 0, 5, .inl (fun _ => 0))), (a1, .inr (1, [.long 0, .int 1000, .int (-1), .int n0, .int 0, .ref a13, .ref a14, .ref a15, .ref a16, .ref a17, .ref a18, .long 0, .ref a19])), (a0, .inr (11, [.ref a1, .ref a2, .ref a3, .ref a4, .ref a5, .ref a6, .ref a7, .ref a8, .ref a9, .ref a10, .int 0, .int 0, .int (-1), .ref a11, .int 0, .ref a12, .int 0]))] H := hP
      have hD : va_D A [(a12, .inl (G.2 0, 5, .inl (fun _ => 0))), (a1, .inr (1, [.long 0, .int 1000, .int (-1), .int n0, .int 0, .ref a13, .ref a14, .ref a15, .ref a16, .ref a17, .ref a18, .long 0, .ref a19])), (a0, .inr (11, [.ref a1, .ref a2, .ref a3, .ref a4, .ref a5, .ref a6, .ref a7, .ref a8, .ref a9, .ref a10, .int 0, .int 0, .int (-1), .ref a11, .int 0, .ref a12, .int 0]))] := hD
      have hP := hP.sub (ws' := []) [] rfl
      have hD := hD.sub (ws' := []) [] (by decide) rfl
      exact W.iret (v := (-1)) hx hb hr (fun t ht hW => ⟨⟨(-1), [], rfl, Or.inr (Or.inl (⟨i_1, i_2, rfl, rfl⟩)), by rw [ht]; exact hP, hD⟩, hS.F ht⟩) hS.2.2 dX11_force_44
    ·
      have i_2 : n0.toInt ≥ 0 := by have z := g5_ltN (a := n0.toInt) (b := 0) (by rfl) (by decide) c_2; omega
      refine lv_aload_n hx hb dX11_force_16 rfl (lv_at hl 0 rfl) ?_
      refine lv_bipush (v := (-2)) hx hb dX11_force_17 (by decide) ?_
      have hPc := hP.sub (ws' := [(a0, .inr (11, [.ref a1, .ref a2, .ref a3, .ref a4, .ref a5, .ref a6, .ref a7, .ref a8, .ref a9, .ref a10, .int 0, .int 0, .int (-1), .ref a11, .int 0, .ref a12, .int 0])), (a12, .inl (G.2 0, 5, .inl (fun _ => 0)))]) [0, 1] rfl
      have hDc := hD.sub (ws' := [(a0, .inr (11, [.ref a1, .ref a2, .ref a3, .ref a4, .ref a5, .ref a6, .ref a7, .ref a8, .ref a9, .ref a10, .int 0, .int 0, .int (-1), .ref a11, .int 0, .ref a12, .int 0])), (a12, .inl (G.2 0, 5, .inl (fun _ => 0)))]) [0, 1] (by decide) rfl
      have hFc := va_free (wc := [(a0, .inr (11, [.ref a1, .ref a2, .ref a3, .ref a4, .ref a5, .ref a6, .ref a7, .ref a8, .ref a9, .ref a10, .int 0, .int 0, .int (-1), .ref a11, .int 0, .ref a12, .int 0])), (a12, .inl (G.2 0, 5, .inl (fun _ => 0)))]) hD hS hA [0, 1] rfl
      refine va_calli (va_runV (As := [.int (-2)]) (rest := []) ⟨hx, hb, hml, hown, hts⟩ (kX11_refuse_2 l G a0 a1 a2 a3 a4 a5 a6 a7 a8 a9 a10 a11 a12 s.heap.size) (cwV 1 hts gV_X11_104 rfl rfl rfl hv_X11_refuse ⟨Nat.le_of_ble_eq_true rfl, Nat.le_of_ble_eq_true rfl⟩) (g5_preV hPc hK hDc hN hT hS hFc (ci := 11) (q0 := 0) rfl rfl) rfl rfl hl.1 rfl (lv_room (Nat.le_of_ble_eq_true rfl)) dX11_force_19 ⟨Nat.le_of_ble_eq_true rfl, Nat.le_of_ble_eq_true rfl⟩) hS (fun q _ h => hFc q h) hFc (fun r u t H1 locs ht hvm hw hB hz1 hk1 hS => ?_)
      obtain ⟨hP1, hD1⟩ := hB
      rw [ht] at hP1
      obtain ⟨rfl, rfl⟩ := hw
      obtain ⟨hP, hD⟩ := va_join (wr := [(a1, .inr (1, [.long 0, .int 1000, .int (-1), .int (-1), .int 0, .ref a13, .ref a14, .ref a15, .ref a16, .ref a17, .ref a18, .long 0, .ref a19]))]) (w1 := [(a0, .inr (11, [.ref a1, .ref a2, .ref a3, .ref a4, .ref a5, .ref a6, .ref a7, .ref a8, .ref a9, .ref a10, .int 0, .int 0, .int (-1), .ref a11, .int 0, .ref a12, .int (-2)])), (a12, .inl (G.2 0, 5, .inl (upd (fun _ => 0) 1 1)))]) hP hD [0, 1] [2] rfl rfl (by decide) (by decide) hk1 hFc hP1 hD1
      generalize H1 = H at hP hS ⊢
      have hP : va_P G.1 vwCl [(a1, .inr (1, [.long 0, .int 1000, .int (-1), .int (-1), .int 0, .ref a13, .ref a14, .ref a15, .ref a16, .ref a17, .ref a18, .long 0, .ref a19])), (a0, .inr (11, [.ref a1, .ref a2, .ref a3, .ref a4, .ref a5, .ref a6, .ref a7, .ref a8, .ref a9, .ref a10, .int 0, .int 0, .int (-1), .ref a11, .int 0, .ref a12, .int (-2)])), (a12, .inl (G.2 0, 5, .inl (upd (fun _ => 0) 1 1)))] H := hP
      have hD : va_D A [(a1, .inr (1, [.long 0, .int 1000, .int (-1), .int (-1), .int 0, .ref a13, .ref a14, .ref a15, .ref a16, .ref a17, .ref a18, .long 0, .ref a19])), (a0, .inr (11, [.ref a1, .ref a2, .ref a3, .ref a4, .ref a5, .ref a6, .ref a7, .ref a8, .ref a9, .ref a10, .int 0, .int 0, .int (-1), .ref a11, .int 0, .ref a12, .int (-2)])), (a12, .inl (G.2 0, 5, .inl (upd (fun _ => 0) 1 1)))] := hD
      have hP := hP.sub (ws' := []) [] rfl
      have hD := hD.sub (ws' := []) [] (by decide) rfl
      exact W.iret (v := (-2)) hx hb hr (fun t ht hW => ⟨⟨(-2), [], rfl, Or.inr (Or.inr (⟨i_1, i_2, rfl, rfl⟩)), by rw [ht]; exact hP, hD⟩, hS.F ht⟩) hS.2.2 dX11_force_22
set_option maxHeartbeats 4000000 in
set_option maxRecDepth 100000 in
theorem kX11_isLook_5 (l : Launch) (G : g5_G) (sz : Nat) (n0 : Int32) (n1 : Int32) (n2 : Int32) : Met l yX11_isLook (wsG yX11_isLook cX11_isLook 3 (some .boolean)) ({ frames := 1, cells := 0, slots := 0, locals := 20 }) (va_Pc [.int n0, .int n1, .int n2] (g5_P G [] sz)) (va_Qi (fun (r : Int32) (u : va_W) => ((n0.toInt < 0) ∧ (r = 0) ∧ (u = [])) ∨ ((n0.toInt ≥ 0) ∧ (n0.toInt ≥ 64) ∧ (r = 0) ∧ (u = [])) ∨ ((n0.toInt ≥ 0) ∧ (n0.toInt < 64) ∧ (n1.toInt < 0) ∧ (r = 0) ∧ (u = [])) ∨ ((n0.toInt ≥ 0) ∧ (n0.toInt < 64) ∧ (n1.toInt ≥ 0) ∧ (n1.toInt ≥ 4) ∧ (r = 0) ∧ (u = [])) ∨ ((n0.toInt ≥ 0) ∧ (n0.toInt < 64) ∧ (n1.toInt ≥ 0) ∧ (n1.toInt < 4) ∧ (n2.toInt < 0) ∧ (r = 0) ∧ (u = [])) ∨ ((n0.toInt ≥ 0) ∧ (n0.toInt < 64) ∧ (n1.toInt ≥ 0) ∧ (n1.toInt < 4) ∧ (n2.toInt ≥ 0) ∧ (n2.toInt ≥ 24) ∧ (r = 0) ∧ (u = [])) ∨ ((n0.toInt ≥ 0) ∧ (n0.toInt < 64) ∧ (n1.toInt ≥ 0) ∧ (n1.toInt < 4) ∧ (n2.toInt ≥ 0) ∧ (n2.toInt < 24) ∧ (r = 1) ∧ (u = []))) (g5_B G (va_A [] sz)) (va_A [] sz)) 0 0 (va_A [] sz) := by
  refine Met.ofW (cc := cX11_isLook) (maxL := 3) (ret := (some .boolean)) (by decide) rfl ?_
  intro p e s m args below meth c s₁ B hml hv
  obtain ⟨rfl, hsz, hP, hK, hD0, hN, hT⟩ := hv
  have hx := B.exec
  have hb := B.bytes
  have hr := B.returns
  have hts : ∀ w ∈ tblG, w.before _ s = true := fun w h => atoms_spec (ws := (wsG yX11_isLook cX11_isLook 3 (some .boolean))) B.pre w (List.mem_cons_of_mem _ h)
  have hown : s.vm.findClass RX11 = some m.cls := findClass_of_methodNamed B.named
  have hlocks := B.notSynchronized
  subst hsz
  have hD := hD0.self (sz := s.heap.size)
  generalize hAe : va_A [] s.heap.size = A at hD hT ⊢
  have hA : ∀ q : Nat, s.heap.size ≤ q → A q := fun q h => by rw [← hAe]; exact Or.inr h
  have hS : va_S A s.heap s.heap [] := va_S.rf
  have hP : va_P G.1 vwCl [] s.heap := hP
  have hl := lv_entry ([.int n0, .int n1, .int n2]) (n := 3) (Nat.le_of_ble_eq_true rfl)
  rw [lg_entry_eq]
  generalize (lg_sl ([.int n0, .int n1, .int n2]) ++ List.replicate (3 - (lg_sl ([.int n0, .int n1, .int n2])).length) Slot.unset).toArray = ls at hl ⊢
  have hl : lv_has ls 3 [(0, .int n0), (1, .int n1), (2, .int n2)] := hl
  refine lv_iload_n hx hb dX11_isLook_0 rfl (lv_at hl 0 rfl) ?_
  have hPc := hP.sub (ws' := []) [] rfl
  have hDc := hD.sub (ws' := []) [] (by decide) rfl
  have hFc := va_free (wc := []) hD hS hA [] rfl
  refine va_calli (va_runS (As := [.int n0]) (rest := []) ⟨hx, hb, hml, hown, hts⟩ (kX11_isCell_2 l G s.heap.size n0) (va_cwS 1 hts gS_X11_97 rfl rfl rfl hs_X11_isCell ⟨Nat.le_of_ble_eq_true rfl, Nat.le_of_ble_eq_true rfl⟩) (g5_preS hPc hK hDc hN hT hS hFc) rfl rfl hl.1 rfl (lv_room (Nat.le_of_ble_eq_true rfl)) dX11_isLook_1 ⟨Nat.le_of_ble_eq_true rfl, Nat.le_of_ble_eq_true rfl⟩) hS (fun q _ h => hFc q h) hFc (fun r u t H1 locs ht hvm hw hB hz1 hk1 hS => ?_)
  obtain ⟨hP1, hD1⟩ := hB
  rw [ht] at hP1
  rcases hw with ⟨i_1, rfl, rfl⟩ | ⟨i_2, i_3, rfl, rfl⟩ | ⟨i_4, i_5, rfl, rfl⟩
  ·
    have hP := g5_same hP hk1
    generalize H1 = H at hP hS ⊢
    refine lv_if_eq (tgt := 27) hx hb dX11_isLook_4 (by decide) (fun c_6 => ?_) (fun c_6 => ?_)
    ·
      refine lv_iconst (v := 0) hx hb dX11_isLook_27 (by decide) ?_
      exact W.zret (v := 0) hx hb hr rfl (fun t ht hW => ⟨⟨0, [], rfl, Or.inl (⟨i_1, rfl, rfl⟩), by rw [ht]; exact hP, hD⟩, hS.F ht⟩) hS.2.2 dX11_isLook_28
    ·
      exact absurd c_6 (by decide)
  ·
    have hP := g5_same hP hk1
    generalize H1 = H at hP hS ⊢
    refine lv_if_eq (tgt := 27) hx hb dX11_isLook_4 (by decide) (fun c_7 => ?_) (fun c_7 => ?_)
    ·
      refine lv_iconst (v := 0) hx hb dX11_isLook_27 (by decide) ?_
      exact W.zret (v := 0) hx hb hr rfl (fun t ht hW => ⟨⟨0, [], rfl, Or.inr (Or.inl (⟨i_2, i_3, rfl, rfl⟩)), by rw [ht]; exact hP, hD⟩, hS.F ht⟩) hS.2.2 dX11_isLook_28
    ·
      exact absurd c_7 (by decide)
  ·
    have hP := g5_same hP hk1
    generalize H1 = H at hP hS ⊢
    refine lv_if_eq (tgt := 27) hx hb dX11_isLook_4 (by decide) (fun c_8 => ?_) (fun c_8 => ?_)
    ·
      exact absurd c_8 (by decide)
    ·
      refine lv_iload_n hx hb dX11_isLook_7 rfl (lv_at hl 1 rfl) ?_
      refine lv_if_lt (tgt := 27) hx hb dX11_isLook_8 (by decide) (fun c_9 => ?_) (fun c_9 => ?_)
      ·
        have i_9 : n1.toInt < 0 := by have z := g5_lt (a := n1.toInt) (b := 0) (by rfl) (by decide) c_9; omega
        refine lv_iconst (v := 0) hx hb dX11_isLook_27 (by decide) ?_
        exact W.zret (v := 0) hx hb hr rfl (fun t ht hW => ⟨⟨0, [], rfl, Or.inr (Or.inr (Or.inl (⟨i_4, i_5, i_9, rfl, rfl⟩))), by rw [ht]; exact hP, hD⟩, hS.F ht⟩) hS.2.2 dX11_isLook_28
      ·
        have i_9 : n1.toInt ≥ 0 := by have z := g5_ltN (a := n1.toInt) (b := 0) (by rfl) (by decide) c_9; omega
        refine lv_iload_n hx hb dX11_isLook_11 rfl (lv_at hl 1 rfl) ?_
        refine lv_iconst (v := 4) hx hb dX11_isLook_12 (by decide) ?_
        refine lv_icmp_ge (tgt := 27) hx hb dX11_isLook_13 (by decide) (fun c_10 => ?_) (fun c_10 => ?_)
        ·
          have i_10 : n1.toInt ≥ 4 := by have z := g5_ge (a := n1.toInt) (b := 4) (by rfl) (by decide) c_10; omega
          refine lv_iconst (v := 0) hx hb dX11_isLook_27 (by decide) ?_
          exact W.zret (v := 0) hx hb hr rfl (fun t ht hW => ⟨⟨0, [], rfl, Or.inr (Or.inr (Or.inr (Or.inl (⟨i_4, i_5, i_9, i_10, rfl, rfl⟩)))), by rw [ht]; exact hP, hD⟩, hS.F ht⟩) hS.2.2 dX11_isLook_28
        ·
          have i_10 : n1.toInt < 4 := by have z := g5_geN (a := n1.toInt) (b := 4) (by rfl) (by decide) c_10; omega
          refine lv_iload_n hx hb dX11_isLook_16 rfl (lv_at hl 2 rfl) ?_
          have hPc := hP.sub (ws' := []) [] rfl
          have hDc := hD.sub (ws' := []) [] (by decide) rfl
          have hFc := va_free (wc := []) hD hS hA [] rfl
          refine va_calli (va_runS (As := [.int n2]) (rest := []) ⟨hx, hb, hml, hown, hts⟩ (kX11_isHour_2 l G H.size n2) (va_cwS 1 hts gS_X11_127 rfl rfl rfl hs_X11_isHour ⟨Nat.le_of_ble_eq_true rfl, Nat.le_of_ble_eq_true rfl⟩) (g5_preS hPc hK hDc hN hT hS hFc) rfl rfl hl.1 rfl (lv_room (Nat.le_of_ble_eq_true rfl)) dX11_isLook_17 ⟨Nat.le_of_ble_eq_true rfl, Nat.le_of_ble_eq_true rfl⟩) hS (fun q _ h => hFc q h) hFc (fun r u t H1 locs ht hvm hw hB hz1 hk1 hS => ?_)
          obtain ⟨hP1, hD1⟩ := hB
          rw [ht] at hP1
          rcases hw with ⟨i_11, rfl, rfl⟩ | ⟨i_12, i_13, rfl, rfl⟩ | ⟨i_14, i_15, rfl, rfl⟩
          ·
            have hP := g5_same hP hk1
            generalize H1 = H at hP hS ⊢
            refine lv_if_eq (tgt := 27) hx hb dX11_isLook_20 (by decide) (fun c_16 => ?_) (fun c_16 => ?_)
            ·
              refine lv_iconst (v := 0) hx hb dX11_isLook_27 (by decide) ?_
              exact W.zret (v := 0) hx hb hr rfl (fun t ht hW => ⟨⟨0, [], rfl, Or.inr (Or.inr (Or.inr (Or.inr (Or.inl (⟨i_4, i_5, i_9, i_10, i_11, rfl, rfl⟩))))), by rw [ht]; exact hP, hD⟩, hS.F ht⟩) hS.2.2 dX11_isLook_28
            ·
              exact absurd c_16 (by decide)
          ·
            have hP := g5_same hP hk1
            generalize H1 = H at hP hS ⊢
            refine lv_if_eq (tgt := 27) hx hb dX11_isLook_20 (by decide) (fun c_17 => ?_) (fun c_17 => ?_)
            ·
              refine lv_iconst (v := 0) hx hb dX11_isLook_27 (by decide) ?_
              exact W.zret (v := 0) hx hb hr rfl (fun t ht hW => ⟨⟨0, [], rfl, Or.inr (Or.inr (Or.inr (Or.inr (Or.inr (Or.inl (⟨i_4, i_5, i_9, i_10, i_12, i_13, rfl, rfl⟩)))))), by rw [ht]; exact hP, hD⟩, hS.F ht⟩) hS.2.2 dX11_isLook_28
            ·
              exact absurd c_17 (by decide)
          ·
            have hP := g5_same hP hk1
            generalize H1 = H at hP hS ⊢
            refine lv_if_eq (tgt := 27) hx hb dX11_isLook_20 (by decide) (fun c_18 => ?_) (fun c_18 => ?_)
            ·
              exact absurd c_18 (by decide)
            ·
              refine lv_iconst (v := 1) hx hb dX11_isLook_23 (by decide) ?_
              refine lv_goto (tgt := 28) hx hb dX11_isLook_24 (by decide) ?_
              exact W.zret (v := 1) hx hb hr rfl (fun t ht hW => ⟨⟨1, [], rfl, Or.inr (Or.inr (Or.inr (Or.inr (Or.inr (Or.inr (⟨i_4, i_5, i_9, i_10, i_14, i_15, rfl, rfl⟩)))))), by rw [ht]; exact hP, hD⟩, hS.F ht⟩) hS.2.2 dX11_isLook_28
theorem ml_X11_207 : Cond.methodLink RX11 207 yX11_isLook ∈ tblG := tg 808 (by decide +kernel) (by decide +kernel)
theorem gS_X11_207 : GoodIn tblG (va_wsS RX11 207 yX11_isLook (wsG yX11_isLook cX11_isLook 3 (some .boolean))) := tgS ml_X11_207 st_X11_isLook ini_X11 gW_X11_isLook
theorem ml_X11_210 : Cond.methodLink RX11 210 yX5_run ∈ tblG := tg 811 (by decide +kernel) (by decide +kernel)
theorem gV_X11_210 : GoodIn tblG (wsV RX11 210 RX5 yX5_run (wsG yX5_run cX5_run 9 none)) := tgV ml_X11_210 im_X5_run se_X5_run ini_X5 gW_X5_run
theorem fl_X11_213 : Cond.fieldLink RX11 213 "LateGlass$Look" "seen" "I" ∈ tblG := tg 254 (by decide +kernel) (by decide +kernel)
theorem fl_X11_216 : Cond.fieldLink RX11 216 "LateGlass$Look" "length" "I" ∈ tblG := tg 252 (by decide +kernel) (by decide +kernel)
theorem fl_X11_219 : Cond.fieldLink RX11 219 "LateGlass$Look" "lastHour" "I" ∈ tblG := tg 256 (by decide +kernel) (by decide +kernel)
theorem fl_X11_222 : Cond.fieldLink RX11 222 "LateGlass$Look" "bright" "I" ∈ tblG := tg 258 (by decide +kernel) (by decide +kernel)
theorem fl_X11_225 : Cond.fieldLink RX11 225 "LateGlass$Look" "went" "I" ∈ tblG := tg 260 (by decide +kernel) (by decide +kernel)
theorem dX11_look_0 : decode cX11_look 0 = .ok (.iload_n 1, 1) := by decide +kernel
theorem dX11_look_1 : decode cX11_look 1 = .ok (.iload_n 2, 1) := by decide +kernel
theorem dX11_look_2 : decode cX11_look 2 = .ok (.iload_n 3, 1) := by decide +kernel
theorem dX11_look_3 : decode cX11_look 3 = .ok (.invokestatic 207, 3) := by decide +kernel
theorem dX11_look_6 : decode cX11_look 6 = .ok (.ifCond .ne 5, 3) := by decide +kernel
theorem dX11_look_9 : decode cX11_look 9 = .ok (.iconst (-1), 1) := by decide +kernel
theorem dX11_look_10 : decode cX11_look 10 = .ok (.ireturn, 1) := by decide +kernel
theorem dX11_look_11 : decode cX11_look 11 = .ok (.aload_n 0, 1) := by decide +kernel
theorem dX11_look_12 : decode cX11_look 12 = .ok (.getfield 29, 3) := by decide +kernel
theorem dX11_look_15 : decode cX11_look 15 = .ok (.iload_n 1, 1) := by decide +kernel
theorem dX11_look_16 : decode cX11_look 16 = .ok (.iload_n 2, 1) := by decide +kernel
theorem dX11_look_17 : decode cX11_look 17 = .ok (.iload_n 3, 1) := by decide +kernel
theorem dX11_look_18 : decode cX11_look 18 = .ok (.iconst 0, 1) := by decide +kernel
theorem dX11_look_19 : decode cX11_look 19 = .ok (.invokevirtual 210, 3) := by decide +kernel
theorem dX11_look_22 : decode cX11_look 22 = .ok (.iload 4, 2) := by decide +kernel
theorem dX11_look_24 : decode cX11_look 24 = .ok (.tableswitch 76 0 4 #[36, 44, 52, 60, 68], 36) := by decide +kernel
theorem dX11_look_60 : decode cX11_look 60 = .ok (.aload_n 0, 1) := by decide +kernel
theorem dX11_look_61 : decode cX11_look 61 = .ok (.getfield 29, 3) := by decide +kernel
theorem dX11_look_64 : decode cX11_look 64 = .ok (.getfield 213, 3) := by decide +kernel
theorem dX11_look_67 : decode cX11_look 67 = .ok (.ireturn, 1) := by decide +kernel
theorem dX11_look_68 : decode cX11_look 68 = .ok (.aload_n 0, 1) := by decide +kernel
theorem dX11_look_69 : decode cX11_look 69 = .ok (.getfield 29, 3) := by decide +kernel
theorem dX11_look_72 : decode cX11_look 72 = .ok (.getfield 216, 3) := by decide +kernel
theorem dX11_look_75 : decode cX11_look 75 = .ok (.ireturn, 1) := by decide +kernel
theorem dX11_look_76 : decode cX11_look 76 = .ok (.aload_n 0, 1) := by decide +kernel
theorem dX11_look_77 : decode cX11_look 77 = .ok (.getfield 29, 3) := by decide +kernel
theorem dX11_look_80 : decode cX11_look 80 = .ok (.getfield 219, 3) := by decide +kernel
theorem dX11_look_83 : decode cX11_look 83 = .ok (.ireturn, 1) := by decide +kernel
theorem dX11_look_84 : decode cX11_look 84 = .ok (.aload_n 0, 1) := by decide +kernel
theorem dX11_look_85 : decode cX11_look 85 = .ok (.getfield 29, 3) := by decide +kernel
theorem dX11_look_88 : decode cX11_look 88 = .ok (.getfield 222, 3) := by decide +kernel
theorem dX11_look_91 : decode cX11_look 91 = .ok (.ireturn, 1) := by decide +kernel
theorem dX11_look_92 : decode cX11_look 92 = .ok (.aload_n 0, 1) := by decide +kernel
theorem dX11_look_93 : decode cX11_look 93 = .ok (.getfield 29, 3) := by decide +kernel
theorem dX11_look_96 : decode cX11_look 96 = .ok (.getfield 225, 3) := by decide +kernel
theorem dX11_look_99 : decode cX11_look 99 = .ok (.ireturn, 1) := by decide +kernel
theorem dX11_look_100 : decode cX11_look 100 = .ok (.iconst (-1), 1) := by decide +kernel
theorem dX11_look_101 : decode cX11_look 101 = .ok (.ireturn, 1) := by decide +kernel
set_option maxHeartbeats 4000000 in
set_option maxRecDepth 100000 in
theorem kX11_look (l : Launch) (G : g5_G) (a0 a1 a2 a3 a4 a5 a6 a7 a8 a9 a10 a11 a12 a13 a14 a15 a16 a17 a18 a19 a20 a21 a22 : Nat) (sz : Nat) (n0 : Int32) (n1 : Int32) (n2 : Int32) (n3 : Int32) : Met l yX11_look (wsG yX11_look cX11_look 5 (some .int)) ({ frames := 3, cells := 0, slots := 0, locals := 70 }) (va_Pc [.ref a0, .int n0, .int n1, .int n2, .int n3] (g5_P G [(a0, .inr (11, [.ref a1, .ref a2, .ref a3, .ref a4, .ref a5, .ref a6, .ref a7, .ref a8, .ref a9, .ref a10, .int 0, .int 0, .int (-1), .ref a11, .int 0, .ref a12, .int 0])), (a4, .inr (5, [.ref a1, .ref a13, .ref a14, .int 0, .int 0, .int 0, .int 0, .int 0, .int 0, .int 0, .int 0, .int 0, .int 0])), (a1, .inr (1, [.long 0, .int 1000, .int (-1), .int (-1), .int 0, .ref a15, .ref a16, .ref a17, .ref a18, .ref a19, .ref a20, .long 0, .ref a21])), (a14, .inl (G.2 0, 200, .inl (fun _ => 0))), (a21, .inl (G.2 1, 24, .inr (.inl (fun _ => 0)))), (a19, .inr (6, [.int 8, .int 5, .ref a22, .int 0]))] sz)) (va_Qi (fun (r : Int32) (u : va_W) => ((n0.toInt < 0) ∧ (r = (-1)) ∧ (u = [])) ∨ ((n0.toInt ≥ 0) ∧ (n0.toInt ≥ 64) ∧ (r = (-1)) ∧ (u = [])) ∨ ((n0.toInt ≥ 0) ∧ (n0.toInt < 64) ∧ (n1.toInt < 0) ∧ (r = (-1)) ∧ (u = [])) ∨ ((n0.toInt ≥ 0) ∧ (n0.toInt < 64) ∧ (n1.toInt ≥ 0) ∧ (n1.toInt ≥ 4) ∧ (r = (-1)) ∧ (u = [])) ∨ ((n0.toInt ≥ 0) ∧ (n0.toInt < 64) ∧ (n1.toInt ≥ 0) ∧ (n1.toInt < 4) ∧ (n2.toInt < 0) ∧ (r = (-1)) ∧ (u = [])) ∨ ((n0.toInt ≥ 0) ∧ (n0.toInt < 64) ∧ (n1.toInt ≥ 0) ∧ (n1.toInt < 4) ∧ (n2.toInt ≥ 0) ∧ (n2.toInt ≥ 24) ∧ (r = (-1)) ∧ (u = [])) ∨ (∃ (z42 : Int32) (z43 : Int32) (z44 : Int32) (z45 : Nat → Int32), (n0.toInt ≥ 0) ∧ (n0.toInt < 64) ∧ (n1.toInt ≥ 0) ∧ (n1.toInt < 4) ∧ (n2.toInt ≥ 0) ∧ (n2.toInt < 24) ∧ (n1.toInt = 0) ∧ (z42.toInt = n0.toInt / 8) ∧ (0 ≤ z42.toInt ∧ z42.toInt ≤ 7) ∧ ((z42.toInt = 0 → z43.toInt = -1) ∧ (0 < z42.toInt → z43.toInt = n2.toInt)) ∧ (-1 ≤ z43.toInt ∧ z43.toInt ≤ 23) ∧ (0 ≤ z44.toInt ∧ z44.toInt ≤ 63) ∧ (∀ j : Nat, (j : Int) < z42.toInt → (z45 j).toInt = n2.toInt * 64 + (n0.toInt - 8 * ((j : Int) + 1))) ∧ (n3.toInt = 0) ∧ (r = (-1)) ∧ (u = [])) ∨ (∃ (z42 : Int32) (z43 : Int32) (z44 : Int32) (z45 : Nat → Int32), (n0.toInt ≥ 0) ∧ (n0.toInt < 64) ∧ (n1.toInt ≥ 0) ∧ (n1.toInt < 4) ∧ (n2.toInt ≥ 0) ∧ (n2.toInt < 24) ∧ (n1.toInt = 0) ∧ (z42.toInt = n0.toInt / 8) ∧ (0 ≤ z42.toInt ∧ z42.toInt ≤ 7) ∧ ((z42.toInt = 0 → z43.toInt = -1) ∧ (0 < z42.toInt → z43.toInt = n2.toInt)) ∧ (-1 ≤ z43.toInt ∧ z43.toInt ≤ 23) ∧ (0 ≤ z44.toInt ∧ z44.toInt ≤ 63) ∧ (∀ j : Nat, (j : Int) < z42.toInt → (z45 j).toInt = n2.toInt * 64 + (n0.toInt - 8 * ((j : Int) + 1))) ∧ (n3.toInt = 1) ∧ (r = z42) ∧ (u = [])) ∨ (∃ (z42 : Int32) (z43 : Int32) (z44 : Int32) (z45 : Nat → Int32), (n0.toInt ≥ 0) ∧ (n0.toInt < 64) ∧ (n1.toInt ≥ 0) ∧ (n1.toInt < 4) ∧ (n2.toInt ≥ 0) ∧ (n2.toInt < 24) ∧ (n1.toInt = 0) ∧ (z42.toInt = n0.toInt / 8) ∧ (0 ≤ z42.toInt ∧ z42.toInt ≤ 7) ∧ ((z42.toInt = 0 → z43.toInt = -1) ∧ (0 < z42.toInt → z43.toInt = n2.toInt)) ∧ (-1 ≤ z43.toInt ∧ z43.toInt ≤ 23) ∧ (0 ≤ z44.toInt ∧ z44.toInt ≤ 63) ∧ (∀ j : Nat, (j : Int) < z42.toInt → (z45 j).toInt = n2.toInt * 64 + (n0.toInt - 8 * ((j : Int) + 1))) ∧ (n3.toInt = 2) ∧ (r = z43) ∧ (u = [])) ∨ (∃ (z42 : Int32) (z43 : Int32) (z44 : Int32) (z45 : Nat → Int32), (n0.toInt ≥ 0) ∧ (n0.toInt < 64) ∧ (n1.toInt ≥ 0) ∧ (n1.toInt < 4) ∧ (n2.toInt ≥ 0) ∧ (n2.toInt < 24) ∧ (n1.toInt = 0) ∧ (z42.toInt = n0.toInt / 8) ∧ (0 ≤ z42.toInt ∧ z42.toInt ≤ 7) ∧ ((z42.toInt = 0 → z43.toInt = -1) ∧ (0 < z42.toInt → z43.toInt = n2.toInt)) ∧ (-1 ≤ z43.toInt ∧ z43.toInt ≤ 23) ∧ (0 ≤ z44.toInt ∧ z44.toInt ≤ 63) ∧ (∀ j : Nat, (j : Int) < z42.toInt → (z45 j).toInt = n2.toInt * 64 + (n0.toInt - 8 * ((j : Int) + 1))) ∧ (n3.toInt = 3) ∧ (r = 1000000) ∧ (u = [])) ∨ (∃ (z42 : Int32) (z43 : Int32) (z44 : Int32) (z45 : Nat → Int32), (n0.toInt ≥ 0) ∧ (n0.toInt < 64) ∧ (n1.toInt ≥ 0) ∧ (n1.toInt < 4) ∧ (n2.toInt ≥ 0) ∧ (n2.toInt < 24) ∧ (n1.toInt = 0) ∧ (z42.toInt = n0.toInt / 8) ∧ (0 ≤ z42.toInt ∧ z42.toInt ≤ 7) ∧ ((z42.toInt = 0 → z43.toInt = -1) ∧ (0 < z42.toInt → z43.toInt = n2.toInt)) ∧ (-1 ≤ z43.toInt ∧ z43.toInt ≤ 23) ∧ (0 ≤ z44.toInt ∧ z44.toInt ≤ 63) ∧ (∀ j : Nat, (j : Int) < z42.toInt → (z45 j).toInt = n2.toInt * 64 + (n0.toInt - 8 * ((j : Int) + 1))) ∧ (n3.toInt = 4) ∧ (r = 0) ∧ (u = [])) ∨ (∃ (z42 : Int32) (z43 : Int32) (z44 : Int32) (z45 : Nat → Int32), (n0.toInt ≥ 0) ∧ (n0.toInt < 64) ∧ (n1.toInt ≥ 0) ∧ (n1.toInt < 4) ∧ (n2.toInt ≥ 0) ∧ (n2.toInt < 24) ∧ (n1.toInt = 0) ∧ (z42.toInt = n0.toInt / 8) ∧ (0 ≤ z42.toInt ∧ z42.toInt ≤ 7) ∧ ((z42.toInt = 0 → z43.toInt = -1) ∧ (0 < z42.toInt → z43.toInt = n2.toInt)) ∧ (-1 ≤ z43.toInt ∧ z43.toInt ≤ 23) ∧ (0 ≤ z44.toInt ∧ z44.toInt ≤ 63) ∧ (∀ j : Nat, (j : Int) < z42.toInt → (z45 j).toInt = n2.toInt * 64 + (n0.toInt - 8 * ((j : Int) + 1))) ∧ (n3.toInt < 0) ∧ (r = (-1)) ∧ (u = [])) ∨ (∃ (z42 : Int32) (z43 : Int32) (z44 : Int32) (z45 : Nat → Int32), (n0.toInt ≥ 0) ∧ (n0.toInt < 64) ∧ (n1.toInt ≥ 0) ∧ (n1.toInt < 4) ∧ (n2.toInt ≥ 0) ∧ (n2.toInt < 24) ∧ (n1.toInt = 0) ∧ (z42.toInt = n0.toInt / 8) ∧ (0 ≤ z42.toInt ∧ z42.toInt ≤ 7) ∧ ((z42.toInt = 0 → z43.toInt = -1) ∧ (0 < z42.toInt → z43.toInt = n2.toInt)) ∧ (-1 ≤ z43.toInt ∧ z43.toInt ≤ 23) ∧ (0 ≤ z44.toInt ∧ z44.toInt ≤ 63) ∧ (∀ j : Nat, (j : Int) < z42.toInt → (z45 j).toInt = n2.toInt * 64 + (n0.toInt - 8 * ((j : Int) + 1))) ∧ (n3.toInt > 4) ∧ (r = (-1)) ∧ (u = [])) ∨ (∃ (z53 : Int32) (z54 : Int32) (z55 : Int32) (z56 : Nat → Int32), (n0.toInt ≥ 0) ∧ (n0.toInt < 64) ∧ (n1.toInt ≥ 0) ∧ (n1.toInt < 4) ∧ (n2.toInt ≥ 0) ∧ (n2.toInt < 24) ∧ (n1.toInt = 1) ∧ (z53.toInt = 7 - n0.toInt % 8) ∧ (0 ≤ z53.toInt ∧ z53.toInt ≤ 7) ∧ ((z53.toInt = 0 → z54.toInt = -1) ∧ (0 < z53.toInt → z54.toInt = n2.toInt)) ∧ (-1 ≤ z54.toInt ∧ z54.toInt ≤ 23) ∧ (0 ≤ z55.toInt ∧ z55.toInt ≤ 63) ∧ (∀ j : Nat, (j : Int) < z53.toInt → (z56 j).toInt = n2.toInt * 64 + (n0.toInt + ((j : Int) + 1))) ∧ (n3.toInt = 0) ∧ (r = (-1)) ∧ (u = [])) ∨ (∃ (z53 : Int32) (z54 : Int32) (z55 : Int32) (z56 : Nat → Int32), (n0.toInt ≥ 0) ∧ (n0.toInt < 64) ∧ (n1.toInt ≥ 0) ∧ (n1.toInt < 4) ∧ (n2.toInt ≥ 0) ∧ (n2.toInt < 24) ∧ (n1.toInt = 1) ∧ (z53.toInt = 7 - n0.toInt % 8) ∧ (0 ≤ z53.toInt ∧ z53.toInt ≤ 7) ∧ ((z53.toInt = 0 → z54.toInt = -1) ∧ (0 < z53.toInt → z54.toInt = n2.toInt)) ∧ (-1 ≤ z54.toInt ∧ z54.toInt ≤ 23) ∧ (0 ≤ z55.toInt ∧ z55.toInt ≤ 63) ∧ (∀ j : Nat, (j : Int) < z53.toInt → (z56 j).toInt = n2.toInt * 64 + (n0.toInt + ((j : Int) + 1))) ∧ (n3.toInt = 1) ∧ (r = z53) ∧ (u = [])) ∨ (∃ (z53 : Int32) (z54 : Int32) (z55 : Int32) (z56 : Nat → Int32), (n0.toInt ≥ 0) ∧ (n0.toInt < 64) ∧ (n1.toInt ≥ 0) ∧ (n1.toInt < 4) ∧ (n2.toInt ≥ 0) ∧ (n2.toInt < 24) ∧ (n1.toInt = 1) ∧ (z53.toInt = 7 - n0.toInt % 8) ∧ (0 ≤ z53.toInt ∧ z53.toInt ≤ 7) ∧ ((z53.toInt = 0 → z54.toInt = -1) ∧ (0 < z53.toInt → z54.toInt = n2.toInt)) ∧ (-1 ≤ z54.toInt ∧ z54.toInt ≤ 23) ∧ (0 ≤ z55.toInt ∧ z55.toInt ≤ 63) ∧ (∀ j : Nat, (j : Int) < z53.toInt → (z56 j).toInt = n2.toInt * 64 + (n0.toInt + ((j : Int) + 1))) ∧ (n3.toInt = 2) ∧ (r = z54) ∧ (u = [])) ∨ (∃ (z53 : Int32) (z54 : Int32) (z55 : Int32) (z56 : Nat → Int32), (n0.toInt ≥ 0) ∧ (n0.toInt < 64) ∧ (n1.toInt ≥ 0) ∧ (n1.toInt < 4) ∧ (n2.toInt ≥ 0) ∧ (n2.toInt < 24) ∧ (n1.toInt = 1) ∧ (z53.toInt = 7 - n0.toInt % 8) ∧ (0 ≤ z53.toInt ∧ z53.toInt ≤ 7) ∧ ((z53.toInt = 0 → z54.toInt = -1) ∧ (0 < z53.toInt → z54.toInt = n2.toInt)) ∧ (-1 ≤ z54.toInt ∧ z54.toInt ≤ 23) ∧ (0 ≤ z55.toInt ∧ z55.toInt ≤ 63) ∧ (∀ j : Nat, (j : Int) < z53.toInt → (z56 j).toInt = n2.toInt * 64 + (n0.toInt + ((j : Int) + 1))) ∧ (n3.toInt = 3) ∧ (r = 1000000) ∧ (u = [])) ∨ (∃ (z53 : Int32) (z54 : Int32) (z55 : Int32) (z56 : Nat → Int32), (n0.toInt ≥ 0) ∧ (n0.toInt < 64) ∧ (n1.toInt ≥ 0) ∧ (n1.toInt < 4) ∧ (n2.toInt ≥ 0) ∧ (n2.toInt < 24) ∧ (n1.toInt = 1) ∧ (z53.toInt = 7 - n0.toInt % 8) ∧ (0 ≤ z53.toInt ∧ z53.toInt ≤ 7) ∧ ((z53.toInt = 0 → z54.toInt = -1) ∧ (0 < z53.toInt → z54.toInt = n2.toInt)) ∧ (-1 ≤ z54.toInt ∧ z54.toInt ≤ 23) ∧ (0 ≤ z55.toInt ∧ z55.toInt ≤ 63) ∧ (∀ j : Nat, (j : Int) < z53.toInt → (z56 j).toInt = n2.toInt * 64 + (n0.toInt + ((j : Int) + 1))) ∧ (n3.toInt = 4) ∧ (r = 0) ∧ (u = [])) ∨ (∃ (z53 : Int32) (z54 : Int32) (z55 : Int32) (z56 : Nat → Int32), (n0.toInt ≥ 0) ∧ (n0.toInt < 64) ∧ (n1.toInt ≥ 0) ∧ (n1.toInt < 4) ∧ (n2.toInt ≥ 0) ∧ (n2.toInt < 24) ∧ (n1.toInt = 1) ∧ (z53.toInt = 7 - n0.toInt % 8) ∧ (0 ≤ z53.toInt ∧ z53.toInt ≤ 7) ∧ ((z53.toInt = 0 → z54.toInt = -1) ∧ (0 < z53.toInt → z54.toInt = n2.toInt)) ∧ (-1 ≤ z54.toInt ∧ z54.toInt ≤ 23) ∧ (0 ≤ z55.toInt ∧ z55.toInt ≤ 63) ∧ (∀ j : Nat, (j : Int) < z53.toInt → (z56 j).toInt = n2.toInt * 64 + (n0.toInt + ((j : Int) + 1))) ∧ (n3.toInt < 0) ∧ (r = (-1)) ∧ (u = [])) ∨ (∃ (z53 : Int32) (z54 : Int32) (z55 : Int32) (z56 : Nat → Int32), (n0.toInt ≥ 0) ∧ (n0.toInt < 64) ∧ (n1.toInt ≥ 0) ∧ (n1.toInt < 4) ∧ (n2.toInt ≥ 0) ∧ (n2.toInt < 24) ∧ (n1.toInt = 1) ∧ (z53.toInt = 7 - n0.toInt % 8) ∧ (0 ≤ z53.toInt ∧ z53.toInt ≤ 7) ∧ ((z53.toInt = 0 → z54.toInt = -1) ∧ (0 < z53.toInt → z54.toInt = n2.toInt)) ∧ (-1 ≤ z54.toInt ∧ z54.toInt ≤ 23) ∧ (0 ≤ z55.toInt ∧ z55.toInt ≤ 63) ∧ (∀ j : Nat, (j : Int) < z53.toInt → (z56 j).toInt = n2.toInt * 64 + (n0.toInt + ((j : Int) + 1))) ∧ (n3.toInt > 4) ∧ (r = (-1)) ∧ (u = [])) ∨ (∃ (z64 : Int32) (z65 : Int32) (z66 : Int32) (z67 : Nat → Int32), (n0.toInt ≥ 0) ∧ (n0.toInt < 64) ∧ (n1.toInt ≥ 0) ∧ (n1.toInt < 4) ∧ (n2.toInt ≥ 0) ∧ (n2.toInt < 24) ∧ (n1.toInt = 2) ∧ (z64.toInt = 7 - n0.toInt / 8) ∧ (0 ≤ z64.toInt ∧ z64.toInt ≤ 7) ∧ ((z64.toInt = 0 → z65.toInt = -1) ∧ (0 < z64.toInt → z65.toInt = n2.toInt)) ∧ (-1 ≤ z65.toInt ∧ z65.toInt ≤ 23) ∧ (0 ≤ z66.toInt ∧ z66.toInt ≤ 63) ∧ (∀ j : Nat, (j : Int) < z64.toInt → (z67 j).toInt = n2.toInt * 64 + (n0.toInt + 8 * ((j : Int) + 1))) ∧ (n3.toInt = 0) ∧ (r = (-1)) ∧ (u = [])) ∨ (∃ (z64 : Int32) (z65 : Int32) (z66 : Int32) (z67 : Nat → Int32), (n0.toInt ≥ 0) ∧ (n0.toInt < 64) ∧ (n1.toInt ≥ 0) ∧ (n1.toInt < 4) ∧ (n2.toInt ≥ 0) ∧ (n2.toInt < 24) ∧ (n1.toInt = 2) ∧ (z64.toInt = 7 - n0.toInt / 8) ∧ (0 ≤ z64.toInt ∧ z64.toInt ≤ 7) ∧ ((z64.toInt = 0 → z65.toInt = -1) ∧ (0 < z64.toInt → z65.toInt = n2.toInt)) ∧ (-1 ≤ z65.toInt ∧ z65.toInt ≤ 23) ∧ (0 ≤ z66.toInt ∧ z66.toInt ≤ 63) ∧ (∀ j : Nat, (j : Int) < z64.toInt → (z67 j).toInt = n2.toInt * 64 + (n0.toInt + 8 * ((j : Int) + 1))) ∧ (n3.toInt = 1) ∧ (r = z64) ∧ (u = [])) ∨ (∃ (z64 : Int32) (z65 : Int32) (z66 : Int32) (z67 : Nat → Int32), (n0.toInt ≥ 0) ∧ (n0.toInt < 64) ∧ (n1.toInt ≥ 0) ∧ (n1.toInt < 4) ∧ (n2.toInt ≥ 0) ∧ (n2.toInt < 24) ∧ (n1.toInt = 2) ∧ (z64.toInt = 7 - n0.toInt / 8) ∧ (0 ≤ z64.toInt ∧ z64.toInt ≤ 7) ∧ ((z64.toInt = 0 → z65.toInt = -1) ∧ (0 < z64.toInt → z65.toInt = n2.toInt)) ∧ (-1 ≤ z65.toInt ∧ z65.toInt ≤ 23) ∧ (0 ≤ z66.toInt ∧ z66.toInt ≤ 63) ∧ (∀ j : Nat, (j : Int) < z64.toInt → (z67 j).toInt = n2.toInt * 64 + (n0.toInt + 8 * ((j : Int) + 1))) ∧ (n3.toInt = 2) ∧ (r = z65) ∧ (u = [])) ∨ (∃ (z64 : Int32) (z65 : Int32) (z66 : Int32) (z67 : Nat → Int32), (n0.toInt ≥ 0) ∧ (n0.toInt < 64) ∧ (n1.toInt ≥ 0) ∧ (n1.toInt < 4) ∧ (n2.toInt ≥ 0) ∧ (n2.toInt < 24) ∧ (n1.toInt = 2) ∧ (z64.toInt = 7 - n0.toInt / 8) ∧ (0 ≤ z64.toInt ∧ z64.toInt ≤ 7) ∧ ((z64.toInt = 0 → z65.toInt = -1) ∧ (0 < z64.toInt → z65.toInt = n2.toInt)) ∧ (-1 ≤ z65.toInt ∧ z65.toInt ≤ 23) ∧ (0 ≤ z66.toInt ∧ z66.toInt ≤ 63) ∧ (∀ j : Nat, (j : Int) < z64.toInt → (z67 j).toInt = n2.toInt * 64 + (n0.toInt + 8 * ((j : Int) + 1))) ∧ (n3.toInt = 3) ∧ (r = 1000000) ∧ (u = [])) ∨ (∃ (z64 : Int32) (z65 : Int32) (z66 : Int32) (z67 : Nat → Int32), (n0.toInt ≥ 0) ∧ (n0.toInt < 64) ∧ (n1.toInt ≥ 0) ∧ (n1.toInt < 4) ∧ (n2.toInt ≥ 0) ∧ (n2.toInt < 24) ∧ (n1.toInt = 2) ∧ (z64.toInt = 7 - n0.toInt / 8) ∧ (0 ≤ z64.toInt ∧ z64.toInt ≤ 7) ∧ ((z64.toInt = 0 → z65.toInt = -1) ∧ (0 < z64.toInt → z65.toInt = n2.toInt)) ∧ (-1 ≤ z65.toInt ∧ z65.toInt ≤ 23) ∧ (0 ≤ z66.toInt ∧ z66.toInt ≤ 63) ∧ (∀ j : Nat, (j : Int) < z64.toInt → (z67 j).toInt = n2.toInt * 64 + (n0.toInt + 8 * ((j : Int) + 1))) ∧ (n3.toInt = 4) ∧ (r = 0) ∧ (u = [])) ∨ (∃ (z64 : Int32) (z65 : Int32) (z66 : Int32) (z67 : Nat → Int32), (n0.toInt ≥ 0) ∧ (n0.toInt < 64) ∧ (n1.toInt ≥ 0) ∧ (n1.toInt < 4) ∧ (n2.toInt ≥ 0) ∧ (n2.toInt < 24) ∧ (n1.toInt = 2) ∧ (z64.toInt = 7 - n0.toInt / 8) ∧ (0 ≤ z64.toInt ∧ z64.toInt ≤ 7) ∧ ((z64.toInt = 0 → z65.toInt = -1) ∧ (0 < z64.toInt → z65.toInt = n2.toInt)) ∧ (-1 ≤ z65.toInt ∧ z65.toInt ≤ 23) ∧ (0 ≤ z66.toInt ∧ z66.toInt ≤ 63) ∧ (∀ j : Nat, (j : Int) < z64.toInt → (z67 j).toInt = n2.toInt * 64 + (n0.toInt + 8 * ((j : Int) + 1))) ∧ (n3.toInt < 0) ∧ (r = (-1)) ∧ (u = [])) ∨ (∃ (z64 : Int32) (z65 : Int32) (z66 : Int32) (z67 : Nat → Int32), (n0.toInt ≥ 0) ∧ (n0.toInt < 64) ∧ (n1.toInt ≥ 0) ∧ (n1.toInt < 4) ∧ (n2.toInt ≥ 0) ∧ (n2.toInt < 24) ∧ (n1.toInt = 2) ∧ (z64.toInt = 7 - n0.toInt / 8) ∧ (0 ≤ z64.toInt ∧ z64.toInt ≤ 7) ∧ ((z64.toInt = 0 → z65.toInt = -1) ∧ (0 < z64.toInt → z65.toInt = n2.toInt)) ∧ (-1 ≤ z65.toInt ∧ z65.toInt ≤ 23) ∧ (0 ≤ z66.toInt ∧ z66.toInt ≤ 63) ∧ (∀ j : Nat, (j : Int) < z64.toInt → (z67 j).toInt = n2.toInt * 64 + (n0.toInt + 8 * ((j : Int) + 1))) ∧ (n3.toInt > 4) ∧ (r = (-1)) ∧ (u = [])) ∨ (∃ (z75 : Int32) (z76 : Int32) (z77 : Int32) (z78 : Nat → Int32), (n0.toInt ≥ 0) ∧ (n0.toInt < 64) ∧ (n1.toInt ≥ 0) ∧ (n1.toInt < 4) ∧ (n2.toInt ≥ 0) ∧ (n2.toInt < 24) ∧ (n1.toInt = 3) ∧ (z75.toInt = n0.toInt % 8) ∧ (0 ≤ z75.toInt ∧ z75.toInt ≤ 7) ∧ ((z75.toInt = 0 → z76.toInt = -1) ∧ (0 < z75.toInt → z76.toInt = n2.toInt)) ∧ (-1 ≤ z76.toInt ∧ z76.toInt ≤ 23) ∧ (0 ≤ z77.toInt ∧ z77.toInt ≤ 63) ∧ (∀ j : Nat, (j : Int) < z75.toInt → (z78 j).toInt = n2.toInt * 64 + (n0.toInt - ((j : Int) + 1))) ∧ (n3.toInt = 0) ∧ (r = (-1)) ∧ (u = [])) ∨ (∃ (z75 : Int32) (z76 : Int32) (z77 : Int32) (z78 : Nat → Int32), (n0.toInt ≥ 0) ∧ (n0.toInt < 64) ∧ (n1.toInt ≥ 0) ∧ (n1.toInt < 4) ∧ (n2.toInt ≥ 0) ∧ (n2.toInt < 24) ∧ (n1.toInt = 3) ∧ (z75.toInt = n0.toInt % 8) ∧ (0 ≤ z75.toInt ∧ z75.toInt ≤ 7) ∧ ((z75.toInt = 0 → z76.toInt = -1) ∧ (0 < z75.toInt → z76.toInt = n2.toInt)) ∧ (-1 ≤ z76.toInt ∧ z76.toInt ≤ 23) ∧ (0 ≤ z77.toInt ∧ z77.toInt ≤ 63) ∧ (∀ j : Nat, (j : Int) < z75.toInt → (z78 j).toInt = n2.toInt * 64 + (n0.toInt - ((j : Int) + 1))) ∧ (n3.toInt = 1) ∧ (r = z75) ∧ (u = [])) ∨ (∃ (z75 : Int32) (z76 : Int32) (z77 : Int32) (z78 : Nat → Int32), (n0.toInt ≥ 0) ∧ (n0.toInt < 64) ∧ (n1.toInt ≥ 0) ∧ (n1.toInt < 4) ∧ (n2.toInt ≥ 0) ∧ (n2.toInt < 24) ∧ (n1.toInt = 3) ∧ (z75.toInt = n0.toInt % 8) ∧ (0 ≤ z75.toInt ∧ z75.toInt ≤ 7) ∧ ((z75.toInt = 0 → z76.toInt = -1) ∧ (0 < z75.toInt → z76.toInt = n2.toInt)) ∧ (-1 ≤ z76.toInt ∧ z76.toInt ≤ 23) ∧ (0 ≤ z77.toInt ∧ z77.toInt ≤ 63) ∧ (∀ j : Nat, (j : Int) < z75.toInt → (z78 j).toInt = n2.toInt * 64 + (n0.toInt - ((j : Int) + 1))) ∧ (n3.toInt = 2) ∧ (r = z76) ∧ (u = [])) ∨ (∃ (z75 : Int32) (z76 : Int32) (z77 : Int32) (z78 : Nat → Int32), (n0.toInt ≥ 0) ∧ (n0.toInt < 64) ∧ (n1.toInt ≥ 0) ∧ (n1.toInt < 4) ∧ (n2.toInt ≥ 0) ∧ (n2.toInt < 24) ∧ (n1.toInt = 3) ∧ (z75.toInt = n0.toInt % 8) ∧ (0 ≤ z75.toInt ∧ z75.toInt ≤ 7) ∧ ((z75.toInt = 0 → z76.toInt = -1) ∧ (0 < z75.toInt → z76.toInt = n2.toInt)) ∧ (-1 ≤ z76.toInt ∧ z76.toInt ≤ 23) ∧ (0 ≤ z77.toInt ∧ z77.toInt ≤ 63) ∧ (∀ j : Nat, (j : Int) < z75.toInt → (z78 j).toInt = n2.toInt * 64 + (n0.toInt - ((j : Int) + 1))) ∧ (n3.toInt = 3) ∧ (r = 1000000) ∧ (u = [])) ∨ (∃ (z75 : Int32) (z76 : Int32) (z77 : Int32) (z78 : Nat → Int32), (n0.toInt ≥ 0) ∧ (n0.toInt < 64) ∧ (n1.toInt ≥ 0) ∧ (n1.toInt < 4) ∧ (n2.toInt ≥ 0) ∧ (n2.toInt < 24) ∧ (n1.toInt = 3) ∧ (z75.toInt = n0.toInt % 8) ∧ (0 ≤ z75.toInt ∧ z75.toInt ≤ 7) ∧ ((z75.toInt = 0 → z76.toInt = -1) ∧ (0 < z75.toInt → z76.toInt = n2.toInt)) ∧ (-1 ≤ z76.toInt ∧ z76.toInt ≤ 23) ∧ (0 ≤ z77.toInt ∧ z77.toInt ≤ 63) ∧ (∀ j : Nat, (j : Int) < z75.toInt → (z78 j).toInt = n2.toInt * 64 + (n0.toInt - ((j : Int) + 1))) ∧ (n3.toInt = 4) ∧ (r = 0) ∧ (u = [])) ∨ (∃ (z75 : Int32) (z76 : Int32) (z77 : Int32) (z78 : Nat → Int32), (n0.toInt ≥ 0) ∧ (n0.toInt < 64) ∧ (n1.toInt ≥ 0) ∧ (n1.toInt < 4) ∧ (n2.toInt ≥ 0) ∧ (n2.toInt < 24) ∧ (n1.toInt = 3) ∧ (z75.toInt = n0.toInt % 8) ∧ (0 ≤ z75.toInt ∧ z75.toInt ≤ 7) ∧ ((z75.toInt = 0 → z76.toInt = -1) ∧ (0 < z75.toInt → z76.toInt = n2.toInt)) ∧ (-1 ≤ z76.toInt ∧ z76.toInt ≤ 23) ∧ (0 ≤ z77.toInt ∧ z77.toInt ≤ 63) ∧ (∀ j : Nat, (j : Int) < z75.toInt → (z78 j).toInt = n2.toInt * 64 + (n0.toInt - ((j : Int) + 1))) ∧ (n3.toInt < 0) ∧ (r = (-1)) ∧ (u = [])) ∨ (∃ (z75 : Int32) (z76 : Int32) (z77 : Int32) (z78 : Nat → Int32), (n0.toInt ≥ 0) ∧ (n0.toInt < 64) ∧ (n1.toInt ≥ 0) ∧ (n1.toInt < 4) ∧ (n2.toInt ≥ 0) ∧ (n2.toInt < 24) ∧ (n1.toInt = 3) ∧ (z75.toInt = n0.toInt % 8) ∧ (0 ≤ z75.toInt ∧ z75.toInt ≤ 7) ∧ ((z75.toInt = 0 → z76.toInt = -1) ∧ (0 < z75.toInt → z76.toInt = n2.toInt)) ∧ (-1 ≤ z76.toInt ∧ z76.toInt ≤ 23) ∧ (0 ≤ z77.toInt ∧ z77.toInt ≤ 63) ∧ (∀ j : Nat, (j : Int) < z75.toInt → (z78 j).toInt = n2.toInt * 64 + (n0.toInt - ((j : Int) + 1))) ∧ (n3.toInt > 4) ∧ (r = (-1)) ∧ (u = []))) (g5_B G (va_A [(a0, .inr (11, [.ref a1, .ref a2, .ref a3, .ref a4, .ref a5, .ref a6, .ref a7, .ref a8, .ref a9, .ref a10, .int 0, .int 0, .int (-1), .ref a11, .int 0, .ref a12, .int 0])), (a4, .inr (5, [.ref a1, .ref a13, .ref a14, .int 0, .int 0, .int 0, .int 0, .int 0, .int 0, .int 0, .int 0, .int 0, .int 0])), (a1, .inr (1, [.long 0, .int 1000, .int (-1), .int (-1), .int 0, .ref a15, .ref a16, .ref a17, .ref a18, .ref a19, .ref a20, .long 0, .ref a21])), (a14, .inl (G.2 0, 200, .inl (fun _ => 0))), (a21, .inl (G.2 1, 24, .inr (.inl (fun _ => 0)))), (a19, .inr (6, [.int 8, .int 5, .ref a22, .int 0]))] sz)) (va_A [(a0, .inr (11, [.ref a1, .ref a2, .ref a3, .ref a4, .ref a5, .ref a6, .ref a7, .ref a8, .ref a9, .ref a10, .int 0, .int 0, .int (-1), .ref a11, .int 0, .ref a12, .int 0])), (a4, .inr (5, [.ref a1, .ref a13, .ref a14, .int 0, .int 0, .int 0, .int 0, .int 0, .int 0, .int 0, .int 0, .int 0, .int 0])), (a1, .inr (1, [.long 0, .int 1000, .int (-1), .int (-1), .int 0, .ref a15, .ref a16, .ref a17, .ref a18, .ref a19, .ref a20, .long 0, .ref a21])), (a14, .inl (G.2 0, 200, .inl (fun _ => 0))), (a21, .inl (G.2 1, 24, .inr (.inl (fun _ => 0)))), (a19, .inr (6, [.int 8, .int 5, .ref a22, .int 0]))] sz)) 0 0 (va_A [(a0, .inr (11, [.ref a1, .ref a2, .ref a3, .ref a4, .ref a5, .ref a6, .ref a7, .ref a8, .ref a9, .ref a10, .int 0, .int 0, .int (-1), .ref a11, .int 0, .ref a12, .int 0])), (a4, .inr (5, [.ref a1, .ref a13, .ref a14, .int 0, .int 0, .int 0, .int 0, .int 0, .int 0, .int 0, .int 0, .int 0, .int 0])), (a1, .inr (1, [.long 0, .int 1000, .int (-1), .int (-1), .int 0, .ref a15, .ref a16, .ref a17, .ref a18, .ref a19, .ref a20, .long 0, .ref a21])), (a14, .inl (G.2 0, 200, .inl (fun _ => 0))), (a21, .inl (G.2 1, 24, .inr (.inl (fun _ => 0)))), (a19, .inr (6, [.int 8, .int 5, .ref a22, .int 0]))] sz) := by
  refine Met.ofW (cc := cX11_look) (maxL := 5) (ret := (some .int)) (by decide) rfl ?_
  intro p e s m args below meth c s₁ B hml hv
  obtain ⟨rfl, hsz, hP, hK, hD0, hN, hT⟩ := hv
  have hx := B.exec
  have hb := B.bytes
  have hr := B.returns
  have hts : ∀ w ∈ tblG, w.before _ s = true := fun w h => atoms_spec (ws := (wsG yX11_look cX11_look 5 (some .int))) B.pre w (List.mem_cons_of_mem _ h)
  have hown : s.vm.findClass RX11 = some m.cls := findClass_of_methodNamed B.named
  have hlocks := B.notSynchronized
  subst hsz
  have hD := hD0.self (sz := s.heap.size)
  generalize hAe : va_A [(a0, .inr (11, [.ref a1, .ref a2, .ref a3, .ref a4, .ref a5, .ref a6, .ref a7, .ref a8, .ref a9, .ref a10, .int 0, .int 0, .int (-1), .ref a11, .int 0, .ref a12, .int 0])), (a4, .inr (5, [.ref a1, .ref a13, .ref a14, .int 0, .int 0, .int 0, .int 0, .int 0, .int 0, .int 0, .int 0, .int 0, .int 0])), (a1, .inr (1, [.long 0, .int 1000, .int (-1), .int (-1), .int 0, .ref a15, .ref a16, .ref a17, .ref a18, .ref a19, .ref a20, .long 0, .ref a21])), (a14, .inl (G.2 0, 200, .inl (fun _ => 0))), (a21, .inl (G.2 1, 24, .inr (.inl (fun _ => 0)))), (a19, .inr (6, [.int 8, .int 5, .ref a22, .int 0]))] s.heap.size = A at hD hT ⊢
  have hA : ∀ q : Nat, s.heap.size ≤ q → A q := fun q h => by rw [← hAe]; exact Or.inr h
  have hS : va_S A s.heap s.heap [] := va_S.rf
  have hP : va_P G.1 vwCl [(a0, .inr (11, [.ref a1, .ref a2, .ref a3, .ref a4, .ref a5, .ref a6, .ref a7, .ref a8, .ref a9, .ref a10, .int 0, .int 0, .int (-1), .ref a11, .int 0, .ref a12, .int 0])), (a4, .inr (5, [.ref a1, .ref a13, .ref a14, .int 0, .int 0, .int 0, .int 0, .int 0, .int 0, .int 0, .int 0, .int 0, .int 0])), (a1, .inr (1, [.long 0, .int 1000, .int (-1), .int (-1), .int 0, .ref a15, .ref a16, .ref a17, .ref a18, .ref a19, .ref a20, .long 0, .ref a21])), (a14, .inl (G.2 0, 200, .inl (fun _ => 0))), (a21, .inl (G.2 1, 24, .inr (.inl (fun _ => 0)))), (a19, .inr (6, [.int 8, .int 5, .ref a22, .int 0]))] s.heap := hP
  have hl := lv_entry ([.ref a0, .int n0, .int n1, .int n2, .int n3]) (n := 5) (Nat.le_of_ble_eq_true rfl)
  rw [lg_entry_eq]
  generalize (lg_sl ([.ref a0, .int n0, .int n1, .int n2, .int n3]) ++ List.replicate (5 - (lg_sl ([.ref a0, .int n0, .int n1, .int n2, .int n3])).length) Slot.unset).toArray = ls at hl ⊢
  have hl : lv_has ls 5 [(0, .ref a0), (1, .int n0), (2, .int n1), (3, .int n2), (4, .int n3)] := hl
  refine lv_iload_n hx hb dX11_look_0 rfl (lv_at hl 1 rfl) ?_
  refine lv_iload_n hx hb dX11_look_1 rfl (lv_at hl 2 rfl) ?_
  refine lv_iload_n hx hb dX11_look_2 rfl (lv_at hl 3 rfl) ?_
  have hPc := hP.sub (ws' := []) [] rfl
  have hDc := hD.sub (ws' := []) [] (by decide) rfl
  have hFc := va_free (wc := []) hD hS hA [] rfl
  refine va_calli (va_runS (As := [.int n0, .int n1, .int n2]) (rest := []) ⟨hx, hb, hml, hown, hts⟩ (kX11_isLook_5 l G s.heap.size n0 n1 n2) (va_cwS 3 hts gS_X11_207 rfl rfl rfl hs_X11_isLook ⟨Nat.le_of_ble_eq_true rfl, Nat.le_of_ble_eq_true rfl⟩) (g5_preS hPc hK hDc hN hT hS hFc) rfl rfl hl.1 rfl (lv_room (Nat.le_of_ble_eq_true rfl)) dX11_look_3 ⟨Nat.le_of_ble_eq_true rfl, Nat.le_of_ble_eq_true rfl⟩) hS (fun q _ h => hFc q h) hFc (fun r u t H1 locs ht hvm hw hB hz1 hk1 hS => ?_)
  obtain ⟨hP1, hD1⟩ := hB
  rw [ht] at hP1
  rcases hw with ⟨i_1, rfl, rfl⟩ | ⟨i_2, i_3, rfl, rfl⟩ | ⟨i_4, i_5, i_6, rfl, rfl⟩ | ⟨i_7, i_8, i_9, i_10, rfl, rfl⟩ | ⟨i_11, i_12, i_13, i_14, i_15, rfl, rfl⟩ | ⟨i_16, i_17, i_18, i_19, i_20, i_21, rfl, rfl⟩ | ⟨i_22, i_23, i_24, i_25, i_26, i_27, rfl, rfl⟩
  ·
    have hP := g5_same hP hk1
    generalize H1 = H at hP hS ⊢
    refine lv_if_ne (tgt := 11) hx hb dX11_look_6 (by decide) (fun c_28 => ?_) (fun c_28 => ?_)
    ·
      exact absurd c_28 (by decide)
    ·
      refine lv_iconst (v := (-1)) hx hb dX11_look_9 (by decide) ?_
      have hP := hP.sub (ws' := []) [] rfl
      have hD := hD.sub (ws' := []) [] (by decide) rfl
      exact W.iret (v := (-1)) hx hb hr (fun t ht hW => ⟨⟨(-1), [], rfl, Or.inl (⟨i_1, rfl, rfl⟩), by rw [ht]; exact hP, hD⟩, hS.F ht⟩) hS.2.2 dX11_look_10
  ·
    have hP := g5_same hP hk1
    generalize H1 = H at hP hS ⊢
    refine lv_if_ne (tgt := 11) hx hb dX11_look_6 (by decide) (fun c_29 => ?_) (fun c_29 => ?_)
    ·
      exact absurd c_29 (by decide)
    ·
      refine lv_iconst (v := (-1)) hx hb dX11_look_9 (by decide) ?_
      have hP := hP.sub (ws' := []) [] rfl
      have hD := hD.sub (ws' := []) [] (by decide) rfl
      exact W.iret (v := (-1)) hx hb hr (fun t ht hW => ⟨⟨(-1), [], rfl, Or.inr (Or.inl (⟨i_2, i_3, rfl, rfl⟩)), by rw [ht]; exact hP, hD⟩, hS.F ht⟩) hS.2.2 dX11_look_10
  ·
    have hP := g5_same hP hk1
    generalize H1 = H at hP hS ⊢
    refine lv_if_ne (tgt := 11) hx hb dX11_look_6 (by decide) (fun c_30 => ?_) (fun c_30 => ?_)
    ·
      exact absurd c_30 (by decide)
    ·
      refine lv_iconst (v := (-1)) hx hb dX11_look_9 (by decide) ?_
      have hP := hP.sub (ws' := []) [] rfl
      have hD := hD.sub (ws' := []) [] (by decide) rfl
      exact W.iret (v := (-1)) hx hb hr (fun t ht hW => ⟨⟨(-1), [], rfl, Or.inr (Or.inr (Or.inl (⟨i_4, i_5, i_6, rfl, rfl⟩))), by rw [ht]; exact hP, hD⟩, hS.F ht⟩) hS.2.2 dX11_look_10
  ·
    have hP := g5_same hP hk1
    generalize H1 = H at hP hS ⊢
    refine lv_if_ne (tgt := 11) hx hb dX11_look_6 (by decide) (fun c_31 => ?_) (fun c_31 => ?_)
    ·
      exact absurd c_31 (by decide)
    ·
      refine lv_iconst (v := (-1)) hx hb dX11_look_9 (by decide) ?_
      have hP := hP.sub (ws' := []) [] rfl
      have hD := hD.sub (ws' := []) [] (by decide) rfl
      exact W.iret (v := (-1)) hx hb hr (fun t ht hW => ⟨⟨(-1), [], rfl, Or.inr (Or.inr (Or.inr (Or.inl (⟨i_7, i_8, i_9, i_10, rfl, rfl⟩)))), by rw [ht]; exact hP, hD⟩, hS.F ht⟩) hS.2.2 dX11_look_10
  ·
    have hP := g5_same hP hk1
    generalize H1 = H at hP hS ⊢
    refine lv_if_ne (tgt := 11) hx hb dX11_look_6 (by decide) (fun c_32 => ?_) (fun c_32 => ?_)
    ·
      exact absurd c_32 (by decide)
    ·
      refine lv_iconst (v := (-1)) hx hb dX11_look_9 (by decide) ?_
      have hP := hP.sub (ws' := []) [] rfl
      have hD := hD.sub (ws' := []) [] (by decide) rfl
      exact W.iret (v := (-1)) hx hb hr (fun t ht hW => ⟨⟨(-1), [], rfl, Or.inr (Or.inr (Or.inr (Or.inr (Or.inl (⟨i_11, i_12, i_13, i_14, i_15, rfl, rfl⟩))))), by rw [ht]; exact hP, hD⟩, hS.F ht⟩) hS.2.2 dX11_look_10
  ·
    have hP := g5_same hP hk1
    generalize H1 = H at hP hS ⊢
    refine lv_if_ne (tgt := 11) hx hb dX11_look_6 (by decide) (fun c_33 => ?_) (fun c_33 => ?_)
    ·
      exact absurd c_33 (by decide)
    ·
      refine lv_iconst (v := (-1)) hx hb dX11_look_9 (by decide) ?_
      have hP := hP.sub (ws' := []) [] rfl
      have hD := hD.sub (ws' := []) [] (by decide) rfl
      exact W.iret (v := (-1)) hx hb hr (fun t ht hW => ⟨⟨(-1), [], rfl, Or.inr (Or.inr (Or.inr (Or.inr (Or.inr (Or.inl (⟨i_16, i_17, i_18, i_19, i_20, i_21, rfl, rfl⟩)))))), by rw [ht]; exact hP, hD⟩, hS.F ht⟩) hS.2.2 dX11_look_10
  ·
    have hP := g5_same hP hk1
    generalize H1 = H at hP hS ⊢
    refine lv_if_ne (tgt := 11) hx hb dX11_look_6 (by decide) (fun c_34 => ?_) (fun c_34 => ?_)
    ·
      refine lv_aload_n hx hb dX11_look_11 rfl (lv_at hl 0 rfl) ?_
      refine va_get (D := G.1) (ci := 11) (v := .ref a4) (C := RX11) (T := TX11) (N := 17) hx hb hts inG_X11 hown hK hP 0 rfl rfl 3 (by decide) (hts _ fl_X11_29) (fun _ h9 => h9) rfl dX11_look_12 ?_
      refine lv_iload_n hx hb dX11_look_15 rfl (lv_at hl 1 rfl) ?_
      refine lv_iload_n hx hb dX11_look_16 rfl (lv_at hl 2 rfl) ?_
      refine lv_iload_n hx hb dX11_look_17 rfl (lv_at hl 3 rfl) ?_
      refine lv_iconst (v := 0) hx hb dX11_look_18 (by decide) ?_
      rcases (show n1.toInt = 0 ∨ n1.toInt = 1 ∨ n1.toInt = 2 ∨ n1.toInt = 3 by omega) with i_35 | i_35 | i_35 | i_35
      ·
        have e_35 : n1 = 0 := g5_toc (by decide) i_35
        subst e_35
        have hPc := hP.sub (ws' := [(a4, .inr (5, [.ref a1, .ref a13, .ref a14, .int 0, .int 0, .int 0, .int 0, .int 0, .int 0, .int 0, .int 0, .int 0, .int 0])), (a1, .inr (1, [.long 0, .int 1000, .int (-1), .int (-1), .int 0, .ref a15, .ref a16, .ref a17, .ref a18, .ref a19, .ref a20, .long 0, .ref a21])), (a14, .inl (G.2 0, 200, .inl (fun _ => 0))), (a21, .inl (G.2 1, 24, .inr (.inl (fun _ => 0)))), (a19, .inr (6, [.int 8, .int 5, .ref a22, .int 0]))]) [1, 2, 3, 4, 5] rfl
        have hDc := hD.sub (ws' := [(a4, .inr (5, [.ref a1, .ref a13, .ref a14, .int 0, .int 0, .int 0, .int 0, .int 0, .int 0, .int 0, .int 0, .int 0, .int 0])), (a1, .inr (1, [.long 0, .int 1000, .int (-1), .int (-1), .int 0, .ref a15, .ref a16, .ref a17, .ref a18, .ref a19, .ref a20, .long 0, .ref a21])), (a14, .inl (G.2 0, 200, .inl (fun _ => 0))), (a21, .inl (G.2 1, 24, .inr (.inl (fun _ => 0)))), (a19, .inr (6, [.int 8, .int 5, .ref a22, .int 0]))]) [1, 2, 3, 4, 5] (by decide) rfl
        have hFc := va_free (wc := [(a4, .inr (5, [.ref a1, .ref a13, .ref a14, .int 0, .int 0, .int 0, .int 0, .int 0, .int 0, .int 0, .int 0, .int 0, .int 0])), (a1, .inr (1, [.long 0, .int 1000, .int (-1), .int (-1), .int 0, .ref a15, .ref a16, .ref a17, .ref a18, .ref a19, .ref a20, .long 0, .ref a21])), (a14, .inl (G.2 0, 200, .inl (fun _ => 0))), (a21, .inl (G.2 1, 24, .inr (.inl (fun _ => 0)))), (a19, .inr (6, [.int 8, .int 5, .ref a22, .int 0]))]) hD hS hA [1, 2, 3, 4, 5] rfl
        refine va_callv (va_runV (As := [.int n0, .int 0, .int n2, .int 0]) (rest := []) ⟨hx, hb, hml, hown, hts⟩ (k_run0 l G a4 a1 a14 a21 a19 a13 a15 a16 a17 a18 a20 a22 H.size n0 n2 0 0 0 0 0 0 0 0 0 (fun _ => 0) ⟨by omega, by omega⟩ ⟨by omega, by omega⟩) (cwV 4 hts gV_X11_210 rfl rfl rfl hv_X5_run ⟨Nat.le_of_ble_eq_true rfl, Nat.le_of_ble_eq_true rfl⟩) (g5_preV hPc hK hDc hN hT hS hFc (ci := 5) (q0 := 0) rfl rfl) rfl rfl hl.1 rfl (lv_room (Nat.le_of_ble_eq_true rfl)) dX11_look_19 ⟨Nat.le_of_ble_eq_true rfl, Nat.le_of_ble_eq_true rfl⟩) hS (fun q _ h => hFc q h) hFc (fun u t H1 locs ht hvm hw hB hz1 hk1 hS => ?_)
        obtain ⟨hP1, hD1⟩ := hB
        rw [ht] at hP1
        obtain ⟨z42, z43, z44, z45, i_36, i_37, i_38, i_39, i_40, i_41, rfl⟩ := hw
        have i_36 : z42.toInt = n0.toInt / 8 := i_36
        have i_37 : 0 ≤ z42.toInt ∧ z42.toInt ≤ 7 := i_37
        have i_38 : (z42.toInt = 0 → z43.toInt = -1) ∧ (0 < z42.toInt → z43.toInt = n2.toInt) := i_38
        have i_39 : -1 ≤ z43.toInt ∧ z43.toInt ≤ 23 := i_39
        have i_40 : 0 ≤ z44.toInt ∧ z44.toInt ≤ 63 := i_40
        have i_41 : ∀ j : Nat, (j : Int) < z42.toInt → (z45 j).toInt = n2.toInt * 64 + (n0.toInt - 8 * ((j : Int) + 1)) := i_41
        obtain ⟨hP, hD⟩ := va_join (wr := [(a0, .inr (11, [.ref a1, .ref a2, .ref a3, .ref a4, .ref a5, .ref a6, .ref a7, .ref a8, .ref a9, .ref a10, .int 0, .int 0, .int (-1), .ref a11, .int 0, .ref a12, .int 0]))]) (w1 := [(a4, .inr (5, [.ref a1, .ref a13, .ref a14, .int z42, .int (-1), .int z43, .int 1000000, .int 0, .int 0, .int z44, .int 0, .int n2, .int 0])), (a1, .inr (1, [.long 0, .int 1000, .int (-1), .int (-1), .int 0, .ref a15, .ref a16, .ref a17, .ref a18, .ref a19, .ref a20, .long 0, .ref a21])), (a14, .inl (G.2 0, 200, .inl z45)), (a21, .inl (G.2 1, 24, .inr (.inl (fun _ => 0)))), (a19, .inr (6, [.int 8, .int 5, .ref a22, .int 0]))]) hP hD [1, 2, 3, 4, 5] [0] rfl rfl (by decide) (by decide) hk1 hFc hP1 hD1
        generalize H1 = H at hP hS ⊢
        have hP : va_P G.1 vwCl [(a0, .inr (11, [.ref a1, .ref a2, .ref a3, .ref a4, .ref a5, .ref a6, .ref a7, .ref a8, .ref a9, .ref a10, .int 0, .int 0, .int (-1), .ref a11, .int 0, .ref a12, .int 0])), (a4, .inr (5, [.ref a1, .ref a13, .ref a14, .int z42, .int (-1), .int z43, .int 1000000, .int 0, .int 0, .int z44, .int 0, .int n2, .int 0])), (a1, .inr (1, [.long 0, .int 1000, .int (-1), .int (-1), .int 0, .ref a15, .ref a16, .ref a17, .ref a18, .ref a19, .ref a20, .long 0, .ref a21])), (a14, .inl (G.2 0, 200, .inl z45)), (a21, .inl (G.2 1, 24, .inr (.inl (fun _ => 0)))), (a19, .inr (6, [.int 8, .int 5, .ref a22, .int 0]))] H := hP
        have hD : va_D A [(a0, .inr (11, [.ref a1, .ref a2, .ref a3, .ref a4, .ref a5, .ref a6, .ref a7, .ref a8, .ref a9, .ref a10, .int 0, .int 0, .int (-1), .ref a11, .int 0, .ref a12, .int 0])), (a4, .inr (5, [.ref a1, .ref a13, .ref a14, .int z42, .int (-1), .int z43, .int 1000000, .int 0, .int 0, .int z44, .int 0, .int n2, .int 0])), (a1, .inr (1, [.long 0, .int 1000, .int (-1), .int (-1), .int 0, .ref a15, .ref a16, .ref a17, .ref a18, .ref a19, .ref a20, .long 0, .ref a21])), (a14, .inl (G.2 0, 200, .inl z45)), (a21, .inl (G.2 1, 24, .inr (.inl (fun _ => 0)))), (a19, .inr (6, [.int 8, .int 5, .ref a22, .int 0]))] := hD
        refine lv_iload hx hb dX11_look_22 (lv_at hl 4 rfl) ?_
        rcases (show n3.toInt = 0 ∨ n3.toInt = 1 ∨ n3.toInt = 2 ∨ n3.toInt = 3 ∨ n3.toInt = 4 ∨ n3.toInt < 0 ∨ n3.toInt > 4 by omega) with s_46 | s_46 | s_46 | s_46 | s_46 | s_46 | s_46
        ·
          have i_46 : n3.toInt = 0 := by omega
          refine lv_tableIn (tgt := 60) hx hb dX11_look_24 (by omega) (by omega) (by rw [s_46]; rfl) (by decide) ?_
          refine lv_aload_n hx hb dX11_look_60 rfl (lv_at hl 0 rfl) ?_
          refine va_get (D := G.1) (ci := 11) (v := .ref a4) (C := RX11) (T := TX11) (N := 17) hx hb hts inG_X11 hown hK hP 0 rfl rfl 3 (by decide) (hts _ fl_X11_29) (fun _ h9 => h9) rfl dX11_look_61 ?_
          refine va_get (D := G.1) (ci := 5) (v := .int (-1)) (C := RX5) (T := TX5) (N := 13) hx hb hts inG_X5 hown hK hP 1 rfl rfl 4 (by decide) (hts _ fl_X11_213) (fun _ h9 => h9) rfl dX11_look_64 ?_
          have hP := hP.sub (ws' := []) [] rfl
          have hD := hD.sub (ws' := []) [] (by decide) rfl
          exact W.iret (v := (-1)) hx hb hr (fun t ht hW => ⟨⟨(-1), [], rfl, Or.inr (Or.inr (Or.inr (Or.inr (Or.inr (Or.inr (Or.inl (⟨z42, z43, z44, z45, i_22, i_23, i_24, i_25, i_26, i_27, i_35, i_36, i_37, i_38, i_39, i_40, i_41, i_46, rfl, rfl⟩))))))), by rw [ht]; exact hP, hD⟩, hS.F ht⟩) hS.2.2 dX11_look_67
        ·
          have i_46 : n3.toInt = 1 := by omega
          refine lv_tableIn (tgt := 68) hx hb dX11_look_24 (by omega) (by omega) (by rw [s_46]; rfl) (by decide) ?_
          refine lv_aload_n hx hb dX11_look_68 rfl (lv_at hl 0 rfl) ?_
          refine va_get (D := G.1) (ci := 11) (v := .ref a4) (C := RX11) (T := TX11) (N := 17) hx hb hts inG_X11 hown hK hP 0 rfl rfl 3 (by decide) (hts _ fl_X11_29) (fun _ h9 => h9) rfl dX11_look_69 ?_
          refine va_get (D := G.1) (ci := 5) (v := .int z42) (C := RX5) (T := TX5) (N := 13) hx hb hts inG_X5 hown hK hP 1 rfl rfl 3 (by decide) (hts _ fl_X11_216) (fun _ h9 => h9) rfl dX11_look_72 ?_
          have hP := hP.sub (ws' := []) [] rfl
          have hD := hD.sub (ws' := []) [] (by decide) rfl
          exact W.iret (v := z42) hx hb hr (fun t ht hW => ⟨⟨z42, [], rfl, Or.inr (Or.inr (Or.inr (Or.inr (Or.inr (Or.inr (Or.inr (Or.inl (⟨z42, z43, z44, z45, i_22, i_23, i_24, i_25, i_26, i_27, i_35, i_36, i_37, i_38, i_39, i_40, i_41, i_46, rfl, rfl⟩)))))))), by rw [ht]; exact hP, hD⟩, hS.F ht⟩) hS.2.2 dX11_look_75
        ·
          have i_46 : n3.toInt = 2 := by omega
          refine lv_tableIn (tgt := 76) hx hb dX11_look_24 (by omega) (by omega) (by rw [s_46]; rfl) (by decide) ?_
          refine lv_aload_n hx hb dX11_look_76 rfl (lv_at hl 0 rfl) ?_
          refine va_get (D := G.1) (ci := 11) (v := .ref a4) (C := RX11) (T := TX11) (N := 17) hx hb hts inG_X11 hown hK hP 0 rfl rfl 3 (by decide) (hts _ fl_X11_29) (fun _ h9 => h9) rfl dX11_look_77 ?_
          refine va_get (D := G.1) (ci := 5) (v := .int z43) (C := RX5) (T := TX5) (N := 13) hx hb hts inG_X5 hown hK hP 1 rfl rfl 5 (by decide) (hts _ fl_X11_219) (fun _ h9 => h9) rfl dX11_look_80 ?_
          have hP := hP.sub (ws' := []) [] rfl
          have hD := hD.sub (ws' := []) [] (by decide) rfl
          exact W.iret (v := z43) hx hb hr (fun t ht hW => ⟨⟨z43, [], rfl, Or.inr (Or.inr (Or.inr (Or.inr (Or.inr (Or.inr (Or.inr (Or.inr (Or.inl (⟨z42, z43, z44, z45, i_22, i_23, i_24, i_25, i_26, i_27, i_35, i_36, i_37, i_38, i_39, i_40, i_41, i_46, rfl, rfl⟩))))))))), by rw [ht]; exact hP, hD⟩, hS.F ht⟩) hS.2.2 dX11_look_83
        ·
          have i_46 : n3.toInt = 3 := by omega
          refine lv_tableIn (tgt := 84) hx hb dX11_look_24 (by omega) (by omega) (by rw [s_46]; rfl) (by decide) ?_
          refine lv_aload_n hx hb dX11_look_84 rfl (lv_at hl 0 rfl) ?_
          refine va_get (D := G.1) (ci := 11) (v := .ref a4) (C := RX11) (T := TX11) (N := 17) hx hb hts inG_X11 hown hK hP 0 rfl rfl 3 (by decide) (hts _ fl_X11_29) (fun _ h9 => h9) rfl dX11_look_85 ?_
          refine va_get (D := G.1) (ci := 5) (v := .int 1000000) (C := RX5) (T := TX5) (N := 13) hx hb hts inG_X5 hown hK hP 1 rfl rfl 6 (by decide) (hts _ fl_X11_222) (fun _ h9 => h9) rfl dX11_look_88 ?_
          have hP := hP.sub (ws' := []) [] rfl
          have hD := hD.sub (ws' := []) [] (by decide) rfl
          exact W.iret (v := 1000000) hx hb hr (fun t ht hW => ⟨⟨1000000, [], rfl, Or.inr (Or.inr (Or.inr (Or.inr (Or.inr (Or.inr (Or.inr (Or.inr (Or.inr (Or.inl (⟨z42, z43, z44, z45, i_22, i_23, i_24, i_25, i_26, i_27, i_35, i_36, i_37, i_38, i_39, i_40, i_41, i_46, rfl, rfl⟩)))))))))), by rw [ht]; exact hP, hD⟩, hS.F ht⟩) hS.2.2 dX11_look_91
        ·
          have i_46 : n3.toInt = 4 := by omega
          refine lv_tableIn (tgt := 92) hx hb dX11_look_24 (by omega) (by omega) (by rw [s_46]; rfl) (by decide) ?_
          refine lv_aload_n hx hb dX11_look_92 rfl (lv_at hl 0 rfl) ?_
          refine va_get (D := G.1) (ci := 11) (v := .ref a4) (C := RX11) (T := TX11) (N := 17) hx hb hts inG_X11 hown hK hP 0 rfl rfl 3 (by decide) (hts _ fl_X11_29) (fun _ h9 => h9) rfl dX11_look_93 ?_
          refine va_get (D := G.1) (ci := 5) (v := .int 0) (C := RX5) (T := TX5) (N := 13) hx hb hts inG_X5 hown hK hP 1 rfl rfl 7 (by decide) (hts _ fl_X11_225) (fun _ h9 => h9) rfl dX11_look_96 ?_
          have hP := hP.sub (ws' := []) [] rfl
          have hD := hD.sub (ws' := []) [] (by decide) rfl
          exact W.iret (v := 0) hx hb hr (fun t ht hW => ⟨⟨0, [], rfl, Or.inr (Or.inr (Or.inr (Or.inr (Or.inr (Or.inr (Or.inr (Or.inr (Or.inr (Or.inr (Or.inl (⟨z42, z43, z44, z45, i_22, i_23, i_24, i_25, i_26, i_27, i_35, i_36, i_37, i_38, i_39, i_40, i_41, i_46, rfl, rfl⟩))))))))))), by rw [ht]; exact hP, hD⟩, hS.F ht⟩) hS.2.2 dX11_look_99
        ·
          have i_46 : n3.toInt < 0 := by omega
          refine lv_tableOut (tgt := 100) hx hb dX11_look_24 (by omega) (by decide) ?_
          refine lv_iconst (v := (-1)) hx hb dX11_look_100 (by decide) ?_
          have hP := hP.sub (ws' := []) [] rfl
          have hD := hD.sub (ws' := []) [] (by decide) rfl
          exact W.iret (v := (-1)) hx hb hr (fun t ht hW => ⟨⟨(-1), [], rfl, Or.inr (Or.inr (Or.inr (Or.inr (Or.inr (Or.inr (Or.inr (Or.inr (Or.inr (Or.inr (Or.inr (Or.inl (⟨z42, z43, z44, z45, i_22, i_23, i_24, i_25, i_26, i_27, i_35, i_36, i_37, i_38, i_39, i_40, i_41, i_46, rfl, rfl⟩)))))))))))), by rw [ht]; exact hP, hD⟩, hS.F ht⟩) hS.2.2 dX11_look_101
        ·
          have i_46 : n3.toInt > 4 := by omega
          refine lv_tableOut (tgt := 100) hx hb dX11_look_24 (by omega) (by decide) ?_
          refine lv_iconst (v := (-1)) hx hb dX11_look_100 (by decide) ?_
          have hP := hP.sub (ws' := []) [] rfl
          have hD := hD.sub (ws' := []) [] (by decide) rfl
          exact W.iret (v := (-1)) hx hb hr (fun t ht hW => ⟨⟨(-1), [], rfl, Or.inr (Or.inr (Or.inr (Or.inr (Or.inr (Or.inr (Or.inr (Or.inr (Or.inr (Or.inr (Or.inr (Or.inr (Or.inl (⟨z42, z43, z44, z45, i_22, i_23, i_24, i_25, i_26, i_27, i_35, i_36, i_37, i_38, i_39, i_40, i_41, i_46, rfl, rfl⟩))))))))))))), by rw [ht]; exact hP, hD⟩, hS.F ht⟩) hS.2.2 dX11_look_101
      ·
        have e_35 : n1 = 1 := g5_toc (by decide) i_35
        subst e_35
        have hPc := hP.sub (ws' := [(a4, .inr (5, [.ref a1, .ref a13, .ref a14, .int 0, .int 0, .int 0, .int 0, .int 0, .int 0, .int 0, .int 0, .int 0, .int 0])), (a1, .inr (1, [.long 0, .int 1000, .int (-1), .int (-1), .int 0, .ref a15, .ref a16, .ref a17, .ref a18, .ref a19, .ref a20, .long 0, .ref a21])), (a14, .inl (G.2 0, 200, .inl (fun _ => 0))), (a21, .inl (G.2 1, 24, .inr (.inl (fun _ => 0)))), (a19, .inr (6, [.int 8, .int 5, .ref a22, .int 0]))]) [1, 2, 3, 4, 5] rfl
        have hDc := hD.sub (ws' := [(a4, .inr (5, [.ref a1, .ref a13, .ref a14, .int 0, .int 0, .int 0, .int 0, .int 0, .int 0, .int 0, .int 0, .int 0, .int 0])), (a1, .inr (1, [.long 0, .int 1000, .int (-1), .int (-1), .int 0, .ref a15, .ref a16, .ref a17, .ref a18, .ref a19, .ref a20, .long 0, .ref a21])), (a14, .inl (G.2 0, 200, .inl (fun _ => 0))), (a21, .inl (G.2 1, 24, .inr (.inl (fun _ => 0)))), (a19, .inr (6, [.int 8, .int 5, .ref a22, .int 0]))]) [1, 2, 3, 4, 5] (by decide) rfl
        have hFc := va_free (wc := [(a4, .inr (5, [.ref a1, .ref a13, .ref a14, .int 0, .int 0, .int 0, .int 0, .int 0, .int 0, .int 0, .int 0, .int 0, .int 0])), (a1, .inr (1, [.long 0, .int 1000, .int (-1), .int (-1), .int 0, .ref a15, .ref a16, .ref a17, .ref a18, .ref a19, .ref a20, .long 0, .ref a21])), (a14, .inl (G.2 0, 200, .inl (fun _ => 0))), (a21, .inl (G.2 1, 24, .inr (.inl (fun _ => 0)))), (a19, .inr (6, [.int 8, .int 5, .ref a22, .int 0]))]) hD hS hA [1, 2, 3, 4, 5] rfl
        refine va_callv (va_runV (As := [.int n0, .int 1, .int n2, .int 0]) (rest := []) ⟨hx, hb, hml, hown, hts⟩ (k_run1 l G a4 a1 a14 a21 a19 a13 a15 a16 a17 a18 a20 a22 H.size n0 n2 0 0 0 0 0 0 0 0 0 (fun _ => 0) ⟨by omega, by omega⟩ ⟨by omega, by omega⟩) (cwV 4 hts gV_X11_210 rfl rfl rfl hv_X5_run ⟨Nat.le_of_ble_eq_true rfl, Nat.le_of_ble_eq_true rfl⟩) (g5_preV hPc hK hDc hN hT hS hFc (ci := 5) (q0 := 0) rfl rfl) rfl rfl hl.1 rfl (lv_room (Nat.le_of_ble_eq_true rfl)) dX11_look_19 ⟨Nat.le_of_ble_eq_true rfl, Nat.le_of_ble_eq_true rfl⟩) hS (fun q _ h => hFc q h) hFc (fun u t H1 locs ht hvm hw hB hz1 hk1 hS => ?_)
        obtain ⟨hP1, hD1⟩ := hB
        rw [ht] at hP1
        obtain ⟨z53, z54, z55, z56, i_47, i_48, i_49, i_50, i_51, i_52, rfl⟩ := hw
        have i_47 : z53.toInt = 7 - n0.toInt % 8 := i_47
        have i_48 : 0 ≤ z53.toInt ∧ z53.toInt ≤ 7 := i_48
        have i_49 : (z53.toInt = 0 → z54.toInt = -1) ∧ (0 < z53.toInt → z54.toInt = n2.toInt) := i_49
        have i_50 : -1 ≤ z54.toInt ∧ z54.toInt ≤ 23 := i_50
        have i_51 : 0 ≤ z55.toInt ∧ z55.toInt ≤ 63 := i_51
        have i_52 : ∀ j : Nat, (j : Int) < z53.toInt → (z56 j).toInt = n2.toInt * 64 + (n0.toInt + ((j : Int) + 1)) := i_52
        obtain ⟨hP, hD⟩ := va_join (wr := [(a0, .inr (11, [.ref a1, .ref a2, .ref a3, .ref a4, .ref a5, .ref a6, .ref a7, .ref a8, .ref a9, .ref a10, .int 0, .int 0, .int (-1), .ref a11, .int 0, .ref a12, .int 0]))]) (w1 := [(a4, .inr (5, [.ref a1, .ref a13, .ref a14, .int z53, .int (-1), .int z54, .int 1000000, .int 0, .int 0, .int z55, .int 1, .int n2, .int 0])), (a1, .inr (1, [.long 0, .int 1000, .int (-1), .int (-1), .int 0, .ref a15, .ref a16, .ref a17, .ref a18, .ref a19, .ref a20, .long 0, .ref a21])), (a14, .inl (G.2 0, 200, .inl z56)), (a21, .inl (G.2 1, 24, .inr (.inl (fun _ => 0)))), (a19, .inr (6, [.int 8, .int 5, .ref a22, .int 0]))]) hP hD [1, 2, 3, 4, 5] [0] rfl rfl (by decide) (by decide) hk1 hFc hP1 hD1
        generalize H1 = H at hP hS ⊢
        have hP : va_P G.1 vwCl [(a0, .inr (11, [.ref a1, .ref a2, .ref a3, .ref a4, .ref a5, .ref a6, .ref a7, .ref a8, .ref a9, .ref a10, .int 0, .int 0, .int (-1), .ref a11, .int 0, .ref a12, .int 0])), (a4, .inr (5, [.ref a1, .ref a13, .ref a14, .int z53, .int (-1), .int z54, .int 1000000, .int 0, .int 0, .int z55, .int 1, .int n2, .int 0])), (a1, .inr (1, [.long 0, .int 1000, .int (-1), .int (-1), .int 0, .ref a15, .ref a16, .ref a17, .ref a18, .ref a19, .ref a20, .long 0, .ref a21])), (a14, .inl (G.2 0, 200, .inl z56)), (a21, .inl (G.2 1, 24, .inr (.inl (fun _ => 0)))), (a19, .inr (6, [.int 8, .int 5, .ref a22, .int 0]))] H := hP
        have hD : va_D A [(a0, .inr (11, [.ref a1, .ref a2, .ref a3, .ref a4, .ref a5, .ref a6, .ref a7, .ref a8, .ref a9, .ref a10, .int 0, .int 0, .int (-1), .ref a11, .int 0, .ref a12, .int 0])), (a4, .inr (5, [.ref a1, .ref a13, .ref a14, .int z53, .int (-1), .int z54, .int 1000000, .int 0, .int 0, .int z55, .int 1, .int n2, .int 0])), (a1, .inr (1, [.long 0, .int 1000, .int (-1), .int (-1), .int 0, .ref a15, .ref a16, .ref a17, .ref a18, .ref a19, .ref a20, .long 0, .ref a21])), (a14, .inl (G.2 0, 200, .inl z56)), (a21, .inl (G.2 1, 24, .inr (.inl (fun _ => 0)))), (a19, .inr (6, [.int 8, .int 5, .ref a22, .int 0]))] := hD
        refine lv_iload hx hb dX11_look_22 (lv_at hl 4 rfl) ?_
        rcases (show n3.toInt = 0 ∨ n3.toInt = 1 ∨ n3.toInt = 2 ∨ n3.toInt = 3 ∨ n3.toInt = 4 ∨ n3.toInt < 0 ∨ n3.toInt > 4 by omega) with s_57 | s_57 | s_57 | s_57 | s_57 | s_57 | s_57
        ·
          have i_57 : n3.toInt = 0 := by omega
          refine lv_tableIn (tgt := 60) hx hb dX11_look_24 (by omega) (by omega) (by rw [s_57]; rfl) (by decide) ?_
          refine lv_aload_n hx hb dX11_look_60 rfl (lv_at hl 0 rfl) ?_
          refine va_get (D := G.1) (ci := 11) (v := .ref a4) (C := RX11) (T := TX11) (N := 17) hx hb hts inG_X11 hown hK hP 0 rfl rfl 3 (by decide) (hts _ fl_X11_29) (fun _ h9 => h9) rfl dX11_look_61 ?_
          refine va_get (D := G.1) (ci := 5) (v := .int (-1)) (C := RX5) (T := TX5) (N := 13) hx hb hts inG_X5 hown hK hP 1 rfl rfl 4 (by decide) (hts _ fl_X11_213) (fun _ h9 => h9) rfl dX11_look_64 ?_
          have hP := hP.sub (ws' := []) [] rfl
          have hD := hD.sub (ws' := []) [] (by decide) rfl
          exact W.iret (v := (-1)) hx hb hr (fun t ht hW => ⟨⟨(-1), [], rfl, Or.inr (Or.inr (Or.inr (Or.inr (Or.inr (Or.inr (Or.inr (Or.inr (Or.inr (Or.inr (Or.inr (Or.inr (Or.inr (Or.inl (⟨z53, z54, z55, z56, i_22, i_23, i_24, i_25, i_26, i_27, i_35, i_47, i_48, i_49, i_50, i_51, i_52, i_57, rfl, rfl⟩)))))))))))))), by rw [ht]; exact hP, hD⟩, hS.F ht⟩) hS.2.2 dX11_look_67
        ·
          have i_57 : n3.toInt = 1 := by omega
          refine lv_tableIn (tgt := 68) hx hb dX11_look_24 (by omega) (by omega) (by rw [s_57]; rfl) (by decide) ?_
          refine lv_aload_n hx hb dX11_look_68 rfl (lv_at hl 0 rfl) ?_
          refine va_get (D := G.1) (ci := 11) (v := .ref a4) (C := RX11) (T := TX11) (N := 17) hx hb hts inG_X11 hown hK hP 0 rfl rfl 3 (by decide) (hts _ fl_X11_29) (fun _ h9 => h9) rfl dX11_look_69 ?_
          refine va_get (D := G.1) (ci := 5) (v := .int z53) (C := RX5) (T := TX5) (N := 13) hx hb hts inG_X5 hown hK hP 1 rfl rfl 3 (by decide) (hts _ fl_X11_216) (fun _ h9 => h9) rfl dX11_look_72 ?_
          have hP := hP.sub (ws' := []) [] rfl
          have hD := hD.sub (ws' := []) [] (by decide) rfl
          exact W.iret (v := z53) hx hb hr (fun t ht hW => ⟨⟨z53, [], rfl, Or.inr (Or.inr (Or.inr (Or.inr (Or.inr (Or.inr (Or.inr (Or.inr (Or.inr (Or.inr (Or.inr (Or.inr (Or.inr (Or.inr (Or.inl (⟨z53, z54, z55, z56, i_22, i_23, i_24, i_25, i_26, i_27, i_35, i_47, i_48, i_49, i_50, i_51, i_52, i_57, rfl, rfl⟩))))))))))))))), by rw [ht]; exact hP, hD⟩, hS.F ht⟩) hS.2.2 dX11_look_75
        ·
          have i_57 : n3.toInt = 2 := by omega
          refine lv_tableIn (tgt := 76) hx hb dX11_look_24 (by omega) (by omega) (by rw [s_57]; rfl) (by decide) ?_
          refine lv_aload_n hx hb dX11_look_76 rfl (lv_at hl 0 rfl) ?_
          refine va_get (D := G.1) (ci := 11) (v := .ref a4) (C := RX11) (T := TX11) (N := 17) hx hb hts inG_X11 hown hK hP 0 rfl rfl 3 (by decide) (hts _ fl_X11_29) (fun _ h9 => h9) rfl dX11_look_77 ?_
          refine va_get (D := G.1) (ci := 5) (v := .int z54) (C := RX5) (T := TX5) (N := 13) hx hb hts inG_X5 hown hK hP 1 rfl rfl 5 (by decide) (hts _ fl_X11_219) (fun _ h9 => h9) rfl dX11_look_80 ?_
          have hP := hP.sub (ws' := []) [] rfl
          have hD := hD.sub (ws' := []) [] (by decide) rfl
          exact W.iret (v := z54) hx hb hr (fun t ht hW => ⟨⟨z54, [], rfl, Or.inr (Or.inr (Or.inr (Or.inr (Or.inr (Or.inr (Or.inr (Or.inr (Or.inr (Or.inr (Or.inr (Or.inr (Or.inr (Or.inr (Or.inr (Or.inl (⟨z53, z54, z55, z56, i_22, i_23, i_24, i_25, i_26, i_27, i_35, i_47, i_48, i_49, i_50, i_51, i_52, i_57, rfl, rfl⟩)))))))))))))))), by rw [ht]; exact hP, hD⟩, hS.F ht⟩) hS.2.2 dX11_look_83
        ·
          have i_57 : n3.toInt = 3 := by omega
          refine lv_tableIn (tgt := 84) hx hb dX11_look_24 (by omega) (by omega) (by rw [s_57]; rfl) (by decide) ?_
          refine lv_aload_n hx hb dX11_look_84 rfl (lv_at hl 0 rfl) ?_
          refine va_get (D := G.1) (ci := 11) (v := .ref a4) (C := RX11) (T := TX11) (N := 17) hx hb hts inG_X11 hown hK hP 0 rfl rfl 3 (by decide) (hts _ fl_X11_29) (fun _ h9 => h9) rfl dX11_look_85 ?_
          refine va_get (D := G.1) (ci := 5) (v := .int 1000000) (C := RX5) (T := TX5) (N := 13) hx hb hts inG_X5 hown hK hP 1 rfl rfl 6 (by decide) (hts _ fl_X11_222) (fun _ h9 => h9) rfl dX11_look_88 ?_
          have hP := hP.sub (ws' := []) [] rfl
          have hD := hD.sub (ws' := []) [] (by decide) rfl
          exact W.iret (v := 1000000) hx hb hr (fun t ht hW => ⟨⟨1000000, [], rfl, Or.inr (Or.inr (Or.inr (Or.inr (Or.inr (Or.inr (Or.inr (Or.inr (Or.inr (Or.inr (Or.inr (Or.inr (Or.inr (Or.inr (Or.inr (Or.inr (Or.inl (⟨z53, z54, z55, z56, i_22, i_23, i_24, i_25, i_26, i_27, i_35, i_47, i_48, i_49, i_50, i_51, i_52, i_57, rfl, rfl⟩))))))))))))))))), by rw [ht]; exact hP, hD⟩, hS.F ht⟩) hS.2.2 dX11_look_91
        ·
          have i_57 : n3.toInt = 4 := by omega
          refine lv_tableIn (tgt := 92) hx hb dX11_look_24 (by omega) (by omega) (by rw [s_57]; rfl) (by decide) ?_
          refine lv_aload_n hx hb dX11_look_92 rfl (lv_at hl 0 rfl) ?_
          refine va_get (D := G.1) (ci := 11) (v := .ref a4) (C := RX11) (T := TX11) (N := 17) hx hb hts inG_X11 hown hK hP 0 rfl rfl 3 (by decide) (hts _ fl_X11_29) (fun _ h9 => h9) rfl dX11_look_93 ?_
          refine va_get (D := G.1) (ci := 5) (v := .int 0) (C := RX5) (T := TX5) (N := 13) hx hb hts inG_X5 hown hK hP 1 rfl rfl 7 (by decide) (hts _ fl_X11_225) (fun _ h9 => h9) rfl dX11_look_96 ?_
          have hP := hP.sub (ws' := []) [] rfl
          have hD := hD.sub (ws' := []) [] (by decide) rfl
          exact W.iret (v := 0) hx hb hr (fun t ht hW => ⟨⟨0, [], rfl, Or.inr (Or.inr (Or.inr (Or.inr (Or.inr (Or.inr (Or.inr (Or.inr (Or.inr (Or.inr (Or.inr (Or.inr (Or.inr (Or.inr (Or.inr (Or.inr (Or.inr (Or.inl (⟨z53, z54, z55, z56, i_22, i_23, i_24, i_25, i_26, i_27, i_35, i_47, i_48, i_49, i_50, i_51, i_52, i_57, rfl, rfl⟩)))))))))))))))))), by rw [ht]; exact hP, hD⟩, hS.F ht⟩) hS.2.2 dX11_look_99
        ·
          have i_57 : n3.toInt < 0 := by omega
          refine lv_tableOut (tgt := 100) hx hb dX11_look_24 (by omega) (by decide) ?_
          refine lv_iconst (v := (-1)) hx hb dX11_look_100 (by decide) ?_
          have hP := hP.sub (ws' := []) [] rfl
          have hD := hD.sub (ws' := []) [] (by decide) rfl
          exact W.iret (v := (-1)) hx hb hr (fun t ht hW => ⟨⟨(-1), [], rfl, Or.inr (Or.inr (Or.inr (Or.inr (Or.inr (Or.inr (Or.inr (Or.inr (Or.inr (Or.inr (Or.inr (Or.inr (Or.inr (Or.inr (Or.inr (Or.inr (Or.inr (Or.inr (Or.inl (⟨z53, z54, z55, z56, i_22, i_23, i_24, i_25, i_26, i_27, i_35, i_47, i_48, i_49, i_50, i_51, i_52, i_57, rfl, rfl⟩))))))))))))))))))), by rw [ht]; exact hP, hD⟩, hS.F ht⟩) hS.2.2 dX11_look_101
        ·
          have i_57 : n3.toInt > 4 := by omega
          refine lv_tableOut (tgt := 100) hx hb dX11_look_24 (by omega) (by decide) ?_
          refine lv_iconst (v := (-1)) hx hb dX11_look_100 (by decide) ?_
          have hP := hP.sub (ws' := []) [] rfl
          have hD := hD.sub (ws' := []) [] (by decide) rfl
          exact W.iret (v := (-1)) hx hb hr (fun t ht hW => ⟨⟨(-1), [], rfl, Or.inr (Or.inr (Or.inr (Or.inr (Or.inr (Or.inr (Or.inr (Or.inr (Or.inr (Or.inr (Or.inr (Or.inr (Or.inr (Or.inr (Or.inr (Or.inr (Or.inr (Or.inr (Or.inr (Or.inl (⟨z53, z54, z55, z56, i_22, i_23, i_24, i_25, i_26, i_27, i_35, i_47, i_48, i_49, i_50, i_51, i_52, i_57, rfl, rfl⟩)))))))))))))))))))), by rw [ht]; exact hP, hD⟩, hS.F ht⟩) hS.2.2 dX11_look_101
      ·
        have e_35 : n1 = 2 := g5_toc (by decide) i_35
        subst e_35
        have hPc := hP.sub (ws' := [(a4, .inr (5, [.ref a1, .ref a13, .ref a14, .int 0, .int 0, .int 0, .int 0, .int 0, .int 0, .int 0, .int 0, .int 0, .int 0])), (a1, .inr (1, [.long 0, .int 1000, .int (-1), .int (-1), .int 0, .ref a15, .ref a16, .ref a17, .ref a18, .ref a19, .ref a20, .long 0, .ref a21])), (a14, .inl (G.2 0, 200, .inl (fun _ => 0))), (a21, .inl (G.2 1, 24, .inr (.inl (fun _ => 0)))), (a19, .inr (6, [.int 8, .int 5, .ref a22, .int 0]))]) [1, 2, 3, 4, 5] rfl
        have hDc := hD.sub (ws' := [(a4, .inr (5, [.ref a1, .ref a13, .ref a14, .int 0, .int 0, .int 0, .int 0, .int 0, .int 0, .int 0, .int 0, .int 0, .int 0])), (a1, .inr (1, [.long 0, .int 1000, .int (-1), .int (-1), .int 0, .ref a15, .ref a16, .ref a17, .ref a18, .ref a19, .ref a20, .long 0, .ref a21])), (a14, .inl (G.2 0, 200, .inl (fun _ => 0))), (a21, .inl (G.2 1, 24, .inr (.inl (fun _ => 0)))), (a19, .inr (6, [.int 8, .int 5, .ref a22, .int 0]))]) [1, 2, 3, 4, 5] (by decide) rfl
        have hFc := va_free (wc := [(a4, .inr (5, [.ref a1, .ref a13, .ref a14, .int 0, .int 0, .int 0, .int 0, .int 0, .int 0, .int 0, .int 0, .int 0, .int 0])), (a1, .inr (1, [.long 0, .int 1000, .int (-1), .int (-1), .int 0, .ref a15, .ref a16, .ref a17, .ref a18, .ref a19, .ref a20, .long 0, .ref a21])), (a14, .inl (G.2 0, 200, .inl (fun _ => 0))), (a21, .inl (G.2 1, 24, .inr (.inl (fun _ => 0)))), (a19, .inr (6, [.int 8, .int 5, .ref a22, .int 0]))]) hD hS hA [1, 2, 3, 4, 5] rfl
        refine va_callv (va_runV (As := [.int n0, .int 2, .int n2, .int 0]) (rest := []) ⟨hx, hb, hml, hown, hts⟩ (k_run2 l G a4 a1 a14 a21 a19 a13 a15 a16 a17 a18 a20 a22 H.size n0 n2 0 0 0 0 0 0 0 0 0 (fun _ => 0) ⟨by omega, by omega⟩ ⟨by omega, by omega⟩) (cwV 4 hts gV_X11_210 rfl rfl rfl hv_X5_run ⟨Nat.le_of_ble_eq_true rfl, Nat.le_of_ble_eq_true rfl⟩) (g5_preV hPc hK hDc hN hT hS hFc (ci := 5) (q0 := 0) rfl rfl) rfl rfl hl.1 rfl (lv_room (Nat.le_of_ble_eq_true rfl)) dX11_look_19 ⟨Nat.le_of_ble_eq_true rfl, Nat.le_of_ble_eq_true rfl⟩) hS (fun q _ h => hFc q h) hFc (fun u t H1 locs ht hvm hw hB hz1 hk1 hS => ?_)
        obtain ⟨hP1, hD1⟩ := hB
        rw [ht] at hP1
        obtain ⟨z64, z65, z66, z67, i_58, i_59, i_60, i_61, i_62, i_63, rfl⟩ := hw
        have i_58 : z64.toInt = 7 - n0.toInt / 8 := i_58
        have i_59 : 0 ≤ z64.toInt ∧ z64.toInt ≤ 7 := i_59
        have i_60 : (z64.toInt = 0 → z65.toInt = -1) ∧ (0 < z64.toInt → z65.toInt = n2.toInt) := i_60
        have i_61 : -1 ≤ z65.toInt ∧ z65.toInt ≤ 23 := i_61
        have i_62 : 0 ≤ z66.toInt ∧ z66.toInt ≤ 63 := i_62
        have i_63 : ∀ j : Nat, (j : Int) < z64.toInt → (z67 j).toInt = n2.toInt * 64 + (n0.toInt + 8 * ((j : Int) + 1)) := i_63
        obtain ⟨hP, hD⟩ := va_join (wr := [(a0, .inr (11, [.ref a1, .ref a2, .ref a3, .ref a4, .ref a5, .ref a6, .ref a7, .ref a8, .ref a9, .ref a10, .int 0, .int 0, .int (-1), .ref a11, .int 0, .ref a12, .int 0]))]) (w1 := [(a4, .inr (5, [.ref a1, .ref a13, .ref a14, .int z64, .int (-1), .int z65, .int 1000000, .int 0, .int 0, .int z66, .int 2, .int n2, .int 0])), (a1, .inr (1, [.long 0, .int 1000, .int (-1), .int (-1), .int 0, .ref a15, .ref a16, .ref a17, .ref a18, .ref a19, .ref a20, .long 0, .ref a21])), (a14, .inl (G.2 0, 200, .inl z67)), (a21, .inl (G.2 1, 24, .inr (.inl (fun _ => 0)))), (a19, .inr (6, [.int 8, .int 5, .ref a22, .int 0]))]) hP hD [1, 2, 3, 4, 5] [0] rfl rfl (by decide) (by decide) hk1 hFc hP1 hD1
        generalize H1 = H at hP hS ⊢
        have hP : va_P G.1 vwCl [(a0, .inr (11, [.ref a1, .ref a2, .ref a3, .ref a4, .ref a5, .ref a6, .ref a7, .ref a8, .ref a9, .ref a10, .int 0, .int 0, .int (-1), .ref a11, .int 0, .ref a12, .int 0])), (a4, .inr (5, [.ref a1, .ref a13, .ref a14, .int z64, .int (-1), .int z65, .int 1000000, .int 0, .int 0, .int z66, .int 2, .int n2, .int 0])), (a1, .inr (1, [.long 0, .int 1000, .int (-1), .int (-1), .int 0, .ref a15, .ref a16, .ref a17, .ref a18, .ref a19, .ref a20, .long 0, .ref a21])), (a14, .inl (G.2 0, 200, .inl z67)), (a21, .inl (G.2 1, 24, .inr (.inl (fun _ => 0)))), (a19, .inr (6, [.int 8, .int 5, .ref a22, .int 0]))] H := hP
        have hD : va_D A [(a0, .inr (11, [.ref a1, .ref a2, .ref a3, .ref a4, .ref a5, .ref a6, .ref a7, .ref a8, .ref a9, .ref a10, .int 0, .int 0, .int (-1), .ref a11, .int 0, .ref a12, .int 0])), (a4, .inr (5, [.ref a1, .ref a13, .ref a14, .int z64, .int (-1), .int z65, .int 1000000, .int 0, .int 0, .int z66, .int 2, .int n2, .int 0])), (a1, .inr (1, [.long 0, .int 1000, .int (-1), .int (-1), .int 0, .ref a15, .ref a16, .ref a17, .ref a18, .ref a19, .ref a20, .long 0, .ref a21])), (a14, .inl (G.2 0, 200, .inl z67)), (a21, .inl (G.2 1, 24, .inr (.inl (fun _ => 0)))), (a19, .inr (6, [.int 8, .int 5, .ref a22, .int 0]))] := hD
        refine lv_iload hx hb dX11_look_22 (lv_at hl 4 rfl) ?_
        rcases (show n3.toInt = 0 ∨ n3.toInt = 1 ∨ n3.toInt = 2 ∨ n3.toInt = 3 ∨ n3.toInt = 4 ∨ n3.toInt < 0 ∨ n3.toInt > 4 by omega) with s_68 | s_68 | s_68 | s_68 | s_68 | s_68 | s_68
        ·
          have i_68 : n3.toInt = 0 := by omega
          refine lv_tableIn (tgt := 60) hx hb dX11_look_24 (by omega) (by omega) (by rw [s_68]; rfl) (by decide) ?_
          refine lv_aload_n hx hb dX11_look_60 rfl (lv_at hl 0 rfl) ?_
          refine va_get (D := G.1) (ci := 11) (v := .ref a4) (C := RX11) (T := TX11) (N := 17) hx hb hts inG_X11 hown hK hP 0 rfl rfl 3 (by decide) (hts _ fl_X11_29) (fun _ h9 => h9) rfl dX11_look_61 ?_
          refine va_get (D := G.1) (ci := 5) (v := .int (-1)) (C := RX5) (T := TX5) (N := 13) hx hb hts inG_X5 hown hK hP 1 rfl rfl 4 (by decide) (hts _ fl_X11_213) (fun _ h9 => h9) rfl dX11_look_64 ?_
          have hP := hP.sub (ws' := []) [] rfl
          have hD := hD.sub (ws' := []) [] (by decide) rfl
          exact W.iret (v := (-1)) hx hb hr (fun t ht hW => ⟨⟨(-1), [], rfl, Or.inr (Or.inr (Or.inr (Or.inr (Or.inr (Or.inr (Or.inr (Or.inr (Or.inr (Or.inr (Or.inr (Or.inr (Or.inr (Or.inr (Or.inr (Or.inr (Or.inr (Or.inr (Or.inr (Or.inr (Or.inl (⟨z64, z65, z66, z67, i_22, i_23, i_24, i_25, i_26, i_27, i_35, i_58, i_59, i_60, i_61, i_62, i_63, i_68, rfl, rfl⟩))))))))))))))))))))), by rw [ht]; exact hP, hD⟩, hS.F ht⟩) hS.2.2 dX11_look_67
        ·
          have i_68 : n3.toInt = 1 := by omega
          refine lv_tableIn (tgt := 68) hx hb dX11_look_24 (by omega) (by omega) (by rw [s_68]; rfl) (by decide) ?_
          refine lv_aload_n hx hb dX11_look_68 rfl (lv_at hl 0 rfl) ?_
          refine va_get (D := G.1) (ci := 11) (v := .ref a4) (C := RX11) (T := TX11) (N := 17) hx hb hts inG_X11 hown hK hP 0 rfl rfl 3 (by decide) (hts _ fl_X11_29) (fun _ h9 => h9) rfl dX11_look_69 ?_
          refine va_get (D := G.1) (ci := 5) (v := .int z64) (C := RX5) (T := TX5) (N := 13) hx hb hts inG_X5 hown hK hP 1 rfl rfl 3 (by decide) (hts _ fl_X11_216) (fun _ h9 => h9) rfl dX11_look_72 ?_
          have hP := hP.sub (ws' := []) [] rfl
          have hD := hD.sub (ws' := []) [] (by decide) rfl
          exact W.iret (v := z64) hx hb hr (fun t ht hW => ⟨⟨z64, [], rfl, Or.inr (Or.inr (Or.inr (Or.inr (Or.inr (Or.inr (Or.inr (Or.inr (Or.inr (Or.inr (Or.inr (Or.inr (Or.inr (Or.inr (Or.inr (Or.inr (Or.inr (Or.inr (Or.inr (Or.inr (Or.inr (Or.inl (⟨z64, z65, z66, z67, i_22, i_23, i_24, i_25, i_26, i_27, i_35, i_58, i_59, i_60, i_61, i_62, i_63, i_68, rfl, rfl⟩)))))))))))))))))))))), by rw [ht]; exact hP, hD⟩, hS.F ht⟩) hS.2.2 dX11_look_75
        ·
          have i_68 : n3.toInt = 2 := by omega
          refine lv_tableIn (tgt := 76) hx hb dX11_look_24 (by omega) (by omega) (by rw [s_68]; rfl) (by decide) ?_
          refine lv_aload_n hx hb dX11_look_76 rfl (lv_at hl 0 rfl) ?_
          refine va_get (D := G.1) (ci := 11) (v := .ref a4) (C := RX11) (T := TX11) (N := 17) hx hb hts inG_X11 hown hK hP 0 rfl rfl 3 (by decide) (hts _ fl_X11_29) (fun _ h9 => h9) rfl dX11_look_77 ?_
          refine va_get (D := G.1) (ci := 5) (v := .int z65) (C := RX5) (T := TX5) (N := 13) hx hb hts inG_X5 hown hK hP 1 rfl rfl 5 (by decide) (hts _ fl_X11_219) (fun _ h9 => h9) rfl dX11_look_80 ?_
          have hP := hP.sub (ws' := []) [] rfl
          have hD := hD.sub (ws' := []) [] (by decide) rfl
          exact W.iret (v := z65) hx hb hr (fun t ht hW => ⟨⟨z65, [], rfl, Or.inr (Or.inr (Or.inr (Or.inr (Or.inr (Or.inr (Or.inr (Or.inr (Or.inr (Or.inr (Or.inr (Or.inr (Or.inr (Or.inr (Or.inr (Or.inr (Or.inr (Or.inr (Or.inr (Or.inr (Or.inr (Or.inr (Or.inl (⟨z64, z65, z66, z67, i_22, i_23, i_24, i_25, i_26, i_27, i_35, i_58, i_59, i_60, i_61, i_62, i_63, i_68, rfl, rfl⟩))))))))))))))))))))))), by rw [ht]; exact hP, hD⟩, hS.F ht⟩) hS.2.2 dX11_look_83
        ·
          have i_68 : n3.toInt = 3 := by omega
          refine lv_tableIn (tgt := 84) hx hb dX11_look_24 (by omega) (by omega) (by rw [s_68]; rfl) (by decide) ?_
          refine lv_aload_n hx hb dX11_look_84 rfl (lv_at hl 0 rfl) ?_
          refine va_get (D := G.1) (ci := 11) (v := .ref a4) (C := RX11) (T := TX11) (N := 17) hx hb hts inG_X11 hown hK hP 0 rfl rfl 3 (by decide) (hts _ fl_X11_29) (fun _ h9 => h9) rfl dX11_look_85 ?_
          refine va_get (D := G.1) (ci := 5) (v := .int 1000000) (C := RX5) (T := TX5) (N := 13) hx hb hts inG_X5 hown hK hP 1 rfl rfl 6 (by decide) (hts _ fl_X11_222) (fun _ h9 => h9) rfl dX11_look_88 ?_
          have hP := hP.sub (ws' := []) [] rfl
          have hD := hD.sub (ws' := []) [] (by decide) rfl
          exact W.iret (v := 1000000) hx hb hr (fun t ht hW => ⟨⟨1000000, [], rfl, Or.inr (Or.inr (Or.inr (Or.inr (Or.inr (Or.inr (Or.inr (Or.inr (Or.inr (Or.inr (Or.inr (Or.inr (Or.inr (Or.inr (Or.inr (Or.inr (Or.inr (Or.inr (Or.inr (Or.inr (Or.inr (Or.inr (Or.inr (Or.inl (⟨z64, z65, z66, z67, i_22, i_23, i_24, i_25, i_26, i_27, i_35, i_58, i_59, i_60, i_61, i_62, i_63, i_68, rfl, rfl⟩)))))))))))))))))))))))), by rw [ht]; exact hP, hD⟩, hS.F ht⟩) hS.2.2 dX11_look_91
        ·
          have i_68 : n3.toInt = 4 := by omega
          refine lv_tableIn (tgt := 92) hx hb dX11_look_24 (by omega) (by omega) (by rw [s_68]; rfl) (by decide) ?_
          refine lv_aload_n hx hb dX11_look_92 rfl (lv_at hl 0 rfl) ?_
          refine va_get (D := G.1) (ci := 11) (v := .ref a4) (C := RX11) (T := TX11) (N := 17) hx hb hts inG_X11 hown hK hP 0 rfl rfl 3 (by decide) (hts _ fl_X11_29) (fun _ h9 => h9) rfl dX11_look_93 ?_
          refine va_get (D := G.1) (ci := 5) (v := .int 0) (C := RX5) (T := TX5) (N := 13) hx hb hts inG_X5 hown hK hP 1 rfl rfl 7 (by decide) (hts _ fl_X11_225) (fun _ h9 => h9) rfl dX11_look_96 ?_
          have hP := hP.sub (ws' := []) [] rfl
          have hD := hD.sub (ws' := []) [] (by decide) rfl
          exact W.iret (v := 0) hx hb hr (fun t ht hW => ⟨⟨0, [], rfl, Or.inr (Or.inr (Or.inr (Or.inr (Or.inr (Or.inr (Or.inr (Or.inr (Or.inr (Or.inr (Or.inr (Or.inr (Or.inr (Or.inr (Or.inr (Or.inr (Or.inr (Or.inr (Or.inr (Or.inr (Or.inr (Or.inr (Or.inr (Or.inr (Or.inl (⟨z64, z65, z66, z67, i_22, i_23, i_24, i_25, i_26, i_27, i_35, i_58, i_59, i_60, i_61, i_62, i_63, i_68, rfl, rfl⟩))))))))))))))))))))))))), by rw [ht]; exact hP, hD⟩, hS.F ht⟩) hS.2.2 dX11_look_99
        ·
          have i_68 : n3.toInt < 0 := by omega
          refine lv_tableOut (tgt := 100) hx hb dX11_look_24 (by omega) (by decide) ?_
          refine lv_iconst (v := (-1)) hx hb dX11_look_100 (by decide) ?_
          have hP := hP.sub (ws' := []) [] rfl
          have hD := hD.sub (ws' := []) [] (by decide) rfl
          exact W.iret (v := (-1)) hx hb hr (fun t ht hW => ⟨⟨(-1), [], rfl, Or.inr (Or.inr (Or.inr (Or.inr (Or.inr (Or.inr (Or.inr (Or.inr (Or.inr (Or.inr (Or.inr (Or.inr (Or.inr (Or.inr (Or.inr (Or.inr (Or.inr (Or.inr (Or.inr (Or.inr (Or.inr (Or.inr (Or.inr (Or.inr (Or.inr (Or.inl (⟨z64, z65, z66, z67, i_22, i_23, i_24, i_25, i_26, i_27, i_35, i_58, i_59, i_60, i_61, i_62, i_63, i_68, rfl, rfl⟩)))))))))))))))))))))))))), by rw [ht]; exact hP, hD⟩, hS.F ht⟩) hS.2.2 dX11_look_101
        ·
          have i_68 : n3.toInt > 4 := by omega
          refine lv_tableOut (tgt := 100) hx hb dX11_look_24 (by omega) (by decide) ?_
          refine lv_iconst (v := (-1)) hx hb dX11_look_100 (by decide) ?_
          have hP := hP.sub (ws' := []) [] rfl
          have hD := hD.sub (ws' := []) [] (by decide) rfl
          exact W.iret (v := (-1)) hx hb hr (fun t ht hW => ⟨⟨(-1), [], rfl, Or.inr (Or.inr (Or.inr (Or.inr (Or.inr (Or.inr (Or.inr (Or.inr (Or.inr (Or.inr (Or.inr (Or.inr (Or.inr (Or.inr (Or.inr (Or.inr (Or.inr (Or.inr (Or.inr (Or.inr (Or.inr (Or.inr (Or.inr (Or.inr (Or.inr (Or.inr (Or.inl (⟨z64, z65, z66, z67, i_22, i_23, i_24, i_25, i_26, i_27, i_35, i_58, i_59, i_60, i_61, i_62, i_63, i_68, rfl, rfl⟩))))))))))))))))))))))))))), by rw [ht]; exact hP, hD⟩, hS.F ht⟩) hS.2.2 dX11_look_101
      ·
        have e_35 : n1 = 3 := g5_toc (by decide) i_35
        subst e_35
        have hPc := hP.sub (ws' := [(a4, .inr (5, [.ref a1, .ref a13, .ref a14, .int 0, .int 0, .int 0, .int 0, .int 0, .int 0, .int 0, .int 0, .int 0, .int 0])), (a1, .inr (1, [.long 0, .int 1000, .int (-1), .int (-1), .int 0, .ref a15, .ref a16, .ref a17, .ref a18, .ref a19, .ref a20, .long 0, .ref a21])), (a14, .inl (G.2 0, 200, .inl (fun _ => 0))), (a21, .inl (G.2 1, 24, .inr (.inl (fun _ => 0)))), (a19, .inr (6, [.int 8, .int 5, .ref a22, .int 0]))]) [1, 2, 3, 4, 5] rfl
        have hDc := hD.sub (ws' := [(a4, .inr (5, [.ref a1, .ref a13, .ref a14, .int 0, .int 0, .int 0, .int 0, .int 0, .int 0, .int 0, .int 0, .int 0, .int 0])), (a1, .inr (1, [.long 0, .int 1000, .int (-1), .int (-1), .int 0, .ref a15, .ref a16, .ref a17, .ref a18, .ref a19, .ref a20, .long 0, .ref a21])), (a14, .inl (G.2 0, 200, .inl (fun _ => 0))), (a21, .inl (G.2 1, 24, .inr (.inl (fun _ => 0)))), (a19, .inr (6, [.int 8, .int 5, .ref a22, .int 0]))]) [1, 2, 3, 4, 5] (by decide) rfl
        have hFc := va_free (wc := [(a4, .inr (5, [.ref a1, .ref a13, .ref a14, .int 0, .int 0, .int 0, .int 0, .int 0, .int 0, .int 0, .int 0, .int 0, .int 0])), (a1, .inr (1, [.long 0, .int 1000, .int (-1), .int (-1), .int 0, .ref a15, .ref a16, .ref a17, .ref a18, .ref a19, .ref a20, .long 0, .ref a21])), (a14, .inl (G.2 0, 200, .inl (fun _ => 0))), (a21, .inl (G.2 1, 24, .inr (.inl (fun _ => 0)))), (a19, .inr (6, [.int 8, .int 5, .ref a22, .int 0]))]) hD hS hA [1, 2, 3, 4, 5] rfl
        refine va_callv (va_runV (As := [.int n0, .int 3, .int n2, .int 0]) (rest := []) ⟨hx, hb, hml, hown, hts⟩ (k_run3 l G a4 a1 a14 a21 a19 a13 a15 a16 a17 a18 a20 a22 H.size n0 n2 0 0 0 0 0 0 0 0 0 (fun _ => 0) ⟨by omega, by omega⟩ ⟨by omega, by omega⟩) (cwV 4 hts gV_X11_210 rfl rfl rfl hv_X5_run ⟨Nat.le_of_ble_eq_true rfl, Nat.le_of_ble_eq_true rfl⟩) (g5_preV hPc hK hDc hN hT hS hFc (ci := 5) (q0 := 0) rfl rfl) rfl rfl hl.1 rfl (lv_room (Nat.le_of_ble_eq_true rfl)) dX11_look_19 ⟨Nat.le_of_ble_eq_true rfl, Nat.le_of_ble_eq_true rfl⟩) hS (fun q _ h => hFc q h) hFc (fun u t H1 locs ht hvm hw hB hz1 hk1 hS => ?_)
        obtain ⟨hP1, hD1⟩ := hB
        rw [ht] at hP1
        obtain ⟨z75, z76, z77, z78, i_69, i_70, i_71, i_72, i_73, i_74, rfl⟩ := hw
        have i_69 : z75.toInt = n0.toInt % 8 := i_69
        have i_70 : 0 ≤ z75.toInt ∧ z75.toInt ≤ 7 := i_70
        have i_71 : (z75.toInt = 0 → z76.toInt = -1) ∧ (0 < z75.toInt → z76.toInt = n2.toInt) := i_71
        have i_72 : -1 ≤ z76.toInt ∧ z76.toInt ≤ 23 := i_72
        have i_73 : 0 ≤ z77.toInt ∧ z77.toInt ≤ 63 := i_73
        have i_74 : ∀ j : Nat, (j : Int) < z75.toInt → (z78 j).toInt = n2.toInt * 64 + (n0.toInt - ((j : Int) + 1)) := i_74
        obtain ⟨hP, hD⟩ := va_join (wr := [(a0, .inr (11, [.ref a1, .ref a2, .ref a3, .ref a4, .ref a5, .ref a6, .ref a7, .ref a8, .ref a9, .ref a10, .int 0, .int 0, .int (-1), .ref a11, .int 0, .ref a12, .int 0]))]) (w1 := [(a4, .inr (5, [.ref a1, .ref a13, .ref a14, .int z75, .int (-1), .int z76, .int 1000000, .int 0, .int 0, .int z77, .int 3, .int n2, .int 0])), (a1, .inr (1, [.long 0, .int 1000, .int (-1), .int (-1), .int 0, .ref a15, .ref a16, .ref a17, .ref a18, .ref a19, .ref a20, .long 0, .ref a21])), (a14, .inl (G.2 0, 200, .inl z78)), (a21, .inl (G.2 1, 24, .inr (.inl (fun _ => 0)))), (a19, .inr (6, [.int 8, .int 5, .ref a22, .int 0]))]) hP hD [1, 2, 3, 4, 5] [0] rfl rfl (by decide) (by decide) hk1 hFc hP1 hD1
        generalize H1 = H at hP hS ⊢
        have hP : va_P G.1 vwCl [(a0, .inr (11, [.ref a1, .ref a2, .ref a3, .ref a4, .ref a5, .ref a6, .ref a7, .ref a8, .ref a9, .ref a10, .int 0, .int 0, .int (-1), .ref a11, .int 0, .ref a12, .int 0])), (a4, .inr (5, [.ref a1, .ref a13, .ref a14, .int z75, .int (-1), .int z76, .int 1000000, .int 0, .int 0, .int z77, .int 3, .int n2, .int 0])), (a1, .inr (1, [.long 0, .int 1000, .int (-1), .int (-1), .int 0, .ref a15, .ref a16, .ref a17, .ref a18, .ref a19, .ref a20, .long 0, .ref a21])), (a14, .inl (G.2 0, 200, .inl z78)), (a21, .inl (G.2 1, 24, .inr (.inl (fun _ => 0)))), (a19, .inr (6, [.int 8, .int 5, .ref a22, .int 0]))] H := hP
        have hD : va_D A [(a0, .inr (11, [.ref a1, .ref a2, .ref a3, .ref a4, .ref a5, .ref a6, .ref a7, .ref a8, .ref a9, .ref a10, .int 0, .int 0, .int (-1), .ref a11, .int 0, .ref a12, .int 0])), (a4, .inr (5, [.ref a1, .ref a13, .ref a14, .int z75, .int (-1), .int z76, .int 1000000, .int 0, .int 0, .int z77, .int 3, .int n2, .int 0])), (a1, .inr (1, [.long 0, .int 1000, .int (-1), .int (-1), .int 0, .ref a15, .ref a16, .ref a17, .ref a18, .ref a19, .ref a20, .long 0, .ref a21])), (a14, .inl (G.2 0, 200, .inl z78)), (a21, .inl (G.2 1, 24, .inr (.inl (fun _ => 0)))), (a19, .inr (6, [.int 8, .int 5, .ref a22, .int 0]))] := hD
        refine lv_iload hx hb dX11_look_22 (lv_at hl 4 rfl) ?_
        rcases (show n3.toInt = 0 ∨ n3.toInt = 1 ∨ n3.toInt = 2 ∨ n3.toInt = 3 ∨ n3.toInt = 4 ∨ n3.toInt < 0 ∨ n3.toInt > 4 by omega) with s_79 | s_79 | s_79 | s_79 | s_79 | s_79 | s_79
        ·
          have i_79 : n3.toInt = 0 := by omega
          refine lv_tableIn (tgt := 60) hx hb dX11_look_24 (by omega) (by omega) (by rw [s_79]; rfl) (by decide) ?_
          refine lv_aload_n hx hb dX11_look_60 rfl (lv_at hl 0 rfl) ?_
          refine va_get (D := G.1) (ci := 11) (v := .ref a4) (C := RX11) (T := TX11) (N := 17) hx hb hts inG_X11 hown hK hP 0 rfl rfl 3 (by decide) (hts _ fl_X11_29) (fun _ h9 => h9) rfl dX11_look_61 ?_
          refine va_get (D := G.1) (ci := 5) (v := .int (-1)) (C := RX5) (T := TX5) (N := 13) hx hb hts inG_X5 hown hK hP 1 rfl rfl 4 (by decide) (hts _ fl_X11_213) (fun _ h9 => h9) rfl dX11_look_64 ?_
          have hP := hP.sub (ws' := []) [] rfl
          have hD := hD.sub (ws' := []) [] (by decide) rfl
          exact W.iret (v := (-1)) hx hb hr (fun t ht hW => ⟨⟨(-1), [], rfl, Or.inr (Or.inr (Or.inr (Or.inr (Or.inr (Or.inr (Or.inr (Or.inr (Or.inr (Or.inr (Or.inr (Or.inr (Or.inr (Or.inr (Or.inr (Or.inr (Or.inr (Or.inr (Or.inr (Or.inr (Or.inr (Or.inr (Or.inr (Or.inr (Or.inr (Or.inr (Or.inr (Or.inl (⟨z75, z76, z77, z78, i_22, i_23, i_24, i_25, i_26, i_27, i_35, i_69, i_70, i_71, i_72, i_73, i_74, i_79, rfl, rfl⟩)))))))))))))))))))))))))))), by rw [ht]; exact hP, hD⟩, hS.F ht⟩) hS.2.2 dX11_look_67
        ·
          have i_79 : n3.toInt = 1 := by omega
          refine lv_tableIn (tgt := 68) hx hb dX11_look_24 (by omega) (by omega) (by rw [s_79]; rfl) (by decide) ?_
          refine lv_aload_n hx hb dX11_look_68 rfl (lv_at hl 0 rfl) ?_
          refine va_get (D := G.1) (ci := 11) (v := .ref a4) (C := RX11) (T := TX11) (N := 17) hx hb hts inG_X11 hown hK hP 0 rfl rfl 3 (by decide) (hts _ fl_X11_29) (fun _ h9 => h9) rfl dX11_look_69 ?_
          refine va_get (D := G.1) (ci := 5) (v := .int z75) (C := RX5) (T := TX5) (N := 13) hx hb hts inG_X5 hown hK hP 1 rfl rfl 3 (by decide) (hts _ fl_X11_216) (fun _ h9 => h9) rfl dX11_look_72 ?_
          have hP := hP.sub (ws' := []) [] rfl
          have hD := hD.sub (ws' := []) [] (by decide) rfl
          exact W.iret (v := z75) hx hb hr (fun t ht hW => ⟨⟨z75, [], rfl, Or.inr (Or.inr (Or.inr (Or.inr (Or.inr (Or.inr (Or.inr (Or.inr (Or.inr (Or.inr (Or.inr (Or.inr (Or.inr (Or.inr (Or.inr (Or.inr (Or.inr (Or.inr (Or.inr (Or.inr (Or.inr (Or.inr (Or.inr (Or.inr (Or.inr (Or.inr (Or.inr (Or.inr (Or.inl (⟨z75, z76, z77, z78, i_22, i_23, i_24, i_25, i_26, i_27, i_35, i_69, i_70, i_71, i_72, i_73, i_74, i_79, rfl, rfl⟩))))))))))))))))))))))))))))), by rw [ht]; exact hP, hD⟩, hS.F ht⟩) hS.2.2 dX11_look_75
        ·
          have i_79 : n3.toInt = 2 := by omega
          refine lv_tableIn (tgt := 76) hx hb dX11_look_24 (by omega) (by omega) (by rw [s_79]; rfl) (by decide) ?_
          refine lv_aload_n hx hb dX11_look_76 rfl (lv_at hl 0 rfl) ?_
          refine va_get (D := G.1) (ci := 11) (v := .ref a4) (C := RX11) (T := TX11) (N := 17) hx hb hts inG_X11 hown hK hP 0 rfl rfl 3 (by decide) (hts _ fl_X11_29) (fun _ h9 => h9) rfl dX11_look_77 ?_
          refine va_get (D := G.1) (ci := 5) (v := .int z76) (C := RX5) (T := TX5) (N := 13) hx hb hts inG_X5 hown hK hP 1 rfl rfl 5 (by decide) (hts _ fl_X11_219) (fun _ h9 => h9) rfl dX11_look_80 ?_
          have hP := hP.sub (ws' := []) [] rfl
          have hD := hD.sub (ws' := []) [] (by decide) rfl
          exact W.iret (v := z76) hx hb hr (fun t ht hW => ⟨⟨z76, [], rfl, Or.inr (Or.inr (Or.inr (Or.inr (Or.inr (Or.inr (Or.inr (Or.inr (Or.inr (Or.inr (Or.inr (Or.inr (Or.inr (Or.inr (Or.inr (Or.inr (Or.inr (Or.inr (Or.inr (Or.inr (Or.inr (Or.inr (Or.inr (Or.inr (Or.inr (Or.inr (Or.inr (Or.inr (Or.inr (Or.inl (⟨z75, z76, z77, z78, i_22, i_23, i_24, i_25, i_26, i_27, i_35, i_69, i_70, i_71, i_72, i_73, i_74, i_79, rfl, rfl⟩)))))))))))))))))))))))))))))), by rw [ht]; exact hP, hD⟩, hS.F ht⟩) hS.2.2 dX11_look_83
        ·
          have i_79 : n3.toInt = 3 := by omega
          refine lv_tableIn (tgt := 84) hx hb dX11_look_24 (by omega) (by omega) (by rw [s_79]; rfl) (by decide) ?_
          refine lv_aload_n hx hb dX11_look_84 rfl (lv_at hl 0 rfl) ?_
          refine va_get (D := G.1) (ci := 11) (v := .ref a4) (C := RX11) (T := TX11) (N := 17) hx hb hts inG_X11 hown hK hP 0 rfl rfl 3 (by decide) (hts _ fl_X11_29) (fun _ h9 => h9) rfl dX11_look_85 ?_
          refine va_get (D := G.1) (ci := 5) (v := .int 1000000) (C := RX5) (T := TX5) (N := 13) hx hb hts inG_X5 hown hK hP 1 rfl rfl 6 (by decide) (hts _ fl_X11_222) (fun _ h9 => h9) rfl dX11_look_88 ?_
          have hP := hP.sub (ws' := []) [] rfl
          have hD := hD.sub (ws' := []) [] (by decide) rfl
          exact W.iret (v := 1000000) hx hb hr (fun t ht hW => ⟨⟨1000000, [], rfl, Or.inr (Or.inr (Or.inr (Or.inr (Or.inr (Or.inr (Or.inr (Or.inr (Or.inr (Or.inr (Or.inr (Or.inr (Or.inr (Or.inr (Or.inr (Or.inr (Or.inr (Or.inr (Or.inr (Or.inr (Or.inr (Or.inr (Or.inr (Or.inr (Or.inr (Or.inr (Or.inr (Or.inr (Or.inr (Or.inr (Or.inl (⟨z75, z76, z77, z78, i_22, i_23, i_24, i_25, i_26, i_27, i_35, i_69, i_70, i_71, i_72, i_73, i_74, i_79, rfl, rfl⟩))))))))))))))))))))))))))))))), by rw [ht]; exact hP, hD⟩, hS.F ht⟩) hS.2.2 dX11_look_91
        ·
          have i_79 : n3.toInt = 4 := by omega
          refine lv_tableIn (tgt := 92) hx hb dX11_look_24 (by omega) (by omega) (by rw [s_79]; rfl) (by decide) ?_
          refine lv_aload_n hx hb dX11_look_92 rfl (lv_at hl 0 rfl) ?_
          refine va_get (D := G.1) (ci := 11) (v := .ref a4) (C := RX11) (T := TX11) (N := 17) hx hb hts inG_X11 hown hK hP 0 rfl rfl 3 (by decide) (hts _ fl_X11_29) (fun _ h9 => h9) rfl dX11_look_93 ?_
          refine va_get (D := G.1) (ci := 5) (v := .int 0) (C := RX5) (T := TX5) (N := 13) hx hb hts inG_X5 hown hK hP 1 rfl rfl 7 (by decide) (hts _ fl_X11_225) (fun _ h9 => h9) rfl dX11_look_96 ?_
          have hP := hP.sub (ws' := []) [] rfl
          have hD := hD.sub (ws' := []) [] (by decide) rfl
          exact W.iret (v := 0) hx hb hr (fun t ht hW => ⟨⟨0, [], rfl, Or.inr (Or.inr (Or.inr (Or.inr (Or.inr (Or.inr (Or.inr (Or.inr (Or.inr (Or.inr (Or.inr (Or.inr (Or.inr (Or.inr (Or.inr (Or.inr (Or.inr (Or.inr (Or.inr (Or.inr (Or.inr (Or.inr (Or.inr (Or.inr (Or.inr (Or.inr (Or.inr (Or.inr (Or.inr (Or.inr (Or.inr (Or.inl (⟨z75, z76, z77, z78, i_22, i_23, i_24, i_25, i_26, i_27, i_35, i_69, i_70, i_71, i_72, i_73, i_74, i_79, rfl, rfl⟩)))))))))))))))))))))))))))))))), by rw [ht]; exact hP, hD⟩, hS.F ht⟩) hS.2.2 dX11_look_99
        ·
          have i_79 : n3.toInt < 0 := by omega
          refine lv_tableOut (tgt := 100) hx hb dX11_look_24 (by omega) (by decide) ?_
          refine lv_iconst (v := (-1)) hx hb dX11_look_100 (by decide) ?_
          have hP := hP.sub (ws' := []) [] rfl
          have hD := hD.sub (ws' := []) [] (by decide) rfl
          exact W.iret (v := (-1)) hx hb hr (fun t ht hW => ⟨⟨(-1), [], rfl, Or.inr (Or.inr (Or.inr (Or.inr (Or.inr (Or.inr (Or.inr (Or.inr (Or.inr (Or.inr (Or.inr (Or.inr (Or.inr (Or.inr (Or.inr (Or.inr (Or.inr (Or.inr (Or.inr (Or.inr (Or.inr (Or.inr (Or.inr (Or.inr (Or.inr (Or.inr (Or.inr (Or.inr (Or.inr (Or.inr (Or.inr (Or.inr (Or.inl (⟨z75, z76, z77, z78, i_22, i_23, i_24, i_25, i_26, i_27, i_35, i_69, i_70, i_71, i_72, i_73, i_74, i_79, rfl, rfl⟩))))))))))))))))))))))))))))))))), by rw [ht]; exact hP, hD⟩, hS.F ht⟩) hS.2.2 dX11_look_101
        ·
          have i_79 : n3.toInt > 4 := by omega
          refine lv_tableOut (tgt := 100) hx hb dX11_look_24 (by omega) (by decide) ?_
          refine lv_iconst (v := (-1)) hx hb dX11_look_100 (by decide) ?_
          have hP := hP.sub (ws' := []) [] rfl
          have hD := hD.sub (ws' := []) [] (by decide) rfl
          exact W.iret (v := (-1)) hx hb hr (fun t ht hW => ⟨⟨(-1), [], rfl, Or.inr (Or.inr (Or.inr (Or.inr (Or.inr (Or.inr (Or.inr (Or.inr (Or.inr (Or.inr (Or.inr (Or.inr (Or.inr (Or.inr (Or.inr (Or.inr (Or.inr (Or.inr (Or.inr (Or.inr (Or.inr (Or.inr (Or.inr (Or.inr (Or.inr (Or.inr (Or.inr (Or.inr (Or.inr (Or.inr (Or.inr (Or.inr (Or.inr (⟨z75, z76, z77, z78, i_22, i_23, i_24, i_25, i_26, i_27, i_35, i_69, i_70, i_71, i_72, i_73, i_74, i_79, rfl, rfl⟩))))))))))))))))))))))))))))))))), by rw [ht]; exact hP, hD⟩, hS.F ht⟩) hS.2.2 dX11_look_101
    ·
      exact absurd c_34 (by decide)
theorem fl_X11_228 : Cond.fieldLink RX11 228 "LateGlass$Look" "points" "[I" ∈ tblG := tg 248 (by decide +kernel) (by decide +kernel)
theorem dX11_point_0 : decode cX11_point 0 = .ok (.iload_n 1, 1) := by decide +kernel
theorem dX11_point_1 : decode cX11_point 1 = .ok (.iload_n 2, 1) := by decide +kernel
theorem dX11_point_2 : decode cX11_point 2 = .ok (.iload_n 3, 1) := by decide +kernel
theorem dX11_point_3 : decode cX11_point 3 = .ok (.invokestatic 207, 3) := by decide +kernel
theorem dX11_point_6 : decode cX11_point 6 = .ok (.ifCond .ne 5, 3) := by decide +kernel
theorem dX11_point_9 : decode cX11_point 9 = .ok (.iconst (-1), 1) := by decide +kernel
theorem dX11_point_10 : decode cX11_point 10 = .ok (.ireturn, 1) := by decide +kernel
theorem dX11_point_11 : decode cX11_point 11 = .ok (.aload_n 0, 1) := by decide +kernel
theorem dX11_point_12 : decode cX11_point 12 = .ok (.getfield 29, 3) := by decide +kernel
theorem dX11_point_15 : decode cX11_point 15 = .ok (.iload_n 1, 1) := by decide +kernel
theorem dX11_point_16 : decode cX11_point 16 = .ok (.iload_n 2, 1) := by decide +kernel
theorem dX11_point_17 : decode cX11_point 17 = .ok (.iload_n 3, 1) := by decide +kernel
theorem dX11_point_18 : decode cX11_point 18 = .ok (.iconst 0, 1) := by decide +kernel
theorem dX11_point_19 : decode cX11_point 19 = .ok (.invokevirtual 210, 3) := by decide +kernel
theorem dX11_point_22 : decode cX11_point 22 = .ok (.iload 4, 2) := by decide +kernel
theorem dX11_point_24 : decode cX11_point 24 = .ok (.ifCond .lt 28, 3) := by decide +kernel
theorem dX11_point_27 : decode cX11_point 27 = .ok (.iload 4, 2) := by decide +kernel
theorem dX11_point_29 : decode cX11_point 29 = .ok (.aload_n 0, 1) := by decide +kernel
theorem dX11_point_30 : decode cX11_point 30 = .ok (.getfield 29, 3) := by decide +kernel
theorem dX11_point_33 : decode cX11_point 33 = .ok (.getfield 216, 3) := by decide +kernel
theorem dX11_point_36 : decode cX11_point 36 = .ok (.if_icmp .ge 16, 3) := by decide +kernel
theorem dX11_point_39 : decode cX11_point 39 = .ok (.aload_n 0, 1) := by decide +kernel
theorem dX11_point_40 : decode cX11_point 40 = .ok (.getfield 29, 3) := by decide +kernel
theorem dX11_point_43 : decode cX11_point 43 = .ok (.getfield 228, 3) := by decide +kernel
theorem dX11_point_46 : decode cX11_point 46 = .ok (.iload 4, 2) := by decide +kernel
theorem dX11_point_48 : decode cX11_point 48 = .ok (.iaload, 1) := by decide +kernel
theorem dX11_point_49 : decode cX11_point 49 = .ok (.goto 4, 3) := by decide +kernel
theorem dX11_point_52 : decode cX11_point 52 = .ok (.iconst (-1), 1) := by decide +kernel
theorem dX11_point_53 : decode cX11_point 53 = .ok (.ireturn, 1) := by decide +kernel
