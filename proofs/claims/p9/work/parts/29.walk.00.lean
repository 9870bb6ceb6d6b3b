theorem dgX9_lowestNext_0 : ∀ r ∈ ([(0, (.iconst 0, 1)), (1, (.istore_n 3, 1)), (2, (.iload_n 3, 1)), (3, (.getstatic 64, 3)), (6, (.arraylength, 1)), (7, (.if_icmp .ge 38, 3)), (10, (.iload_n 0, 1)), (11, (.getstatic 64, 3)), (14, (.iload_n 3, 1)), (15, (.iaload, 1)), (16, (.invokestatic 67, 3)), (19, (.istore 4, 2)), (21, (.iload 4, 2)), (23, (.iconst (-1), 1)), (24, (.if_icmp .eq 15, 3)), (27, (.lload_n 1, 1)), (28, (.iload 4, 2)), (30, (.invokestatic 43, 3)), (33, (.ifCond .eq 6, 3)), (36, (.iload 4, 2)), (38, (.ireturn, 1)), (39, (.iinc 3 1, 3)), (42, (.goto (-40), 3)), (45, (.iload_n 0, 1)), (46, (.ireturn, 1))] : List (Nat × (Instr × Nat))), decode cX9_lowestNext r.1 = .ok r.2 := by decide +kernel
theorem dX9_lowestNext_0 : decode cX9_lowestNext 0 = .ok (.iconst 0, 1) := dgX9_lowestNext_0 (0, (.iconst 0, 1)) (List.mem_of_getElem? (i := 0) rfl)
theorem dX9_lowestNext_1 : decode cX9_lowestNext 1 = .ok (.istore_n 3, 1) := dgX9_lowestNext_0 (1, (.istore_n 3, 1)) (List.mem_of_getElem? (i := 1) rfl)
theorem dX9_lowestNext_2 : decode cX9_lowestNext 2 = .ok (.iload_n 3, 1) := dgX9_lowestNext_0 (2, (.iload_n 3, 1)) (List.mem_of_getElem? (i := 2) rfl)
theorem dX9_lowestNext_3 : decode cX9_lowestNext 3 = .ok (.getstatic 64, 3) := dgX9_lowestNext_0 (3, (.getstatic 64, 3)) (List.mem_of_getElem? (i := 3) rfl)
theorem dX9_lowestNext_6 : decode cX9_lowestNext 6 = .ok (.arraylength, 1) := dgX9_lowestNext_0 (6, (.arraylength, 1)) (List.mem_of_getElem? (i := 4) rfl)
theorem dX9_lowestNext_7 : decode cX9_lowestNext 7 = .ok (.if_icmp .ge 38, 3) := dgX9_lowestNext_0 (7, (.if_icmp .ge 38, 3)) (List.mem_of_getElem? (i := 5) rfl)
theorem dX9_lowestNext_10 : decode cX9_lowestNext 10 = .ok (.iload_n 0, 1) := dgX9_lowestNext_0 (10, (.iload_n 0, 1)) (List.mem_of_getElem? (i := 6) rfl)
theorem dX9_lowestNext_11 : decode cX9_lowestNext 11 = .ok (.getstatic 64, 3) := dgX9_lowestNext_0 (11, (.getstatic 64, 3)) (List.mem_of_getElem? (i := 7) rfl)
theorem dX9_lowestNext_14 : decode cX9_lowestNext 14 = .ok (.iload_n 3, 1) := dgX9_lowestNext_0 (14, (.iload_n 3, 1)) (List.mem_of_getElem? (i := 8) rfl)
theorem dX9_lowestNext_15 : decode cX9_lowestNext 15 = .ok (.iaload, 1) := dgX9_lowestNext_0 (15, (.iaload, 1)) (List.mem_of_getElem? (i := 9) rfl)
theorem dX9_lowestNext_16 : decode cX9_lowestNext 16 = .ok (.invokestatic 67, 3) := dgX9_lowestNext_0 (16, (.invokestatic 67, 3)) (List.mem_of_getElem? (i := 10) rfl)
theorem dX9_lowestNext_19 : decode cX9_lowestNext 19 = .ok (.istore 4, 2) := dgX9_lowestNext_0 (19, (.istore 4, 2)) (List.mem_of_getElem? (i := 11) rfl)
theorem dX9_lowestNext_21 : decode cX9_lowestNext 21 = .ok (.iload 4, 2) := dgX9_lowestNext_0 (21, (.iload 4, 2)) (List.mem_of_getElem? (i := 12) rfl)
theorem dX9_lowestNext_23 : decode cX9_lowestNext 23 = .ok (.iconst (-1), 1) := dgX9_lowestNext_0 (23, (.iconst (-1), 1)) (List.mem_of_getElem? (i := 13) rfl)
theorem dX9_lowestNext_24 : decode cX9_lowestNext 24 = .ok (.if_icmp .eq 15, 3) := dgX9_lowestNext_0 (24, (.if_icmp .eq 15, 3)) (List.mem_of_getElem? (i := 14) rfl)
theorem dX9_lowestNext_27 : decode cX9_lowestNext 27 = .ok (.lload_n 1, 1) := dgX9_lowestNext_0 (27, (.lload_n 1, 1)) (List.mem_of_getElem? (i := 15) rfl)
theorem dX9_lowestNext_28 : decode cX9_lowestNext 28 = .ok (.iload 4, 2) := dgX9_lowestNext_0 (28, (.iload 4, 2)) (List.mem_of_getElem? (i := 16) rfl)
theorem dX9_lowestNext_30 : decode cX9_lowestNext 30 = .ok (.invokestatic 43, 3) := dgX9_lowestNext_0 (30, (.invokestatic 43, 3)) (List.mem_of_getElem? (i := 17) rfl)
theorem dX9_lowestNext_33 : decode cX9_lowestNext 33 = .ok (.ifCond .eq 6, 3) := dgX9_lowestNext_0 (33, (.ifCond .eq 6, 3)) (List.mem_of_getElem? (i := 18) rfl)
theorem dX9_lowestNext_36 : decode cX9_lowestNext 36 = .ok (.iload 4, 2) := dgX9_lowestNext_0 (36, (.iload 4, 2)) (List.mem_of_getElem? (i := 19) rfl)
theorem dX9_lowestNext_38 : decode cX9_lowestNext 38 = .ok (.ireturn, 1) := dgX9_lowestNext_0 (38, (.ireturn, 1)) (List.mem_of_getElem? (i := 20) rfl)
theorem dX9_lowestNext_39 : decode cX9_lowestNext 39 = .ok (.iinc 3 1, 3) := dgX9_lowestNext_0 (39, (.iinc 3 1, 3)) (List.mem_of_getElem? (i := 21) rfl)
theorem dX9_lowestNext_42 : decode cX9_lowestNext 42 = .ok (.goto (-40), 3) := dgX9_lowestNext_0 (42, (.goto (-40), 3)) (List.mem_of_getElem? (i := 22) rfl)
theorem dX9_lowestNext_45 : decode cX9_lowestNext 45 = .ok (.iload_n 0, 1) := dgX9_lowestNext_0 (45, (.iload_n 0, 1)) (List.mem_of_getElem? (i := 23) rfl)
theorem dX9_lowestNext_46 : decode cX9_lowestNext 46 = .ok (.ireturn, 1) := dgX9_lowestNext_0 (46, (.ireturn, 1)) (List.mem_of_getElem? (i := 24) rfl)
set_option maxHeartbeats 4000000 in
set_option maxRecDepth 100000 in
theorem a_next (l : Launch) (G : g5_G) (sz : Nat) (p_c : Int32) (p_x : Int64) (h_p_c : 0 ≤ p_c.toInt ∧ p_c.toInt ≤ 63) : Met l yX9_lowestNext (wsG yX9_lowestNext cX9_lowestNext 5 (some .int)) ({ frames := 1, cells := 0, slots := 0, locals := 22 }) (va_Pc [.int p_c, .long p_x] (g5_P G [] sz)) (va_Qi (fun (r : Int32) (u : va_W) => (∃ (o_r : Int32), (0 ≤ o_r.toInt ∧ o_r.toInt ≤ 63) ∧ (r = o_r) ∧ (u = []))) (g5_B G (va_A [] sz)) (va_A [] sz)) 0 0 (va_A [] sz) := by
  refine Met.ofW (cc := cX9_lowestNext) (maxL := 5) (ret := (some .int)) (by decide) rfl ?_
  intro p e s m args below meth c s₁ B hml hv
  obtain ⟨rfl, hsz, hP, hK, hD0, hN, hT⟩ := hv
  have hx := B.exec
  have hb := B.bytes
  have hr := B.returns
  have hts : ∀ w ∈ tblG, w.before _ s = true := fun w h => atoms_spec (ws := (wsG yX9_lowestNext cX9_lowestNext 5 (some .int))) B.pre w (List.mem_cons_of_mem _ h)
  have hown : s.vm.findClass RX9 = some m.cls := findClass_of_methodNamed B.named
  have hlocks := B.notSynchronized
  subst hsz
  have hD := hD0.self (sz := s.heap.size)
  generalize hAe : va_A [] s.heap.size = A at hD hT ⊢
  have hA : ∀ q : Nat, s.heap.size ≤ q → A q := fun q h => by rw [← hAe]; exact Or.inr h
  have hS : va_S A s.heap s.heap [] := va_S.rf
  have hP : va_P G.1 vwCl [] s.heap := hP
  have hl := lv_entry ([.int p_c, .long p_x]) (n := 5) (Nat.le_of_ble_eq_true rfl)
  rw [lg_entry_eq]
  generalize (lg_sl ([.int p_c, .long p_x]) ++ List.replicate (5 - (lg_sl ([.int p_c, .long p_x])).length) Slot.unset).toArray = ls at hl ⊢
  have hl : lv_has ls 5 [(0, .int p_c), (1, .long p_x)] := hl
  refine lv_iconst (v := 0) hx hb dX9_lowestNext_0 (by decide) ?_
  refine lv_istore_n (lv' := [(3, .int 0), (0, .int p_c), (1, .long p_x)]) hx hb dX9_lowestNext_1 rfl hl (by decide) rfl (fun ls hl => ?_)
  refine g5_loop (α := (Int32)) (fun (k_i : (Int32)) (ls : Array Slot) (H : Heap) (locs : List Loc) => lv_has ls 5 [(3, .int k_i), (0, .int p_c), (1, .long p_x)] ∧ va_P G.1 vwCl [] H ∧ va_D A [] ∧ va_S A s.heap H locs ∧ (0 ≤ k_i.toInt ∧ k_i.toInt ≤ 5)) (fun (k_i : (Int32)) => Int.toNat (5 - k_i.toInt)) 0 ⟨lv_sub hl [0, 1, 2] rfl, hP, hD, hS, ⟨by decide, by decide⟩⟩ ?_
  rintro k_i ls H locs ⟨hl, hP, hD, hS, i_1⟩ ih_2_2
  have hl : lv_has ls 5 [(3, .int k_i), (0, .int p_c), (1, .long p_x)] := hl
  have i_1 : 0 ≤ k_i.toInt ∧ k_i.toInt ≤ 5 := i_1
  refine g5_rs [] hP hD (fun hP hD => ?_)
  refine lv_iload_n hx hb dX9_lowestNext_2 rfl (lv_at hl 0 rfl) ?_
  obtain ⟨tH, tL, tK, tV, tF, hZH, hTH, hZL, hTL, -⟩ := id hT
  refine va_getsN hx hb hZL hS hown (hN.1 _ g5_nw_X9_64) (fun _ h9 => h9) dX9_lowestNext_3 ?_
  refine va_tlen hx hb hTL hS (v := 5) (by decide) dX9_lowestNext_6 ?_
  refine lv_icmp_ge (tgt := 45) hx hb dX9_lowestNext_7 (by decide) (fun c_3 => ?_) (fun c_3 => ?_)
  ·
    have i_3 : k_i.toInt ≥ 5 := by have z := g5_ge (a := k_i.toInt) (b := 5) (by rfl) (by decide) c_3; omega
    refine lv_iload_n hx hb dX9_lowestNext_45 rfl (lv_at hl 1 rfl) ?_
    exact W.iret (v := p_c) hx hb hr (fun t ht hW => ⟨⟨p_c, [], rfl, ⟨p_c, h_p_c, rfl, rfl⟩, by rw [ht]; exact hP.sub [] rfl, hD.sub [] (by decide) rfl⟩, hS.F ht⟩) hS.2.2 dX9_lowestNext_46
  ·
    have i_3 : k_i.toInt < 5 := by have z := g5_geN (a := k_i.toInt) (b := 5) (by rfl) (by decide) c_3; omega
    refine lv_iload_n hx hb dX9_lowestNext_10 rfl (lv_at hl 1 rfl) ?_
    obtain ⟨tH, tL, tK, tV, tF, hZH, hTH, hZL, hTL, -⟩ := id hT
    refine va_getsN hx hb hZL hS hown (hN.1 _ g5_nw_X9_64) (fun _ h9 => h9) dX9_lowestNext_11 ?_
    refine lv_iload_n hx hb dX9_lowestNext_14 rfl (lv_at hl 0 rfl) ?_
    refine va_ti hx hb hTL hS (i := k_i) (vp_in_iff.mpr ⟨by omega, by omega⟩) (v := .int (g_low k_i.toNatClampNeg)) (g_low_eq _) dX9_lowestNext_15 ?_
    obtain ⟨hPc, hDc, hFc⟩ := g5_sub3 (wc := []) hP hD hS hA [] (by decide) rfl
    refine va_calli (va_runSN (As := [.int p_c, .int (g_low k_i.toNatClampNeg)]) (rest := []) ⟨hx, hb, hml, hown, hts⟩ (k_beside l G H.size p_c (g_low k_i.toNatClampNeg) h_p_c) ⟨va_cnB 2 hts gW_X11_beside rfl rfl rfl (hN.1 _ g5_nw_X9_67) (hts _ ini_X11) hs_X11_beside ⟨Nat.le_of_ble_eq_true rfl, Nat.le_of_ble_eq_true rfl⟩, hts _ st_X11_beside, trivial⟩ (g5_preS hPc hK hDc hN hT hS hFc) rfl rfl hl.1 rfl (lv_room (Nat.le_of_ble_eq_true rfl)) dX9_lowestNext_16 ⟨Nat.le_of_ble_eq_true rfl, Nat.le_of_ble_eq_true rfl⟩) hS (fun q _ h => hFc q h) hFc (fun r u t H1 locs ht hvm hw hB hz1 hk1 hS => ?_)
    obtain ⟨hP1, hD1⟩ := hB
    rw [ht] at hP1
    obtain ⟨z6, i_4, i_5, y7, rfl⟩ := hw
    have i_4 : z6.toInt = bs p_c.toInt (g_low k_i.toNatClampNeg).toInt := i_4
    have i_5 : -1 ≤ z6.toInt ∧ z6.toInt ≤ 63 := i_5
    have hP := g5_same hP hk1
    generalize H1 = H at hP hS ⊢
    refine g5_ti (v := z6) y7 ?_
    refine lv_istore (lv' := [(4, .int z6), (3, .int k_i), (0, .int p_c), (1, .long p_x)]) hx hb dX9_lowestNext_19 hl (by decide) rfl (fun ls hl => ?_)
    refine lv_iload hx hb dX9_lowestNext_21 (lv_at hl 0 rfl) ?_
    refine lv_iconst (v := (-1)) hx hb dX9_lowestNext_23 (by decide) ?_
    refine lv_icmp_eq (tgt := 39) hx hb dX9_lowestNext_24 (by decide) (fun c_8 => ?_) (fun c_8 => ?_)
    ·
      have i_8 : z6.toInt = (-1) := by have z := g5_eq (a := z6.toInt) (b := (-1)) (by rfl) (by decide) c_8; omega
      refine lv_iinc (v := (k_i + 1)) (lv' := [(3, .int (k_i + 1)), (4, .int z6), (0, .int p_c), (1, .long p_x)]) hx hb dX9_lowestNext_39 hl (k := 1) rfl rfl (by decide) rfl (fun ls hl => ?_)
      have t_9 : (k_i + 1).toInt = k_i.toInt + 1 := g5_iadd (a := k_i.toInt) (b := 1) rfl (by decide) (by omega) (by omega)
      refine lv_goto (tgt := 2) hx hb dX9_lowestNext_42 (by decide) ?_
      exact ih_2_2 (k_i + 1) ls H locs (show Int.toNat (5 - (k_i + 1).toInt) < Int.toNat (5 - k_i.toInt) from g_up (show k_i.toInt < (k_i + 1).toInt by omega) (show k_i.toInt < 5 by omega)) ⟨lv_sub hl [0, 2, 3] rfl, hP, hD, hS, ⟨by omega, by omega⟩⟩
    ·
      have n_8 : gNe (z6.toInt) ((-1)) := by have z := g5_eqN (a := z6.toInt) (b := (-1)) (by rfl) (by decide) c_8; unfold gNe; omega
      have i_8 : z6.toInt ≥ 0 := by have z := g5_eqN (a := z6.toInt) (b := (-1)) (by rfl) (by decide) c_8; omega
      refine lv_lload_n hx hb dX9_lowestNext_27 rfl (lv_at hl 3 rfl) ?_
      refine lv_iload hx hb dX9_lowestNext_28 (lv_at hl 0 rfl) ?_
      obtain ⟨hPc, hDc, hFc⟩ := g5_sub3 (wc := []) hP hD hS hA [] (by decide) rfl
      refine va_calli (va_runSN (As := [.long p_x, .int z6]) (rest := []) ⟨hx, hb, hml, hown, hts⟩ (k_isOn l G H.size z6 p_x ⟨by omega, by omega⟩) ⟨va_cnB 2 hts gW_X11_isOn rfl rfl rfl (hN.1 _ g5_nw_X9_43) (hts _ ini_X11) hs_X11_isOn ⟨Nat.le_of_ble_eq_true rfl, Nat.le_of_ble_eq_true rfl⟩, hts _ st_X11_isOn, trivial⟩ (g5_preS hPc hK hDc hN hT hS hFc) rfl rfl hl.1 rfl (lv_room (Nat.le_of_ble_eq_true rfl)) dX9_lowestNext_30 ⟨Nat.le_of_ble_eq_true rfl, Nat.le_of_ble_eq_true rfl⟩) hS (fun q _ h => hFc q h) hFc (fun r u t H1 locs ht hvm hw hB hz1 hk1 hS => ?_)
      obtain ⟨hP1, hD1⟩ := hB
      rw [ht] at hP1
      rcases hw with ⟨i_10, rfl, rfl⟩ | ⟨i_11, rfl, rfl⟩
      ·
        have i_10 : onB p_x z6.toInt = false := i_10
        have hP := g5_same hP hk1
        generalize H1 = H at hP hS ⊢
        refine lv_if_eq (tgt := 39) hx hb dX9_lowestNext_33 (by decide) (fun c_12 => ?_) (fun c_12 => ?_)
        ·
          refine lv_iinc (v := (k_i + 1)) (lv' := [(3, .int (k_i + 1)), (4, .int z6), (0, .int p_c), (1, .long p_x)]) hx hb dX9_lowestNext_39 hl (k := 1) rfl rfl (by decide) rfl (fun ls hl => ?_)
          have t_13 : (k_i + 1).toInt = k_i.toInt + 1 := g5_iadd (a := k_i.toInt) (b := 1) rfl (by decide) (by omega) (by omega)
          refine lv_goto (tgt := 2) hx hb dX9_lowestNext_42 (by decide) ?_
          exact ih_2_2 (k_i + 1) ls H locs (show Int.toNat (5 - (k_i + 1).toInt) < Int.toNat (5 - k_i.toInt) from g_up (show k_i.toInt < (k_i + 1).toInt by omega) (show k_i.toInt < 5 by omega)) ⟨lv_sub hl [0, 2, 3] rfl, hP, hD, hS, ⟨by omega, by omega⟩⟩
        ·
          exact absurd c_12 (by decide)
      ·
        have i_11 : onB p_x z6.toInt = true := i_11
        have hP := g5_same hP hk1
        generalize H1 = H at hP hS ⊢
        refine lv_if_eq (tgt := 39) hx hb dX9_lowestNext_33 (by decide) (fun c_14 => ?_) (fun c_14 => ?_)
        ·
          exact absurd c_14 (by decide)
        ·
          refine lv_iload hx hb dX9_lowestNext_36 (lv_at hl 0 rfl) ?_
          exact W.iret (v := z6) hx hb hr (fun t ht hW => ⟨⟨z6, [], rfl, ⟨z6, ⟨by omega, by omega⟩, rfl, rfl⟩, by rw [ht]; exact hP.sub [] rfl, hD.sub [] (by decide) rfl⟩, hS.F ht⟩) hS.2.2 dX9_lowestNext_38
theorem dgX9_firstRowAt_0 : ∀ r ∈ ([(0, (.iload_n 3, 1)), (1, (.iconst 1, 1)), (2, (.isub, 1)), (3, (.istore 5, 2)), (5, (.iload 5, 2)), (7, (.iload_n 2, 1)), (8, (.if_icmp .lt 29, 3)), (11, (.aload_n 0, 1)), (12, (.getfield 9, 3)), (15, (.iload 5, 2)), (17, (.aload_n 0, 1)), (18, (.aload_n 0, 1)), (19, (.getfield 9, 3)), (22, (.iload 5, 2)), (24, (.iconst 1, 1)), (25, (.iadd, 1)), (26, (.laload, 1)), (27, (.invokevirtual 56, 3)), (30, (.lastore, 1)), (31, (.iinc 5 (-1), 3)), (34, (.goto (-29), 3)), (37, (.iload_n 1, 1)), (38, (.istore 5, 2)), (40, (.iload_n 2, 1)), (41, (.iconst 1, 1)), (42, (.iadd, 1)), (43, (.istore 6, 2)), (45, (.iload 6, 2)), (47, (.iload 4, 2)), (49, (.if_icmp .gt 23, 3)), (52, (.iload 5, 2)), (54, (.aload_n 0, 1)), (55, (.getfield 9, 3)), (58, (.iload 6, 2)), (60, (.laload, 1)), (61, (.invokestatic 60, 3)), (64, (.istore 5, 2)), (66, (.iinc 6 1, 3)), (69, (.goto (-24), 3)), (72, (.iload 5, 2))] : List (Nat × (Instr × Nat))), decode cX9_firstRowAt r.1 = .ok r.2 := by decide +kernel
theorem dX9_firstRowAt_0 : decode cX9_firstRowAt 0 = .ok (.iload_n 3, 1) := dgX9_firstRowAt_0 (0, (.iload_n 3, 1)) (List.mem_of_getElem? (i := 0) rfl)
theorem dX9_firstRowAt_1 : decode cX9_firstRowAt 1 = .ok (.iconst 1, 1) := dgX9_firstRowAt_0 (1, (.iconst 1, 1)) (List.mem_of_getElem? (i := 1) rfl)
theorem dX9_firstRowAt_2 : decode cX9_firstRowAt 2 = .ok (.isub, 1) := dgX9_firstRowAt_0 (2, (.isub, 1)) (List.mem_of_getElem? (i := 2) rfl)
theorem dX9_firstRowAt_3 : decode cX9_firstRowAt 3 = .ok (.istore 5, 2) := dgX9_firstRowAt_0 (3, (.istore 5, 2)) (List.mem_of_getElem? (i := 3) rfl)
theorem dX9_firstRowAt_5 : decode cX9_firstRowAt 5 = .ok (.iload 5, 2) := dgX9_firstRowAt_0 (5, (.iload 5, 2)) (List.mem_of_getElem? (i := 4) rfl)
theorem dX9_firstRowAt_7 : decode cX9_firstRowAt 7 = .ok (.iload_n 2, 1) := dgX9_firstRowAt_0 (7, (.iload_n 2, 1)) (List.mem_of_getElem? (i := 5) rfl)
theorem dX9_firstRowAt_8 : decode cX9_firstRowAt 8 = .ok (.if_icmp .lt 29, 3) := dgX9_firstRowAt_0 (8, (.if_icmp .lt 29, 3)) (List.mem_of_getElem? (i := 6) rfl)
theorem dX9_firstRowAt_11 : decode cX9_firstRowAt 11 = .ok (.aload_n 0, 1) := dgX9_firstRowAt_0 (11, (.aload_n 0, 1)) (List.mem_of_getElem? (i := 7) rfl)
theorem dX9_firstRowAt_12 : decode cX9_firstRowAt 12 = .ok (.getfield 9, 3) := dgX9_firstRowAt_0 (12, (.getfield 9, 3)) (List.mem_of_getElem? (i := 8) rfl)
theorem dX9_firstRowAt_15 : decode cX9_firstRowAt 15 = .ok (.iload 5, 2) := dgX9_firstRowAt_0 (15, (.iload 5, 2)) (List.mem_of_getElem? (i := 9) rfl)
theorem dX9_firstRowAt_17 : decode cX9_firstRowAt 17 = .ok (.aload_n 0, 1) := dgX9_firstRowAt_0 (17, (.aload_n 0, 1)) (List.mem_of_getElem? (i := 10) rfl)
theorem dX9_firstRowAt_18 : decode cX9_firstRowAt 18 = .ok (.aload_n 0, 1) := dgX9_firstRowAt_0 (18, (.aload_n 0, 1)) (List.mem_of_getElem? (i := 11) rfl)
theorem dX9_firstRowAt_19 : decode cX9_firstRowAt 19 = .ok (.getfield 9, 3) := dgX9_firstRowAt_0 (19, (.getfield 9, 3)) (List.mem_of_getElem? (i := 12) rfl)
theorem dX9_firstRowAt_22 : decode cX9_firstRowAt 22 = .ok (.iload 5, 2) := dgX9_firstRowAt_0 (22, (.iload 5, 2)) (List.mem_of_getElem? (i := 13) rfl)
theorem dX9_firstRowAt_24 : decode cX9_firstRowAt 24 = .ok (.iconst 1, 1) := dgX9_firstRowAt_0 (24, (.iconst 1, 1)) (List.mem_of_getElem? (i := 14) rfl)
theorem dX9_firstRowAt_25 : decode cX9_firstRowAt 25 = .ok (.iadd, 1) := dgX9_firstRowAt_0 (25, (.iadd, 1)) (List.mem_of_getElem? (i := 15) rfl)
theorem dX9_firstRowAt_26 : decode cX9_firstRowAt 26 = .ok (.laload, 1) := dgX9_firstRowAt_0 (26, (.laload, 1)) (List.mem_of_getElem? (i := 16) rfl)
theorem dX9_firstRowAt_27 : decode cX9_firstRowAt 27 = .ok (.invokevirtual 56, 3) := dgX9_firstRowAt_0 (27, (.invokevirtual 56, 3)) (List.mem_of_getElem? (i := 17) rfl)
theorem dX9_firstRowAt_30 : decode cX9_firstRowAt 30 = .ok (.lastore, 1) := dgX9_firstRowAt_0 (30, (.lastore, 1)) (List.mem_of_getElem? (i := 18) rfl)
theorem dX9_firstRowAt_31 : decode cX9_firstRowAt 31 = .ok (.iinc 5 (-1), 3) := dgX9_firstRowAt_0 (31, (.iinc 5 (-1), 3)) (List.mem_of_getElem? (i := 19) rfl)
theorem dX9_firstRowAt_34 : decode cX9_firstRowAt 34 = .ok (.goto (-29), 3) := dgX9_firstRowAt_0 (34, (.goto (-29), 3)) (List.mem_of_getElem? (i := 20) rfl)
theorem dX9_firstRowAt_37 : decode cX9_firstRowAt 37 = .ok (.iload_n 1, 1) := dgX9_firstRowAt_0 (37, (.iload_n 1, 1)) (List.mem_of_getElem? (i := 21) rfl)
theorem dX9_firstRowAt_38 : decode cX9_firstRowAt 38 = .ok (.istore 5, 2) := dgX9_firstRowAt_0 (38, (.istore 5, 2)) (List.mem_of_getElem? (i := 22) rfl)
theorem dX9_firstRowAt_40 : decode cX9_firstRowAt 40 = .ok (.iload_n 2, 1) := dgX9_firstRowAt_0 (40, (.iload_n 2, 1)) (List.mem_of_getElem? (i := 23) rfl)
theorem dX9_firstRowAt_41 : decode cX9_firstRowAt 41 = .ok (.iconst 1, 1) := dgX9_firstRowAt_0 (41, (.iconst 1, 1)) (List.mem_of_getElem? (i := 24) rfl)
theorem dX9_firstRowAt_42 : decode cX9_firstRowAt 42 = .ok (.iadd, 1) := dgX9_firstRowAt_0 (42, (.iadd, 1)) (List.mem_of_getElem? (i := 25) rfl)
theorem dX9_firstRowAt_43 : decode cX9_firstRowAt 43 = .ok (.istore 6, 2) := dgX9_firstRowAt_0 (43, (.istore 6, 2)) (List.mem_of_getElem? (i := 26) rfl)
theorem dX9_firstRowAt_45 : decode cX9_firstRowAt 45 = .ok (.iload 6, 2) := dgX9_firstRowAt_0 (45, (.iload 6, 2)) (List.mem_of_getElem? (i := 27) rfl)
theorem dX9_firstRowAt_47 : decode cX9_firstRowAt 47 = .ok (.iload 4, 2) := dgX9_firstRowAt_0 (47, (.iload 4, 2)) (List.mem_of_getElem? (i := 28) rfl)
theorem dX9_firstRowAt_49 : decode cX9_firstRowAt 49 = .ok (.if_icmp .gt 23, 3) := dgX9_firstRowAt_0 (49, (.if_icmp .gt 23, 3)) (List.mem_of_getElem? (i := 29) rfl)
theorem dX9_firstRowAt_52 : decode cX9_firstRowAt 52 = .ok (.iload 5, 2) := dgX9_firstRowAt_0 (52, (.iload 5, 2)) (List.mem_of_getElem? (i := 30) rfl)
theorem dX9_firstRowAt_54 : decode cX9_firstRowAt 54 = .ok (.aload_n 0, 1) := dgX9_firstRowAt_0 (54, (.aload_n 0, 1)) (List.mem_of_getElem? (i := 31) rfl)
theorem dX9_firstRowAt_55 : decode cX9_firstRowAt 55 = .ok (.getfield 9, 3) := dgX9_firstRowAt_0 (55, (.getfield 9, 3)) (List.mem_of_getElem? (i := 32) rfl)
theorem dX9_firstRowAt_58 : decode cX9_firstRowAt 58 = .ok (.iload 6, 2) := dgX9_firstRowAt_0 (58, (.iload 6, 2)) (List.mem_of_getElem? (i := 33) rfl)
theorem dX9_firstRowAt_60 : decode cX9_firstRowAt 60 = .ok (.laload, 1) := dgX9_firstRowAt_0 (60, (.laload, 1)) (List.mem_of_getElem? (i := 34) rfl)
theorem dX9_firstRowAt_61 : decode cX9_firstRowAt 61 = .ok (.invokestatic 60, 3) := dgX9_firstRowAt_0 (61, (.invokestatic 60, 3)) (List.mem_of_getElem? (i := 35) rfl)
theorem dX9_firstRowAt_64 : decode cX9_firstRowAt 64 = .ok (.istore 5, 2) := dgX9_firstRowAt_0 (64, (.istore 5, 2)) (List.mem_of_getElem? (i := 36) rfl)
theorem dX9_firstRowAt_66 : decode cX9_firstRowAt 66 = .ok (.iinc 6 1, 3) := dgX9_firstRowAt_0 (66, (.iinc 6 1, 3)) (List.mem_of_getElem? (i := 37) rfl)
theorem dX9_firstRowAt_69 : decode cX9_firstRowAt 69 = .ok (.goto (-24), 3) := dgX9_firstRowAt_0 (69, (.goto (-24), 3)) (List.mem_of_getElem? (i := 38) rfl)
theorem dX9_firstRowAt_72 : decode cX9_firstRowAt 72 = .ok (.iload 5, 2) := dgX9_firstRowAt_0 (72, (.iload 5, 2)) (List.mem_of_getElem? (i := 39) rfl)
theorem dgX9_firstRowAt_1 : ∀ r ∈ ([(74, (.ireturn, 1))] : List (Nat × (Instr × Nat))), decode cX9_firstRowAt r.1 = .ok r.2 := by decide +kernel
theorem dX9_firstRowAt_74 : decode cX9_firstRowAt 74 = .ok (.ireturn, 1) := dgX9_firstRowAt_1 (74, (.ireturn, 1)) (List.mem_of_getElem? (i := 0) rfl)
theorem ml_X9_60 : Cond.methodLink RX9 60 yX9_lowestNext ∈ tblG := tg 1130 (by decide +kernel) (by decide +kernel)
theorem st_X9_lowestNext : Cond.static yX9_lowestNext ∈ tblG := tg 1131 (by decide +kernel) (by decide +kernel)
theorem cd_X9_lowestNext : Cond.code yX9_lowestNext cX9_lowestNext 5 (some .int) ∈ tblG := tg 1132 (by decide +kernel) (by decide +kernel)
theorem gW_X9_lowestNext : GoodIn tblG (wsG yX9_lowestNext cX9_lowestNext 5 (some .int)) := tgi cd_X9_lowestNext
theorem gS_X9_60 : GoodIn tblG (va_wsS RX9 60 yX9_lowestNext (wsG yX9_lowestNext cX9_lowestNext 5 (some .int))) := tgS ml_X9_60 st_X9_lowestNext ini_X9 gW_X9_lowestNext
theorem hs_X9_lowestNext : yX9_lowestNext.cls ≠ "java/lang/invoke/MethodHandle" ∧ yX9_lowestNext.cls ≠ "java/lang/invoke/VarHandle" ∧ (parseMethodDescriptor yX9_lowestNext.desc).map (fun d => d.parameters.length) = some 2 := by decide +kernel
set_option maxHeartbeats 4000000 in
set_option maxRecDepth 100000 in
theorem a_row (l : Launch) (G : g5_G) (a_h a_wk a_go a_l a_g a_b a_s a_p a_w a_bb a_k a_mt : Nat) (sz : Nat) (e_le : Int32) (e_st : Int32) (e_fo : Int32) (e_lc : Int32) (p_c : Int32) (p_f : Int32) (p_l : Int32) (p_h : Int32) (e_wa : Int64) (e_gb : Int64) (f_go : Nat → Int64) (h_p_c : 0 ≤ p_c.toInt ∧ p_c.toInt ≤ 63) (h_p_f : 0 ≤ p_f.toInt ∧ p_f.toInt ≤ 23) (h_p_l : 0 ≤ p_l.toInt ∧ p_l.toInt ≤ 23) (h_p_h : 0 ≤ p_h.toInt ∧ p_h.toInt ≤ 23) : Met l yX9_firstRowAt (wsG yX9_firstRowAt cX9_firstRowAt 7 (some .int)) ({ frames := 2, cells := 0, slots := 0, locals := 46 }) (va_Pc [.ref a_wk, .int p_c, .int p_f, .int p_l, .int p_h] (g5_P G [(a_h, (oc1 e_wa e_le e_st e_fo e_lc a_l a_g a_b a_s a_p a_w e_gb a_bb)), (a_wk, (oc9 a_h a_k a_go a_mt)), (a_go, (arJ G 24 f_go))] sz)) (va_Qi (fun (r : Int32) (u : va_W) => (∃ (o_r : Int32) (o_f : Nat → Int64), (0 ≤ o_r.toInt ∧ o_r.toInt ≤ 63) ∧ (r = o_r) ∧ (u = [(a_h, (oc1 e_wa e_le e_st e_fo e_lc a_l a_g a_b a_s a_p a_w e_gb a_bb)), (a_wk, (oc9 a_h a_k a_go a_mt)), (a_go, (arJ G 24 o_f))]))) (g5_B G (va_A [(a_h, (oc1 e_wa e_le e_st e_fo e_lc a_l a_g a_b a_s a_p a_w e_gb a_bb)), (a_wk, (oc9 a_h a_k a_go a_mt)), (a_go, (arJ G 24 f_go))] sz)) (va_A [(a_h, (oc1 e_wa e_le e_st e_fo e_lc a_l a_g a_b a_s a_p a_w e_gb a_bb)), (a_wk, (oc9 a_h a_k a_go a_mt)), (a_go, (arJ G 24 f_go))] sz)) 0 0 (va_A [(a_h, (oc1 e_wa e_le e_st e_fo e_lc a_l a_g a_b a_s a_p a_w e_gb a_bb)), (a_wk, (oc9 a_h a_k a_go a_mt)), (a_go, (arJ G 24 f_go))] sz) := by
  refine Met.ofW (cc := cX9_firstRowAt) (maxL := 7) (ret := (some .int)) (by decide) rfl ?_
  intro p e s m args below meth c s₁ B hml hv
  obtain ⟨rfl, hsz, hP, hK, hD0, hN, hT⟩ := hv
  have hx := B.exec
  have hb := B.bytes
  have hr := B.returns
  have hts : ∀ w ∈ tblG, w.before _ s = true := fun w h => atoms_spec (ws := (wsG yX9_firstRowAt cX9_firstRowAt 7 (some .int))) B.pre w (List.mem_cons_of_mem _ h)
  have hown : s.vm.findClass RX9 = some m.cls := findClass_of_methodNamed B.named
  have hlocks := B.notSynchronized
  subst hsz
  have hD := hD0.self (sz := s.heap.size)
  generalize hAe : va_A [(a_h, (oc1 e_wa e_le e_st e_fo e_lc a_l a_g a_b a_s a_p a_w e_gb a_bb)), (a_wk, (oc9 a_h a_k a_go a_mt)), (a_go, (arJ G 24 f_go))] s.heap.size = A at hD hT ⊢
  have hA : ∀ q : Nat, s.heap.size ≤ q → A q := fun q h => by rw [← hAe]; exact Or.inr h
  have hS : va_S A s.heap s.heap [] := va_S.rf
  have hP : va_P G.1 vwCl [(a_h, (oc1 e_wa e_le e_st e_fo e_lc a_l a_g a_b a_s a_p a_w e_gb a_bb)), (a_wk, (oc9 a_h a_k a_go a_mt)), (a_go, (arJ G 24 f_go))] s.heap := hP
  have hl := lv_entry ([.ref a_wk, .int p_c, .int p_f, .int p_l, .int p_h]) (n := 7) (Nat.le_of_ble_eq_true rfl)
  rw [lg_entry_eq]
  generalize (lg_sl ([.ref a_wk, .int p_c, .int p_f, .int p_l, .int p_h]) ++ List.replicate (7 - (lg_sl ([.ref a_wk, .int p_c, .int p_f, .int p_l, .int p_h])).length) Slot.unset).toArray = ls at hl ⊢
  have hl : lv_has ls 7 [(0, .ref a_wk), (1, .int p_c), (2, .int p_f), (3, .int p_l), (4, .int p_h)] := hl
  refine lv_iload_n hx hb dX9_firstRowAt_0 rfl (lv_at hl 3 rfl) ?_
  refine lv_iconst (v := 1) hx hb dX9_firstRowAt_1 (by decide) ?_
  refine lv_isub hx hb dX9_firstRowAt_2 ?_
  have t_1 : (p_l - 1).toInt = p_l.toInt - 1 := g5_isub (a := p_l.toInt) (b := 1) (by rfl) (by decide) (by omega) (by omega)
  refine lv_istore (lv' := [(5, .int (p_l - 1)), (0, .ref a_wk), (1, .int p_c), (2, .int p_f), (3, .int p_l), (4, .int p_h)]) hx hb dX9_firstRowAt_3 hl (by decide) rfl (fun ls hl => ?_)
  refine g5_loop (α := (Int32) × (Nat → Int64)) (fun (q : (Int32) × (Nat → Int64)) (ls : Array Slot) (H : Heap) (locs : List Loc) => match q with | (k_e, k_f) => lv_has ls 7 [(5, .int k_e), (0, .ref a_wk), (1, .int p_c), (2, .int p_f), (3, .int p_l), (4, .int p_h)] ∧ va_P G.1 vwCl [(a_h, (oc1 e_wa e_le e_st e_fo e_lc a_l a_g a_b a_s a_p a_w e_gb a_bb)), (a_wk, (oc9 a_h a_k a_go a_mt)), (a_go, (arJ G 24 k_f))] H ∧ va_D A [(a_h, (oc1 e_wa e_le e_st e_fo e_lc a_l a_g a_b a_s a_p a_w e_gb a_bb)), (a_wk, (oc9 a_h a_k a_go a_mt)), (a_go, (arJ G 24 k_f))] ∧ va_S A s.heap H locs ∧ ((-1) ≤ k_e.toInt ∧ k_e.toInt ≤ 22)) (fun (q : (Int32) × (Nat → Int64)) => match q with | (k_e, k_f) => Int.toNat (k_e.toInt + 1)) ((p_l - 1), f_go) ⟨lv_sub hl [0, 1, 2, 3, 4, 5] rfl, hP, hD, hS, ⟨by omega, by omega⟩⟩ ?_
  rintro ⟨k_e, k_f⟩ ls H locs ⟨hl, hP, hD, hS, i_2⟩ ih_5_3
  have hl : lv_has ls 7 [(5, .int k_e), (0, .ref a_wk), (1, .int p_c), (2, .int p_f), (3, .int p_l), (4, .int p_h)] := hl
  have i_2 : (-1) ≤ k_e.toInt ∧ k_e.toInt ≤ 22 := i_2
  refine g5_rs [(a_h, (oc1 e_wa e_le e_st e_fo e_lc a_l a_g a_b a_s a_p a_w e_gb a_bb)), (a_wk, (oc9 a_h a_k a_go a_mt)), (a_go, (arJ G 24 k_f))] hP hD (fun hP hD => ?_)
  refine lv_iload hx hb dX9_firstRowAt_5 (lv_at hl 0 rfl) ?_
  refine lv_iload_n hx hb dX9_firstRowAt_7 rfl (lv_at hl 3 rfl) ?_
  refine lv_icmp_lt (tgt := 37) hx hb dX9_firstRowAt_8 (by decide) (fun c_4 => ?_) (fun c_4 => ?_)
  ·
    have i_4 : k_e.toInt < p_f.toInt := by have z := g5_lt (a := k_e.toInt) (b := p_f.toInt) (by rfl) (by rfl) c_4; omega
    refine lv_iload_n hx hb dX9_firstRowAt_37 rfl (lv_at hl 2 rfl) ?_
    refine lv_istore (lv' := [(5, .int p_c), (0, .ref a_wk), (1, .int p_c), (2, .int p_f), (3, .int p_l), (4, .int p_h)]) hx hb dX9_firstRowAt_38 hl (by decide) rfl (fun ls hl => ?_)
    refine lv_iload_n hx hb dX9_firstRowAt_40 rfl (lv_at hl 3 rfl) ?_
    refine lv_iconst (v := 1) hx hb dX9_firstRowAt_41 (by decide) ?_
    refine lv_iadd hx hb dX9_firstRowAt_42 ?_
    have t_5 : (p_f + 1).toInt = p_f.toInt + 1 := g5_iadd (a := p_f.toInt) (b := 1) (by rfl) (by decide) (by omega) (by omega)
    refine lv_istore (lv' := [(6, .int (p_f + 1)), (5, .int p_c), (0, .ref a_wk), (1, .int p_c), (2, .int p_f), (3, .int p_l), (4, .int p_h)]) hx hb dX9_firstRowAt_43 hl (by decide) rfl (fun ls hl => ?_)
    refine g5_loop (α := (Int32) × (Int32)) (fun (q : (Int32) × (Int32)) (ls : Array Slot) (H : Heap) (locs : List Loc) => match q with | (m_a, m_h) => lv_has ls 7 [(5, .int m_a), (6, .int m_h), (0, .ref a_wk), (1, .int p_c), (2, .int p_f), (3, .int p_l), (4, .int p_h)] ∧ va_P G.1 vwCl [(a_h, (oc1 e_wa e_le e_st e_fo e_lc a_l a_g a_b a_s a_p a_w e_gb a_bb)), (a_wk, (oc9 a_h a_k a_go a_mt)), (a_go, (arJ G 24 k_f))] H ∧ va_D A [(a_h, (oc1 e_wa e_le e_st e_fo e_lc a_l a_g a_b a_s a_p a_w e_gb a_bb)), (a_wk, (oc9 a_h a_k a_go a_mt)), (a_go, (arJ G 24 k_f))] ∧ va_S A s.heap H locs ∧ (0 ≤ m_a.toInt ∧ m_a.toInt ≤ 63) ∧ (1 ≤ m_h.toInt ∧ m_h.toInt ≤ 24)) (fun (q : (Int32) × (Int32)) => match q with | (m_a, m_h) => Int.toNat (24 - m_h.toInt)) (p_c, (p_f + 1)) ⟨lv_sub hl [1, 0, 2, 3, 4, 5, 6] rfl, hP, hD, hS, h_p_c, ⟨by omega, by omega⟩⟩ ?_
    rintro ⟨m_a, m_h⟩ ls H locs ⟨hl, hP, hD, hS, i_6, i_7⟩ ih_45_8
    have hl : lv_has ls 7 [(5, .int m_a), (6, .int m_h), (0, .ref a_wk), (1, .int p_c), (2, .int p_f), (3, .int p_l), (4, .int p_h)] := hl
    have i_6 : 0 ≤ m_a.toInt ∧ m_a.toInt ≤ 63 := i_6
    have i_7 : 1 ≤ m_h.toInt ∧ m_h.toInt ≤ 24 := i_7
    refine g5_rs [(a_h, (oc1 e_wa e_le e_st e_fo e_lc a_l a_g a_b a_s a_p a_w e_gb a_bb)), (a_wk, (oc9 a_h a_k a_go a_mt)), (a_go, (arJ G 24 k_f))] hP hD (fun hP hD => ?_)
    refine lv_iload hx hb dX9_firstRowAt_45 (lv_at hl 1 rfl) ?_
    refine lv_iload hx hb dX9_firstRowAt_47 (lv_at hl 6 rfl) ?_
    refine lv_icmp_gt (tgt := 72) hx hb dX9_firstRowAt_49 (by decide) (fun c_9 => ?_) (fun c_9 => ?_)
    ·
      have i_9 : m_h.toInt > p_h.toInt := by have z := g5_gt (a := m_h.toInt) (b := p_h.toInt) (by rfl) (by rfl) c_9; omega
      refine lv_iload hx hb dX9_firstRowAt_72 (lv_at hl 0 rfl) ?_
      exact W.iret (v := m_a) hx hb hr (fun t ht hW => ⟨⟨m_a, [(a_h, (oc1 e_wa e_le e_st e_fo e_lc a_l a_g a_b a_s a_p a_w e_gb a_bb)), (a_wk, (oc9 a_h a_k a_go a_mt)), (a_go, (arJ G 24 k_f))], rfl, ⟨m_a, k_f, i_6, rfl, rfl⟩, by rw [ht]; exact hP.sub [0, 1, 2] rfl, hD.sub [0, 1, 2] (by decide) rfl⟩, hS.F ht⟩) hS.2.2 dX9_firstRowAt_74
    ·
      have i_9 : m_h.toInt ≤ p_h.toInt := by have z := g5_gtN (a := m_h.toInt) (b := p_h.toInt) (by rfl) (by rfl) c_9; omega
      refine lv_iload hx hb dX9_firstRowAt_52 (lv_at hl 0 rfl) ?_
      refine lv_aload_n hx hb dX9_firstRowAt_54 rfl (lv_at hl 2 rfl) ?_
      refine va_get (D := G.1) (ci := 9) (v := .ref a_go) (C := RX9) (T := TX9) (N := 4) hx hb hts inG_X9 hown hK hP 1 rfl rfl 2 (by decide) (hts _ fl_X9_9) (fun _ h9 => h9) rfl dX9_firstRowAt_55 ?_
      refine lv_iload hx hb dX9_firstRowAt_58 (lv_at hl 1 rfl) ?_
      refine va_lald hx hb hK hP 2 1 rfl rfl (i := m_h) (vp_in_iff.mpr ⟨by omega, by omega⟩) dX9_firstRowAt_60 ?_
      obtain ⟨hPc, hDc, hFc⟩ := g5_sub3 (wc := []) hP hD hS hA [] (by decide) rfl
      refine va_calli (va_runS (As := [.int m_a, .long (k_f m_h.toNatClampNeg)]) (rest := []) ⟨hx, hb, hml, hown, hts⟩ (a_next l G H.size m_a (k_f m_h.toNatClampNeg) i_6) (va_cwS 2 hts gS_X9_60 rfl rfl rfl hs_X9_lowestNext ⟨Nat.le_of_ble_eq_true rfl, Nat.le_of_ble_eq_true rfl⟩) (g5_preS hPc hK hDc hN hT hS hFc) rfl rfl hl.1 rfl (lv_room (Nat.le_of_ble_eq_true rfl)) dX9_firstRowAt_61 ⟨Nat.le_of_ble_eq_true rfl, Nat.le_of_ble_eq_true rfl⟩) hS (fun q _ h => hFc q h) hFc (fun r u t H1 locs ht hvm hw hB hz1 hk1 hS => ?_)
      obtain ⟨hP1, hD1⟩ := hB
      rw [ht] at hP1
      obtain ⟨z11, i_10, y12, rfl⟩ := hw
      have i_10 : 0 ≤ z11.toInt ∧ z11.toInt ≤ 63 := i_10
      have hP := g5_same hP hk1
      generalize H1 = H at hP hS ⊢
      refine g5_ti (v := z11) y12 ?_
      refine lv_istore (lv' := [(5, .int z11), (6, .int m_h), (0, .ref a_wk), (1, .int p_c), (2, .int p_f), (3, .int p_l), (4, .int p_h)]) hx hb dX9_firstRowAt_64 hl (by decide) rfl (fun ls hl => ?_)
      refine lv_iinc (v := (m_h + 1)) (lv' := [(6, .int (m_h + 1)), (5, .int z11), (0, .ref a_wk), (1, .int p_c), (2, .int p_f), (3, .int p_l), (4, .int p_h)]) hx hb dX9_firstRowAt_66 hl (k := 1) rfl rfl (by decide) rfl (fun ls hl => ?_)
      have t_13 : (m_h + 1).toInt = m_h.toInt + 1 := g5_iadd (a := m_h.toInt) (b := 1) rfl (by decide) (by omega) (by omega)
      refine lv_goto (tgt := 45) hx hb dX9_firstRowAt_69 (by decide) ?_
      exact ih_45_8 (z11, (m_h + 1)) ls H locs (show Int.toNat (24 - (m_h + 1).toInt) < Int.toNat (24 - m_h.toInt) from g_up (show m_h.toInt < (m_h + 1).toInt by omega) (show m_h.toInt < 24 by omega)) ⟨lv_sub hl [1, 0, 2, 3, 4, 5, 6] rfl, hP, hD, hS, i_10, ⟨by omega, by omega⟩⟩
  ·
    have i_4 : k_e.toInt ≥ p_f.toInt := by have z := g5_ltN (a := k_e.toInt) (b := p_f.toInt) (by rfl) (by rfl) c_4; omega
    refine lv_aload_n hx hb dX9_firstRowAt_11 rfl (lv_at hl 1 rfl) ?_
    refine va_get (D := G.1) (ci := 9) (v := .ref a_go) (C := RX9) (T := TX9) (N := 4) hx hb hts inG_X9 hown hK hP 1 rfl rfl 2 (by decide) (hts _ fl_X9_9) (fun _ h9 => h9) rfl dX9_firstRowAt_12 ?_
    refine lv_iload hx hb dX9_firstRowAt_15 (lv_at hl 0 rfl) ?_
    refine lv_aload_n hx hb dX9_firstRowAt_17 rfl (lv_at hl 1 rfl) ?_
    refine lv_aload_n hx hb dX9_firstRowAt_18 rfl (lv_at hl 1 rfl) ?_
    refine va_get (D := G.1) (ci := 9) (v := .ref a_go) (C := RX9) (T := TX9) (N := 4) hx hb hts inG_X9 hown hK hP 1 rfl rfl 2 (by decide) (hts _ fl_X9_9) (fun _ h9 => h9) rfl dX9_firstRowAt_19 ?_
    refine lv_iload hx hb dX9_firstRowAt_22 (lv_at hl 0 rfl) ?_
    refine lv_iconst (v := 1) hx hb dX9_firstRowAt_24 (by decide) ?_
    refine lv_iadd hx hb dX9_firstRowAt_25 ?_
    have t_14 : (k_e + 1).toInt = k_e.toInt + 1 := g5_iadd (a := k_e.toInt) (b := 1) (by rfl) (by decide) (by omega) (by omega)
    refine va_lald hx hb hK hP 2 1 rfl rfl (i := (k_e + 1)) (vp_in_iff.mpr ⟨by omega, by omega⟩) dX9_firstRowAt_26 ?_
    obtain ⟨hPc, hDc, hFc⟩ := g5_sub3 (wc := [(a_h, (oc1 e_wa e_le e_st e_fo e_lc a_l a_g a_b a_s a_p a_w e_gb a_bb)), (a_wk, (oc9 a_h a_k a_go a_mt))]) hP hD hS hA [0, 1] (by decide) rfl
    refine va_calll (va_runV (As := [.long (k_f (k_e + 1).toNatClampNeg)]) (rest := [.int k_e, .ref a_go]) ⟨hx, hb, hml, hown, hts⟩ (a_spread l G a_h a_wk a_l a_g a_b a_s a_p a_w a_bb a_k a_go a_mt H.size e_le e_st e_fo e_lc e_wa e_gb (k_f (k_e + 1).toNatClampNeg)) (cwV 1 hts gV_X9_56 rfl rfl rfl hv_X9_spread ⟨Nat.le_of_ble_eq_true rfl, Nat.le_of_ble_eq_true rfl⟩) (g5_preV hPc hK hDc hN hT hS hFc (ci := 9) (q0 := 1) rfl rfl) rfl rfl hl.1 rfl (lv_room (Nat.le_of_ble_eq_true rfl)) dX9_firstRowAt_27 ⟨Nat.le_of_ble_eq_true rfl, Nat.le_of_ble_eq_true rfl⟩) hS (fun q _ h => hFc q h) hFc (fun r u t H1 locs ht hvm hw hB hz1 hk1 hS => ?_)
    obtain ⟨hP1, hD1⟩ := hB
    rw [ht] at hP1
    obtain ⟨z15, y16, rfl⟩ := hw
    obtain ⟨hP, hD⟩ := va_join (wr := [(a_go, (arJ G 24 k_f))]) hP hD [0, 1] [2] rfl rfl (by decide) (by decide) hk1 hFc hP1 hD1
    generalize H1 = H at hP hS ⊢
    refine g5_rs [(a_go, (arJ G 24 k_f)), (a_h, (oc1 e_wa e_le e_st e_fo e_lc a_l a_g a_b a_s a_p a_w e_gb a_bb)), (a_wk, (oc9 a_h a_k a_go a_mt))] hP hD (fun hP hD => ?_)
    refine g5_tl (v := z15) y16 ?_
    refine va_last hx hb hK hP hD hS 0 1 rfl rfl (i := k_e) (x := z15) (vp_in_iff.mpr ⟨by omega, by omega⟩) dX9_firstRowAt_30 (fun H locs hP hD hS => ?_)
    refine g5_rs [(a_go, (arJ G 24 (vp_updL k_f k_e.toNatClampNeg z15))), (a_h, (oc1 e_wa e_le e_st e_fo e_lc a_l a_g a_b a_s a_p a_w e_gb a_bb)), (a_wk, (oc9 a_h a_k a_go a_mt))] hP hD (fun hP hD => ?_)
    obtain ⟨y17, hy_17, t_17⟩ := g_incN k_e (-1) (by decide) (by omega) (by omega)
    have t_17 : y17.toInt = k_e.toInt + (-1) := t_17
    refine lv_iinc (v := y17) (lv' := [(5, .int y17), (0, .ref a_wk), (1, .int p_c), (2, .int p_f), (3, .int p_l), (4, .int p_h)]) hx hb dX9_firstRowAt_31 hl (k := 0) rfl hy_17 (by decide) rfl (fun ls hl => ?_)
    refine lv_goto (tgt := 5) hx hb dX9_firstRowAt_34 (by decide) ?_
    exact ih_5_3 (y17, (vp_updL k_f k_e.toNatClampNeg z15)) ls H locs (show Int.toNat (y17.toInt + 1) < Int.toNat (k_e.toInt + 1) from g_dn (show y17.toInt < k_e.toInt by omega) (show 0 ≤ k_e.toInt by omega)) ⟨lv_sub hl [0, 1, 2, 3, 4, 5] rfl, hP.sub [1, 2, 0] rfl, hD.sub [1, 2, 0] (by decide) rfl, hS, ⟨by omega, by omega⟩⟩
