set_option maxHeartbeats 4000000 in
set_option maxRecDepth 100000 in
theorem j_isHeld (l : Launch) (G : g5_G) (a_j a_as a_sk a_lo a_sr a_cd a_hd : Nat) (sz : Nat) (p_h : Int32) (e_cl : Int32) (f_as : Nat → Int32) (f_sk : Nat → Int64) (f_sr : Nat → Int32) (f_cd : Nat → Int32) (f_hd : Nat → Int32) (n_sr : Nat) (n_cd : Nat) (n_hd : Nat) (h_e_cl : 0 ≤ e_cl.toInt ∧ e_cl.toInt ≤ 12) (e_hn : n_cd ≤ 400) (e_hs : ∀ j : Nat, j < n_sr → 0 ≤ (f_sr j).toInt ∧ (f_sr j).toInt ≤ (n_cd : Int)) (e_hk : ∀ j : Nat, j < n_cd → (f_cd j >>> (12 &&& 31)).toInt = 1 → (f_cd j &&& 4095).toInt < 8) (e_c : (e_cl.toInt : Int) ≤ (n_hd : Int) ∧ (e_cl.toInt + 1 : Int) ≤ (n_sr : Int)) : Met l yX2_isHeld (wsG yX2_isHeld cX2_isHeld 4 (some .boolean)) ({ frames := 2, cells := 0, slots := 0, locals := 55 }) (va_Pc [.ref a_j, .ref a_lo, .int p_h] (g5_P G [(a_j, (oc2 a_as a_sk)), (a_as, (arI G 8 f_as)), (a_sk, (arJ G 50 f_sk)), (a_lo, (oc3 e_cl a_hd a_sr a_cd)), (a_sr, (arI G n_sr f_sr)), (a_cd, (arI G n_cd f_cd)), (a_hd, (arI G n_hd f_hd))] sz)) (va_Qi (fun (r : Int32) (u : va_W) => (∃ (o_r : Int32) (o_k : Nat → Int64), (0 ≤ o_r.toInt ∧ o_r.toInt ≤ 1) ∧ (r = o_r) ∧ (u = [(a_j, (oc2 a_as a_sk)), (a_as, (arI G 8 f_as)), (a_sk, (arJ G 50 o_k)), (a_lo, (oc3 e_cl a_hd a_sr a_cd)), (a_sr, (arI G n_sr f_sr)), (a_cd, (arI G n_cd f_cd)), (a_hd, (arI G n_hd f_hd))]))) (g5_B G (va_A [(a_j, (oc2 a_as a_sk)), (a_as, (arI G 8 f_as)), (a_sk, (arJ G 50 f_sk)), (a_lo, (oc3 e_cl a_hd a_sr a_cd)), (a_sr, (arI G n_sr f_sr)), (a_cd, (arI G n_cd f_cd)), (a_hd, (arI G n_hd f_hd))] sz)) (va_A [(a_j, (oc2 a_as a_sk)), (a_as, (arI G 8 f_as)), (a_sk, (arJ G 50 f_sk)), (a_lo, (oc3 e_cl a_hd a_sr a_cd)), (a_sr, (arI G n_sr f_sr)), (a_cd, (arI G n_cd f_cd)), (a_hd, (arI G n_hd f_hd))] sz)) 0 0 (va_A [(a_j, (oc2 a_as a_sk)), (a_as, (arI G 8 f_as)), (a_sk, (arJ G 50 f_sk)), (a_lo, (oc3 e_cl a_hd a_sr a_cd)), (a_sr, (arI G n_sr f_sr)), (a_cd, (arI G n_cd f_cd)), (a_hd, (arI G n_hd f_hd))] sz) := by
  refine Met.ofW (cc := cX2_isHeld) (maxL := 4) (ret := (some .boolean)) (by decide) rfl ?_
  intro p e s m args below meth c s₁ B hml hv
  obtain ⟨rfl, hsz, hP, hK, hD0, hN, hT⟩ := hv
  have hx := B.exec
  have hb := B.bytes
  have hr := B.returns
  have hts : ∀ w ∈ tblG, w.before _ s = true := fun w h => atoms_spec (ws := (wsG yX2_isHeld cX2_isHeld 4 (some .boolean))) B.pre w (List.mem_cons_of_mem _ h)
  have hown : s.vm.findClass RX2 = some m.cls := findClass_of_methodNamed B.named
  have hlocks := B.notSynchronized
  subst hsz
  have hD := hD0.self (sz := s.heap.size)
  generalize hAe : va_A [(a_j, (oc2 a_as a_sk)), (a_as, (arI G 8 f_as)), (a_sk, (arJ G 50 f_sk)), (a_lo, (oc3 e_cl a_hd a_sr a_cd)), (a_sr, (arI G n_sr f_sr)), (a_cd, (arI G n_cd f_cd)), (a_hd, (arI G n_hd f_hd))] s.heap.size = A at hD hT ⊢
  have hA : ∀ q : Nat, s.heap.size ≤ q → A q := fun q h => by rw [← hAe]; exact Or.inr h
  have hS : va_S A s.heap s.heap [] := va_S.rf
  have hP : va_P G.1 vwCl [(a_j, (oc2 a_as a_sk)), (a_as, (arI G 8 f_as)), (a_sk, (arJ G 50 f_sk)), (a_lo, (oc3 e_cl a_hd a_sr a_cd)), (a_sr, (arI G n_sr f_sr)), (a_cd, (arI G n_cd f_cd)), (a_hd, (arI G n_hd f_hd))] s.heap := hP
  have hl := lv_entry ([.ref a_j, .ref a_lo, .int p_h]) (n := 4) (Nat.le_of_ble_eq_true rfl)
  rw [lg_entry_eq]
  generalize (lg_sl ([.ref a_j, .ref a_lo, .int p_h]) ++ List.replicate (4 - (lg_sl ([.ref a_j, .ref a_lo, .int p_h])).length) Slot.unset).toArray = ls at hl ⊢
  have hl : lv_has ls 4 [(0, .ref a_j), (1, .ref a_lo), (2, .int p_h)] := hl
  refine lv_aload_n hx hb dX2_isHeld_0 rfl (lv_at hl 1 rfl) ?_
  refine lv_ifnonnull (tgt := 6) hx hb dX2_isHeld_1 (by decide) ?_
  refine lv_aload_n hx hb dX2_isHeld_6 rfl (lv_at hl 1 rfl) ?_
  refine va_get (D := G.1) (ci := 3) (v := .int e_cl) (C := RX3) (T := TX3) (N := 4) hx hb hts inG_X3 hown hK hP 3 rfl rfl 0 (by decide) (hts _ fl_X2_19) (fun _ h9 => h9) rfl dX2_isHeld_7 ?_
  refine lv_iconst (v := 1) hx hb dX2_isHeld_10 (by decide) ?_
  refine lv_isub hx hb dX2_isHeld_11 ?_
  have t_1 : (e_cl - 1).toInt = e_cl.toInt - 1 := g5_isub (a := e_cl.toInt) (b := 1) (by rfl) (by decide) (by omega) (by omega)
  refine lv_istore_n (lv' := [(3, .int (e_cl - 1)), (0, .ref a_j), (1, .ref a_lo), (2, .int p_h)]) hx hb dX2_isHeld_12 rfl hl (by decide) rfl (fun ls hl => ?_)
  refine g5_loop (α := (Int32) × (Nat → Int64)) (fun (q : (Int32) × (Nat → Int64)) (ls : Array Slot) (H : Heap) (locs : List Loc) => match q with | (k_c, k_k) => lv_has ls 4 [(3, .int k_c), (0, .ref a_j), (1, .ref a_lo), (2, .int p_h)] ∧ va_P G.1 vwCl [(a_j, (oc2 a_as a_sk)), (a_as, (arI G 8 f_as)), (a_sk, (arJ G 50 k_k)), (a_lo, (oc3 e_cl a_hd a_sr a_cd)), (a_sr, (arI G n_sr f_sr)), (a_cd, (arI G n_cd f_cd)), (a_hd, (arI G n_hd f_hd))] H ∧ va_D A [(a_j, (oc2 a_as a_sk)), (a_as, (arI G 8 f_as)), (a_sk, (arJ G 50 k_k)), (a_lo, (oc3 e_cl a_hd a_sr a_cd)), (a_sr, (arI G n_sr f_sr)), (a_cd, (arI G n_cd f_cd)), (a_hd, (arI G n_hd f_hd))] ∧ va_S A s.heap H locs ∧ ((-1) ≤ k_c.toInt ∧ k_c.toInt ≤ 11) ∧ (k_c.toInt < e_cl.toInt)) (fun (q : (Int32) × (Nat → Int64)) => match q with | (k_c, k_k) => Int.toNat (k_c.toInt + 1)) ((e_cl - 1), f_sk) ⟨lv_sub hl [0, 1, 2, 3] rfl, hP, hD, hS, ⟨by omega, by omega⟩, by omega⟩ ?_
  rintro ⟨k_c, k_k⟩ ls H locs ⟨hl, hP, hD, hS, i_2, i_3⟩ ih_13_4
  have hl : lv_has ls 4 [(3, .int k_c), (0, .ref a_j), (1, .ref a_lo), (2, .int p_h)] := hl
  have i_2 : (-1) ≤ k_c.toInt ∧ k_c.toInt ≤ 11 := i_2
  have i_3 : k_c.toInt < e_cl.toInt := i_3
  refine g5_rs [(a_j, (oc2 a_as a_sk)), (a_as, (arI G 8 f_as)), (a_sk, (arJ G 50 k_k)), (a_lo, (oc3 e_cl a_hd a_sr a_cd)), (a_sr, (arI G n_sr f_sr)), (a_cd, (arI G n_cd f_cd)), (a_hd, (arI G n_hd f_hd))] hP hD (fun hP hD => ?_)
  refine lv_iload_n hx hb dX2_isHeld_13 rfl (lv_at hl 0 rfl) ?_
  refine lv_if_lt (tgt := 44) hx hb dX2_isHeld_14 (by decide) (fun c_5 => ?_) (fun c_5 => ?_)
  ·
    have i_5 : k_c.toInt < 0 := by have z := g5_lt (a := k_c.toInt) (b := 0) (by rfl) (by decide) c_5; omega
    refine lv_iconst (v := 0) hx hb dX2_isHeld_44 (by decide) ?_
    exact W.zret (v := 0) hx hb hr rfl (fun t ht hW => ⟨⟨0, [(a_j, (oc2 a_as a_sk)), (a_as, (arI G 8 f_as)), (a_sk, (arJ G 50 k_k)), (a_lo, (oc3 e_cl a_hd a_sr a_cd)), (a_sr, (arI G n_sr f_sr)), (a_cd, (arI G n_cd f_cd)), (a_hd, (arI G n_hd f_hd))], rfl, ⟨0, k_k, ⟨by have zc_o_r : (0 : Int32).toInt = 0 := (by decide); omega, by have zc_o_r : (0 : Int32).toInt = 0 := (by decide); omega⟩, rfl, rfl⟩, by rw [ht]; exact hP.sub [0, 1, 2, 3, 4, 5, 6] rfl, hD.sub [0, 1, 2, 3, 4, 5, 6] (by decide) rfl⟩, hS.F ht⟩) hS.2.2 dX2_isHeld_45
  ·
    have i_5 : k_c.toInt ≥ 0 := by have z := g5_ltN (a := k_c.toInt) (b := 0) (by rfl) (by decide) c_5; omega
    refine lv_aload_n hx hb dX2_isHeld_17 rfl (lv_at hl 2 rfl) ?_
    refine va_get (D := G.1) (ci := 3) (v := .ref a_hd) (C := RX3) (T := TX3) (N := 4) hx hb hts inG_X3 hown hK hP 3 rfl rfl 1 (by decide) (hts _ fl_X2_25) (fun _ h9 => h9) rfl dX2_isHeld_18 ?_
    refine lv_iload_n hx hb dX2_isHeld_21 rfl (lv_at hl 0 rfl) ?_
    refine va_iald hx hb hK hP 6 0 rfl rfl (i := k_c) (vp_in_iff.mpr ⟨by omega, by omega⟩) dX2_isHeld_22 ?_
    refine lv_iload_n hx hb dX2_isHeld_23 rfl (lv_at hl 3 rfl) ?_
    refine lv_icmp_ne (tgt := 38) hx hb dX2_isHeld_24 (by decide) (fun c_6 => ?_) (fun c_6 => ?_)
    ·
      have n_6 : gNe ((f_hd k_c.toNatClampNeg).toInt) (p_h.toInt) := by have z := g5_ne (a := (f_hd k_c.toNatClampNeg).toInt) (b := p_h.toInt) (by rfl) (by rfl) c_6; unfold gNe; omega
      obtain ⟨y7, hy_7, t_7⟩ := g_incN k_c (-1) (by decide) (by omega) (by omega)
      have t_7 : y7.toInt = k_c.toInt + (-1) := t_7
      refine lv_iinc (v := y7) (lv' := [(3, .int y7), (0, .ref a_j), (1, .ref a_lo), (2, .int p_h)]) hx hb dX2_isHeld_38 hl (k := 0) rfl hy_7 (by decide) rfl (fun ls hl => ?_)
      refine lv_goto (tgt := 13) hx hb dX2_isHeld_41 (by decide) ?_
      exact ih_13_4 (y7, k_k) ls H locs (show Int.toNat (y7.toInt + 1) < Int.toNat (k_c.toInt + 1) from g_dn (show y7.toInt < k_c.toInt by omega) (show 0 ≤ k_c.toInt by omega)) ⟨lv_sub hl [0, 1, 2, 3] rfl, hP, hD, hS, ⟨by omega, by omega⟩, by omega⟩
    ·
      have i_6 : (f_hd k_c.toNatClampNeg).toInt = p_h.toInt := by have z := g5_neN (a := (f_hd k_c.toNatClampNeg).toInt) (b := p_h.toInt) (by rfl) (by rfl) c_6; omega
      refine lv_aload_n hx hb dX2_isHeld_27 rfl (lv_at hl 1 rfl) ?_
      refine lv_aload_n hx hb dX2_isHeld_28 rfl (lv_at hl 2 rfl) ?_
      refine lv_iload_n hx hb dX2_isHeld_29 rfl (lv_at hl 0 rfl) ?_
      obtain ⟨hPc, hDc, hFc⟩ := g5_sub3 (wc := [(a_j, (oc2 a_as a_sk)), (a_as, (arI G 8 f_as)), (a_sk, (arJ G 50 k_k)), (a_lo, (oc3 e_cl a_hd a_sr a_cd)), (a_sr, (arI G n_sr f_sr)), (a_cd, (arI G n_cd f_cd))]) hP hD hS hA [0, 1, 2, 3, 4, 5] (by decide) rfl
      refine va_calli (va_runV (As := [.ref a_lo, .int k_c]) (rest := []) ⟨hx, hb, hml, hown, hts⟩ (j_holds l G a_j a_as a_sk a_lo a_sr a_cd a_hd H.size k_c e_cl f_as k_k f_sr f_cd n_sr n_cd ⟨by omega, by omega⟩ h_e_cl (by omega) (e_hn) (e_hs) (e_hk)) (cwV 2 hts gV_X2_28 rfl rfl rfl hv_X2_holds ⟨Nat.le_of_ble_eq_true rfl, Nat.le_of_ble_eq_true rfl⟩) (g5_preV hPc hK hDc hN hT hS hFc (ci := 2) (q0 := 0) rfl rfl) rfl rfl hl.1 rfl (lv_room (Nat.le_of_ble_eq_true rfl)) dX2_isHeld_30 ⟨Nat.le_of_ble_eq_true rfl, Nat.le_of_ble_eq_true rfl⟩) hS (fun q _ h => hFc q h) hFc (fun r u t H1 locs ht hvm hw hB hz1 hk1 hS => ?_)
      obtain ⟨hP1, hD1⟩ := hB
      rw [ht] at hP1
      obtain ⟨z9, z10, i_8, y11, rfl⟩ := hw
      have i_8 : 0 ≤ z9.toInt ∧ z9.toInt ≤ 1 := i_8
      obtain ⟨hP, hD⟩ := va_join (wr := [(a_hd, (arI G n_hd f_hd))]) hP hD [0, 1, 2, 3, 4, 5] [6] rfl rfl (by decide) (by decide) hk1 hFc hP1 hD1
      generalize H1 = H at hP hS ⊢
      refine g5_rs [(a_hd, (arI G n_hd f_hd)), (a_j, (oc2 a_as a_sk)), (a_as, (arI G 8 f_as)), (a_sk, (arJ G 50 z10)), (a_lo, (oc3 e_cl a_hd a_sr a_cd)), (a_sr, (arI G n_sr f_sr)), (a_cd, (arI G n_cd f_cd))] hP hD (fun hP hD => ?_)
      refine g5_ti (v := z9) y11 ?_
      refine lv_if_eq (tgt := 38) hx hb dX2_isHeld_33 (by decide) (fun c_12 => ?_) (fun c_12 => ?_)
      ·
        have i_12 : z9.toInt = 0 := by have z := g5_eq (a := z9.toInt) (b := 0) (by rfl) (by decide) c_12; omega
        obtain ⟨y13, hy_13, t_13⟩ := g_incN k_c (-1) (by decide) (by omega) (by omega)
        have t_13 : y13.toInt = k_c.toInt + (-1) := t_13
        refine lv_iinc (v := y13) (lv' := [(3, .int y13), (0, .ref a_j), (1, .ref a_lo), (2, .int p_h)]) hx hb dX2_isHeld_38 hl (k := 0) rfl hy_13 (by decide) rfl (fun ls hl => ?_)
        refine lv_goto (tgt := 13) hx hb dX2_isHeld_41 (by decide) ?_
        exact ih_13_4 (y13, z10) ls H locs (show Int.toNat (y13.toInt + 1) < Int.toNat (k_c.toInt + 1) from g_dn (show y13.toInt < k_c.toInt by omega) (show 0 ≤ k_c.toInt by omega)) ⟨lv_sub hl [0, 1, 2, 3] rfl, hP.sub [1, 2, 3, 4, 5, 6, 0] rfl, hD.sub [1, 2, 3, 4, 5, 6, 0] (by decide) rfl, hS, ⟨by omega, by omega⟩, by omega⟩
      ·
        have n_12 : gNe (z9.toInt) (0) := by have z := g5_eqN (a := z9.toInt) (b := 0) (by rfl) (by decide) c_12; unfold gNe; omega
        have i_12 : z9.toInt ≥ 1 := by have z := g5_eqN (a := z9.toInt) (b := 0) (by rfl) (by decide) c_12; omega
        refine lv_iconst (v := 1) hx hb dX2_isHeld_36 (by decide) ?_
        exact W.zret (v := 1) hx hb hr rfl (fun t ht hW => ⟨⟨1, [(a_j, (oc2 a_as a_sk)), (a_as, (arI G 8 f_as)), (a_sk, (arJ G 50 z10)), (a_lo, (oc3 e_cl a_hd a_sr a_cd)), (a_sr, (arI G n_sr f_sr)), (a_cd, (arI G n_cd f_cd)), (a_hd, (arI G n_hd f_hd))], rfl, ⟨1, z10, ⟨by have zc_o_r : (1 : Int32).toInt = 1 := (by decide); omega, by have zc_o_r : (1 : Int32).toInt = 1 := (by decide); omega⟩, rfl, rfl⟩, by rw [ht]; exact hP.sub [1, 2, 3, 4, 5, 6, 0] rfl, hD.sub [1, 2, 3, 4, 5, 6, 0] (by decide) rfl⟩, hS.F ht⟩) hS.2.2 dX2_isHeld_37
theorem dgX2_toldUpTo_0 : ∀ r ∈ ([(0, (.lconst 0, 1)), (1, (.iload_n 1, 1)), (2, (.i2l, 1)), (3, (.aload_n 0, 1)), (4, (.getfield 15, 3)), (7, (.iconst 0, 1)), (8, (.laload, 1)), (9, (.invokestatic 32, 3)), (12, (.invokestatic 38, 3)), (15, (.l2i, 1)), (16, (.ireturn, 1))] : List (Nat × (Instr × Nat))), decode cX2_toldUpTo r.1 = .ok r.2 := by decide +kernel
theorem dX2_toldUpTo_0 : decode cX2_toldUpTo 0 = .ok (.lconst 0, 1) := dgX2_toldUpTo_0 (0, (.lconst 0, 1)) (List.mem_of_getElem? (i := 0) rfl)
theorem dX2_toldUpTo_1 : decode cX2_toldUpTo 1 = .ok (.iload_n 1, 1) := dgX2_toldUpTo_0 (1, (.iload_n 1, 1)) (List.mem_of_getElem? (i := 1) rfl)
theorem dX2_toldUpTo_2 : decode cX2_toldUpTo 2 = .ok (.i2l, 1) := dgX2_toldUpTo_0 (2, (.i2l, 1)) (List.mem_of_getElem? (i := 2) rfl)
theorem dX2_toldUpTo_3 : decode cX2_toldUpTo 3 = .ok (.aload_n 0, 1) := dgX2_toldUpTo_0 (3, (.aload_n 0, 1)) (List.mem_of_getElem? (i := 3) rfl)
theorem dX2_toldUpTo_4 : decode cX2_toldUpTo 4 = .ok (.getfield 15, 3) := dgX2_toldUpTo_0 (4, (.getfield 15, 3)) (List.mem_of_getElem? (i := 4) rfl)
theorem dX2_toldUpTo_7 : decode cX2_toldUpTo 7 = .ok (.iconst 0, 1) := dgX2_toldUpTo_0 (7, (.iconst 0, 1)) (List.mem_of_getElem? (i := 5) rfl)
theorem dX2_toldUpTo_8 : decode cX2_toldUpTo 8 = .ok (.laload, 1) := dgX2_toldUpTo_0 (8, (.laload, 1)) (List.mem_of_getElem? (i := 6) rfl)
theorem dX2_toldUpTo_9 : decode cX2_toldUpTo 9 = .ok (.invokestatic 32, 3) := dgX2_toldUpTo_0 (9, (.invokestatic 32, 3)) (List.mem_of_getElem? (i := 7) rfl)
theorem dX2_toldUpTo_12 : decode cX2_toldUpTo 12 = .ok (.invokestatic 38, 3) := dgX2_toldUpTo_0 (12, (.invokestatic 38, 3)) (List.mem_of_getElem? (i := 8) rfl)
theorem dX2_toldUpTo_15 : decode cX2_toldUpTo 15 = .ok (.l2i, 1) := dgX2_toldUpTo_0 (15, (.l2i, 1)) (List.mem_of_getElem? (i := 9) rfl)
theorem dX2_toldUpTo_16 : decode cX2_toldUpTo 16 = .ok (.ireturn, 1) := dgX2_toldUpTo_0 (16, (.ireturn, 1)) (List.mem_of_getElem? (i := 10) rfl)
theorem ml_X2_32 : Cond.methodLink RX2 32 Lib.MathLoose.min_long.x ∈ tblG := tg 864 (by decide +kernel) (by decide +kernel)
theorem st_Math_minJ : Cond.static Lib.MathLoose.min_long.x ∈ tblG := tg 865 (by decide +kernel) (by decide +kernel)
theorem cd_Math_minJ : Cond.code Lib.MathLoose.min_long.x Lib.MathLoose.min_long.code 4 (some .long) ∈ tblG := tg 866 (by decide +kernel) (by decide +kernel)
theorem ml_X2_38 : Cond.methodLink RX2 38 Lib.MathLoose.max_long.x ∈ tblG := tg 867 (by decide +kernel) (by decide +kernel)
theorem st_Math_maxJ : Cond.static Lib.MathLoose.max_long.x ∈ tblG := tg 868 (by decide +kernel) (by decide +kernel)
theorem cd_Math_maxJ : Cond.code Lib.MathLoose.max_long.x Lib.MathLoose.max_long.code 4 (some .long) ∈ tblG := tg 869 (by decide +kernel) (by decide +kernel)
set_option maxHeartbeats 4000000 in
set_option maxRecDepth 100000 in
theorem j_told (l : Launch) (G : g5_G) (a_j a_sk a_as : Nat) (sz : Nat) (p_m : Int32) (f_sk : Nat → Int64) (h_p_m : 0 ≤ p_m.toInt ∧ p_m.toInt ≤ 1000) : Met l yX2_toldUpTo (wsG yX2_toldUpTo cX2_toldUpTo 2 (some .int)) ({ frames := 1, cells := 0, slots := 0, locals := 22 }) (va_Pc [.ref a_j, .int p_m] (g5_P G [(a_j, (oc2 a_as a_sk)), (a_sk, (arJ G 50 f_sk))] sz)) (va_Qi (fun (r : Int32) (u : va_W) => (∃ (o_r : Int32), (0 ≤ o_r.toInt ∧ o_r.toInt ≤ p_m.toInt) ∧ (r = o_r) ∧ (u = [(a_j, (oc2 a_as a_sk)), (a_sk, (arJ G 50 f_sk))]))) (g5_B G (va_A [(a_j, (oc2 a_as a_sk)), (a_sk, (arJ G 50 f_sk))] sz)) (va_A [(a_j, (oc2 a_as a_sk)), (a_sk, (arJ G 50 f_sk))] sz)) 0 0 (va_A [(a_j, (oc2 a_as a_sk)), (a_sk, (arJ G 50 f_sk))] sz) := by
  refine Met.ofW (cc := cX2_toldUpTo) (maxL := 2) (ret := (some .int)) (by decide) rfl ?_
  intro p e s m args below meth c s₁ B hml hv
  obtain ⟨rfl, hsz, hP, hK, hD0, hN, hT⟩ := hv
  have hx := B.exec
  have hb := B.bytes
  have hr := B.returns
  have hts : ∀ w ∈ tblG, w.before _ s = true := fun w h => atoms_spec (ws := (wsG yX2_toldUpTo cX2_toldUpTo 2 (some .int))) B.pre w (List.mem_cons_of_mem _ h)
  have hown : s.vm.findClass RX2 = some m.cls := findClass_of_methodNamed B.named
  have hlocks := B.notSynchronized
  subst hsz
  have hD := hD0.self (sz := s.heap.size)
  generalize hAe : va_A [(a_j, (oc2 a_as a_sk)), (a_sk, (arJ G 50 f_sk))] s.heap.size = A at hD hT ⊢
  have hA : ∀ q : Nat, s.heap.size ≤ q → A q := fun q h => by rw [← hAe]; exact Or.inr h
  have hS : va_S A s.heap s.heap [] := va_S.rf
  have hP : va_P G.1 vwCl [(a_j, (oc2 a_as a_sk)), (a_sk, (arJ G 50 f_sk))] s.heap := hP
  have hl := lv_entry ([.ref a_j, .int p_m]) (n := 2) (Nat.le_of_ble_eq_true rfl)
  rw [lg_entry_eq]
  generalize (lg_sl ([.ref a_j, .int p_m]) ++ List.replicate (2 - (lg_sl ([.ref a_j, .int p_m])).length) Slot.unset).toArray = ls at hl ⊢
  have hl : lv_has ls 2 [(0, .ref a_j), (1, .int p_m)] := hl
  refine lv_lconst (v := 0) hx hb dX2_toldUpTo_0 (by decide) ?_
  refine lv_iload_n hx hb dX2_toldUpTo_1 rfl (lv_at hl 1 rfl) ?_
  refine lv_i2l (v := p_m.toInt64) hx hb dX2_toldUpTo_2 rfl ?_
  refine lv_aload_n hx hb dX2_toldUpTo_3 rfl (lv_at hl 0 rfl) ?_
  refine va_get (D := G.1) (ci := 2) (v := .ref a_sk) (C := RX2) (T := TX2) (N := 2) hx hb hts inG_X2 hown hK hP 0 rfl rfl 1 (by decide) (hts _ fl_X2_15) (fun _ h9 => h9) rfl dX2_toldUpTo_4 ?_
  refine lv_iconst (v := 0) hx hb dX2_toldUpTo_7 (by decide) ?_
  refine va_lald hx hb hK hP 1 1 rfl rfl (i := 0) (by unfold vp_in; decide) dX2_toldUpTo_8 ?_
  refine g5_tl (v := (f_sk 0)) rfl ?_
  refine va_mmin_long hx hb (hml.trans hl.1.symm) hown (hts _ ml_X2_32) (hts _ st_Math_minJ) (hts _ ini_Math) (hts _ cd_Math_minJ) (Nat.le_of_ble_eq_true rfl) (by decide) (Nat.le_of_ble_eq_true rfl) (Nat.le_of_ble_eq_true rfl) dX2_toldUpTo_9 ?_
  refine va_mmax_long hx hb (hml.trans hl.1.symm) hown (hts _ ml_X2_38) (hts _ st_Math_maxJ) (hts _ ini_Math) (hts _ cd_Math_maxJ) (Nat.le_of_ble_eq_true rfl) (by decide) (Nat.le_of_ble_eq_true rfl) (Nat.le_of_ble_eq_true rfl) dX2_toldUpTo_12 ?_
  refine lv_l2i (v := (if (if (f_sk 0) < p_m.toInt64 then (f_sk 0) else p_m.toInt64) < 0 then 0 else (if (f_sk 0) < p_m.toInt64 then (f_sk 0) else p_m.toInt64)).toInt32) hx hb dX2_toldUpTo_15 rfl ?_
  exact W.iret (v := (if (if (f_sk 0) < p_m.toInt64 then (f_sk 0) else p_m.toInt64) < 0 then 0 else (if (f_sk 0) < p_m.toInt64 then (f_sk 0) else p_m.toInt64)).toInt32) hx hb hr (fun t ht hW => ⟨⟨(if (if (f_sk 0) < p_m.toInt64 then (f_sk 0) else p_m.toInt64) < 0 then 0 else (if (f_sk 0) < p_m.toInt64 then (f_sk 0) else p_m.toInt64)).toInt32, [(a_j, (oc2 a_as a_sk)), (a_sk, (arJ G 50 f_sk))], rfl, ⟨((if (if (f_sk 0) < p_m.toInt64 then (f_sk 0) else p_m.toInt64) < 0 then 0 else (if (f_sk 0) < p_m.toInt64 then (f_sk 0) else p_m.toInt64)).toInt32), g_told (by omega) (by omega), rfl, rfl⟩, by rw [ht]; exact hP.sub [0, 1] rfl, hD.sub [0, 1] (by decide) rfl⟩, hS.F ht⟩) hS.2.2 dX2_toldUpTo_16
