set_option maxHeartbeats 4000000 in
set_option maxRecDepth 100000 in
theorem r_part (fr lo : Nat) (p_d : Int32) (h_p_d : 0 ≤ p_d.toInt ∧ p_d.toInt ≤ 8) (h_sum : ∀ x : Int32, x.toInt = p_d.toInt + 1 → p_d.toInt < 8 → ∀ (l : Launch) (G : g5_G) (a_r a_tk a_kd a_nm a_rc a_rh a_rs a_pl : Nat) (sz : Nat) (e_ln : Int32) (e_pa : Int32) (e_at : Int32) (e_fp : Int32) (f_kd : Nat → Int32) (f_nm : Nat → Int32) (f_rc : Nat → Int32) (h_e_ln : 0 ≤ e_ln.toInt ∧ e_ln.toInt ≤ 400) (h_e_pa : 0 ≤ e_pa.toInt ∧ e_pa.toInt ≤ 50) (h_e_at : 0 ≤ e_at.toInt ∧ e_at.toInt ≤ 401) (e_tk : TOKI f_kd f_nm) (e_cd : CDI f_rc e_ln.toInt), Met l yX4_readSum (wsG yX4_readSum cX4_readSum 6 (some .boolean)) ({ frames := fr + 0, cells := 0, slots := 0, locals := lo + 0 }) (va_Pc [.ref a_r, .int x] (g5_P G [(a_r, (oc4 a_tk a_rh a_rs a_rc e_ln e_pa e_at e_fp)), (a_tk, (oc8 a_kd a_nm a_pl)), (a_kd, (arI G 401 f_kd)), (a_nm, (arI G 401 f_nm)), (a_rc, (arI G 400 f_rc))] sz)) (va_Qi (fun (r : Int32) (u : va_W) => (∃ (o_r : Int32) (o_ln : Int32) (o_pa : Int32) (o_at : Int32) (o_rc : Nat → Int32), (0 ≤ o_r.toInt ∧ o_r.toInt ≤ 1) ∧ (e_ln.toInt ≤ o_ln.toInt ∧ o_ln.toInt ≤ 400) ∧ (0 ≤ o_at.toInt ∧ o_at.toInt ≤ 401) ∧ (0 ≤ o_pa.toInt ∧ o_pa.toInt ≤ 50) ∧ (CDI o_rc o_ln.toInt) ∧ (OPK f_rc o_rc e_ln.toInt) ∧ (r = o_r) ∧ (u = [(a_r, (oc4 a_tk a_rh a_rs a_rc o_ln o_pa o_at e_fp)), (a_tk, (oc8 a_kd a_nm a_pl)), (a_kd, (arI G 401 f_kd)), (a_nm, (arI G 401 f_nm)), (a_rc, (arI G 400 o_rc))]))) (g5_B G (va_A [(a_r, (oc4 a_tk a_rh a_rs a_rc e_ln e_pa e_at e_fp)), (a_tk, (oc8 a_kd a_nm a_pl)), (a_kd, (arI G 401 f_kd)), (a_nm, (arI G 401 f_nm)), (a_rc, (arI G 400 f_rc))] sz)) (va_A [(a_r, (oc4 a_tk a_rh a_rs a_rc e_ln e_pa e_at e_fp)), (a_tk, (oc8 a_kd a_nm a_pl)), (a_kd, (arI G 401 f_kd)), (a_nm, (arI G 401 f_nm)), (a_rc, (arI G 400 f_rc))] sz)) 0 0 (va_A [(a_r, (oc4 a_tk a_rh a_rs a_rc e_ln e_pa e_at e_fp)), (a_tk, (oc8 a_kd a_nm a_pl)), (a_kd, (arI G 401 f_kd)), (a_nm, (arI G 401 f_nm)), (a_rc, (arI G 400 f_rc))] sz)) (l : Launch) (G : g5_G) (a_r a_tk a_kd a_nm a_rc a_rh a_rs a_pl : Nat) (sz : Nat) (e_ln : Int32) (e_pa : Int32) (e_at : Int32) (e_fp : Int32) (f_kd : Nat → Int32) (f_nm : Nat → Int32) (f_rc : Nat → Int32) (h_e_ln : 0 ≤ e_ln.toInt ∧ e_ln.toInt ≤ 400) (h_e_pa : 0 ≤ e_pa.toInt ∧ e_pa.toInt ≤ 50) (h_e_at : 0 ≤ e_at.toInt ∧ e_at.toInt ≤ 401) (e_tk : TOKI f_kd f_nm) (e_cd : CDI f_rc e_ln.toInt) : Met l yX4_readPart (wsG yX4_readPart cX4_readPart 4 (some .boolean)) ({ frames := fr + 1, cells := 0, slots := 0, locals := lo + 25 }) (va_Pc [.ref a_r, .int p_d] (g5_P G [(a_r, (oc4 a_tk a_rh a_rs a_rc e_ln e_pa e_at e_fp)), (a_tk, (oc8 a_kd a_nm a_pl)), (a_kd, (arI G 401 f_kd)), (a_nm, (arI G 401 f_nm)), (a_rc, (arI G 400 f_rc))] sz)) (va_Qi (fun (r : Int32) (u : va_W) => (∃ (o_r : Int32) (o_ln : Int32) (o_pa : Int32) (o_at : Int32) (o_rc : Nat → Int32), (0 ≤ o_r.toInt ∧ o_r.toInt ≤ 1) ∧ (e_ln.toInt ≤ o_ln.toInt ∧ o_ln.toInt ≤ 400) ∧ (0 ≤ o_at.toInt ∧ o_at.toInt ≤ 401) ∧ (0 ≤ o_pa.toInt ∧ o_pa.toInt ≤ 50) ∧ (CDI o_rc o_ln.toInt) ∧ (OPK f_rc o_rc e_ln.toInt) ∧ (r = o_r) ∧ (u = [(a_r, (oc4 a_tk a_rh a_rs a_rc o_ln o_pa o_at e_fp)), (a_tk, (oc8 a_kd a_nm a_pl)), (a_kd, (arI G 401 f_kd)), (a_nm, (arI G 401 f_nm)), (a_rc, (arI G 400 o_rc))]))) (g5_B G (va_A [(a_r, (oc4 a_tk a_rh a_rs a_rc e_ln e_pa e_at e_fp)), (a_tk, (oc8 a_kd a_nm a_pl)), (a_kd, (arI G 401 f_kd)), (a_nm, (arI G 401 f_nm)), (a_rc, (arI G 400 f_rc))] sz)) (va_A [(a_r, (oc4 a_tk a_rh a_rs a_rc e_ln e_pa e_at e_fp)), (a_tk, (oc8 a_kd a_nm a_pl)), (a_kd, (arI G 401 f_kd)), (a_nm, (arI G 401 f_nm)), (a_rc, (arI G 400 f_rc))] sz)) 0 0 (va_A [(a_r, (oc4 a_tk a_rh a_rs a_rc e_ln e_pa e_at e_fp)), (a_tk, (oc8 a_kd a_nm a_pl)), (a_kd, (arI G 401 f_kd)), (a_nm, (arI G 401 f_nm)), (a_rc, (arI G 400 f_rc))] sz) := by
  refine Met.ofW (cc := cX4_readPart) (maxL := 4) (ret := (some .boolean)) (by decide) rfl ?_
  intro p e s m args below meth c s₁ B hml hv
  obtain ⟨rfl, hsz, hP, hK, hD0, hN, hT⟩ := hv
  have hx := B.exec
  have hb := B.bytes
  have hr := B.returns
  have hts : ∀ w ∈ tblG, w.before _ s = true := fun w h => atoms_spec (ws := (wsG yX4_readPart cX4_readPart 4 (some .boolean))) B.pre w (List.mem_cons_of_mem _ h)
  have hown : s.vm.findClass RX4 = some m.cls := findClass_of_methodNamed B.named
  have hlocks := B.notSynchronized
  subst hsz
  have hD := hD0.self (sz := s.heap.size)
  generalize hAe : va_A [(a_r, (oc4 a_tk a_rh a_rs a_rc e_ln e_pa e_at e_fp)), (a_tk, (oc8 a_kd a_nm a_pl)), (a_kd, (arI G 401 f_kd)), (a_nm, (arI G 401 f_nm)), (a_rc, (arI G 400 f_rc))] s.heap.size = A at hD hT ⊢
  have hA : ∀ q : Nat, s.heap.size ≤ q → A q := fun q h => by rw [← hAe]; exact Or.inr h
  have hS : va_S A s.heap s.heap [] := va_S.rf
  have hP : va_P G.1 vwCl [(a_r, (oc4 a_tk a_rh a_rs a_rc e_ln e_pa e_at e_fp)), (a_tk, (oc8 a_kd a_nm a_pl)), (a_kd, (arI G 401 f_kd)), (a_nm, (arI G 401 f_nm)), (a_rc, (arI G 400 f_rc))] s.heap := hP
  have hl := lv_entry ([.ref a_r, .int p_d]) (n := 4) (Nat.le_of_ble_eq_true rfl)
  rw [lg_entry_eq]
  generalize (lg_sl ([.ref a_r, .int p_d]) ++ List.replicate (4 - (lg_sl ([.ref a_r, .int p_d])).length) Slot.unset).toArray = ls at hl ⊢
  have hl : lv_has ls 4 [(0, .ref a_r), (1, .int p_d)] := hl
  refine lv_aload_n hx hb dX4_readPart_0 rfl (lv_at hl 0 rfl) ?_
  refine lv_bipush (v := 91) hx hb dX4_readPart_1 (by decide) ?_
  obtain ⟨hPc, hDc, hFc⟩ := g5_sub3 (wc := [(a_r, (oc4 a_tk a_rh a_rs a_rc e_ln e_pa e_at e_fp)), (a_tk, (oc8 a_kd a_nm a_pl)), (a_kd, (arI G 401 f_kd))]) hP hD hS hA [0, 1, 2] (by decide) rfl
  refine va_calli (va_runV (As := [.int 91]) (rest := []) ⟨hx, hb, hml, hown, hts⟩ (r_isNext l G a_r a_tk a_kd a_rh a_rs a_rc a_nm a_pl s.heap.size e_ln e_pa e_at e_fp 91 f_kd h_e_ln h_e_pa h_e_at) (cwV 1 hts gV_X4_49 rfl rfl rfl hv_X4_isNext ⟨by simp only [headSpec]; omega, by simp only [headSpec]; omega⟩) (g5_preV hPc hK hDc hN hT hS hFc (ci := 4) (q0 := 0) rfl rfl) rfl rfl hl.1 rfl (lv_room (Nat.le_of_ble_eq_true rfl)) dX4_readPart_3 ⟨Nat.le_of_ble_eq_true rfl, Nat.le_of_ble_eq_true rfl⟩) hS (fun q _ h => hFc q h) hFc (fun r u t H1 locs ht hvm hw hB hz1 hk1 hS => ?_)
  obtain ⟨hP1, hD1⟩ := hB
  rw [ht] at hP1
  rcases hw with ⟨i_1, i_2, rfl, rfl⟩ | ⟨rfl, rfl⟩
  ·
    have i_1 : e_at.toInt ≤ 400 := i_1
    have i_2 : f_kd e_at.toNatClampNeg = (91 : Int32) := i_2
    obtain ⟨hP, hD⟩ := va_join (wr := [(a_nm, (arI G 401 f_nm)), (a_rc, (arI G 400 f_rc))]) hP hD [0, 1, 2] [3, 4] rfl rfl (by decide) (by decide) hk1 hFc hP1 hD1
    generalize H1 = H at hP hS ⊢
    refine g5_rs [(a_nm, (arI G 401 f_nm)), (a_rc, (arI G 400 f_rc)), (a_r, (oc4 a_tk a_rh a_rs a_rc e_ln e_pa e_at e_fp)), (a_tk, (oc8 a_kd a_nm a_pl)), (a_kd, (arI G 401 f_kd))] hP hD (fun hP hD => ?_)
    refine lv_if_eq (tgt := 49) hx hb dX4_readPart_6 (by decide) (fun c_3 => ?_) (fun c_3 => ?_)
    ·
      exact absurd c_3 (by decide)
    ·
      refine lv_iload_n hx hb dX4_readPart_9 rfl (lv_at hl 1 rfl) ?_
      refine lv_bipush (v := 8) hx hb dX4_readPart_10 (by decide) ?_
      refine lv_icmp_ge (tgt := 47) hx hb dX4_readPart_12 (by decide) (fun c_4 => ?_) (fun c_4 => ?_)
      ·
        have i_4 : p_d.toInt ≥ 8 := by have z := g5_ge (a := p_d.toInt) (b := 8) (by rfl) (by decide) c_4; omega
        refine lv_iconst (v := 0) hx hb dX4_readPart_47 (by decide) ?_
        exact W.zret (v := 0) hx hb hr rfl (fun t ht hW => ⟨⟨0, [(a_r, (oc4 a_tk a_rh a_rs a_rc e_ln e_pa e_at e_fp)), (a_tk, (oc8 a_kd a_nm a_pl)), (a_kd, (arI G 401 f_kd)), (a_nm, (arI G 401 f_nm)), (a_rc, (arI G 400 f_rc))], rfl, ⟨0, e_ln, e_pa, e_at, f_rc, ⟨by have zc_o_r : (0 : Int32).toInt = 0 := (by decide); omega, by have zc_o_r : (0 : Int32).toInt = 0 := (by decide); omega⟩, ⟨by omega, by omega⟩, h_e_at, h_e_pa, e_cd, opk_refl, rfl, rfl⟩, by rw [ht]; exact hP.sub [2, 3, 4, 0, 1] rfl, hD.sub [2, 3, 4, 0, 1] (by decide) rfl⟩, hS.F ht⟩) hS.2.2 dX4_readPart_48
      ·
        have i_4 : p_d.toInt < 8 := by have z := g5_geN (a := p_d.toInt) (b := 8) (by rfl) (by decide) c_4; omega
        refine lv_aload_n hx hb dX4_readPart_15 rfl (lv_at hl 0 rfl) ?_
        refine lv_bipush (v := 91) hx hb dX4_readPart_16 (by decide) ?_
        obtain ⟨hPc, hDc, hFc⟩ := g5_sub3 (wc := [(a_r, (oc4 a_tk a_rh a_rs a_rc e_ln e_pa e_at e_fp)), (a_tk, (oc8 a_kd a_nm a_pl)), (a_kd, (arI G 401 f_kd))]) hP hD hS hA [2, 3, 4] (by decide) rfl
        refine va_calli (va_runV (As := [.int 91]) (rest := []) ⟨hx, hb, hml, hown, hts⟩ (r_passed l G a_r a_tk a_kd a_rh a_rs a_rc a_nm a_pl H.size e_ln e_pa e_at e_fp 91 f_kd h_e_ln h_e_pa h_e_at) (cwV 1 hts gV_X4_63 rfl rfl rfl hv_X4_passed ⟨by simp only [headSpec]; omega, by simp only [headSpec]; omega⟩) (g5_preV hPc hK hDc hN hT hS hFc (ci := 4) (q0 := 0) rfl rfl) rfl rfl hl.1 rfl (lv_room (Nat.le_of_ble_eq_true rfl)) dX4_readPart_18 ⟨Nat.le_of_ble_eq_true rfl, Nat.le_of_ble_eq_true rfl⟩) hS (fun q _ h => hFc q h) hFc (fun r u t H1 locs ht hvm hw hB hz1 hk1 hS => ?_)
        obtain ⟨hP1, hD1⟩ := hB
        rw [ht] at hP1
        obtain ⟨z7, z8, i_5, i_6, y9, rfl⟩ := hw
        have i_5 : 0 ≤ z7.toInt ∧ z7.toInt ≤ 1 := i_5
        have i_6 : 0 ≤ z8.toInt ∧ z8.toInt ≤ 401 := i_6
        obtain ⟨hP, hD⟩ := va_join (wr := [(a_nm, (arI G 401 f_nm)), (a_rc, (arI G 400 f_rc))]) hP hD [2, 3, 4] [0, 1] rfl rfl (by decide) (by decide) hk1 hFc hP1 hD1
        generalize H1 = H at hP hS ⊢
        refine g5_rs [(a_nm, (arI G 401 f_nm)), (a_rc, (arI G 400 f_rc)), (a_r, (oc4 a_tk a_rh a_rs a_rc e_ln e_pa z8 e_fp)), (a_tk, (oc8 a_kd a_nm a_pl)), (a_kd, (arI G 401 f_kd))] hP hD (fun hP hD => ?_)
        refine g5_ti (v := z7) y9 ?_
        refine lv_if_eq (tgt := 47) hx hb dX4_readPart_21 (by decide) (fun c_10 => ?_) (fun c_10 => ?_)
        ·
          have i_10 : z7.toInt = 0 := by have z := g5_eq (a := z7.toInt) (b := 0) (by rfl) (by decide) c_10; omega
          refine lv_iconst (v := 0) hx hb dX4_readPart_47 (by decide) ?_
          exact W.zret (v := 0) hx hb hr rfl (fun t ht hW => ⟨⟨0, [(a_r, (oc4 a_tk a_rh a_rs a_rc e_ln e_pa z8 e_fp)), (a_tk, (oc8 a_kd a_nm a_pl)), (a_kd, (arI G 401 f_kd)), (a_nm, (arI G 401 f_nm)), (a_rc, (arI G 400 f_rc))], rfl, ⟨0, e_ln, e_pa, z8, f_rc, ⟨by have zc_o_r : (0 : Int32).toInt = 0 := (by decide); omega, by have zc_o_r : (0 : Int32).toInt = 0 := (by decide); omega⟩, ⟨by omega, by omega⟩, i_6, h_e_pa, e_cd, opk_refl, rfl, rfl⟩, by rw [ht]; exact hP.sub [2, 3, 4, 0, 1] rfl, hD.sub [2, 3, 4, 0, 1] (by decide) rfl⟩, hS.F ht⟩) hS.2.2 dX4_readPart_48
        ·
          have n_10 : gNe (z7.toInt) (0) := by have z := g5_eqN (a := z7.toInt) (b := 0) (by rfl) (by decide) c_10; unfold gNe; omega
          have i_10 : z7.toInt ≥ 1 := by have z := g5_eqN (a := z7.toInt) (b := 0) (by rfl) (by decide) c_10; omega
          refine lv_aload_n hx hb dX4_readPart_24 rfl (lv_at hl 0 rfl) ?_
          refine lv_iload_n hx hb dX4_readPart_25 rfl (lv_at hl 1 rfl) ?_
          refine lv_iconst (v := 1) hx hb dX4_readPart_26 (by decide) ?_
          refine lv_iadd hx hb dX4_readPart_27 ?_
          have t_11 : (p_d + 1).toInt = p_d.toInt + 1 := g5_iadd (a := p_d.toInt) (b := 1) (by rfl) (by decide) (by omega) (by omega)
          obtain ⟨hPc, hDc, hFc⟩ := g5_sub3 (wc := [(a_r, (oc4 a_tk a_rh a_rs a_rc e_ln e_pa z8 e_fp)), (a_tk, (oc8 a_kd a_nm a_pl)), (a_kd, (arI G 401 f_kd)), (a_nm, (arI G 401 f_nm)), (a_rc, (arI G 400 f_rc))]) hP hD hS hA [2, 3, 4, 0, 1] (by decide) rfl
          refine va_calli (va_runV (As := [.int (p_d + 1)]) (rest := []) ⟨hx, hb, hml, hown, hts⟩ ((h_sum (p_d + 1) (by omega) (by omega)) l G a_r a_tk a_kd a_nm a_rc a_rh a_rs a_pl H.size e_ln e_pa z8 e_fp f_kd f_nm f_rc h_e_ln h_e_pa i_6 (e_tk) (e_cd)) (cwV 1 hts gV_X4_73 rfl rfl rfl hv_X4_readSum ⟨by simp only [headSpec]; omega, by simp only [headSpec]; omega⟩) (g5_preV hPc hK hDc hN hT hS hFc (ci := 4) (q0 := 0) rfl rfl) rfl rfl hl.1 rfl (lv_room (Nat.le_of_ble_eq_true rfl)) dX4_readPart_28 ⟨Nat.le_of_ble_eq_true rfl, Nat.le_of_ble_eq_true rfl⟩) hS (fun q _ h => hFc q h) hFc (fun r u t H1 locs ht hvm hw hB hz1 hk1 hS => ?_)
          obtain ⟨hP1, hD1⟩ := hB
          rw [ht] at hP1
          obtain ⟨z18, z19, z20, z21, z22, i_12, i_13, i_14, i_15, i_16, i_17, y23, rfl⟩ := hw
          have i_12 : 0 ≤ z18.toInt ∧ z18.toInt ≤ 1 := i_12
          have i_13 : e_ln.toInt ≤ z19.toInt ∧ z19.toInt ≤ 400 := i_13
          have i_14 : 0 ≤ z21.toInt ∧ z21.toInt ≤ 401 := i_14
          have i_15 : 0 ≤ z20.toInt ∧ z20.toInt ≤ 50 := i_15
          have i_16 : CDI z22 z19.toInt := i_16
          have i_17 : OPK f_rc z22 e_ln.toInt := i_17
          obtain ⟨hP, hD⟩ := va_join (wr := []) hP hD [2, 3, 4, 0, 1] [] rfl rfl (by decide) (by decide) hk1 hFc hP1 hD1
          generalize H1 = H at hP hS ⊢
          refine g5_rs [(a_r, (oc4 a_tk a_rh a_rs a_rc z19 z20 z21 e_fp)), (a_tk, (oc8 a_kd a_nm a_pl)), (a_kd, (arI G 401 f_kd)), (a_nm, (arI G 401 f_nm)), (a_rc, (arI G 400 z22))] hP hD (fun hP hD => ?_)
          refine g5_ti (v := z18) y23 ?_
          refine lv_if_eq (tgt := 47) hx hb dX4_readPart_31 (by decide) (fun c_24 => ?_) (fun c_24 => ?_)
          ·
            have i_24 : z18.toInt = 0 := by have z := g5_eq (a := z18.toInt) (b := 0) (by rfl) (by decide) c_24; omega
            refine lv_iconst (v := 0) hx hb dX4_readPart_47 (by decide) ?_
            exact W.zret (v := 0) hx hb hr rfl (fun t ht hW => ⟨⟨0, [(a_r, (oc4 a_tk a_rh a_rs a_rc z19 z20 z21 e_fp)), (a_tk, (oc8 a_kd a_nm a_pl)), (a_kd, (arI G 401 f_kd)), (a_nm, (arI G 401 f_nm)), (a_rc, (arI G 400 z22))], rfl, ⟨0, z19, z20, z21, z22, ⟨by have zc_o_r : (0 : Int32).toInt = 0 := (by decide); omega, by have zc_o_r : (0 : Int32).toInt = 0 := (by decide); omega⟩, ⟨by omega, by omega⟩, i_14, i_15, i_16, i_17, rfl, rfl⟩, by rw [ht]; exact hP.sub [0, 1, 2, 3, 4] rfl, hD.sub [0, 1, 2, 3, 4] (by decide) rfl⟩, hS.F ht⟩) hS.2.2 dX4_readPart_48
          ·
            have n_24 : gNe (z18.toInt) (0) := by have z := g5_eqN (a := z18.toInt) (b := 0) (by rfl) (by decide) c_24; unfold gNe; omega
            have i_24 : z18.toInt ≥ 1 := by have z := g5_eqN (a := z18.toInt) (b := 0) (by rfl) (by decide) c_24; omega
            refine lv_aload_n hx hb dX4_readPart_34 rfl (lv_at hl 0 rfl) ?_
            refine lv_bipush (v := 93) hx hb dX4_readPart_35 (by decide) ?_
            obtain ⟨hPc, hDc, hFc⟩ := g5_sub3 (wc := [(a_r, (oc4 a_tk a_rh a_rs a_rc z19 z20 z21 e_fp)), (a_tk, (oc8 a_kd a_nm a_pl)), (a_kd, (arI G 401 f_kd))]) hP hD hS hA [0, 1, 2] (by decide) rfl
            refine va_calli (va_runV (As := [.int 93]) (rest := []) ⟨hx, hb, hml, hown, hts⟩ (r_passed l G a_r a_tk a_kd a_rh a_rs a_rc a_nm a_pl H.size z19 z20 z21 e_fp 93 f_kd ⟨by omega, by omega⟩ i_15 i_14) (cwV 1 hts gV_X4_63 rfl rfl rfl hv_X4_passed ⟨by simp only [headSpec]; omega, by simp only [headSpec]; omega⟩) (g5_preV hPc hK hDc hN hT hS hFc (ci := 4) (q0 := 0) rfl rfl) rfl rfl hl.1 rfl (lv_room (Nat.le_of_ble_eq_true rfl)) dX4_readPart_37 ⟨Nat.le_of_ble_eq_true rfl, Nat.le_of_ble_eq_true rfl⟩) hS (fun q _ h => hFc q h) hFc (fun r u t H1 locs ht hvm hw hB hz1 hk1 hS => ?_)
            obtain ⟨hP1, hD1⟩ := hB
            rw [ht] at hP1
            obtain ⟨z27, z28, i_25, i_26, y29, rfl⟩ := hw
            have i_25 : 0 ≤ z27.toInt ∧ z27.toInt ≤ 1 := i_25
            have i_26 : 0 ≤ z28.toInt ∧ z28.toInt ≤ 401 := i_26
            obtain ⟨hP, hD⟩ := va_join (wr := [(a_nm, (arI G 401 f_nm)), (a_rc, (arI G 400 z22))]) hP hD [0, 1, 2] [3, 4] rfl rfl (by decide) (by decide) hk1 hFc hP1 hD1
            generalize H1 = H at hP hS ⊢
            refine g5_rs [(a_nm, (arI G 401 f_nm)), (a_rc, (arI G 400 z22)), (a_r, (oc4 a_tk a_rh a_rs a_rc z19 z20 z28 e_fp)), (a_tk, (oc8 a_kd a_nm a_pl)), (a_kd, (arI G 401 f_kd))] hP hD (fun hP hD => ?_)
            refine g5_ti (v := z27) y29 ?_
            refine lv_if_eq (tgt := 47) hx hb dX4_readPart_40 (by decide) (fun c_30 => ?_) (fun c_30 => ?_)
            ·
              have i_30 : z27.toInt = 0 := by have z := g5_eq (a := z27.toInt) (b := 0) (by rfl) (by decide) c_30; omega
              refine lv_iconst (v := 0) hx hb dX4_readPart_47 (by decide) ?_
              exact W.zret (v := 0) hx hb hr rfl (fun t ht hW => ⟨⟨0, [(a_r, (oc4 a_tk a_rh a_rs a_rc z19 z20 z28 e_fp)), (a_tk, (oc8 a_kd a_nm a_pl)), (a_kd, (arI G 401 f_kd)), (a_nm, (arI G 401 f_nm)), (a_rc, (arI G 400 z22))], rfl, ⟨0, z19, z20, z28, z22, ⟨by have zc_o_r : (0 : Int32).toInt = 0 := (by decide); omega, by have zc_o_r : (0 : Int32).toInt = 0 := (by decide); omega⟩, ⟨by omega, by omega⟩, i_26, i_15, i_16, i_17, rfl, rfl⟩, by rw [ht]; exact hP.sub [2, 3, 4, 0, 1] rfl, hD.sub [2, 3, 4, 0, 1] (by decide) rfl⟩, hS.F ht⟩) hS.2.2 dX4_readPart_48
            ·
              have n_30 : gNe (z27.toInt) (0) := by have z := g5_eqN (a := z27.toInt) (b := 0) (by rfl) (by decide) c_30; unfold gNe; omega
              have i_30 : z27.toInt ≥ 1 := by have z := g5_eqN (a := z27.toInt) (b := 0) (by rfl) (by decide) c_30; omega
              refine lv_iconst (v := 1) hx hb dX4_readPart_43 (by decide) ?_
              refine lv_goto (tgt := 48) hx hb dX4_readPart_44 (by decide) ?_
              exact W.zret (v := 1) hx hb hr rfl (fun t ht hW => ⟨⟨1, [(a_r, (oc4 a_tk a_rh a_rs a_rc z19 z20 z28 e_fp)), (a_tk, (oc8 a_kd a_nm a_pl)), (a_kd, (arI G 401 f_kd)), (a_nm, (arI G 401 f_nm)), (a_rc, (arI G 400 z22))], rfl, ⟨1, z19, z20, z28, z22, ⟨by have zc_o_r : (1 : Int32).toInt = 1 := (by decide); omega, by have zc_o_r : (1 : Int32).toInt = 1 := (by decide); omega⟩, ⟨by omega, by omega⟩, i_26, i_15, i_16, i_17, rfl, rfl⟩, by rw [ht]; exact hP.sub [2, 3, 4, 0, 1] rfl, hD.sub [2, 3, 4, 0, 1] (by decide) rfl⟩, hS.F ht⟩) hS.2.2 dX4_readPart_48
  ·
    obtain ⟨hP, hD⟩ := va_join (wr := [(a_nm, (arI G 401 f_nm)), (a_rc, (arI G 400 f_rc))]) hP hD [0, 1, 2] [3, 4] rfl rfl (by decide) (by decide) hk1 hFc hP1 hD1
    generalize H1 = H at hP hS ⊢
    refine g5_rs [(a_nm, (arI G 401 f_nm)), (a_rc, (arI G 400 f_rc)), (a_r, (oc4 a_tk a_rh a_rs a_rc e_ln e_pa e_at e_fp)), (a_tk, (oc8 a_kd a_nm a_pl)), (a_kd, (arI G 401 f_kd))] hP hD (fun hP hD => ?_)
    refine lv_if_eq (tgt := 49) hx hb dX4_readPart_6 (by decide) (fun c_31 => ?_) (fun c_31 => ?_)
    ·
      refine lv_aload_n hx hb dX4_readPart_49 rfl (lv_at hl 0 rfl) ?_
      refine va_get (D := G.1) (ci := 4) (v := .ref a_tk) (C := RX4) (T := TX4) (N := 8) hx hb hts inG_X4 hown hK hP 2 rfl rfl 0 (by decide) (hts _ fl_X4_12) (fun _ h9 => h9) rfl dX4_readPart_50 ?_
      refine lv_aload_n hx hb dX4_readPart_53 rfl (lv_at hl 0 rfl) ?_
      refine va_get (D := G.1) (ci := 4) (v := .int e_at) (C := RX4) (T := TX4) (N := 8) hx hb hts inG_X4 hown hK hP 2 rfl rfl 6 (by decide) (hts _ fl_X4_42) (fun _ h9 => h9) rfl dX4_readPart_54 ?_
      obtain ⟨hPc, hDc, hFc⟩ := g5_sub3 (wc := [(a_tk, (oc8 a_kd a_nm a_pl)), (a_kd, (arI G 401 f_kd))]) hP hD hS hA [3, 4] (by decide) rfl
      refine va_calli (va_runV (As := [.int e_at]) (rest := []) ⟨hx, hb, hml, hown, hts⟩ (k_kindAt l G a_tk a_kd a_nm a_pl H.size e_at f_kd h_e_at) (cwV 1 hts gV_X4_69 rfl rfl rfl hv_X8_kindAt ⟨by simp only [headSpec]; omega, by simp only [headSpec]; omega⟩) (g5_preV hPc hK hDc hN hT hS hFc (ci := 8) (q0 := 0) rfl rfl) rfl rfl hl.1 rfl (lv_room (Nat.le_of_ble_eq_true rfl)) dX4_readPart_57 ⟨Nat.le_of_ble_eq_true rfl, Nat.le_of_ble_eq_true rfl⟩) hS (fun q _ h => hFc q h) hFc (fun r u t H1 locs ht hvm hw hB hz1 hk1 hS => ?_)
      obtain ⟨hP1, hD1⟩ := hB
      rw [ht] at hP1
      rcases hw with ⟨z33, i_32, y34, rfl⟩ | ⟨rfl, rfl⟩
      ·
        have i_32 : e_at.toInt ≤ 400 := i_32
        obtain ⟨hP, hD⟩ := va_join (wr := [(a_nm, (arI G 401 f_nm)), (a_rc, (arI G 400 f_rc)), (a_r, (oc4 a_tk a_rh a_rs a_rc e_ln e_pa e_at e_fp))]) hP hD [3, 4] [0, 1, 2] rfl rfl (by decide) (by decide) hk1 hFc hP1 hD1
        generalize H1 = H at hP hS ⊢
        refine g5_rs [(a_nm, (arI G 401 f_nm)), (a_rc, (arI G 400 f_rc)), (a_r, (oc4 a_tk a_rh a_rs a_rc e_ln e_pa e_at e_fp)), (a_tk, (oc8 a_kd a_nm a_pl)), (a_kd, (arI G 401 f_kd))] hP hD (fun hP hD => ?_)
        refine g5_ti (v := z33) y34 ?_
        refine lv_sipush (v := 256) hx hb dX4_readPart_60 (by decide) ?_
        refine lv_isub hx hb dX4_readPart_63 ?_
        refine lv_bipush (v := 8) hx hb dX4_readPart_64 (by decide) ?_
        refine lv_isub hx hb dX4_readPart_66 ?_
        refine lv_istore_n (lv' := [(2, .int ((z33 - 256) - 8)), (0, .ref a_r), (1, .int p_d)]) hx hb dX4_readPart_67 rfl hl (by decide) rfl (fun ls hl => ?_)
        refine lv_iload_n hx hb dX4_readPart_68 rfl (lv_at hl 0 rfl) ?_
        refine lv_if_lt (tgt := 82) hx hb dX4_readPart_69 (by decide) (fun c_35 => ?_) (fun c_35 => ?_)
        ·
          have i_35 : ((z33 - 256) - 8).toInt < 0 := by have z := g5_lt (a := ((z33 - 256) - 8).toInt) (b := 0) (by rfl) (by decide) c_35; omega
          refine lv_iconst (v := 0) hx hb dX4_readPart_82 (by decide) ?_
          refine lv_istore_n (lv' := [(3, .int 0), (2, .int ((z33 - 256) - 8)), (0, .ref a_r), (1, .int p_d)]) hx hb dX4_readPart_83 rfl hl (by decide) rfl (fun ls hl => ?_)
          refine lv_iload_n hx hb dX4_readPart_84 rfl (lv_at hl 0 rfl) ?_
          refine lv_if_ne (tgt := 98) hx hb dX4_readPart_85 (by decide) (fun c_36 => ?_) (fun c_36 => ?_)
          ·
            exact absurd c_36 (by decide)
          ·
            refine lv_aload_n hx hb dX4_readPart_88 rfl (lv_at hl 2 rfl) ?_
            refine lv_sipush (v := 300) hx hb dX4_readPart_89 (by decide) ?_
            obtain ⟨hPc, hDc, hFc⟩ := g5_sub3 (wc := [(a_r, (oc4 a_tk a_rh a_rs a_rc e_ln e_pa e_at e_fp)), (a_tk, (oc8 a_kd a_nm a_pl)), (a_kd, (arI G 401 f_kd))]) hP hD hS hA [2, 3, 4] (by decide) rfl
            refine va_calli (va_runV (As := [.int 300]) (rest := []) ⟨hx, hb, hml, hown, hts⟩ (r_isNext l G a_r a_tk a_kd a_rh a_rs a_rc a_nm a_pl H.size e_ln e_pa e_at e_fp 300 f_kd h_e_ln h_e_pa h_e_at) (cwV 1 hts gV_X4_49 rfl rfl rfl hv_X4_isNext ⟨by simp only [headSpec]; omega, by simp only [headSpec]; omega⟩) (g5_preV hPc hK hDc hN hT hS hFc (ci := 4) (q0 := 0) rfl rfl) rfl rfl hl.1 rfl (lv_room (Nat.le_of_ble_eq_true rfl)) dX4_readPart_92 ⟨Nat.le_of_ble_eq_true rfl, Nat.le_of_ble_eq_true rfl⟩) hS (fun q _ h => hFc q h) hFc (fun r u t H1 locs ht hvm hw hB hz1 hk1 hS => ?_)
            obtain ⟨hP1, hD1⟩ := hB
            rw [ht] at hP1
            rcases hw with ⟨i_37, i_38, rfl, rfl⟩ | ⟨rfl, rfl⟩
            ·
              have i_37 : e_at.toInt ≤ 400 := i_37
              have i_38 : f_kd e_at.toNatClampNeg = (300 : Int32) := i_38
              obtain ⟨hP, hD⟩ := va_join (wr := [(a_nm, (arI G 401 f_nm)), (a_rc, (arI G 400 f_rc))]) hP hD [2, 3, 4] [0, 1] rfl rfl (by decide) (by decide) hk1 hFc hP1 hD1
              generalize H1 = H at hP hS ⊢
              refine g5_rs [(a_nm, (arI G 401 f_nm)), (a_rc, (arI G 400 f_rc)), (a_r, (oc4 a_tk a_rh a_rs a_rc e_ln e_pa e_at e_fp)), (a_tk, (oc8 a_kd a_nm a_pl)), (a_kd, (arI G 401 f_kd))] hP hD (fun hP hD => ?_)
              refine lv_if_eq (tgt := 107) hx hb dX4_readPart_95 (by decide) (fun c_39 => ?_) (fun c_39 => ?_)
              ·
                exact absurd c_39 (by decide)
              ·
                refine lv_aload_n hx hb dX4_readPart_98 rfl (lv_at hl 2 rfl) ?_
                refine va_get (D := G.1) (ci := 4) (v := .int e_pa) (C := RX4) (T := TX4) (N := 8) hx hb hts inG_X4 hown hK hP 2 rfl rfl 5 (by decide) (hts _ fl_X4_39) (fun _ h9 => h9) rfl dX4_readPart_99 ?_
                refine lv_bipush (v := 50) hx hb dX4_readPart_102 (by decide) ?_
                refine lv_icmp_lt (tgt := 109) hx hb dX4_readPart_104 (by decide) (fun c_40 => ?_) (fun c_40 => ?_)
                ·
                  have i_40 : e_pa.toInt < 50 := by have z := g5_lt (a := e_pa.toInt) (b := 50) (by rfl) (by decide) c_40; omega
                  refine lv_aload_n hx hb dX4_readPart_109 rfl (lv_at hl 2 rfl) ?_
                  refine lv_iload_n hx hb dX4_readPart_110 rfl (lv_at hl 0 rfl) ?_
                  refine lv_if_eq (tgt := 118) hx hb dX4_readPart_111 (by decide) (fun c_41 => ?_) (fun c_41 => ?_)
                  ·
                    refine lv_iconst (v := 0) hx hb dX4_readPart_118 (by decide) ?_
                    refine lv_iload_n hx hb dX4_readPart_119 rfl (lv_at hl 0 rfl) ?_
                    refine lv_if_eq (tgt := 127) hx hb dX4_readPart_120 (by decide) (fun c_42 => ?_) (fun c_42 => ?_)
                    ·
                      refine lv_aload_n hx hb dX4_readPart_127 rfl (lv_at hl 2 rfl) ?_
                      refine va_get (D := G.1) (ci := 4) (v := .ref a_tk) (C := RX4) (T := TX4) (N := 8) hx hb hts inG_X4 hown hK hP 2 rfl rfl 0 (by decide) (hts _ fl_X4_12) (fun _ h9 => h9) rfl dX4_readPart_128 ?_
                      refine va_get (D := G.1) (ci := 8) (v := .ref a_nm) (C := RX8) (T := TX8) (N := 3) hx hb hts inG_X8 hown hK hP 3 rfl rfl 1 (by decide) (hts _ fl_X4_93) (fun _ h9 => h9) rfl dX4_readPart_131 ?_
                      refine lv_aload_n hx hb dX4_readPart_134 rfl (lv_at hl 2 rfl) ?_
                      refine va_get (D := G.1) (ci := 4) (v := .int e_at) (C := RX4) (T := TX4) (N := 8) hx hb hts inG_X4 hown hK hP 2 rfl rfl 6 (by decide) (hts _ fl_X4_42) (fun _ h9 => h9) rfl dX4_readPart_135 ?_
                      refine va_iald hx hb hK hP 0 0 rfl rfl (i := e_at) (vp_in_iff.mpr ⟨by omega, by omega⟩) dX4_readPart_138 ?_
                      obtain ⟨hPc, hDc, hFc⟩ := g5_sub3 (wc := [(a_r, (oc4 a_tk a_rh a_rs a_rc e_ln e_pa e_at e_fp)), (a_rc, (arI G 400 f_rc))]) hP hD hS hA [2, 1] (by decide) rfl
                      refine va_calli (va_runV (As := [.int 0, .int (f_nm e_at.toNatClampNeg)]) (rest := []) ⟨hx, hb, hml, hown, hts⟩ (r_emit l G a_r a_rc a_tk a_rh a_rs H.size e_ln e_pa e_at e_fp 0 (f_nm e_at.toNatClampNeg) f_rc h_e_ln h_e_pa h_e_at (e_cd) (wok_num (toki_num e_tk i_38))) (cwV 2 hts gV_X4_79 rfl rfl rfl hv_X4_emit ⟨by simp only [headSpec]; omega, by simp only [headSpec]; omega⟩) (g5_preV hPc hK hDc hN hT hS hFc (ci := 4) (q0 := 0) rfl rfl) rfl rfl hl.1 rfl (lv_room (Nat.le_of_ble_eq_true rfl)) dX4_readPart_139 ⟨Nat.le_of_ble_eq_true rfl, Nat.le_of_ble_eq_true rfl⟩) hS (fun q _ h => hFc q h) hFc (fun r u t H1 locs ht hvm hw hB hz1 hk1 hS => ?_)
                      obtain ⟨hP1, hD1⟩ := hB
                      rw [ht] at hP1
                      obtain ⟨z48, z49, z50, i_43, i_44, i_45, i_46, i_47, y51, rfl⟩ := hw
                      have i_43 : -1 ≤ z48.toInt ∧ z48.toInt ≤ 399 := i_43
                      have i_44 : e_ln.toInt ≤ z49.toInt ∧ z49.toInt ≤ 400 := i_44
                      have i_45 : CDI z50 z49.toInt := i_45
                      have i_46 : OPK f_rc z50 e_ln.toInt := i_46
                      have i_47 : 0 ≤ z48.toInt → z48.toInt < z49.toInt ∧ z50 z48.toNatClampNeg = (((0 : Int32) <<< (12 &&& 31)) ||| (f_nm e_at.toNatClampNeg)) := i_47
                      obtain ⟨hP, hD⟩ := va_join (wr := [(a_nm, (arI G 401 f_nm)), (a_tk, (oc8 a_kd a_nm a_pl)), (a_kd, (arI G 401 f_kd))]) hP hD [2, 1] [0, 3, 4] rfl rfl (by decide) (by decide) hk1 hFc hP1 hD1
                      generalize H1 = H at hP hS ⊢
                      refine g5_rs [(a_nm, (arI G 401 f_nm)), (a_tk, (oc8 a_kd a_nm a_pl)), (a_kd, (arI G 401 f_kd)), (a_r, (oc4 a_tk a_rh a_rs a_rc z49 e_pa e_at e_fp)), (a_rc, (arI G 400 z50))] hP hD (fun hP hD => ?_)
                      refine g5_ti (v := z48) y51 ?_
                      refine lv_pop hx hb dX4_readPart_142 rfl ?_
                      refine lv_aload_n hx hb dX4_readPart_143 rfl (lv_at hl 2 rfl) ?_
                      refine lv_dup hx hb dX4_readPart_144 rfl ?_
                      refine va_get (D := G.1) (ci := 4) (v := .int e_pa) (C := RX4) (T := TX4) (N := 8) hx hb hts inG_X4 hown hK hP 3 rfl rfl 5 (by decide) (hts _ fl_X4_39) (fun _ h9 => h9) rfl dX4_readPart_145 ?_
                      refine lv_iconst (v := 1) hx hb dX4_readPart_148 (by decide) ?_
                      refine lv_iadd hx hb dX4_readPart_149 ?_
                      have t_52 : (e_pa + 1).toInt = e_pa.toInt + 1 := g5_iadd (a := e_pa.toInt) (b := 1) (by rfl) (by decide) (by omega) (by omega)
                      refine va_put (D := G.1) (ci := 4) (v := .int (e_pa + 1)) (ty := .int) (C := RX4) (T := TX4) (N := 8) hx hb hts inG_X4 tyX4 tyX4_ok nmX4 hown hK hP hD hS 3 rfl rfl 5 (by decide) (hts _ fl_X4_39) (fun _ h9 => h9) rfl (by decide +kernel) rfl rfl (Nat.le_of_ble_eq_true rfl) dX4_readPart_150 (fun H locs hP hD hS => ?_)
                      refine g5_rs [(a_nm, (arI G 401 f_nm)), (a_tk, (oc8 a_kd a_nm a_pl)), (a_kd, (arI G 401 f_kd)), (a_r, (oc4 a_tk a_rh a_rs a_rc z49 (e_pa + 1) e_at e_fp)), (a_rc, (arI G 400 z50))] hP hD (fun hP hD => ?_)
                      refine lv_aload_n hx hb dX4_readPart_153 rfl (lv_at hl 2 rfl) ?_
                      refine lv_dup hx hb dX4_readPart_154 rfl ?_
                      refine va_get (D := G.1) (ci := 4) (v := .int e_at) (C := RX4) (T := TX4) (N := 8) hx hb hts inG_X4 hown hK hP 3 rfl rfl 6 (by decide) (hts _ fl_X4_42) (fun _ h9 => h9) rfl dX4_readPart_155 ?_
                      refine lv_iconst (v := 1) hx hb dX4_readPart_158 (by decide) ?_
                      refine lv_iadd hx hb dX4_readPart_159 ?_
                      have t_53 : (e_at + 1).toInt = e_at.toInt + 1 := g5_iadd (a := e_at.toInt) (b := 1) (by rfl) (by decide) (by omega) (by omega)
                      refine va_put (D := G.1) (ci := 4) (v := .int (e_at + 1)) (ty := .int) (C := RX4) (T := TX4) (N := 8) hx hb hts inG_X4 tyX4 tyX4_ok nmX4 hown hK hP hD hS 3 rfl rfl 6 (by decide) (hts _ fl_X4_42) (fun _ h9 => h9) rfl (by decide +kernel) rfl rfl (Nat.le_of_ble_eq_true rfl) dX4_readPart_160 (fun H locs hP hD hS => ?_)
                      refine g5_rs [(a_nm, (arI G 401 f_nm)), (a_tk, (oc8 a_kd a_nm a_pl)), (a_kd, (arI G 401 f_kd)), (a_r, (oc4 a_tk a_rh a_rs a_rc z49 (e_pa + 1) (e_at + 1) e_fp)), (a_rc, (arI G 400 z50))] hP hD (fun hP hD => ?_)
                      refine lv_iconst (v := 1) hx hb dX4_readPart_163 (by decide) ?_
                      exact W.zret (v := 1) hx hb hr rfl (fun t ht hW => ⟨⟨1, [(a_r, (oc4 a_tk a_rh a_rs a_rc z49 (e_pa + 1) (e_at + 1) e_fp)), (a_tk, (oc8 a_kd a_nm a_pl)), (a_kd, (arI G 401 f_kd)), (a_nm, (arI G 401 f_nm)), (a_rc, (arI G 400 z50))], rfl, ⟨1, z49, (e_pa + 1), (e_at + 1), z50, ⟨by have zc_o_r : (1 : Int32).toInt = 1 := (by decide); omega, by have zc_o_r : (1 : Int32).toInt = 1 := (by decide); omega⟩, ⟨by omega, by omega⟩, ⟨by omega, by omega⟩, ⟨by omega, by omega⟩, i_45, i_46, rfl, rfl⟩, by rw [ht]; exact hP.sub [3, 1, 2, 0, 4] rfl, hD.sub [3, 1, 2, 0, 4] (by decide) rfl⟩, hS.F ht⟩) hS.2.2 dX4_readPart_164
                    ·
                      exact absurd c_42 (by decide)
                  ·
                    exact absurd c_41 (by decide)
                ·
                  have i_40 : e_pa.toInt ≥ 50 := by have z := g5_ltN (a := e_pa.toInt) (b := 50) (by rfl) (by decide) c_40; omega
                  refine lv_iconst (v := 0) hx hb dX4_readPart_107 (by decide) ?_
                  exact W.zret (v := 0) hx hb hr rfl (fun t ht hW => ⟨⟨0, [(a_r, (oc4 a_tk a_rh a_rs a_rc e_ln e_pa e_at e_fp)), (a_tk, (oc8 a_kd a_nm a_pl)), (a_kd, (arI G 401 f_kd)), (a_nm, (arI G 401 f_nm)), (a_rc, (arI G 400 f_rc))], rfl, ⟨0, e_ln, e_pa, e_at, f_rc, ⟨by have zc_o_r : (0 : Int32).toInt = 0 := (by decide); omega, by have zc_o_r : (0 : Int32).toInt = 0 := (by decide); omega⟩, ⟨by omega, by omega⟩, h_e_at, h_e_pa, e_cd, opk_refl, rfl, rfl⟩, by rw [ht]; exact hP.sub [2, 3, 4, 0, 1] rfl, hD.sub [2, 3, 4, 0, 1] (by decide) rfl⟩, hS.F ht⟩) hS.2.2 dX4_readPart_108
            ·
              obtain ⟨hP, hD⟩ := va_join (wr := [(a_nm, (arI G 401 f_nm)), (a_rc, (arI G 400 f_rc))]) hP hD [2, 3, 4] [0, 1] rfl rfl (by decide) (by decide) hk1 hFc hP1 hD1
              generalize H1 = H at hP hS ⊢
              refine g5_rs [(a_nm, (arI G 401 f_nm)), (a_rc, (arI G 400 f_rc)), (a_r, (oc4 a_tk a_rh a_rs a_rc e_ln e_pa e_at e_fp)), (a_tk, (oc8 a_kd a_nm a_pl)), (a_kd, (arI G 401 f_kd))] hP hD (fun hP hD => ?_)
              refine lv_if_eq (tgt := 107) hx hb dX4_readPart_95 (by decide) (fun c_54 => ?_) (fun c_54 => ?_)
              ·
                refine lv_iconst (v := 0) hx hb dX4_readPart_107 (by decide) ?_
                exact W.zret (v := 0) hx hb hr rfl (fun t ht hW => ⟨⟨0, [(a_r, (oc4 a_tk a_rh a_rs a_rc e_ln e_pa e_at e_fp)), (a_tk, (oc8 a_kd a_nm a_pl)), (a_kd, (arI G 401 f_kd)), (a_nm, (arI G 401 f_nm)), (a_rc, (arI G 400 f_rc))], rfl, ⟨0, e_ln, e_pa, e_at, f_rc, ⟨by have zc_o_r : (0 : Int32).toInt = 0 := (by decide); omega, by have zc_o_r : (0 : Int32).toInt = 0 := (by decide); omega⟩, ⟨by omega, by omega⟩, h_e_at, h_e_pa, e_cd, opk_refl, rfl, rfl⟩, by rw [ht]; exact hP.sub [2, 3, 4, 0, 1] rfl, hD.sub [2, 3, 4, 0, 1] (by decide) rfl⟩, hS.F ht⟩) hS.2.2 dX4_readPart_108
              ·
                exact absurd c_54 (by decide)
        ·
          have i_35 : ((z33 - 256) - 8).toInt ≥ 0 := by have z := g5_ltN (a := ((z33 - 256) - 8).toInt) (b := 0) (by rfl) (by decide) c_35; omega
          refine lv_iload_n hx hb dX4_readPart_72 rfl (lv_at hl 0 rfl) ?_
          refine lv_bipush (v := 8) hx hb dX4_readPart_73 (by decide) ?_
          refine lv_icmp_ge (tgt := 82) hx hb dX4_readPart_75 (by decide) (fun c_55 => ?_) (fun c_55 => ?_)
          ·
            have i_55 : ((z33 - 256) - 8).toInt ≥ 8 := by have z := g5_ge (a := ((z33 - 256) - 8).toInt) (b := 8) (by rfl) (by decide) c_55; omega
            refine lv_iconst (v := 0) hx hb dX4_readPart_82 (by decide) ?_
            refine lv_istore_n (lv' := [(3, .int 0), (2, .int ((z33 - 256) - 8)), (0, .ref a_r), (1, .int p_d)]) hx hb dX4_readPart_83 rfl hl (by decide) rfl (fun ls hl => ?_)
            refine lv_iload_n hx hb dX4_readPart_84 rfl (lv_at hl 0 rfl) ?_
            refine lv_if_ne (tgt := 98) hx hb dX4_readPart_85 (by decide) (fun c_56 => ?_) (fun c_56 => ?_)
            ·
              exact absurd c_56 (by decide)
            ·
              refine lv_aload_n hx hb dX4_readPart_88 rfl (lv_at hl 2 rfl) ?_
              refine lv_sipush (v := 300) hx hb dX4_readPart_89 (by decide) ?_
              obtain ⟨hPc, hDc, hFc⟩ := g5_sub3 (wc := [(a_r, (oc4 a_tk a_rh a_rs a_rc e_ln e_pa e_at e_fp)), (a_tk, (oc8 a_kd a_nm a_pl)), (a_kd, (arI G 401 f_kd))]) hP hD hS hA [2, 3, 4] (by decide) rfl
              refine va_calli (va_runV (As := [.int 300]) (rest := []) ⟨hx, hb, hml, hown, hts⟩ (r_isNext l G a_r a_tk a_kd a_rh a_rs a_rc a_nm a_pl H.size e_ln e_pa e_at e_fp 300 f_kd h_e_ln h_e_pa h_e_at) (cwV 1 hts gV_X4_49 rfl rfl rfl hv_X4_isNext ⟨by simp only [headSpec]; omega, by simp only [headSpec]; omega⟩) (g5_preV hPc hK hDc hN hT hS hFc (ci := 4) (q0 := 0) rfl rfl) rfl rfl hl.1 rfl (lv_room (Nat.le_of_ble_eq_true rfl)) dX4_readPart_92 ⟨Nat.le_of_ble_eq_true rfl, Nat.le_of_ble_eq_true rfl⟩) hS (fun q _ h => hFc q h) hFc (fun r u t H1 locs ht hvm hw hB hz1 hk1 hS => ?_)
              obtain ⟨hP1, hD1⟩ := hB
              rw [ht] at hP1
              rcases hw with ⟨i_57, i_58, rfl, rfl⟩ | ⟨rfl, rfl⟩
              ·
                have i_57 : e_at.toInt ≤ 400 := i_57
                have i_58 : f_kd e_at.toNatClampNeg = (300 : Int32) := i_58
                obtain ⟨hP, hD⟩ := va_join (wr := [(a_nm, (arI G 401 f_nm)), (a_rc, (arI G 400 f_rc))]) hP hD [2, 3, 4] [0, 1] rfl rfl (by decide) (by decide) hk1 hFc hP1 hD1
                generalize H1 = H at hP hS ⊢
                refine g5_rs [(a_nm, (arI G 401 f_nm)), (a_rc, (arI G 400 f_rc)), (a_r, (oc4 a_tk a_rh a_rs a_rc e_ln e_pa e_at e_fp)), (a_tk, (oc8 a_kd a_nm a_pl)), (a_kd, (arI G 401 f_kd))] hP hD (fun hP hD => ?_)
                refine lv_if_eq (tgt := 107) hx hb dX4_readPart_95 (by decide) (fun c_59 => ?_) (fun c_59 => ?_)
                ·
                  exact absurd c_59 (by decide)
                ·
                  refine lv_aload_n hx hb dX4_readPart_98 rfl (lv_at hl 2 rfl) ?_
                  refine va_get (D := G.1) (ci := 4) (v := .int e_pa) (C := RX4) (T := TX4) (N := 8) hx hb hts inG_X4 hown hK hP 2 rfl rfl 5 (by decide) (hts _ fl_X4_39) (fun _ h9 => h9) rfl dX4_readPart_99 ?_
                  refine lv_bipush (v := 50) hx hb dX4_readPart_102 (by decide) ?_
                  refine lv_icmp_lt (tgt := 109) hx hb dX4_readPart_104 (by decide) (fun c_60 => ?_) (fun c_60 => ?_)
                  ·
                    have i_60 : e_pa.toInt < 50 := by have z := g5_lt (a := e_pa.toInt) (b := 50) (by rfl) (by decide) c_60; omega
                    refine lv_aload_n hx hb dX4_readPart_109 rfl (lv_at hl 2 rfl) ?_
                    refine lv_iload_n hx hb dX4_readPart_110 rfl (lv_at hl 0 rfl) ?_
                    refine lv_if_eq (tgt := 118) hx hb dX4_readPart_111 (by decide) (fun c_61 => ?_) (fun c_61 => ?_)
                    ·
                      refine lv_iconst (v := 0) hx hb dX4_readPart_118 (by decide) ?_
                      refine lv_iload_n hx hb dX4_readPart_119 rfl (lv_at hl 0 rfl) ?_
                      refine lv_if_eq (tgt := 127) hx hb dX4_readPart_120 (by decide) (fun c_62 => ?_) (fun c_62 => ?_)
                      ·
                        refine lv_aload_n hx hb dX4_readPart_127 rfl (lv_at hl 2 rfl) ?_
                        refine va_get (D := G.1) (ci := 4) (v := .ref a_tk) (C := RX4) (T := TX4) (N := 8) hx hb hts inG_X4 hown hK hP 2 rfl rfl 0 (by decide) (hts _ fl_X4_12) (fun _ h9 => h9) rfl dX4_readPart_128 ?_
                        refine va_get (D := G.1) (ci := 8) (v := .ref a_nm) (C := RX8) (T := TX8) (N := 3) hx hb hts inG_X8 hown hK hP 3 rfl rfl 1 (by decide) (hts _ fl_X4_93) (fun _ h9 => h9) rfl dX4_readPart_131 ?_
                        refine lv_aload_n hx hb dX4_readPart_134 rfl (lv_at hl 2 rfl) ?_
                        refine va_get (D := G.1) (ci := 4) (v := .int e_at) (C := RX4) (T := TX4) (N := 8) hx hb hts inG_X4 hown hK hP 2 rfl rfl 6 (by decide) (hts _ fl_X4_42) (fun _ h9 => h9) rfl dX4_readPart_135 ?_
                        refine va_iald hx hb hK hP 0 0 rfl rfl (i := e_at) (vp_in_iff.mpr ⟨by omega, by omega⟩) dX4_readPart_138 ?_
                        obtain ⟨hPc, hDc, hFc⟩ := g5_sub3 (wc := [(a_r, (oc4 a_tk a_rh a_rs a_rc e_ln e_pa e_at e_fp)), (a_rc, (arI G 400 f_rc))]) hP hD hS hA [2, 1] (by decide) rfl
                        refine va_calli (va_runV (As := [.int 0, .int (f_nm e_at.toNatClampNeg)]) (rest := []) ⟨hx, hb, hml, hown, hts⟩ (r_emit l G a_r a_rc a_tk a_rh a_rs H.size e_ln e_pa e_at e_fp 0 (f_nm e_at.toNatClampNeg) f_rc h_e_ln h_e_pa h_e_at (e_cd) (wok_num (toki_num e_tk i_58))) (cwV 2 hts gV_X4_79 rfl rfl rfl hv_X4_emit ⟨by simp only [headSpec]; omega, by simp only [headSpec]; omega⟩) (g5_preV hPc hK hDc hN hT hS hFc (ci := 4) (q0 := 0) rfl rfl) rfl rfl hl.1 rfl (lv_room (Nat.le_of_ble_eq_true rfl)) dX4_readPart_139 ⟨Nat.le_of_ble_eq_true rfl, Nat.le_of_ble_eq_true rfl⟩) hS (fun q _ h => hFc q h) hFc (fun r u t H1 locs ht hvm hw hB hz1 hk1 hS => ?_)
                        obtain ⟨hP1, hD1⟩ := hB
                        rw [ht] at hP1
                        obtain ⟨z68, z69, z70, i_63, i_64, i_65, i_66, i_67, y71, rfl⟩ := hw
                        have i_63 : -1 ≤ z68.toInt ∧ z68.toInt ≤ 399 := i_63
                        have i_64 : e_ln.toInt ≤ z69.toInt ∧ z69.toInt ≤ 400 := i_64
                        have i_65 : CDI z70 z69.toInt := i_65
                        have i_66 : OPK f_rc z70 e_ln.toInt := i_66
                        have i_67 : 0 ≤ z68.toInt → z68.toInt < z69.toInt ∧ z70 z68.toNatClampNeg = (((0 : Int32) <<< (12 &&& 31)) ||| (f_nm e_at.toNatClampNeg)) := i_67
                        obtain ⟨hP, hD⟩ := va_join (wr := [(a_nm, (arI G 401 f_nm)), (a_tk, (oc8 a_kd a_nm a_pl)), (a_kd, (arI G 401 f_kd))]) hP hD [2, 1] [0, 3, 4] rfl rfl (by decide) (by decide) hk1 hFc hP1 hD1
                        generalize H1 = H at hP hS ⊢
                        refine g5_rs [(a_nm, (arI G 401 f_nm)), (a_tk, (oc8 a_kd a_nm a_pl)), (a_kd, (arI G 401 f_kd)), (a_r, (oc4 a_tk a_rh a_rs a_rc z69 e_pa e_at e_fp)), (a_rc, (arI G 400 z70))] hP hD (fun hP hD => ?_)
                        refine g5_ti (v := z68) y71 ?_
                        refine lv_pop hx hb dX4_readPart_142 rfl ?_
                        refine lv_aload_n hx hb dX4_readPart_143 rfl (lv_at hl 2 rfl) ?_
                        refine lv_dup hx hb dX4_readPart_144 rfl ?_
                        refine va_get (D := G.1) (ci := 4) (v := .int e_pa) (C := RX4) (T := TX4) (N := 8) hx hb hts inG_X4 hown hK hP 3 rfl rfl 5 (by decide) (hts _ fl_X4_39) (fun _ h9 => h9) rfl dX4_readPart_145 ?_
                        refine lv_iconst (v := 1) hx hb dX4_readPart_148 (by decide) ?_
                        refine lv_iadd hx hb dX4_readPart_149 ?_
                        have t_72 : (e_pa + 1).toInt = e_pa.toInt + 1 := g5_iadd (a := e_pa.toInt) (b := 1) (by rfl) (by decide) (by omega) (by omega)
                        refine va_put (D := G.1) (ci := 4) (v := .int (e_pa + 1)) (ty := .int) (C := RX4) (T := TX4) (N := 8) hx hb hts inG_X4 tyX4 tyX4_ok nmX4 hown hK hP hD hS 3 rfl rfl 5 (by decide) (hts _ fl_X4_39) (fun _ h9 => h9) rfl (by decide +kernel) rfl rfl (Nat.le_of_ble_eq_true rfl) dX4_readPart_150 (fun H locs hP hD hS => ?_)
                        refine g5_rs [(a_nm, (arI G 401 f_nm)), (a_tk, (oc8 a_kd a_nm a_pl)), (a_kd, (arI G 401 f_kd)), (a_r, (oc4 a_tk a_rh a_rs a_rc z69 (e_pa + 1) e_at e_fp)), (a_rc, (arI G 400 z70))] hP hD (fun hP hD => ?_)
                        refine lv_aload_n hx hb dX4_readPart_153 rfl (lv_at hl 2 rfl) ?_
                        refine lv_dup hx hb dX4_readPart_154 rfl ?_
                        refine va_get (D := G.1) (ci := 4) (v := .int e_at) (C := RX4) (T := TX4) (N := 8) hx hb hts inG_X4 hown hK hP 3 rfl rfl 6 (by decide) (hts _ fl_X4_42) (fun _ h9 => h9) rfl dX4_readPart_155 ?_
                        refine lv_iconst (v := 1) hx hb dX4_readPart_158 (by decide) ?_
                        refine lv_iadd hx hb dX4_readPart_159 ?_
                        have t_73 : (e_at + 1).toInt = e_at.toInt + 1 := g5_iadd (a := e_at.toInt) (b := 1) (by rfl) (by decide) (by omega) (by omega)
                        refine va_put (D := G.1) (ci := 4) (v := .int (e_at + 1)) (ty := .int) (C := RX4) (T := TX4) (N := 8) hx hb hts inG_X4 tyX4 tyX4_ok nmX4 hown hK hP hD hS 3 rfl rfl 6 (by decide) (hts _ fl_X4_42) (fun _ h9 => h9) rfl (by decide +kernel) rfl rfl (Nat.le_of_ble_eq_true rfl) dX4_readPart_160 (fun H locs hP hD hS => ?_)
                        refine g5_rs [(a_nm, (arI G 401 f_nm)), (a_tk, (oc8 a_kd a_nm a_pl)), (a_kd, (arI G 401 f_kd)), (a_r, (oc4 a_tk a_rh a_rs a_rc z69 (e_pa + 1) (e_at + 1) e_fp)), (a_rc, (arI G 400 z70))] hP hD (fun hP hD => ?_)
                        refine lv_iconst (v := 1) hx hb dX4_readPart_163 (by decide) ?_
                        exact W.zret (v := 1) hx hb hr rfl (fun t ht hW => ⟨⟨1, [(a_r, (oc4 a_tk a_rh a_rs a_rc z69 (e_pa + 1) (e_at + 1) e_fp)), (a_tk, (oc8 a_kd a_nm a_pl)), (a_kd, (arI G 401 f_kd)), (a_nm, (arI G 401 f_nm)), (a_rc, (arI G 400 z70))], rfl, ⟨1, z69, (e_pa + 1), (e_at + 1), z70, ⟨by have zc_o_r : (1 : Int32).toInt = 1 := (by decide); omega, by have zc_o_r : (1 : Int32).toInt = 1 := (by decide); omega⟩, ⟨by omega, by omega⟩, ⟨by omega, by omega⟩, ⟨by omega, by omega⟩, i_65, i_66, rfl, rfl⟩, by rw [ht]; exact hP.sub [3, 1, 2, 0, 4] rfl, hD.sub [3, 1, 2, 0, 4] (by decide) rfl⟩, hS.F ht⟩) hS.2.2 dX4_readPart_164
                      ·
                        exact absurd c_62 (by decide)
                    ·
                      exact absurd c_61 (by decide)
                  ·
                    have i_60 : e_pa.toInt ≥ 50 := by have z := g5_ltN (a := e_pa.toInt) (b := 50) (by rfl) (by decide) c_60; omega
                    refine lv_iconst (v := 0) hx hb dX4_readPart_107 (by decide) ?_
                    exact W.zret (v := 0) hx hb hr rfl (fun t ht hW => ⟨⟨0, [(a_r, (oc4 a_tk a_rh a_rs a_rc e_ln e_pa e_at e_fp)), (a_tk, (oc8 a_kd a_nm a_pl)), (a_kd, (arI G 401 f_kd)), (a_nm, (arI G 401 f_nm)), (a_rc, (arI G 400 f_rc))], rfl, ⟨0, e_ln, e_pa, e_at, f_rc, ⟨by have zc_o_r : (0 : Int32).toInt = 0 := (by decide); omega, by have zc_o_r : (0 : Int32).toInt = 0 := (by decide); omega⟩, ⟨by omega, by omega⟩, h_e_at, h_e_pa, e_cd, opk_refl, rfl, rfl⟩, by rw [ht]; exact hP.sub [2, 3, 4, 0, 1] rfl, hD.sub [2, 3, 4, 0, 1] (by decide) rfl⟩, hS.F ht⟩) hS.2.2 dX4_readPart_108
              ·
                obtain ⟨hP, hD⟩ := va_join (wr := [(a_nm, (arI G 401 f_nm)), (a_rc, (arI G 400 f_rc))]) hP hD [2, 3, 4] [0, 1] rfl rfl (by decide) (by decide) hk1 hFc hP1 hD1
                generalize H1 = H at hP hS ⊢
                refine g5_rs [(a_nm, (arI G 401 f_nm)), (a_rc, (arI G 400 f_rc)), (a_r, (oc4 a_tk a_rh a_rs a_rc e_ln e_pa e_at e_fp)), (a_tk, (oc8 a_kd a_nm a_pl)), (a_kd, (arI G 401 f_kd))] hP hD (fun hP hD => ?_)
                refine lv_if_eq (tgt := 107) hx hb dX4_readPart_95 (by decide) (fun c_74 => ?_) (fun c_74 => ?_)
                ·
                  refine lv_iconst (v := 0) hx hb dX4_readPart_107 (by decide) ?_
                  exact W.zret (v := 0) hx hb hr rfl (fun t ht hW => ⟨⟨0, [(a_r, (oc4 a_tk a_rh a_rs a_rc e_ln e_pa e_at e_fp)), (a_tk, (oc8 a_kd a_nm a_pl)), (a_kd, (arI G 401 f_kd)), (a_nm, (arI G 401 f_nm)), (a_rc, (arI G 400 f_rc))], rfl, ⟨0, e_ln, e_pa, e_at, f_rc, ⟨by have zc_o_r : (0 : Int32).toInt = 0 := (by decide); omega, by have zc_o_r : (0 : Int32).toInt = 0 := (by decide); omega⟩, ⟨by omega, by omega⟩, h_e_at, h_e_pa, e_cd, opk_refl, rfl, rfl⟩, by rw [ht]; exact hP.sub [2, 3, 4, 0, 1] rfl, hD.sub [2, 3, 4, 0, 1] (by decide) rfl⟩, hS.F ht⟩) hS.2.2 dX4_readPart_108
                ·
                  exact absurd c_74 (by decide)
          ·
            have i_55 : ((z33 - 256) - 8).toInt < 8 := by have z := g5_geN (a := ((z33 - 256) - 8).toInt) (b := 8) (by rfl) (by decide) c_55; omega
            refine lv_iconst (v := 1) hx hb dX4_readPart_78 (by decide) ?_
            refine lv_goto (tgt := 83) hx hb dX4_readPart_79 (by decide) ?_
            refine lv_istore_n (lv' := [(3, .int 1), (2, .int ((z33 - 256) - 8)), (0, .ref a_r), (1, .int p_d)]) hx hb dX4_readPart_83 rfl hl (by decide) rfl (fun ls hl => ?_)
            refine lv_iload_n hx hb dX4_readPart_84 rfl (lv_at hl 0 rfl) ?_
            refine lv_if_ne (tgt := 98) hx hb dX4_readPart_85 (by decide) (fun c_75 => ?_) (fun c_75 => ?_)
            ·
              refine lv_aload_n hx hb dX4_readPart_98 rfl (lv_at hl 2 rfl) ?_
              refine va_get (D := G.1) (ci := 4) (v := .int e_pa) (C := RX4) (T := TX4) (N := 8) hx hb hts inG_X4 hown hK hP 2 rfl rfl 5 (by decide) (hts _ fl_X4_39) (fun _ h9 => h9) rfl dX4_readPart_99 ?_
              refine lv_bipush (v := 50) hx hb dX4_readPart_102 (by decide) ?_
              refine lv_icmp_lt (tgt := 109) hx hb dX4_readPart_104 (by decide) (fun c_76 => ?_) (fun c_76 => ?_)
              ·
                have i_76 : e_pa.toInt < 50 := by have z := g5_lt (a := e_pa.toInt) (b := 50) (by rfl) (by decide) c_76; omega
                refine lv_aload_n hx hb dX4_readPart_109 rfl (lv_at hl 2 rfl) ?_
                refine lv_iload_n hx hb dX4_readPart_110 rfl (lv_at hl 0 rfl) ?_
                refine lv_if_eq (tgt := 118) hx hb dX4_readPart_111 (by decide) (fun c_77 => ?_) (fun c_77 => ?_)
                ·
                  exact absurd c_77 (by decide)
                ·
                  refine lv_iconst (v := 1) hx hb dX4_readPart_114 (by decide) ?_
                  refine lv_goto (tgt := 119) hx hb dX4_readPart_115 (by decide) ?_
                  refine lv_iload_n hx hb dX4_readPart_119 rfl (lv_at hl 0 rfl) ?_
                  refine lv_if_eq (tgt := 127) hx hb dX4_readPart_120 (by decide) (fun c_78 => ?_) (fun c_78 => ?_)
                  ·
                    exact absurd c_78 (by decide)
                  ·
                    refine lv_iload_n hx hb dX4_readPart_123 rfl (lv_at hl 1 rfl) ?_
                    refine lv_goto (tgt := 139) hx hb dX4_readPart_124 (by decide) ?_
                    obtain ⟨hPc, hDc, hFc⟩ := g5_sub3 (wc := [(a_r, (oc4 a_tk a_rh a_rs a_rc e_ln e_pa e_at e_fp)), (a_rc, (arI G 400 f_rc))]) hP hD hS hA [2, 1] (by decide) rfl
                    refine va_calli (va_runV (As := [.int 1, .int ((z33 - 256) - 8)]) (rest := []) ⟨hx, hb, hml, hown, hts⟩ (r_emit l G a_r a_rc a_tk a_rh a_rs H.size e_ln e_pa e_at e_fp 1 ((z33 - 256) - 8) f_rc h_e_ln h_e_pa h_e_at (e_cd) (wok_word (by omega) (by omega))) (cwV 2 hts gV_X4_79 rfl rfl rfl hv_X4_emit ⟨by simp only [headSpec]; omega, by simp only [headSpec]; omega⟩) (g5_preV hPc hK hDc hN hT hS hFc (ci := 4) (q0 := 0) rfl rfl) rfl rfl hl.1 rfl (lv_room (Nat.le_of_ble_eq_true rfl)) dX4_readPart_139 ⟨Nat.le_of_ble_eq_true rfl, Nat.le_of_ble_eq_true rfl⟩) hS (fun q _ h => hFc q h) hFc (fun r u t H1 locs ht hvm hw hB hz1 hk1 hS => ?_)
                    obtain ⟨hP1, hD1⟩ := hB
                    rw [ht] at hP1
                    obtain ⟨z84, z85, z86, i_79, i_80, i_81, i_82, i_83, y87, rfl⟩ := hw
                    have i_79 : -1 ≤ z84.toInt ∧ z84.toInt ≤ 399 := i_79
                    have i_80 : e_ln.toInt ≤ z85.toInt ∧ z85.toInt ≤ 400 := i_80
                    have i_81 : CDI z86 z85.toInt := i_81
                    have i_82 : OPK f_rc z86 e_ln.toInt := i_82
                    have i_83 : 0 ≤ z84.toInt → z84.toInt < z85.toInt ∧ z86 z84.toNatClampNeg = (((1 : Int32) <<< (12 &&& 31)) ||| ((z33 - 256) - 8)) := i_83
                    obtain ⟨hP, hD⟩ := va_join (wr := [(a_nm, (arI G 401 f_nm)), (a_tk, (oc8 a_kd a_nm a_pl)), (a_kd, (arI G 401 f_kd))]) hP hD [2, 1] [0, 3, 4] rfl rfl (by decide) (by decide) hk1 hFc hP1 hD1
                    generalize H1 = H at hP hS ⊢
                    refine g5_rs [(a_nm, (arI G 401 f_nm)), (a_tk, (oc8 a_kd a_nm a_pl)), (a_kd, (arI G 401 f_kd)), (a_r, (oc4 a_tk a_rh a_rs a_rc z85 e_pa e_at e_fp)), (a_rc, (arI G 400 z86))] hP hD (fun hP hD => ?_)
                    refine g5_ti (v := z84) y87 ?_
                    refine lv_pop hx hb dX4_readPart_142 rfl ?_
                    refine lv_aload_n hx hb dX4_readPart_143 rfl (lv_at hl 2 rfl) ?_
                    refine lv_dup hx hb dX4_readPart_144 rfl ?_
                    refine va_get (D := G.1) (ci := 4) (v := .int e_pa) (C := RX4) (T := TX4) (N := 8) hx hb hts inG_X4 hown hK hP 3 rfl rfl 5 (by decide) (hts _ fl_X4_39) (fun _ h9 => h9) rfl dX4_readPart_145 ?_
                    refine lv_iconst (v := 1) hx hb dX4_readPart_148 (by decide) ?_
                    refine lv_iadd hx hb dX4_readPart_149 ?_
                    have t_88 : (e_pa + 1).toInt = e_pa.toInt + 1 := g5_iadd (a := e_pa.toInt) (b := 1) (by rfl) (by decide) (by omega) (by omega)
                    refine va_put (D := G.1) (ci := 4) (v := .int (e_pa + 1)) (ty := .int) (C := RX4) (T := TX4) (N := 8) hx hb hts inG_X4 tyX4 tyX4_ok nmX4 hown hK hP hD hS 3 rfl rfl 5 (by decide) (hts _ fl_X4_39) (fun _ h9 => h9) rfl (by decide +kernel) rfl rfl (Nat.le_of_ble_eq_true rfl) dX4_readPart_150 (fun H locs hP hD hS => ?_)
                    refine g5_rs [(a_nm, (arI G 401 f_nm)), (a_tk, (oc8 a_kd a_nm a_pl)), (a_kd, (arI G 401 f_kd)), (a_r, (oc4 a_tk a_rh a_rs a_rc z85 (e_pa + 1) e_at e_fp)), (a_rc, (arI G 400 z86))] hP hD (fun hP hD => ?_)
                    refine lv_aload_n hx hb dX4_readPart_153 rfl (lv_at hl 2 rfl) ?_
                    refine lv_dup hx hb dX4_readPart_154 rfl ?_
                    refine va_get (D := G.1) (ci := 4) (v := .int e_at) (C := RX4) (T := TX4) (N := 8) hx hb hts inG_X4 hown hK hP 3 rfl rfl 6 (by decide) (hts _ fl_X4_42) (fun _ h9 => h9) rfl dX4_readPart_155 ?_
                    refine lv_iconst (v := 1) hx hb dX4_readPart_158 (by decide) ?_
                    refine lv_iadd hx hb dX4_readPart_159 ?_
                    have t_89 : (e_at + 1).toInt = e_at.toInt + 1 := g5_iadd (a := e_at.toInt) (b := 1) (by rfl) (by decide) (by omega) (by omega)
                    refine va_put (D := G.1) (ci := 4) (v := .int (e_at + 1)) (ty := .int) (C := RX4) (T := TX4) (N := 8) hx hb hts inG_X4 tyX4 tyX4_ok nmX4 hown hK hP hD hS 3 rfl rfl 6 (by decide) (hts _ fl_X4_42) (fun _ h9 => h9) rfl (by decide +kernel) rfl rfl (Nat.le_of_ble_eq_true rfl) dX4_readPart_160 (fun H locs hP hD hS => ?_)
                    refine g5_rs [(a_nm, (arI G 401 f_nm)), (a_tk, (oc8 a_kd a_nm a_pl)), (a_kd, (arI G 401 f_kd)), (a_r, (oc4 a_tk a_rh a_rs a_rc z85 (e_pa + 1) (e_at + 1) e_fp)), (a_rc, (arI G 400 z86))] hP hD (fun hP hD => ?_)
                    refine lv_iconst (v := 1) hx hb dX4_readPart_163 (by decide) ?_
                    exact W.zret (v := 1) hx hb hr rfl (fun t ht hW => ⟨⟨1, [(a_r, (oc4 a_tk a_rh a_rs a_rc z85 (e_pa + 1) (e_at + 1) e_fp)), (a_tk, (oc8 a_kd a_nm a_pl)), (a_kd, (arI G 401 f_kd)), (a_nm, (arI G 401 f_nm)), (a_rc, (arI G 400 z86))], rfl, ⟨1, z85, (e_pa + 1), (e_at + 1), z86, ⟨by have zc_o_r : (1 : Int32).toInt = 1 := (by decide); omega, by have zc_o_r : (1 : Int32).toInt = 1 := (by decide); omega⟩, ⟨by omega, by omega⟩, ⟨by omega, by omega⟩, ⟨by omega, by omega⟩, i_81, i_82, rfl, rfl⟩, by rw [ht]; exact hP.sub [3, 1, 2, 0, 4] rfl, hD.sub [3, 1, 2, 0, 4] (by decide) rfl⟩, hS.F ht⟩) hS.2.2 dX4_readPart_164
              ·
                have i_76 : e_pa.toInt ≥ 50 := by have z := g5_ltN (a := e_pa.toInt) (b := 50) (by rfl) (by decide) c_76; omega
                refine lv_iconst (v := 0) hx hb dX4_readPart_107 (by decide) ?_
                exact W.zret (v := 0) hx hb hr rfl (fun t ht hW => ⟨⟨0, [(a_r, (oc4 a_tk a_rh a_rs a_rc e_ln e_pa e_at e_fp)), (a_tk, (oc8 a_kd a_nm a_pl)), (a_kd, (arI G 401 f_kd)), (a_nm, (arI G 401 f_nm)), (a_rc, (arI G 400 f_rc))], rfl, ⟨0, e_ln, e_pa, e_at, f_rc, ⟨by have zc_o_r : (0 : Int32).toInt = 0 := (by decide); omega, by have zc_o_r : (0 : Int32).toInt = 0 := (by decide); omega⟩, ⟨by omega, by omega⟩, h_e_at, h_e_pa, e_cd, opk_refl, rfl, rfl⟩, by rw [ht]; exact hP.sub [2, 3, 4, 0, 1] rfl, hD.sub [2, 3, 4, 0, 1] (by decide) rfl⟩, hS.F ht⟩) hS.2.2 dX4_readPart_108
            ·
              exact absurd c_75 (by decide)
      ·
        obtain ⟨hP, hD⟩ := va_join (wr := [(a_nm, (arI G 401 f_nm)), (a_rc, (arI G 400 f_rc)), (a_r, (oc4 a_tk a_rh a_rs a_rc e_ln e_pa e_at e_fp))]) hP hD [3, 4] [0, 1, 2] rfl rfl (by decide) (by decide) hk1 hFc hP1 hD1
        generalize H1 = H at hP hS ⊢
        refine g5_rs [(a_nm, (arI G 401 f_nm)), (a_rc, (arI G 400 f_rc)), (a_r, (oc4 a_tk a_rh a_rs a_rc e_ln e_pa e_at e_fp)), (a_tk, (oc8 a_kd a_nm a_pl)), (a_kd, (arI G 401 f_kd))] hP hD (fun hP hD => ?_)
        refine lv_sipush (v := 256) hx hb dX4_readPart_60 (by decide) ?_
        refine lv_isub hx hb dX4_readPart_63 ?_
        refine g5_ti (v := 46) (by decide) ?_
        refine lv_bipush (v := 8) hx hb dX4_readPart_64 (by decide) ?_
        refine lv_isub hx hb dX4_readPart_66 ?_
        refine g5_ti (v := 38) (by decide) ?_
        refine lv_istore_n (lv' := [(2, .int 38), (0, .ref a_r), (1, .int p_d)]) hx hb dX4_readPart_67 rfl hl (by decide) rfl (fun ls hl => ?_)
        refine lv_iload_n hx hb dX4_readPart_68 rfl (lv_at hl 0 rfl) ?_
        refine lv_if_lt (tgt := 82) hx hb dX4_readPart_69 (by decide) (fun c_90 => ?_) (fun c_90 => ?_)
        ·
          exact absurd c_90 (by decide)
        ·
          refine lv_iload_n hx hb dX4_readPart_72 rfl (lv_at hl 0 rfl) ?_
          refine lv_bipush (v := 8) hx hb dX4_readPart_73 (by decide) ?_
          refine lv_icmp_ge (tgt := 82) hx hb dX4_readPart_75 (by decide) (fun c_91 => ?_) (fun c_91 => ?_)
          ·
            refine lv_iconst (v := 0) hx hb dX4_readPart_82 (by decide) ?_
            refine lv_istore_n (lv' := [(3, .int 0), (2, .int 38), (0, .ref a_r), (1, .int p_d)]) hx hb dX4_readPart_83 rfl hl (by decide) rfl (fun ls hl => ?_)
            refine lv_iload_n hx hb dX4_readPart_84 rfl (lv_at hl 0 rfl) ?_
            refine lv_if_ne (tgt := 98) hx hb dX4_readPart_85 (by decide) (fun c_92 => ?_) (fun c_92 => ?_)
            ·
              exact absurd c_92 (by decide)
            ·
              refine lv_aload_n hx hb dX4_readPart_88 rfl (lv_at hl 2 rfl) ?_
              refine lv_sipush (v := 300) hx hb dX4_readPart_89 (by decide) ?_
              obtain ⟨hPc, hDc, hFc⟩ := g5_sub3 (wc := [(a_r, (oc4 a_tk a_rh a_rs a_rc e_ln e_pa e_at e_fp)), (a_tk, (oc8 a_kd a_nm a_pl)), (a_kd, (arI G 401 f_kd))]) hP hD hS hA [2, 3, 4] (by decide) rfl
              refine va_calli (va_runV (As := [.int 300]) (rest := []) ⟨hx, hb, hml, hown, hts⟩ (r_isNext l G a_r a_tk a_kd a_rh a_rs a_rc a_nm a_pl H.size e_ln e_pa e_at e_fp 300 f_kd h_e_ln h_e_pa h_e_at) (cwV 1 hts gV_X4_49 rfl rfl rfl hv_X4_isNext ⟨by simp only [headSpec]; omega, by simp only [headSpec]; omega⟩) (g5_preV hPc hK hDc hN hT hS hFc (ci := 4) (q0 := 0) rfl rfl) rfl rfl hl.1 rfl (lv_room (Nat.le_of_ble_eq_true rfl)) dX4_readPart_92 ⟨Nat.le_of_ble_eq_true rfl, Nat.le_of_ble_eq_true rfl⟩) hS (fun q _ h => hFc q h) hFc (fun r u t H1 locs ht hvm hw hB hz1 hk1 hS => ?_)
              obtain ⟨hP1, hD1⟩ := hB
              rw [ht] at hP1
              rcases hw with ⟨i_93, i_94, rfl, rfl⟩ | ⟨rfl, rfl⟩
              ·
                have i_93 : e_at.toInt ≤ 400 := i_93
                have i_94 : f_kd e_at.toNatClampNeg = (300 : Int32) := i_94
                obtain ⟨hP, hD⟩ := va_join (wr := [(a_nm, (arI G 401 f_nm)), (a_rc, (arI G 400 f_rc))]) hP hD [2, 3, 4] [0, 1] rfl rfl (by decide) (by decide) hk1 hFc hP1 hD1
                generalize H1 = H at hP hS ⊢
                refine g5_rs [(a_nm, (arI G 401 f_nm)), (a_rc, (arI G 400 f_rc)), (a_r, (oc4 a_tk a_rh a_rs a_rc e_ln e_pa e_at e_fp)), (a_tk, (oc8 a_kd a_nm a_pl)), (a_kd, (arI G 401 f_kd))] hP hD (fun hP hD => ?_)
                refine lv_if_eq (tgt := 107) hx hb dX4_readPart_95 (by decide) (fun c_95 => ?_) (fun c_95 => ?_)
                ·
                  exact absurd c_95 (by decide)
                ·
                  refine lv_aload_n hx hb dX4_readPart_98 rfl (lv_at hl 2 rfl) ?_
                  refine va_get (D := G.1) (ci := 4) (v := .int e_pa) (C := RX4) (T := TX4) (N := 8) hx hb hts inG_X4 hown hK hP 2 rfl rfl 5 (by decide) (hts _ fl_X4_39) (fun _ h9 => h9) rfl dX4_readPart_99 ?_
                  refine lv_bipush (v := 50) hx hb dX4_readPart_102 (by decide) ?_
                  refine lv_icmp_lt (tgt := 109) hx hb dX4_readPart_104 (by decide) (fun c_96 => ?_) (fun c_96 => ?_)
                  ·
                    have i_96 : e_pa.toInt < 50 := by have z := g5_lt (a := e_pa.toInt) (b := 50) (by rfl) (by decide) c_96; omega
                    refine lv_aload_n hx hb dX4_readPart_109 rfl (lv_at hl 2 rfl) ?_
                    refine lv_iload_n hx hb dX4_readPart_110 rfl (lv_at hl 0 rfl) ?_
                    refine lv_if_eq (tgt := 118) hx hb dX4_readPart_111 (by decide) (fun c_97 => ?_) (fun c_97 => ?_)
                    ·
                      refine lv_iconst (v := 0) hx hb dX4_readPart_118 (by decide) ?_
                      refine lv_iload_n hx hb dX4_readPart_119 rfl (lv_at hl 0 rfl) ?_
                      refine lv_if_eq (tgt := 127) hx hb dX4_readPart_120 (by decide) (fun c_98 => ?_) (fun c_98 => ?_)
                      ·
                        refine lv_aload_n hx hb dX4_readPart_127 rfl (lv_at hl 2 rfl) ?_
                        refine va_get (D := G.1) (ci := 4) (v := .ref a_tk) (C := RX4) (T := TX4) (N := 8) hx hb hts inG_X4 hown hK hP 2 rfl rfl 0 (by decide) (hts _ fl_X4_12) (fun _ h9 => h9) rfl dX4_readPart_128 ?_
                        refine va_get (D := G.1) (ci := 8) (v := .ref a_nm) (C := RX8) (T := TX8) (N := 3) hx hb hts inG_X8 hown hK hP 3 rfl rfl 1 (by decide) (hts _ fl_X4_93) (fun _ h9 => h9) rfl dX4_readPart_131 ?_
                        refine lv_aload_n hx hb dX4_readPart_134 rfl (lv_at hl 2 rfl) ?_
                        refine va_get (D := G.1) (ci := 4) (v := .int e_at) (C := RX4) (T := TX4) (N := 8) hx hb hts inG_X4 hown hK hP 2 rfl rfl 6 (by decide) (hts _ fl_X4_42) (fun _ h9 => h9) rfl dX4_readPart_135 ?_
                        refine va_iald hx hb hK hP 0 0 rfl rfl (i := e_at) (vp_in_iff.mpr ⟨by omega, by omega⟩) dX4_readPart_138 ?_
                        obtain ⟨hPc, hDc, hFc⟩ := g5_sub3 (wc := [(a_r, (oc4 a_tk a_rh a_rs a_rc e_ln e_pa e_at e_fp)), (a_rc, (arI G 400 f_rc))]) hP hD hS hA [2, 1] (by decide) rfl
                        refine va_calli (va_runV (As := [.int 0, .int (f_nm e_at.toNatClampNeg)]) (rest := []) ⟨hx, hb, hml, hown, hts⟩ (r_emit l G a_r a_rc a_tk a_rh a_rs H.size e_ln e_pa e_at e_fp 0 (f_nm e_at.toNatClampNeg) f_rc h_e_ln h_e_pa h_e_at (e_cd) (wok_num (toki_num e_tk i_94))) (cwV 2 hts gV_X4_79 rfl rfl rfl hv_X4_emit ⟨by simp only [headSpec]; omega, by simp only [headSpec]; omega⟩) (g5_preV hPc hK hDc hN hT hS hFc (ci := 4) (q0 := 0) rfl rfl) rfl rfl hl.1 rfl (lv_room (Nat.le_of_ble_eq_true rfl)) dX4_readPart_139 ⟨Nat.le_of_ble_eq_true rfl, Nat.le_of_ble_eq_true rfl⟩) hS (fun q _ h => hFc q h) hFc (fun r u t H1 locs ht hvm hw hB hz1 hk1 hS => ?_)
                        obtain ⟨hP1, hD1⟩ := hB
                        rw [ht] at hP1
                        obtain ⟨z104, z105, z106, i_99, i_100, i_101, i_102, i_103, y107, rfl⟩ := hw
                        have i_99 : -1 ≤ z104.toInt ∧ z104.toInt ≤ 399 := i_99
                        have i_100 : e_ln.toInt ≤ z105.toInt ∧ z105.toInt ≤ 400 := i_100
                        have i_101 : CDI z106 z105.toInt := i_101
                        have i_102 : OPK f_rc z106 e_ln.toInt := i_102
                        have i_103 : 0 ≤ z104.toInt → z104.toInt < z105.toInt ∧ z106 z104.toNatClampNeg = (((0 : Int32) <<< (12 &&& 31)) ||| (f_nm e_at.toNatClampNeg)) := i_103
                        obtain ⟨hP, hD⟩ := va_join (wr := [(a_nm, (arI G 401 f_nm)), (a_tk, (oc8 a_kd a_nm a_pl)), (a_kd, (arI G 401 f_kd))]) hP hD [2, 1] [0, 3, 4] rfl rfl (by decide) (by decide) hk1 hFc hP1 hD1
                        generalize H1 = H at hP hS ⊢
                        refine g5_rs [(a_nm, (arI G 401 f_nm)), (a_tk, (oc8 a_kd a_nm a_pl)), (a_kd, (arI G 401 f_kd)), (a_r, (oc4 a_tk a_rh a_rs a_rc z105 e_pa e_at e_fp)), (a_rc, (arI G 400 z106))] hP hD (fun hP hD => ?_)
                        refine g5_ti (v := z104) y107 ?_
                        refine lv_pop hx hb dX4_readPart_142 rfl ?_
                        refine lv_aload_n hx hb dX4_readPart_143 rfl (lv_at hl 2 rfl) ?_
                        refine lv_dup hx hb dX4_readPart_144 rfl ?_
                        refine va_get (D := G.1) (ci := 4) (v := .int e_pa) (C := RX4) (T := TX4) (N := 8) hx hb hts inG_X4 hown hK hP 3 rfl rfl 5 (by decide) (hts _ fl_X4_39) (fun _ h9 => h9) rfl dX4_readPart_145 ?_
                        refine lv_iconst (v := 1) hx hb dX4_readPart_148 (by decide) ?_
                        refine lv_iadd hx hb dX4_readPart_149 ?_
                        have t_108 : (e_pa + 1).toInt = e_pa.toInt + 1 := g5_iadd (a := e_pa.toInt) (b := 1) (by rfl) (by decide) (by omega) (by omega)
                        refine va_put (D := G.1) (ci := 4) (v := .int (e_pa + 1)) (ty := .int) (C := RX4) (T := TX4) (N := 8) hx hb hts inG_X4 tyX4 tyX4_ok nmX4 hown hK hP hD hS 3 rfl rfl 5 (by decide) (hts _ fl_X4_39) (fun _ h9 => h9) rfl (by decide +kernel) rfl rfl (Nat.le_of_ble_eq_true rfl) dX4_readPart_150 (fun H locs hP hD hS => ?_)
                        refine g5_rs [(a_nm, (arI G 401 f_nm)), (a_tk, (oc8 a_kd a_nm a_pl)), (a_kd, (arI G 401 f_kd)), (a_r, (oc4 a_tk a_rh a_rs a_rc z105 (e_pa + 1) e_at e_fp)), (a_rc, (arI G 400 z106))] hP hD (fun hP hD => ?_)
                        refine lv_aload_n hx hb dX4_readPart_153 rfl (lv_at hl 2 rfl) ?_
                        refine lv_dup hx hb dX4_readPart_154 rfl ?_
                        refine va_get (D := G.1) (ci := 4) (v := .int e_at) (C := RX4) (T := TX4) (N := 8) hx hb hts inG_X4 hown hK hP 3 rfl rfl 6 (by decide) (hts _ fl_X4_42) (fun _ h9 => h9) rfl dX4_readPart_155 ?_
                        refine lv_iconst (v := 1) hx hb dX4_readPart_158 (by decide) ?_
                        refine lv_iadd hx hb dX4_readPart_159 ?_
                        have t_109 : (e_at + 1).toInt = e_at.toInt + 1 := g5_iadd (a := e_at.toInt) (b := 1) (by rfl) (by decide) (by omega) (by omega)
                        refine va_put (D := G.1) (ci := 4) (v := .int (e_at + 1)) (ty := .int) (C := RX4) (T := TX4) (N := 8) hx hb hts inG_X4 tyX4 tyX4_ok nmX4 hown hK hP hD hS 3 rfl rfl 6 (by decide) (hts _ fl_X4_42) (fun _ h9 => h9) rfl (by decide +kernel) rfl rfl (Nat.le_of_ble_eq_true rfl) dX4_readPart_160 (fun H locs hP hD hS => ?_)
                        refine g5_rs [(a_nm, (arI G 401 f_nm)), (a_tk, (oc8 a_kd a_nm a_pl)), (a_kd, (arI G 401 f_kd)), (a_r, (oc4 a_tk a_rh a_rs a_rc z105 (e_pa + 1) (e_at + 1) e_fp)), (a_rc, (arI G 400 z106))] hP hD (fun hP hD => ?_)
                        refine lv_iconst (v := 1) hx hb dX4_readPart_163 (by decide) ?_
                        exact W.zret (v := 1) hx hb hr rfl (fun t ht hW => ⟨⟨1, [(a_r, (oc4 a_tk a_rh a_rs a_rc z105 (e_pa + 1) (e_at + 1) e_fp)), (a_tk, (oc8 a_kd a_nm a_pl)), (a_kd, (arI G 401 f_kd)), (a_nm, (arI G 401 f_nm)), (a_rc, (arI G 400 z106))], rfl, ⟨1, z105, (e_pa + 1), (e_at + 1), z106, ⟨by have zc_o_r : (1 : Int32).toInt = 1 := (by decide); omega, by have zc_o_r : (1 : Int32).toInt = 1 := (by decide); omega⟩, ⟨by omega, by omega⟩, ⟨by omega, by omega⟩, ⟨by omega, by omega⟩, i_101, i_102, rfl, rfl⟩, by rw [ht]; exact hP.sub [3, 1, 2, 0, 4] rfl, hD.sub [3, 1, 2, 0, 4] (by decide) rfl⟩, hS.F ht⟩) hS.2.2 dX4_readPart_164
                      ·
                        exact absurd c_98 (by decide)
                    ·
                      exact absurd c_97 (by decide)
                  ·
                    have i_96 : e_pa.toInt ≥ 50 := by have z := g5_ltN (a := e_pa.toInt) (b := 50) (by rfl) (by decide) c_96; omega
                    refine lv_iconst (v := 0) hx hb dX4_readPart_107 (by decide) ?_
                    exact W.zret (v := 0) hx hb hr rfl (fun t ht hW => ⟨⟨0, [(a_r, (oc4 a_tk a_rh a_rs a_rc e_ln e_pa e_at e_fp)), (a_tk, (oc8 a_kd a_nm a_pl)), (a_kd, (arI G 401 f_kd)), (a_nm, (arI G 401 f_nm)), (a_rc, (arI G 400 f_rc))], rfl, ⟨0, e_ln, e_pa, e_at, f_rc, ⟨by have zc_o_r : (0 : Int32).toInt = 0 := (by decide); omega, by have zc_o_r : (0 : Int32).toInt = 0 := (by decide); omega⟩, ⟨by omega, by omega⟩, h_e_at, h_e_pa, e_cd, opk_refl, rfl, rfl⟩, by rw [ht]; exact hP.sub [2, 3, 4, 0, 1] rfl, hD.sub [2, 3, 4, 0, 1] (by decide) rfl⟩, hS.F ht⟩) hS.2.2 dX4_readPart_108
              ·
                obtain ⟨hP, hD⟩ := va_join (wr := [(a_nm, (arI G 401 f_nm)), (a_rc, (arI G 400 f_rc))]) hP hD [2, 3, 4] [0, 1] rfl rfl (by decide) (by decide) hk1 hFc hP1 hD1
                generalize H1 = H at hP hS ⊢
                refine g5_rs [(a_nm, (arI G 401 f_nm)), (a_rc, (arI G 400 f_rc)), (a_r, (oc4 a_tk a_rh a_rs a_rc e_ln e_pa e_at e_fp)), (a_tk, (oc8 a_kd a_nm a_pl)), (a_kd, (arI G 401 f_kd))] hP hD (fun hP hD => ?_)
                refine lv_if_eq (tgt := 107) hx hb dX4_readPart_95 (by decide) (fun c_110 => ?_) (fun c_110 => ?_)
                ·
                  refine lv_iconst (v := 0) hx hb dX4_readPart_107 (by decide) ?_
                  exact W.zret (v := 0) hx hb hr rfl (fun t ht hW => ⟨⟨0, [(a_r, (oc4 a_tk a_rh a_rs a_rc e_ln e_pa e_at e_fp)), (a_tk, (oc8 a_kd a_nm a_pl)), (a_kd, (arI G 401 f_kd)), (a_nm, (arI G 401 f_nm)), (a_rc, (arI G 400 f_rc))], rfl, ⟨0, e_ln, e_pa, e_at, f_rc, ⟨by have zc_o_r : (0 : Int32).toInt = 0 := (by decide); omega, by have zc_o_r : (0 : Int32).toInt = 0 := (by decide); omega⟩, ⟨by omega, by omega⟩, h_e_at, h_e_pa, e_cd, opk_refl, rfl, rfl⟩, by rw [ht]; exact hP.sub [2, 3, 4, 0, 1] rfl, hD.sub [2, 3, 4, 0, 1] (by decide) rfl⟩, hS.F ht⟩) hS.2.2 dX4_readPart_108
                ·
                  exact absurd c_110 (by decide)
          ·
            exact absurd c_91 (by decide)
    ·
      exact absurd c_31 (by decide)
theorem dgX4_readSum_0 : ∀ r ∈ ([(0, (.aload_n 0, 1)), (1, (.iload_n 1, 1)), (2, (.invokevirtual 90, 3)), (5, (.ifCond .ne 5, 3)), (8, (.iconst 0, 1)), (9, (.ireturn, 1)), (10, (.iconst (-1), 1)), (11, (.istore_n 2, 1)), (12, (.iconst 0, 1)), (13, (.istore_n 3, 1)), (14, (.iload_n 3, 1)), (15, (.sipush 400, 3)), (18, (.if_icmp .ge 153, 3)), (21, (.aload_n 0, 1)), (22, (.bipush 43, 2)), (24, (.invokevirtual 49, 3)), (27, (.ifCond .eq 7, 3)), (30, (.iconst 2, 1)), (31, (.goto 43, 3)), (34, (.aload_n 0, 1)), (35, (.bipush 45, 2)), (37, (.invokevirtual 49, 3)), (40, (.ifCond .eq 7, 3)), (43, (.iconst 3, 1)), (44, (.goto 30, 3)), (47, (.aload_n 0, 1)), (48, (.bipush 42, 2)), (50, (.invokevirtual 49, 3)), (53, (.ifCond .eq 7, 3)), (56, (.iconst 4, 1)), (57, (.goto 17, 3)), (60, (.aload_n 0, 1)), (61, (.bipush 47, 2)), (63, (.invokevirtual 49, 3)), (66, (.ifCond .eq 7, 3)), (69, (.iconst 5, 1)), (70, (.goto 4, 3)), (73, (.iconst (-1), 1)), (74, (.istore 4, 2)), (76, (.iload 4, 2))] : List (Nat × (Instr × Nat))), decode cX4_readSum r.1 = .ok r.2 := by decide +kernel
theorem dX4_readSum_0 : decode cX4_readSum 0 = .ok (.aload_n 0, 1) := dgX4_readSum_0 (0, (.aload_n 0, 1)) (List.mem_of_getElem? (i := 0) rfl)
theorem dX4_readSum_1 : decode cX4_readSum 1 = .ok (.iload_n 1, 1) := dgX4_readSum_0 (1, (.iload_n 1, 1)) (List.mem_of_getElem? (i := 1) rfl)
theorem dX4_readSum_2 : decode cX4_readSum 2 = .ok (.invokevirtual 90, 3) := dgX4_readSum_0 (2, (.invokevirtual 90, 3)) (List.mem_of_getElem? (i := 2) rfl)
theorem dX4_readSum_5 : decode cX4_readSum 5 = .ok (.ifCond .ne 5, 3) := dgX4_readSum_0 (5, (.ifCond .ne 5, 3)) (List.mem_of_getElem? (i := 3) rfl)
theorem dX4_readSum_8 : decode cX4_readSum 8 = .ok (.iconst 0, 1) := dgX4_readSum_0 (8, (.iconst 0, 1)) (List.mem_of_getElem? (i := 4) rfl)
theorem dX4_readSum_9 : decode cX4_readSum 9 = .ok (.ireturn, 1) := dgX4_readSum_0 (9, (.ireturn, 1)) (List.mem_of_getElem? (i := 5) rfl)
theorem dX4_readSum_10 : decode cX4_readSum 10 = .ok (.iconst (-1), 1) := dgX4_readSum_0 (10, (.iconst (-1), 1)) (List.mem_of_getElem? (i := 6) rfl)
theorem dX4_readSum_11 : decode cX4_readSum 11 = .ok (.istore_n 2, 1) := dgX4_readSum_0 (11, (.istore_n 2, 1)) (List.mem_of_getElem? (i := 7) rfl)
theorem dX4_readSum_12 : decode cX4_readSum 12 = .ok (.iconst 0, 1) := dgX4_readSum_0 (12, (.iconst 0, 1)) (List.mem_of_getElem? (i := 8) rfl)
theorem dX4_readSum_13 : decode cX4_readSum 13 = .ok (.istore_n 3, 1) := dgX4_readSum_0 (13, (.istore_n 3, 1)) (List.mem_of_getElem? (i := 9) rfl)
theorem dX4_readSum_14 : decode cX4_readSum 14 = .ok (.iload_n 3, 1) := dgX4_readSum_0 (14, (.iload_n 3, 1)) (List.mem_of_getElem? (i := 10) rfl)
theorem dX4_readSum_15 : decode cX4_readSum 15 = .ok (.sipush 400, 3) := dgX4_readSum_0 (15, (.sipush 400, 3)) (List.mem_of_getElem? (i := 11) rfl)
theorem dX4_readSum_18 : decode cX4_readSum 18 = .ok (.if_icmp .ge 153, 3) := dgX4_readSum_0 (18, (.if_icmp .ge 153, 3)) (List.mem_of_getElem? (i := 12) rfl)
theorem dX4_readSum_21 : decode cX4_readSum 21 = .ok (.aload_n 0, 1) := dgX4_readSum_0 (21, (.aload_n 0, 1)) (List.mem_of_getElem? (i := 13) rfl)
theorem dX4_readSum_22 : decode cX4_readSum 22 = .ok (.bipush 43, 2) := dgX4_readSum_0 (22, (.bipush 43, 2)) (List.mem_of_getElem? (i := 14) rfl)
theorem dX4_readSum_24 : decode cX4_readSum 24 = .ok (.invokevirtual 49, 3) := dgX4_readSum_0 (24, (.invokevirtual 49, 3)) (List.mem_of_getElem? (i := 15) rfl)
theorem dX4_readSum_27 : decode cX4_readSum 27 = .ok (.ifCond .eq 7, 3) := dgX4_readSum_0 (27, (.ifCond .eq 7, 3)) (List.mem_of_getElem? (i := 16) rfl)
theorem dX4_readSum_30 : decode cX4_readSum 30 = .ok (.iconst 2, 1) := dgX4_readSum_0 (30, (.iconst 2, 1)) (List.mem_of_getElem? (i := 17) rfl)
theorem dX4_readSum_31 : decode cX4_readSum 31 = .ok (.goto 43, 3) := dgX4_readSum_0 (31, (.goto 43, 3)) (List.mem_of_getElem? (i := 18) rfl)
theorem dX4_readSum_34 : decode cX4_readSum 34 = .ok (.aload_n 0, 1) := dgX4_readSum_0 (34, (.aload_n 0, 1)) (List.mem_of_getElem? (i := 19) rfl)
theorem dX4_readSum_35 : decode cX4_readSum 35 = .ok (.bipush 45, 2) := dgX4_readSum_0 (35, (.bipush 45, 2)) (List.mem_of_getElem? (i := 20) rfl)
theorem dX4_readSum_37 : decode cX4_readSum 37 = .ok (.invokevirtual 49, 3) := dgX4_readSum_0 (37, (.invokevirtual 49, 3)) (List.mem_of_getElem? (i := 21) rfl)
theorem dX4_readSum_40 : decode cX4_readSum 40 = .ok (.ifCond .eq 7, 3) := dgX4_readSum_0 (40, (.ifCond .eq 7, 3)) (List.mem_of_getElem? (i := 22) rfl)
theorem dX4_readSum_43 : decode cX4_readSum 43 = .ok (.iconst 3, 1) := dgX4_readSum_0 (43, (.iconst 3, 1)) (List.mem_of_getElem? (i := 23) rfl)
theorem dX4_readSum_44 : decode cX4_readSum 44 = .ok (.goto 30, 3) := dgX4_readSum_0 (44, (.goto 30, 3)) (List.mem_of_getElem? (i := 24) rfl)
theorem dX4_readSum_47 : decode cX4_readSum 47 = .ok (.aload_n 0, 1) := dgX4_readSum_0 (47, (.aload_n 0, 1)) (List.mem_of_getElem? (i := 25) rfl)
theorem dX4_readSum_48 : decode cX4_readSum 48 = .ok (.bipush 42, 2) := dgX4_readSum_0 (48, (.bipush 42, 2)) (List.mem_of_getElem? (i := 26) rfl)
theorem dX4_readSum_50 : decode cX4_readSum 50 = .ok (.invokevirtual 49, 3) := dgX4_readSum_0 (50, (.invokevirtual 49, 3)) (List.mem_of_getElem? (i := 27) rfl)
theorem dX4_readSum_53 : decode cX4_readSum 53 = .ok (.ifCond .eq 7, 3) := dgX4_readSum_0 (53, (.ifCond .eq 7, 3)) (List.mem_of_getElem? (i := 28) rfl)
theorem dX4_readSum_56 : decode cX4_readSum 56 = .ok (.iconst 4, 1) := dgX4_readSum_0 (56, (.iconst 4, 1)) (List.mem_of_getElem? (i := 29) rfl)
theorem dX4_readSum_57 : decode cX4_readSum 57 = .ok (.goto 17, 3) := dgX4_readSum_0 (57, (.goto 17, 3)) (List.mem_of_getElem? (i := 30) rfl)
theorem dX4_readSum_60 : decode cX4_readSum 60 = .ok (.aload_n 0, 1) := dgX4_readSum_0 (60, (.aload_n 0, 1)) (List.mem_of_getElem? (i := 31) rfl)
theorem dX4_readSum_61 : decode cX4_readSum 61 = .ok (.bipush 47, 2) := dgX4_readSum_0 (61, (.bipush 47, 2)) (List.mem_of_getElem? (i := 32) rfl)
theorem dX4_readSum_63 : decode cX4_readSum 63 = .ok (.invokevirtual 49, 3) := dgX4_readSum_0 (63, (.invokevirtual 49, 3)) (List.mem_of_getElem? (i := 33) rfl)
theorem dX4_readSum_66 : decode cX4_readSum 66 = .ok (.ifCond .eq 7, 3) := dgX4_readSum_0 (66, (.ifCond .eq 7, 3)) (List.mem_of_getElem? (i := 34) rfl)
theorem dX4_readSum_69 : decode cX4_readSum 69 = .ok (.iconst 5, 1) := dgX4_readSum_0 (69, (.iconst 5, 1)) (List.mem_of_getElem? (i := 35) rfl)
theorem dX4_readSum_70 : decode cX4_readSum 70 = .ok (.goto 4, 3) := dgX4_readSum_0 (70, (.goto 4, 3)) (List.mem_of_getElem? (i := 36) rfl)
theorem dX4_readSum_73 : decode cX4_readSum 73 = .ok (.iconst (-1), 1) := dgX4_readSum_0 (73, (.iconst (-1), 1)) (List.mem_of_getElem? (i := 37) rfl)
theorem dX4_readSum_74 : decode cX4_readSum 74 = .ok (.istore 4, 2) := dgX4_readSum_0 (74, (.istore 4, 2)) (List.mem_of_getElem? (i := 38) rfl)
theorem dX4_readSum_76 : decode cX4_readSum 76 = .ok (.iload 4, 2) := dgX4_readSum_0 (76, (.iload 4, 2)) (List.mem_of_getElem? (i := 39) rfl)
theorem dgX4_readSum_1 : ∀ r ∈ ([(78, (.iconst 2, 1)), (79, (.if_icmp .eq 9, 3)), (82, (.iload 4, 2)), (84, (.iconst 3, 1)), (85, (.if_icmp .ne 7, 3)), (88, (.iconst 1, 1)), (89, (.goto 4, 3)), (92, (.iconst 0, 1)), (93, (.istore 5, 2)), (95, (.iload_n 2, 1)), (96, (.iconst (-1), 1)), (97, (.if_icmp .eq 21, 3)), (100, (.iload 5, 2)), (102, (.ifCond .ne 9, 3)), (105, (.iload 4, 2)), (107, (.iconst (-1), 1)), (108, (.if_icmp .ne 10, 3)), (111, (.aload_n 0, 1)), (112, (.iload_n 2, 1)), (113, (.iconst 0, 1)), (114, (.invokevirtual 79, 3)), (117, (.pop, 1)), (118, (.iload 4, 2)), (120, (.iconst (-1), 1)), (121, (.if_icmp .ne 5, 3)), (124, (.iconst 1, 1)), (125, (.ireturn, 1)), (126, (.aload_n 0, 1)), (127, (.dup, 1)), (128, (.getfield 42, 3)), (131, (.iconst 1, 1)), (132, (.iadd, 1)), (133, (.putfield 42, 3)), (136, (.aload_n 0, 1)), (137, (.iload_n 1, 1)), (138, (.invokevirtual 90, 3)), (141, (.ifCond .ne 5, 3)), (144, (.iconst 0, 1)), (145, (.ireturn, 1)), (146, (.iload 5, 2))] : List (Nat × (Instr × Nat))), decode cX4_readSum r.1 = .ok r.2 := by decide +kernel
theorem dX4_readSum_78 : decode cX4_readSum 78 = .ok (.iconst 2, 1) := dgX4_readSum_1 (78, (.iconst 2, 1)) (List.mem_of_getElem? (i := 0) rfl)
theorem dX4_readSum_79 : decode cX4_readSum 79 = .ok (.if_icmp .eq 9, 3) := dgX4_readSum_1 (79, (.if_icmp .eq 9, 3)) (List.mem_of_getElem? (i := 1) rfl)
theorem dX4_readSum_82 : decode cX4_readSum 82 = .ok (.iload 4, 2) := dgX4_readSum_1 (82, (.iload 4, 2)) (List.mem_of_getElem? (i := 2) rfl)
theorem dX4_readSum_84 : decode cX4_readSum 84 = .ok (.iconst 3, 1) := dgX4_readSum_1 (84, (.iconst 3, 1)) (List.mem_of_getElem? (i := 3) rfl)
theorem dX4_readSum_85 : decode cX4_readSum 85 = .ok (.if_icmp .ne 7, 3) := dgX4_readSum_1 (85, (.if_icmp .ne 7, 3)) (List.mem_of_getElem? (i := 4) rfl)
theorem dX4_readSum_88 : decode cX4_readSum 88 = .ok (.iconst 1, 1) := dgX4_readSum_1 (88, (.iconst 1, 1)) (List.mem_of_getElem? (i := 5) rfl)
theorem dX4_readSum_89 : decode cX4_readSum 89 = .ok (.goto 4, 3) := dgX4_readSum_1 (89, (.goto 4, 3)) (List.mem_of_getElem? (i := 6) rfl)
theorem dX4_readSum_92 : decode cX4_readSum 92 = .ok (.iconst 0, 1) := dgX4_readSum_1 (92, (.iconst 0, 1)) (List.mem_of_getElem? (i := 7) rfl)
theorem dX4_readSum_93 : decode cX4_readSum 93 = .ok (.istore 5, 2) := dgX4_readSum_1 (93, (.istore 5, 2)) (List.mem_of_getElem? (i := 8) rfl)
theorem dX4_readSum_95 : decode cX4_readSum 95 = .ok (.iload_n 2, 1) := dgX4_readSum_1 (95, (.iload_n 2, 1)) (List.mem_of_getElem? (i := 9) rfl)
theorem dX4_readSum_96 : decode cX4_readSum 96 = .ok (.iconst (-1), 1) := dgX4_readSum_1 (96, (.iconst (-1), 1)) (List.mem_of_getElem? (i := 10) rfl)
theorem dX4_readSum_97 : decode cX4_readSum 97 = .ok (.if_icmp .eq 21, 3) := dgX4_readSum_1 (97, (.if_icmp .eq 21, 3)) (List.mem_of_getElem? (i := 11) rfl)
theorem dX4_readSum_100 : decode cX4_readSum 100 = .ok (.iload 5, 2) := dgX4_readSum_1 (100, (.iload 5, 2)) (List.mem_of_getElem? (i := 12) rfl)
theorem dX4_readSum_102 : decode cX4_readSum 102 = .ok (.ifCond .ne 9, 3) := dgX4_readSum_1 (102, (.ifCond .ne 9, 3)) (List.mem_of_getElem? (i := 13) rfl)
theorem dX4_readSum_105 : decode cX4_readSum 105 = .ok (.iload 4, 2) := dgX4_readSum_1 (105, (.iload 4, 2)) (List.mem_of_getElem? (i := 14) rfl)
theorem dX4_readSum_107 : decode cX4_readSum 107 = .ok (.iconst (-1), 1) := dgX4_readSum_1 (107, (.iconst (-1), 1)) (List.mem_of_getElem? (i := 15) rfl)
theorem dX4_readSum_108 : decode cX4_readSum 108 = .ok (.if_icmp .ne 10, 3) := dgX4_readSum_1 (108, (.if_icmp .ne 10, 3)) (List.mem_of_getElem? (i := 16) rfl)
theorem dX4_readSum_111 : decode cX4_readSum 111 = .ok (.aload_n 0, 1) := dgX4_readSum_1 (111, (.aload_n 0, 1)) (List.mem_of_getElem? (i := 17) rfl)
theorem dX4_readSum_112 : decode cX4_readSum 112 = .ok (.iload_n 2, 1) := dgX4_readSum_1 (112, (.iload_n 2, 1)) (List.mem_of_getElem? (i := 18) rfl)
theorem dX4_readSum_113 : decode cX4_readSum 113 = .ok (.iconst 0, 1) := dgX4_readSum_1 (113, (.iconst 0, 1)) (List.mem_of_getElem? (i := 19) rfl)
theorem dX4_readSum_114 : decode cX4_readSum 114 = .ok (.invokevirtual 79, 3) := dgX4_readSum_1 (114, (.invokevirtual 79, 3)) (List.mem_of_getElem? (i := 20) rfl)
theorem dX4_readSum_117 : decode cX4_readSum 117 = .ok (.pop, 1) := dgX4_readSum_1 (117, (.pop, 1)) (List.mem_of_getElem? (i := 21) rfl)
theorem dX4_readSum_118 : decode cX4_readSum 118 = .ok (.iload 4, 2) := dgX4_readSum_1 (118, (.iload 4, 2)) (List.mem_of_getElem? (i := 22) rfl)
theorem dX4_readSum_120 : decode cX4_readSum 120 = .ok (.iconst (-1), 1) := dgX4_readSum_1 (120, (.iconst (-1), 1)) (List.mem_of_getElem? (i := 23) rfl)
theorem dX4_readSum_121 : decode cX4_readSum 121 = .ok (.if_icmp .ne 5, 3) := dgX4_readSum_1 (121, (.if_icmp .ne 5, 3)) (List.mem_of_getElem? (i := 24) rfl)
theorem dX4_readSum_124 : decode cX4_readSum 124 = .ok (.iconst 1, 1) := dgX4_readSum_1 (124, (.iconst 1, 1)) (List.mem_of_getElem? (i := 25) rfl)
theorem dX4_readSum_125 : decode cX4_readSum 125 = .ok (.ireturn, 1) := dgX4_readSum_1 (125, (.ireturn, 1)) (List.mem_of_getElem? (i := 26) rfl)
theorem dX4_readSum_126 : decode cX4_readSum 126 = .ok (.aload_n 0, 1) := dgX4_readSum_1 (126, (.aload_n 0, 1)) (List.mem_of_getElem? (i := 27) rfl)
theorem dX4_readSum_127 : decode cX4_readSum 127 = .ok (.dup, 1) := dgX4_readSum_1 (127, (.dup, 1)) (List.mem_of_getElem? (i := 28) rfl)
theorem dX4_readSum_128 : decode cX4_readSum 128 = .ok (.getfield 42, 3) := dgX4_readSum_1 (128, (.getfield 42, 3)) (List.mem_of_getElem? (i := 29) rfl)
theorem dX4_readSum_131 : decode cX4_readSum 131 = .ok (.iconst 1, 1) := dgX4_readSum_1 (131, (.iconst 1, 1)) (List.mem_of_getElem? (i := 30) rfl)
theorem dX4_readSum_132 : decode cX4_readSum 132 = .ok (.iadd, 1) := dgX4_readSum_1 (132, (.iadd, 1)) (List.mem_of_getElem? (i := 31) rfl)
theorem dX4_readSum_133 : decode cX4_readSum 133 = .ok (.putfield 42, 3) := dgX4_readSum_1 (133, (.putfield 42, 3)) (List.mem_of_getElem? (i := 32) rfl)
theorem dX4_readSum_136 : decode cX4_readSum 136 = .ok (.aload_n 0, 1) := dgX4_readSum_1 (136, (.aload_n 0, 1)) (List.mem_of_getElem? (i := 33) rfl)
theorem dX4_readSum_137 : decode cX4_readSum 137 = .ok (.iload_n 1, 1) := dgX4_readSum_1 (137, (.iload_n 1, 1)) (List.mem_of_getElem? (i := 34) rfl)
theorem dX4_readSum_138 : decode cX4_readSum 138 = .ok (.invokevirtual 90, 3) := dgX4_readSum_1 (138, (.invokevirtual 90, 3)) (List.mem_of_getElem? (i := 35) rfl)
theorem dX4_readSum_141 : decode cX4_readSum 141 = .ok (.ifCond .ne 5, 3) := dgX4_readSum_1 (141, (.ifCond .ne 5, 3)) (List.mem_of_getElem? (i := 36) rfl)
theorem dX4_readSum_144 : decode cX4_readSum 144 = .ok (.iconst 0, 1) := dgX4_readSum_1 (144, (.iconst 0, 1)) (List.mem_of_getElem? (i := 37) rfl)
theorem dX4_readSum_145 : decode cX4_readSum 145 = .ok (.ireturn, 1) := dgX4_readSum_1 (145, (.ireturn, 1)) (List.mem_of_getElem? (i := 38) rfl)
theorem dX4_readSum_146 : decode cX4_readSum 146 = .ok (.iload 5, 2) := dgX4_readSum_1 (146, (.iload 5, 2)) (List.mem_of_getElem? (i := 39) rfl)
theorem dgX4_readSum_2 : ∀ r ∈ ([(148, (.ifCond .eq 9, 3)), (151, (.iload 4, 2)), (153, (.istore_n 2, 1)), (154, (.goto 11, 3)), (157, (.aload_n 0, 1)), (158, (.iload 4, 2)), (160, (.iconst 0, 1)), (161, (.invokevirtual 79, 3)), (164, (.pop, 1)), (165, (.iinc 3 1, 3)), (168, (.goto (-154), 3)), (171, (.iconst 0, 1)), (172, (.ireturn, 1))] : List (Nat × (Instr × Nat))), decode cX4_readSum r.1 = .ok r.2 := by decide +kernel
theorem dX4_readSum_148 : decode cX4_readSum 148 = .ok (.ifCond .eq 9, 3) := dgX4_readSum_2 (148, (.ifCond .eq 9, 3)) (List.mem_of_getElem? (i := 0) rfl)
theorem dX4_readSum_151 : decode cX4_readSum 151 = .ok (.iload 4, 2) := dgX4_readSum_2 (151, (.iload 4, 2)) (List.mem_of_getElem? (i := 1) rfl)
theorem dX4_readSum_153 : decode cX4_readSum 153 = .ok (.istore_n 2, 1) := dgX4_readSum_2 (153, (.istore_n 2, 1)) (List.mem_of_getElem? (i := 2) rfl)
theorem dX4_readSum_154 : decode cX4_readSum 154 = .ok (.goto 11, 3) := dgX4_readSum_2 (154, (.goto 11, 3)) (List.mem_of_getElem? (i := 3) rfl)
theorem dX4_readSum_157 : decode cX4_readSum 157 = .ok (.aload_n 0, 1) := dgX4_readSum_2 (157, (.aload_n 0, 1)) (List.mem_of_getElem? (i := 4) rfl)
theorem dX4_readSum_158 : decode cX4_readSum 158 = .ok (.iload 4, 2) := dgX4_readSum_2 (158, (.iload 4, 2)) (List.mem_of_getElem? (i := 5) rfl)
theorem dX4_readSum_160 : decode cX4_readSum 160 = .ok (.iconst 0, 1) := dgX4_readSum_2 (160, (.iconst 0, 1)) (List.mem_of_getElem? (i := 6) rfl)
theorem dX4_readSum_161 : decode cX4_readSum 161 = .ok (.invokevirtual 79, 3) := dgX4_readSum_2 (161, (.invokevirtual 79, 3)) (List.mem_of_getElem? (i := 7) rfl)
theorem dX4_readSum_164 : decode cX4_readSum 164 = .ok (.pop, 1) := dgX4_readSum_2 (164, (.pop, 1)) (List.mem_of_getElem? (i := 8) rfl)
theorem dX4_readSum_165 : decode cX4_readSum 165 = .ok (.iinc 3 1, 3) := dgX4_readSum_2 (165, (.iinc 3 1, 3)) (List.mem_of_getElem? (i := 9) rfl)
theorem dX4_readSum_168 : decode cX4_readSum 168 = .ok (.goto (-154), 3) := dgX4_readSum_2 (168, (.goto (-154), 3)) (List.mem_of_getElem? (i := 10) rfl)
theorem dX4_readSum_171 : decode cX4_readSum 171 = .ok (.iconst 0, 1) := dgX4_readSum_2 (171, (.iconst 0, 1)) (List.mem_of_getElem? (i := 11) rfl)
theorem dX4_readSum_172 : decode cX4_readSum 172 = .ok (.ireturn, 1) := dgX4_readSum_2 (172, (.ireturn, 1)) (List.mem_of_getElem? (i := 12) rfl)
theorem ml_X4_90 : Cond.methodLink RX4 90 yX4_readPart ∈ tblG := tg 728 (by decide +kernel) (by decide +kernel)
theorem im_X4_readPart : Cond.instanceMethod yX4_readPart ∈ tblG := tg 730 (by decide +kernel) (by decide +kernel)
theorem se_X4_readPart : Cond.selects RX4 yX4_readPart yX4_readPart ∈ tblG := tg 6 (by decide +kernel) (by decide +kernel)
theorem cd_X4_readPart : Cond.code yX4_readPart cX4_readPart 4 (some .boolean) ∈ tblG := tg 731 (by decide +kernel) (by decide +kernel)
theorem gW_X4_readPart : GoodIn tblG (wsG yX4_readPart cX4_readPart 4 (some .boolean)) := tgi cd_X4_readPart
theorem gV_X4_90 : GoodIn tblG (wsV RX4 90 RX4 yX4_readPart (wsG yX4_readPart cX4_readPart 4 (some .boolean))) := tgV ml_X4_90 im_X4_readPart se_X4_readPart ini_X4 gW_X4_readPart
theorem hv_X4_readPart : yX4_readPart.cls = RX4 ∧ yX4_readPart.cls ≠ "java/lang/invoke/MethodHandle" ∧ yX4_readPart.cls ≠ "java/lang/invoke/VarHandle" ∧ (parseMethodDescriptor yX4_readPart.desc).map (fun d => d.parameters.length) = some 1 := by decide +kernel
