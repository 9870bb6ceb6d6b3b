set_option maxHeartbeats 4000000 in
set_option maxRecDepth 100000 in
theorem r_sum (fr lo : Nat) (p_d : Int32) (h_p_d : 0 ≤ p_d.toInt ∧ p_d.toInt ≤ 8) (h_sum : ∀ x : Int32, x.toInt = p_d.toInt + 1 → p_d.toInt < 8 → ∀ (l : Launch) (G : g5_G) (a_r a_tk a_kd a_nm a_rc a_rh a_rs a_pl : Nat) (sz : Nat) (e_ln : Int32) (e_pa : Int32) (e_at : Int32) (e_fp : Int32) (f_kd : Nat → Int32) (f_nm : Nat → Int32) (f_rc : Nat → Int32) (h_e_ln : 0 ≤ e_ln.toInt ∧ e_ln.toInt ≤ 400) (h_e_pa : 0 ≤ e_pa.toInt ∧ e_pa.toInt ≤ 50) (h_e_at : 0 ≤ e_at.toInt ∧ e_at.toInt ≤ 401) (e_tk : TOKI f_kd f_nm) (e_cd : CDI f_rc e_ln.toInt), Met l yX4_readSum (wsG yX4_readSum cX4_readSum 6 (some .boolean)) ({ frames := fr + 0, cells := 0, slots := 0, locals := lo + 0 }) (va_Pc [.ref a_r, .int x] (g5_P G [(a_r, (oc4 a_tk a_rh a_rs a_rc e_ln e_pa e_at e_fp)), (a_tk, (oc8 a_kd a_nm a_pl)), (a_kd, (arI G 401 f_kd)), (a_nm, (arI G 401 f_nm)), (a_rc, (arI G 400 f_rc))] sz)) (va_Qi (fun (r : Int32) (u : va_W) => (∃ (o_r : Int32) (o_ln : Int32) (o_pa : Int32) (o_at : Int32) (o_rc : Nat → Int32), (0 ≤ o_r.toInt ∧ o_r.toInt ≤ 1) ∧ (e_ln.toInt ≤ o_ln.toInt ∧ o_ln.toInt ≤ 400) ∧ (0 ≤ o_at.toInt ∧ o_at.toInt ≤ 401) ∧ (0 ≤ o_pa.toInt ∧ o_pa.toInt ≤ 50) ∧ (CDI o_rc o_ln.toInt) ∧ (OPK f_rc o_rc e_ln.toInt) ∧ (r = o_r) ∧ (u = [(a_r, (oc4 a_tk a_rh a_rs a_rc o_ln o_pa o_at e_fp)), (a_tk, (oc8 a_kd a_nm a_pl)), (a_kd, (arI G 401 f_kd)), (a_nm, (arI G 401 f_nm)), (a_rc, (arI G 400 o_rc))]))) (g5_B G (va_A [(a_r, (oc4 a_tk a_rh a_rs a_rc e_ln e_pa e_at e_fp)), (a_tk, (oc8 a_kd a_nm a_pl)), (a_kd, (arI G 401 f_kd)), (a_nm, (arI G 401 f_nm)), (a_rc, (arI G 400 f_rc))] sz)) (va_A [(a_r, (oc4 a_tk a_rh a_rs a_rc e_ln e_pa e_at e_fp)), (a_tk, (oc8 a_kd a_nm a_pl)), (a_kd, (arI G 401 f_kd)), (a_nm, (arI G 401 f_nm)), (a_rc, (arI G 400 f_rc))] sz)) 0 0 (va_A [(a_r, (oc4 a_tk a_rh a_rs a_rc e_ln e_pa e_at e_fp)), (a_tk, (oc8 a_kd a_nm a_pl)), (a_kd, (arI G 401 f_kd)), (a_nm, (arI G 401 f_nm)), (a_rc, (arI G 400 f_rc))] sz)) (l : Launch) (G : g5_G) (a_r a_tk a_kd a_nm a_rc a_rh a_rs a_pl : Nat) (sz : Nat) (e_ln : Int32) (e_pa : Int32) (e_at : Int32) (e_fp : Int32) (f_kd : Nat → Int32) (f_nm : Nat → Int32) (f_rc : Nat → Int32) (h_e_ln : 0 ≤ e_ln.toInt ∧ e_ln.toInt ≤ 400) (h_e_pa : 0 ≤ e_pa.toInt ∧ e_pa.toInt ≤ 50) (h_e_at : 0 ≤ e_at.toInt ∧ e_at.toInt ≤ 401) (e_tk : TOKI f_kd f_nm) (e_cd : CDI f_rc e_ln.toInt) : Met l yX4_readSum (wsG yX4_readSum cX4_readSum 6 (some .boolean)) ({ frames := fr + 2, cells := 0, slots := 0, locals := lo + 48 }) (va_Pc [.ref a_r, .int p_d] (g5_P G [(a_r, (oc4 a_tk a_rh a_rs a_rc e_ln e_pa e_at e_fp)), (a_tk, (oc8 a_kd a_nm a_pl)), (a_kd, (arI G 401 f_kd)), (a_nm, (arI G 401 f_nm)), (a_rc, (arI G 400 f_rc))] sz)) (va_Qi (fun (r : Int32) (u : va_W) => (∃ (o_r : Int32) (o_ln : Int32) (o_pa : Int32) (o_at : Int32) (o_rc : Nat → Int32), (0 ≤ o_r.toInt ∧ o_r.toInt ≤ 1) ∧ (e_ln.toInt ≤ o_ln.toInt ∧ o_ln.toInt ≤ 400) ∧ (0 ≤ o_at.toInt ∧ o_at.toInt ≤ 401) ∧ (0 ≤ o_pa.toInt ∧ o_pa.toInt ≤ 50) ∧ (CDI o_rc o_ln.toInt) ∧ (OPK f_rc o_rc e_ln.toInt) ∧ (r = o_r) ∧ (u = [(a_r, (oc4 a_tk a_rh a_rs a_rc o_ln o_pa o_at e_fp)), (a_tk, (oc8 a_kd a_nm a_pl)), (a_kd, (arI G 401 f_kd)), (a_nm, (arI G 401 f_nm)), (a_rc, (arI G 400 o_rc))]))) (g5_B G (va_A [(a_r, (oc4 a_tk a_rh a_rs a_rc e_ln e_pa e_at e_fp)), (a_tk, (oc8 a_kd a_nm a_pl)), (a_kd, (arI G 401 f_kd)), (a_nm, (arI G 401 f_nm)), (a_rc, (arI G 400 f_rc))] sz)) (va_A [(a_r, (oc4 a_tk a_rh a_rs a_rc e_ln e_pa e_at e_fp)), (a_tk, (oc8 a_kd a_nm a_pl)), (a_kd, (arI G 401 f_kd)), (a_nm, (arI G 401 f_nm)), (a_rc, (arI G 400 f_rc))] sz)) 0 0 (va_A [(a_r, (oc4 a_tk a_rh a_rs a_rc e_ln e_pa e_at e_fp)), (a_tk, (oc8 a_kd a_nm a_pl)), (a_kd, (arI G 401 f_kd)), (a_nm, (arI G 401 f_nm)), (a_rc, (arI G 400 f_rc))] sz) := by
  refine Met.ofW (cc := cX4_readSum) (maxL := 6) (ret := (some .boolean)) (by decide) rfl ?_
  intro p e s m args below meth c s₁ B hml hv
  obtain ⟨rfl, hsz, hP, hK, hD0, hN, hT⟩ := hv
  have hx := B.exec
  have hb := B.bytes
  have hr := B.returns
  have hts : ∀ w ∈ tblG, w.before _ s = true := fun w h => atoms_spec (ws := (wsG yX4_readSum cX4_readSum 6 (some .boolean))) B.pre w (List.mem_cons_of_mem _ h)
  have hown : s.vm.findClass RX4 = some m.cls := findClass_of_methodNamed B.named
  have hlocks := B.notSynchronized
  subst hsz
  have hD := hD0.self (sz := s.heap.size)
  generalize hAe : va_A [(a_r, (oc4 a_tk a_rh a_rs a_rc e_ln e_pa e_at e_fp)), (a_tk, (oc8 a_kd a_nm a_pl)), (a_kd, (arI G 401 f_kd)), (a_nm, (arI G 401 f_nm)), (a_rc, (arI G 400 f_rc))] s.heap.size = A at hD hT ⊢
  have hA : ∀ q : Nat, s.heap.size ≤ q → A q := fun q h => by rw [← hAe]; exact Or.inr h
  have hS : va_S A s.heap s.heap [] := va_S.rf
  have hP : va_P G.1 vwCl [(a_r, (oc4 a_tk a_rh a_rs a_rc e_ln e_pa e_at e_fp)), (a_tk, (oc8 a_kd a_nm a_pl)), (a_kd, (arI G 401 f_kd)), (a_nm, (arI G 401 f_nm)), (a_rc, (arI G 400 f_rc))] s.heap := hP
  have hl := lv_entry ([.ref a_r, .int p_d]) (n := 6) (Nat.le_of_ble_eq_true rfl)
  rw [lg_entry_eq]
  generalize (lg_sl ([.ref a_r, .int p_d]) ++ List.replicate (6 - (lg_sl ([.ref a_r, .int p_d])).length) Slot.unset).toArray = ls at hl ⊢
  have hl : lv_has ls 6 [(0, .ref a_r), (1, .int p_d)] := hl
  refine lv_aload_n hx hb dX4_readSum_0 rfl (lv_at hl 0 rfl) ?_
  refine lv_iload_n hx hb dX4_readSum_1 rfl (lv_at hl 1 rfl) ?_
  obtain ⟨hPc, hDc, hFc⟩ := g5_sub3 (wc := [(a_r, (oc4 a_tk a_rh a_rs a_rc e_ln e_pa e_at e_fp)), (a_tk, (oc8 a_kd a_nm a_pl)), (a_kd, (arI G 401 f_kd)), (a_nm, (arI G 401 f_nm)), (a_rc, (arI G 400 f_rc))]) hP hD hS hA [0, 1, 2, 3, 4] (by decide) rfl
  refine va_calli (va_runV (As := [.int p_d]) (rest := []) ⟨hx, hb, hml, hown, hts⟩ ((r_part fr lo p_d h_p_d h_sum) l G a_r a_tk a_kd a_nm a_rc a_rh a_rs a_pl s.heap.size e_ln e_pa e_at e_fp f_kd f_nm f_rc h_e_ln h_e_pa h_e_at (e_tk) (e_cd)) (cwV 1 hts gV_X4_90 rfl rfl rfl hv_X4_readPart ⟨by simp only [headSpec]; omega, by simp only [headSpec]; omega⟩) (g5_preV hPc hK hDc hN hT hS hFc (ci := 4) (q0 := 0) rfl rfl) rfl rfl hl.1 rfl (lv_room (Nat.le_of_ble_eq_true rfl)) dX4_readSum_2 ⟨Nat.le_of_ble_eq_true rfl, Nat.le_of_ble_eq_true rfl⟩) hS (fun q _ h => hFc q h) hFc (fun r u t H1 locs ht hvm hw hB hz1 hk1 hS => ?_)
  obtain ⟨hP1, hD1⟩ := hB
  rw [ht] at hP1
  obtain ⟨z7, z8, z9, z10, z11, i_1, i_2, i_3, i_4, i_5, i_6, y12, rfl⟩ := hw
  have i_1 : 0 ≤ z7.toInt ∧ z7.toInt ≤ 1 := i_1
  have i_2 : e_ln.toInt ≤ z8.toInt ∧ z8.toInt ≤ 400 := i_2
  have i_3 : 0 ≤ z10.toInt ∧ z10.toInt ≤ 401 := i_3
  have i_4 : 0 ≤ z9.toInt ∧ z9.toInt ≤ 50 := i_4
  have i_5 : CDI z11 z8.toInt := i_5
  have i_6 : OPK f_rc z11 e_ln.toInt := i_6
  obtain ⟨hP, hD⟩ := va_join (wr := []) hP hD [0, 1, 2, 3, 4] [] rfl rfl (by decide) (by decide) hk1 hFc hP1 hD1
  generalize H1 = H at hP hS ⊢
  refine g5_rs [(a_r, (oc4 a_tk a_rh a_rs a_rc z8 z9 z10 e_fp)), (a_tk, (oc8 a_kd a_nm a_pl)), (a_kd, (arI G 401 f_kd)), (a_nm, (arI G 401 f_nm)), (a_rc, (arI G 400 z11))] hP hD (fun hP hD => ?_)
  refine g5_ti (v := z7) y12 ?_
  refine lv_if_ne (tgt := 10) hx hb dX4_readSum_5 (by decide) (fun c_13 => ?_) (fun c_13 => ?_)
  ·
    have n_13 : gNe (z7.toInt) (0) := by have z := g5_ne (a := z7.toInt) (b := 0) (by rfl) (by decide) c_13; unfold gNe; omega
    have i_13 : z7.toInt ≥ 1 := by have z := g5_ne (a := z7.toInt) (b := 0) (by rfl) (by decide) c_13; omega
    refine lv_iconst (v := (-1)) hx hb dX4_readSum_10 (by decide) ?_
    refine lv_istore_n (lv' := [(2, .int (-1)), (0, .ref a_r), (1, .int p_d)]) hx hb dX4_readSum_11 rfl hl (by decide) rfl (fun ls hl => ?_)
    refine lv_iconst (v := 0) hx hb dX4_readSum_12 (by decide) ?_
    refine lv_istore_n (lv' := [(3, .int 0), (2, .int (-1)), (0, .ref a_r), (1, .int p_d)]) hx hb dX4_readSum_13 rfl hl (by decide) rfl (fun ls hl => ?_)
    refine g5_loop (α := (Int32) × (Int32) × (Int32) × (Int32) × (Int32) × (Nat → Int32)) (fun (q : (Int32) × (Int32) × (Int32) × (Int32) × (Int32) × (Nat → Int32)) (ls : Array Slot) (H : Heap) (locs : List Loc) => match q with | (k_w, k_i, k_ln, k_pa, k_at, k_rc) => lv_has ls 6 [(2, .int k_w), (3, .int k_i), (0, .ref a_r), (1, .int p_d)] ∧ va_P G.1 vwCl [(a_r, (oc4 a_tk a_rh a_rs a_rc k_ln k_pa k_at e_fp)), (a_tk, (oc8 a_kd a_nm a_pl)), (a_kd, (arI G 401 f_kd)), (a_nm, (arI G 401 f_nm)), (a_rc, (arI G 400 k_rc))] H ∧ va_D A [(a_r, (oc4 a_tk a_rh a_rs a_rc k_ln k_pa k_at e_fp)), (a_tk, (oc8 a_kd a_nm a_pl)), (a_kd, (arI G 401 f_kd)), (a_nm, (arI G 401 f_nm)), (a_rc, (arI G 400 k_rc))] ∧ va_S A s.heap H locs ∧ ((-1) ≤ k_w.toInt ∧ k_w.toInt ≤ 3) ∧ (0 ≤ k_i.toInt ∧ k_i.toInt ≤ 400) ∧ (0 ≤ k_ln.toInt ∧ k_ln.toInt ≤ 400) ∧ (0 ≤ k_pa.toInt ∧ k_pa.toInt ≤ 50) ∧ (0 ≤ k_at.toInt ∧ k_at.toInt ≤ 401) ∧ (e_ln.toInt ≤ k_ln.toInt) ∧ (CDI k_rc k_ln.toInt) ∧ (OPK f_rc k_rc e_ln.toInt) ∧ (k_w.toInt = -1 ∨ k_w.toInt = 2 ∨ k_w.toInt = 3)) (fun (q : (Int32) × (Int32) × (Int32) × (Int32) × (Int32) × (Nat → Int32)) => match q with | (k_w, k_i, k_ln, k_pa, k_at, k_rc) => Int.toNat (400 - k_i.toInt)) ((-1), 0, z8, z9, z10, z11) ⟨lv_sub hl [1, 0, 2, 3] rfl, hP, hD, hS, ⟨by decide, by decide⟩, ⟨by decide, by decide⟩, ⟨by omega, by omega⟩, i_4, i_3, by omega, i_5, i_6, Or.inl (by decide)⟩ ?_
    rintro ⟨k_w, k_i, k_ln, k_pa, k_at, k_rc⟩ ls H locs ⟨hl, hP, hD, hS, i_14, i_15, i_16, i_17, i_18, i_19, i_20, i_21, i_22⟩ ih_14_23
    have hl : lv_has ls 6 [(2, .int k_w), (3, .int k_i), (0, .ref a_r), (1, .int p_d)] := hl
    have i_14 : (-1) ≤ k_w.toInt ∧ k_w.toInt ≤ 3 := i_14
    have i_15 : 0 ≤ k_i.toInt ∧ k_i.toInt ≤ 400 := i_15
    have i_16 : 0 ≤ k_ln.toInt ∧ k_ln.toInt ≤ 400 := i_16
    have i_17 : 0 ≤ k_pa.toInt ∧ k_pa.toInt ≤ 50 := i_17
    have i_18 : 0 ≤ k_at.toInt ∧ k_at.toInt ≤ 401 := i_18
    have i_19 : e_ln.toInt ≤ k_ln.toInt := i_19
    have i_20 : CDI k_rc k_ln.toInt := i_20
    have i_21 : OPK f_rc k_rc e_ln.toInt := i_21
    have i_22 : k_w.toInt = -1 ∨ k_w.toInt = 2 ∨ k_w.toInt = 3 := i_22
    refine g5_rs [(a_r, (oc4 a_tk a_rh a_rs a_rc k_ln k_pa k_at e_fp)), (a_tk, (oc8 a_kd a_nm a_pl)), (a_kd, (arI G 401 f_kd)), (a_nm, (arI G 401 f_nm)), (a_rc, (arI G 400 k_rc))] hP hD (fun hP hD => ?_)
    refine lv_iload_n hx hb dX4_readSum_14 rfl (lv_at hl 1 rfl) ?_
    refine lv_sipush (v := 400) hx hb dX4_readSum_15 (by decide) ?_
    refine lv_icmp_ge (tgt := 171) hx hb dX4_readSum_18 (by decide) (fun c_24 => ?_) (fun c_24 => ?_)
    ·
      have i_24 : k_i.toInt ≥ 400 := by have z := g5_ge (a := k_i.toInt) (b := 400) (by rfl) (by decide) c_24; omega
      refine lv_iconst (v := 0) hx hb dX4_readSum_171 (by decide) ?_
      exact W.zret (v := 0) hx hb hr rfl (fun t ht hW => ⟨⟨0, [(a_r, (oc4 a_tk a_rh a_rs a_rc k_ln k_pa k_at e_fp)), (a_tk, (oc8 a_kd a_nm a_pl)), (a_kd, (arI G 401 f_kd)), (a_nm, (arI G 401 f_nm)), (a_rc, (arI G 400 k_rc))], rfl, ⟨0, k_ln, k_pa, k_at, k_rc, ⟨by have zc_o_r : (0 : Int32).toInt = 0 := (by decide); omega, by have zc_o_r : (0 : Int32).toInt = 0 := (by decide); omega⟩, ⟨by omega, by omega⟩, i_18, i_17, i_20, i_21, rfl, rfl⟩, by rw [ht]; exact hP.sub [0, 1, 2, 3, 4] rfl, hD.sub [0, 1, 2, 3, 4] (by decide) rfl⟩, hS.F ht⟩) hS.2.2 dX4_readSum_172
    ·
      have i_24 : k_i.toInt < 400 := by have z := g5_geN (a := k_i.toInt) (b := 400) (by rfl) (by decide) c_24; omega
      refine lv_aload_n hx hb dX4_readSum_21 rfl (lv_at hl 2 rfl) ?_
      refine lv_bipush (v := 43) hx hb dX4_readSum_22 (by decide) ?_
      obtain ⟨hPc, hDc, hFc⟩ := g5_sub3 (wc := [(a_r, (oc4 a_tk a_rh a_rs a_rc k_ln k_pa k_at e_fp)), (a_tk, (oc8 a_kd a_nm a_pl)), (a_kd, (arI G 401 f_kd))]) hP hD hS hA [0, 1, 2] (by decide) rfl
      refine va_calli (va_runV (As := [.int 43]) (rest := []) ⟨hx, hb, hml, hown, hts⟩ (r_isNext l G a_r a_tk a_kd a_rh a_rs a_rc a_nm a_pl H.size k_ln k_pa k_at e_fp 43 f_kd i_16 i_17 i_18) (cwV 1 hts gV_X4_49 rfl rfl rfl hv_X4_isNext ⟨by simp only [headSpec]; omega, by simp only [headSpec]; omega⟩) (g5_preV hPc hK hDc hN hT hS hFc (ci := 4) (q0 := 0) rfl rfl) rfl rfl hl.1 rfl (lv_room (Nat.le_of_ble_eq_true rfl)) dX4_readSum_24 ⟨Nat.le_of_ble_eq_true rfl, Nat.le_of_ble_eq_true rfl⟩) hS (fun q _ h => hFc q h) hFc (fun r u t H1 locs ht hvm hw hB hz1 hk1 hS => ?_)
      obtain ⟨hP1, hD1⟩ := hB
      rw [ht] at hP1
      rcases hw with ⟨i_25, i_26, rfl, rfl⟩ | ⟨rfl, rfl⟩
      ·
        have i_25 : k_at.toInt ≤ 400 := i_25
        have i_26 : f_kd k_at.toNatClampNeg = (43 : Int32) := i_26
        obtain ⟨hP, hD⟩ := va_join (wr := [(a_nm, (arI G 401 f_nm)), (a_rc, (arI G 400 k_rc))]) hP hD [0, 1, 2] [3, 4] rfl rfl (by decide) (by decide) hk1 hFc hP1 hD1
        generalize H1 = H at hP hS ⊢
        refine g5_rs [(a_nm, (arI G 401 f_nm)), (a_rc, (arI G 400 k_rc)), (a_r, (oc4 a_tk a_rh a_rs a_rc k_ln k_pa k_at e_fp)), (a_tk, (oc8 a_kd a_nm a_pl)), (a_kd, (arI G 401 f_kd))] hP hD (fun hP hD => ?_)
        refine lv_if_eq (tgt := 34) hx hb dX4_readSum_27 (by decide) (fun c_27 => ?_) (fun c_27 => ?_)
        ·
          exact absurd c_27 (by decide)
        ·
          refine lv_iconst (v := 2) hx hb dX4_readSum_30 (by decide) ?_
          refine lv_goto (tgt := 74) hx hb dX4_readSum_31 (by decide) ?_
          refine lv_istore (lv' := [(4, .int 2), (2, .int k_w), (3, .int k_i), (0, .ref a_r), (1, .int p_d)]) hx hb dX4_readSum_74 hl (by decide) rfl (fun ls hl => ?_)
          refine lv_iload hx hb dX4_readSum_76 (lv_at hl 0 rfl) ?_
          refine lv_iconst (v := 2) hx hb dX4_readSum_78 (by decide) ?_
          refine lv_icmp_eq (tgt := 88) hx hb dX4_readSum_79 (by decide) (fun c_28 => ?_) (fun c_28 => ?_)
          ·
            refine lv_iconst (v := 1) hx hb dX4_readSum_88 (by decide) ?_
            refine lv_goto (tgt := 93) hx hb dX4_readSum_89 (by decide) ?_
            refine lv_istore (lv' := [(5, .int 1), (4, .int 2), (2, .int k_w), (3, .int k_i), (0, .ref a_r), (1, .int p_d)]) hx hb dX4_readSum_93 hl (by decide) rfl (fun ls hl => ?_)
            refine lv_iload_n hx hb dX4_readSum_95 rfl (lv_at hl 2 rfl) ?_
            refine lv_iconst (v := (-1)) hx hb dX4_readSum_96 (by decide) ?_
            refine lv_icmp_eq (tgt := 118) hx hb dX4_readSum_97 (by decide) (fun c_29 => ?_) (fun c_29 => ?_)
            ·
              have i_29 : k_w.toInt = (-1) := by have z := g5_eq (a := k_w.toInt) (b := (-1)) (by rfl) (by decide) c_29; omega
              refine lv_iload hx hb dX4_readSum_118 (lv_at hl 1 rfl) ?_
              refine lv_iconst (v := (-1)) hx hb dX4_readSum_120 (by decide) ?_
              refine lv_icmp_ne (tgt := 126) hx hb dX4_readSum_121 (by decide) (fun c_30 => ?_) (fun c_30 => ?_)
              ·
                refine lv_aload_n hx hb dX4_readSum_126 rfl (lv_at hl 4 rfl) ?_
                refine lv_dup hx hb dX4_readSum_127 rfl ?_
                refine va_get (D := G.1) (ci := 4) (v := .int k_at) (C := RX4) (T := TX4) (N := 8) hx hb hts inG_X4 hown hK hP 2 rfl rfl 6 (by decide) (hts _ fl_X4_42) (fun _ h9 => h9) rfl dX4_readSum_128 ?_
                refine lv_iconst (v := 1) hx hb dX4_readSum_131 (by decide) ?_
                refine lv_iadd hx hb dX4_readSum_132 ?_
                have t_31 : (k_at + 1).toInt = k_at.toInt + 1 := g5_iadd (a := k_at.toInt) (b := 1) (by rfl) (by decide) (by omega) (by omega)
                refine va_put (D := G.1) (ci := 4) (v := .int (k_at + 1)) (ty := .int) (C := RX4) (T := TX4) (N := 8) hx hb hts inG_X4 tyX4 tyX4_ok nmX4 hown hK hP hD hS 2 rfl rfl 6 (by decide) (hts _ fl_X4_42) (fun _ h9 => h9) rfl (by decide +kernel) rfl rfl (Nat.le_of_ble_eq_true rfl) dX4_readSum_133 (fun H locs hP hD hS => ?_)
                refine g5_rs [(a_nm, (arI G 401 f_nm)), (a_rc, (arI G 400 k_rc)), (a_r, (oc4 a_tk a_rh a_rs a_rc k_ln k_pa (k_at + 1) e_fp)), (a_tk, (oc8 a_kd a_nm a_pl)), (a_kd, (arI G 401 f_kd))] hP hD (fun hP hD => ?_)
                refine lv_aload_n hx hb dX4_readSum_136 rfl (lv_at hl 4 rfl) ?_
                refine lv_iload_n hx hb dX4_readSum_137 rfl (lv_at hl 5 rfl) ?_
                obtain ⟨hPc, hDc, hFc⟩ := g5_sub3 (wc := [(a_r, (oc4 a_tk a_rh a_rs a_rc k_ln k_pa (k_at + 1) e_fp)), (a_tk, (oc8 a_kd a_nm a_pl)), (a_kd, (arI G 401 f_kd)), (a_nm, (arI G 401 f_nm)), (a_rc, (arI G 400 k_rc))]) hP hD hS hA [2, 3, 4, 0, 1] (by decide) rfl
                refine va_calli (va_runV (As := [.int p_d]) (rest := []) ⟨hx, hb, hml, hown, hts⟩ ((r_part fr lo p_d h_p_d h_sum) l G a_r a_tk a_kd a_nm a_rc a_rh a_rs a_pl H.size k_ln k_pa (k_at + 1) e_fp f_kd f_nm k_rc i_16 i_17 ⟨by omega, by omega⟩ (e_tk) (i_20)) (cwV 1 hts gV_X4_90 rfl rfl rfl hv_X4_readPart ⟨by simp only [headSpec]; omega, by simp only [headSpec]; omega⟩) (g5_preV hPc hK hDc hN hT hS hFc (ci := 4) (q0 := 0) rfl rfl) rfl rfl hl.1 rfl (lv_room (Nat.le_of_ble_eq_true rfl)) dX4_readSum_138 ⟨Nat.le_of_ble_eq_true rfl, Nat.le_of_ble_eq_true rfl⟩) hS (fun q _ h => hFc q h) hFc (fun r u t H1 locs ht hvm hw hB hz1 hk1 hS => ?_)
                obtain ⟨hP1, hD1⟩ := hB
                rw [ht] at hP1
                obtain ⟨z38, z39, z40, z41, z42, i_32, i_33, i_34, i_35, i_36, i_37, y43, rfl⟩ := hw
                have i_32 : 0 ≤ z38.toInt ∧ z38.toInt ≤ 1 := i_32
                have i_33 : k_ln.toInt ≤ z39.toInt ∧ z39.toInt ≤ 400 := i_33
                have i_34 : 0 ≤ z41.toInt ∧ z41.toInt ≤ 401 := i_34
                have i_35 : 0 ≤ z40.toInt ∧ z40.toInt ≤ 50 := i_35
                have i_36 : CDI z42 z39.toInt := i_36
                have i_37 : OPK k_rc z42 k_ln.toInt := i_37
                obtain ⟨hP, hD⟩ := va_join (wr := []) hP hD [2, 3, 4, 0, 1] [] rfl rfl (by decide) (by decide) hk1 hFc hP1 hD1
                generalize H1 = H at hP hS ⊢
                refine g5_rs [(a_r, (oc4 a_tk a_rh a_rs a_rc z39 z40 z41 e_fp)), (a_tk, (oc8 a_kd a_nm a_pl)), (a_kd, (arI G 401 f_kd)), (a_nm, (arI G 401 f_nm)), (a_rc, (arI G 400 z42))] hP hD (fun hP hD => ?_)
                refine g5_ti (v := z38) y43 ?_
                refine lv_if_ne (tgt := 146) hx hb dX4_readSum_141 (by decide) (fun c_44 => ?_) (fun c_44 => ?_)
                ·
                  have n_44 : gNe (z38.toInt) (0) := by have z := g5_ne (a := z38.toInt) (b := 0) (by rfl) (by decide) c_44; unfold gNe; omega
                  have i_44 : z38.toInt ≥ 1 := by have z := g5_ne (a := z38.toInt) (b := 0) (by rfl) (by decide) c_44; omega
                  refine lv_iload hx hb dX4_readSum_146 (lv_at hl 0 rfl) ?_
                  refine lv_if_eq (tgt := 157) hx hb dX4_readSum_148 (by decide) (fun c_45 => ?_) (fun c_45 => ?_)
                  ·
                    exact absurd c_45 (by decide)
                  ·
                    refine lv_iload hx hb dX4_readSum_151 (lv_at hl 1 rfl) ?_
                    refine lv_istore_n (lv' := [(2, .int 2), (5, .int 1), (4, .int 2), (3, .int k_i), (0, .ref a_r), (1, .int p_d)]) hx hb dX4_readSum_153 rfl hl (by decide) rfl (fun ls hl => ?_)
                    refine lv_goto (tgt := 165) hx hb dX4_readSum_154 (by decide) ?_
                    refine lv_iinc (v := (k_i + 1)) (lv' := [(3, .int (k_i + 1)), (2, .int 2), (5, .int 1), (4, .int 2), (0, .ref a_r), (1, .int p_d)]) hx hb dX4_readSum_165 hl (k := 3) rfl rfl (by decide) rfl (fun ls hl => ?_)
                    have t_46 : (k_i + 1).toInt = k_i.toInt + 1 := g5_iadd (a := k_i.toInt) (b := 1) rfl (by decide) (by omega) (by omega)
                    refine lv_goto (tgt := 14) hx hb dX4_readSum_168 (by decide) ?_
                    exact ih_14_23 (2, (k_i + 1), z39, z40, z41, z42) ls H locs (show Int.toNat (400 - (k_i + 1).toInt) < Int.toNat (400 - k_i.toInt) from g_up (show k_i.toInt < (k_i + 1).toInt by omega) (show k_i.toInt < 400 by omega)) ⟨lv_sub hl [1, 0, 4, 5] rfl, hP, hD, hS, ⟨by decide, by decide⟩, ⟨by omega, by omega⟩, ⟨by omega, by omega⟩, i_35, i_34, by omega, i_36, opk_trans i_21 (i_37) (by omega), Or.inr (Or.inl (by decide))⟩
                ·
                  have i_44 : z38.toInt = 0 := by have z := g5_neN (a := z38.toInt) (b := 0) (by rfl) (by decide) c_44; omega
                  refine lv_iconst (v := 0) hx hb dX4_readSum_144 (by decide) ?_
                  exact W.zret (v := 0) hx hb hr rfl (fun t ht hW => ⟨⟨0, [(a_r, (oc4 a_tk a_rh a_rs a_rc z39 z40 z41 e_fp)), (a_tk, (oc8 a_kd a_nm a_pl)), (a_kd, (arI G 401 f_kd)), (a_nm, (arI G 401 f_nm)), (a_rc, (arI G 400 z42))], rfl, ⟨0, z39, z40, z41, z42, ⟨by have zc_o_r : (0 : Int32).toInt = 0 := (by decide); omega, by have zc_o_r : (0 : Int32).toInt = 0 := (by decide); omega⟩, ⟨by omega, by omega⟩, i_34, i_35, i_36, opk_trans i_21 (i_37) (by omega), rfl, rfl⟩, by rw [ht]; exact hP.sub [0, 1, 2, 3, 4] rfl, hD.sub [0, 1, 2, 3, 4] (by decide) rfl⟩, hS.F ht⟩) hS.2.2 dX4_readSum_145
              ·
                exact absurd c_30 (by decide)
            ·
              have n_29 : gNe (k_w.toInt) ((-1)) := by have z := g5_eqN (a := k_w.toInt) (b := (-1)) (by rfl) (by decide) c_29; unfold gNe; omega
              have i_29 : k_w.toInt ≥ 0 := by have z := g5_eqN (a := k_w.toInt) (b := (-1)) (by rfl) (by decide) c_29; omega
              refine lv_iload hx hb dX4_readSum_100 (lv_at hl 0 rfl) ?_
              refine lv_if_ne (tgt := 111) hx hb dX4_readSum_102 (by decide) (fun c_47 => ?_) (fun c_47 => ?_)
              ·
                refine lv_aload_n hx hb dX4_readSum_111 rfl (lv_at hl 4 rfl) ?_
                refine lv_iload_n hx hb dX4_readSum_112 rfl (lv_at hl 2 rfl) ?_
                refine lv_iconst (v := 0) hx hb dX4_readSum_113 (by decide) ?_
                obtain ⟨hPc, hDc, hFc⟩ := g5_sub3 (wc := [(a_r, (oc4 a_tk a_rh a_rs a_rc k_ln k_pa k_at e_fp)), (a_rc, (arI G 400 k_rc))]) hP hD hS hA [2, 1] (by decide) rfl
                refine va_calli (va_runV (As := [.int k_w, .int 0]) (rest := []) ⟨hx, hb, hml, hown, hts⟩ (r_emit l G a_r a_rc a_tk a_rh a_rs H.size k_ln k_pa k_at e_fp k_w 0 k_rc i_16 i_17 i_18 (i_20) (wok_wait (by rcases i_22 with q | q | q; exact absurd q n_29; exact Or.inl q; exact Or.inr q))) (cwV 2 hts gV_X4_79 rfl rfl rfl hv_X4_emit ⟨by simp only [headSpec]; omega, by simp only [headSpec]; omega⟩) (g5_preV hPc hK hDc hN hT hS hFc (ci := 4) (q0 := 0) rfl rfl) rfl rfl hl.1 rfl (lv_room (Nat.le_of_ble_eq_true rfl)) dX4_readSum_114 ⟨Nat.le_of_ble_eq_true rfl, Nat.le_of_ble_eq_true rfl⟩) hS (fun q _ h => hFc q h) hFc (fun r u t H1 locs ht hvm hw hB hz1 hk1 hS => ?_)
                obtain ⟨hP1, hD1⟩ := hB
                rw [ht] at hP1
                obtain ⟨z53, z54, z55, i_48, i_49, i_50, i_51, i_52, y56, rfl⟩ := hw
                have i_48 : -1 ≤ z53.toInt ∧ z53.toInt ≤ 399 := i_48
                have i_49 : k_ln.toInt ≤ z54.toInt ∧ z54.toInt ≤ 400 := i_49
                have i_50 : CDI z55 z54.toInt := i_50
                have i_51 : OPK k_rc z55 k_ln.toInt := i_51
                have i_52 : 0 ≤ z53.toInt → z53.toInt < z54.toInt ∧ z55 z53.toNatClampNeg = ((k_w <<< (12 &&& 31)) ||| (0 : Int32)) := i_52
                obtain ⟨hP, hD⟩ := va_join (wr := [(a_nm, (arI G 401 f_nm)), (a_tk, (oc8 a_kd a_nm a_pl)), (a_kd, (arI G 401 f_kd))]) hP hD [2, 1] [0, 3, 4] rfl rfl (by decide) (by decide) hk1 hFc hP1 hD1
                generalize H1 = H at hP hS ⊢
                refine g5_rs [(a_nm, (arI G 401 f_nm)), (a_tk, (oc8 a_kd a_nm a_pl)), (a_kd, (arI G 401 f_kd)), (a_r, (oc4 a_tk a_rh a_rs a_rc z54 k_pa k_at e_fp)), (a_rc, (arI G 400 z55))] hP hD (fun hP hD => ?_)
                refine g5_ti (v := z53) y56 ?_
                refine lv_pop hx hb dX4_readSum_117 rfl ?_
                refine lv_iload hx hb dX4_readSum_118 (lv_at hl 1 rfl) ?_
                refine lv_iconst (v := (-1)) hx hb dX4_readSum_120 (by decide) ?_
                refine lv_icmp_ne (tgt := 126) hx hb dX4_readSum_121 (by decide) (fun c_57 => ?_) (fun c_57 => ?_)
                ·
                  refine lv_aload_n hx hb dX4_readSum_126 rfl (lv_at hl 4 rfl) ?_
                  refine lv_dup hx hb dX4_readSum_127 rfl ?_
                  refine va_get (D := G.1) (ci := 4) (v := .int k_at) (C := RX4) (T := TX4) (N := 8) hx hb hts inG_X4 hown hK hP 3 rfl rfl 6 (by decide) (hts _ fl_X4_42) (fun _ h9 => h9) rfl dX4_readSum_128 ?_
                  refine lv_iconst (v := 1) hx hb dX4_readSum_131 (by decide) ?_
                  refine lv_iadd hx hb dX4_readSum_132 ?_
                  have t_58 : (k_at + 1).toInt = k_at.toInt + 1 := g5_iadd (a := k_at.toInt) (b := 1) (by rfl) (by decide) (by omega) (by omega)
                  refine va_put (D := G.1) (ci := 4) (v := .int (k_at + 1)) (ty := .int) (C := RX4) (T := TX4) (N := 8) hx hb hts inG_X4 tyX4 tyX4_ok nmX4 hown hK hP hD hS 3 rfl rfl 6 (by decide) (hts _ fl_X4_42) (fun _ h9 => h9) rfl (by decide +kernel) rfl rfl (Nat.le_of_ble_eq_true rfl) dX4_readSum_133 (fun H locs hP hD hS => ?_)
                  refine g5_rs [(a_nm, (arI G 401 f_nm)), (a_tk, (oc8 a_kd a_nm a_pl)), (a_kd, (arI G 401 f_kd)), (a_r, (oc4 a_tk a_rh a_rs a_rc z54 k_pa (k_at + 1) e_fp)), (a_rc, (arI G 400 z55))] hP hD (fun hP hD => ?_)
                  refine lv_aload_n hx hb dX4_readSum_136 rfl (lv_at hl 4 rfl) ?_
                  refine lv_iload_n hx hb dX4_readSum_137 rfl (lv_at hl 5 rfl) ?_
                  obtain ⟨hPc, hDc, hFc⟩ := g5_sub3 (wc := [(a_r, (oc4 a_tk a_rh a_rs a_rc z54 k_pa (k_at + 1) e_fp)), (a_tk, (oc8 a_kd a_nm a_pl)), (a_kd, (arI G 401 f_kd)), (a_nm, (arI G 401 f_nm)), (a_rc, (arI G 400 z55))]) hP hD hS hA [3, 1, 2, 0, 4] (by decide) rfl
                  refine va_calli (va_runV (As := [.int p_d]) (rest := []) ⟨hx, hb, hml, hown, hts⟩ ((r_part fr lo p_d h_p_d h_sum) l G a_r a_tk a_kd a_nm a_rc a_rh a_rs a_pl H.size z54 k_pa (k_at + 1) e_fp f_kd f_nm z55 ⟨by omega, by omega⟩ i_17 ⟨by omega, by omega⟩ (e_tk) (i_50)) (cwV 1 hts gV_X4_90 rfl rfl rfl hv_X4_readPart ⟨by simp only [headSpec]; omega, by simp only [headSpec]; omega⟩) (g5_preV hPc hK hDc hN hT hS hFc (ci := 4) (q0 := 0) rfl rfl) rfl rfl hl.1 rfl (lv_room (Nat.le_of_ble_eq_true rfl)) dX4_readSum_138 ⟨Nat.le_of_ble_eq_true rfl, Nat.le_of_ble_eq_true rfl⟩) hS (fun q _ h => hFc q h) hFc (fun r u t H1 locs ht hvm hw hB hz1 hk1 hS => ?_)
                  obtain ⟨hP1, hD1⟩ := hB
                  rw [ht] at hP1
                  obtain ⟨z65, z66, z67, z68, z69, i_59, i_60, i_61, i_62, i_63, i_64, y70, rfl⟩ := hw
                  have i_59 : 0 ≤ z65.toInt ∧ z65.toInt ≤ 1 := i_59
                  have i_60 : z54.toInt ≤ z66.toInt ∧ z66.toInt ≤ 400 := i_60
                  have i_61 : 0 ≤ z68.toInt ∧ z68.toInt ≤ 401 := i_61
                  have i_62 : 0 ≤ z67.toInt ∧ z67.toInt ≤ 50 := i_62
                  have i_63 : CDI z69 z66.toInt := i_63
                  have i_64 : OPK z55 z69 z54.toInt := i_64
                  obtain ⟨hP, hD⟩ := va_join (wr := []) hP hD [3, 1, 2, 0, 4] [] rfl rfl (by decide) (by decide) hk1 hFc hP1 hD1
                  generalize H1 = H at hP hS ⊢
                  refine g5_rs [(a_r, (oc4 a_tk a_rh a_rs a_rc z66 z67 z68 e_fp)), (a_tk, (oc8 a_kd a_nm a_pl)), (a_kd, (arI G 401 f_kd)), (a_nm, (arI G 401 f_nm)), (a_rc, (arI G 400 z69))] hP hD (fun hP hD => ?_)
                  refine g5_ti (v := z65) y70 ?_
                  refine lv_if_ne (tgt := 146) hx hb dX4_readSum_141 (by decide) (fun c_71 => ?_) (fun c_71 => ?_)
                  ·
                    have n_71 : gNe (z65.toInt) (0) := by have z := g5_ne (a := z65.toInt) (b := 0) (by rfl) (by decide) c_71; unfold gNe; omega
                    have i_71 : z65.toInt ≥ 1 := by have z := g5_ne (a := z65.toInt) (b := 0) (by rfl) (by decide) c_71; omega
                    refine lv_iload hx hb dX4_readSum_146 (lv_at hl 0 rfl) ?_
                    refine lv_if_eq (tgt := 157) hx hb dX4_readSum_148 (by decide) (fun c_72 => ?_) (fun c_72 => ?_)
                    ·
                      exact absurd c_72 (by decide)
                    ·
                      refine lv_iload hx hb dX4_readSum_151 (lv_at hl 1 rfl) ?_
                      refine lv_istore_n (lv' := [(2, .int 2), (5, .int 1), (4, .int 2), (3, .int k_i), (0, .ref a_r), (1, .int p_d)]) hx hb dX4_readSum_153 rfl hl (by decide) rfl (fun ls hl => ?_)
                      refine lv_goto (tgt := 165) hx hb dX4_readSum_154 (by decide) ?_
                      refine lv_iinc (v := (k_i + 1)) (lv' := [(3, .int (k_i + 1)), (2, .int 2), (5, .int 1), (4, .int 2), (0, .ref a_r), (1, .int p_d)]) hx hb dX4_readSum_165 hl (k := 3) rfl rfl (by decide) rfl (fun ls hl => ?_)
                      have t_73 : (k_i + 1).toInt = k_i.toInt + 1 := g5_iadd (a := k_i.toInt) (b := 1) rfl (by decide) (by omega) (by omega)
                      refine lv_goto (tgt := 14) hx hb dX4_readSum_168 (by decide) ?_
                      exact ih_14_23 (2, (k_i + 1), z66, z67, z68, z69) ls H locs (show Int.toNat (400 - (k_i + 1).toInt) < Int.toNat (400 - k_i.toInt) from g_up (show k_i.toInt < (k_i + 1).toInt by omega) (show k_i.toInt < 400 by omega)) ⟨lv_sub hl [1, 0, 4, 5] rfl, hP, hD, hS, ⟨by decide, by decide⟩, ⟨by omega, by omega⟩, ⟨by omega, by omega⟩, i_62, i_61, by omega, i_63, opk_trans i_21 (opk_trans i_51 (i_64) (by omega)) (by omega), Or.inr (Or.inl (by decide))⟩
                  ·
                    have i_71 : z65.toInt = 0 := by have z := g5_neN (a := z65.toInt) (b := 0) (by rfl) (by decide) c_71; omega
                    refine lv_iconst (v := 0) hx hb dX4_readSum_144 (by decide) ?_
                    exact W.zret (v := 0) hx hb hr rfl (fun t ht hW => ⟨⟨0, [(a_r, (oc4 a_tk a_rh a_rs a_rc z66 z67 z68 e_fp)), (a_tk, (oc8 a_kd a_nm a_pl)), (a_kd, (arI G 401 f_kd)), (a_nm, (arI G 401 f_nm)), (a_rc, (arI G 400 z69))], rfl, ⟨0, z66, z67, z68, z69, ⟨by have zc_o_r : (0 : Int32).toInt = 0 := (by decide); omega, by have zc_o_r : (0 : Int32).toInt = 0 := (by decide); omega⟩, ⟨by omega, by omega⟩, i_61, i_62, i_63, opk_trans i_21 (opk_trans i_51 (i_64) (by omega)) (by omega), rfl, rfl⟩, by rw [ht]; exact hP.sub [0, 1, 2, 3, 4] rfl, hD.sub [0, 1, 2, 3, 4] (by decide) rfl⟩, hS.F ht⟩) hS.2.2 dX4_readSum_145
                ·
                  exact absurd c_57 (by decide)
              ·
                exact absurd c_47 (by decide)
          ·
            exact absurd c_28 (by decide)
      ·
        obtain ⟨hP, hD⟩ := va_join (wr := [(a_nm, (arI G 401 f_nm)), (a_rc, (arI G 400 k_rc))]) hP hD [0, 1, 2] [3, 4] rfl rfl (by decide) (by decide) hk1 hFc hP1 hD1
        generalize H1 = H at hP hS ⊢
        refine g5_rs [(a_nm, (arI G 401 f_nm)), (a_rc, (arI G 400 k_rc)), (a_r, (oc4 a_tk a_rh a_rs a_rc k_ln k_pa k_at e_fp)), (a_tk, (oc8 a_kd a_nm a_pl)), (a_kd, (arI G 401 f_kd))] hP hD (fun hP hD => ?_)
        refine lv_if_eq (tgt := 34) hx hb dX4_readSum_27 (by decide) (fun c_74 => ?_) (fun c_74 => ?_)
        ·
          refine lv_aload_n hx hb dX4_readSum_34 rfl (lv_at hl 2 rfl) ?_
          refine lv_bipush (v := 45) hx hb dX4_readSum_35 (by decide) ?_
          obtain ⟨hPc, hDc, hFc⟩ := g5_sub3 (wc := [(a_r, (oc4 a_tk a_rh a_rs a_rc k_ln k_pa k_at e_fp)), (a_tk, (oc8 a_kd a_nm a_pl)), (a_kd, (arI G 401 f_kd))]) hP hD hS hA [2, 3, 4] (by decide) rfl
          refine va_calli (va_runV (As := [.int 45]) (rest := []) ⟨hx, hb, hml, hown, hts⟩ (r_isNext l G a_r a_tk a_kd a_rh a_rs a_rc a_nm a_pl H.size k_ln k_pa k_at e_fp 45 f_kd i_16 i_17 i_18) (cwV 1 hts gV_X4_49 rfl rfl rfl hv_X4_isNext ⟨by simp only [headSpec]; omega, by simp only [headSpec]; omega⟩) (g5_preV hPc hK hDc hN hT hS hFc (ci := 4) (q0 := 0) rfl rfl) rfl rfl hl.1 rfl (lv_room (Nat.le_of_ble_eq_true rfl)) dX4_readSum_37 ⟨Nat.le_of_ble_eq_true rfl, Nat.le_of_ble_eq_true rfl⟩) hS (fun q _ h => hFc q h) hFc (fun r u t H1 locs ht hvm hw hB hz1 hk1 hS => ?_)
          obtain ⟨hP1, hD1⟩ := hB
          rw [ht] at hP1
          rcases hw with ⟨i_75, i_76, rfl, rfl⟩ | ⟨rfl, rfl⟩
          ·
            have i_75 : k_at.toInt ≤ 400 := i_75
            have i_76 : f_kd k_at.toNatClampNeg = (45 : Int32) := i_76
            obtain ⟨hP, hD⟩ := va_join (wr := [(a_nm, (arI G 401 f_nm)), (a_rc, (arI G 400 k_rc))]) hP hD [2, 3, 4] [0, 1] rfl rfl (by decide) (by decide) hk1 hFc hP1 hD1
            generalize H1 = H at hP hS ⊢
            refine g5_rs [(a_nm, (arI G 401 f_nm)), (a_rc, (arI G 400 k_rc)), (a_r, (oc4 a_tk a_rh a_rs a_rc k_ln k_pa k_at e_fp)), (a_tk, (oc8 a_kd a_nm a_pl)), (a_kd, (arI G 401 f_kd))] hP hD (fun hP hD => ?_)
            refine lv_if_eq (tgt := 47) hx hb dX4_readSum_40 (by decide) (fun c_77 => ?_) (fun c_77 => ?_)
            ·
              exact absurd c_77 (by decide)
            ·
              refine lv_iconst (v := 3) hx hb dX4_readSum_43 (by decide) ?_
              refine lv_goto (tgt := 74) hx hb dX4_readSum_44 (by decide) ?_
              refine lv_istore (lv' := [(4, .int 3), (2, .int k_w), (3, .int k_i), (0, .ref a_r), (1, .int p_d)]) hx hb dX4_readSum_74 hl (by decide) rfl (fun ls hl => ?_)
              refine lv_iload hx hb dX4_readSum_76 (lv_at hl 0 rfl) ?_
              refine lv_iconst (v := 2) hx hb dX4_readSum_78 (by decide) ?_
              refine lv_icmp_eq (tgt := 88) hx hb dX4_readSum_79 (by decide) (fun c_78 => ?_) (fun c_78 => ?_)
              ·
                exact absurd c_78 (by decide)
              ·
                refine lv_iload hx hb dX4_readSum_82 (lv_at hl 0 rfl) ?_
                refine lv_iconst (v := 3) hx hb dX4_readSum_84 (by decide) ?_
                refine lv_icmp_ne (tgt := 92) hx hb dX4_readSum_85 (by decide) (fun c_79 => ?_) (fun c_79 => ?_)
                ·
                  exact absurd c_79 (by decide)
                ·
                  refine lv_iconst (v := 1) hx hb dX4_readSum_88 (by decide) ?_
                  refine lv_goto (tgt := 93) hx hb dX4_readSum_89 (by decide) ?_
                  refine lv_istore (lv' := [(5, .int 1), (4, .int 3), (2, .int k_w), (3, .int k_i), (0, .ref a_r), (1, .int p_d)]) hx hb dX4_readSum_93 hl (by decide) rfl (fun ls hl => ?_)
                  refine lv_iload_n hx hb dX4_readSum_95 rfl (lv_at hl 2 rfl) ?_
                  refine lv_iconst (v := (-1)) hx hb dX4_readSum_96 (by decide) ?_
                  refine lv_icmp_eq (tgt := 118) hx hb dX4_readSum_97 (by decide) (fun c_80 => ?_) (fun c_80 => ?_)
                  ·
                    have i_80 : k_w.toInt = (-1) := by have z := g5_eq (a := k_w.toInt) (b := (-1)) (by rfl) (by decide) c_80; omega
                    refine lv_iload hx hb dX4_readSum_118 (lv_at hl 1 rfl) ?_
                    refine lv_iconst (v := (-1)) hx hb dX4_readSum_120 (by decide) ?_
                    refine lv_icmp_ne (tgt := 126) hx hb dX4_readSum_121 (by decide) (fun c_81 => ?_) (fun c_81 => ?_)
                    ·
                      refine lv_aload_n hx hb dX4_readSum_126 rfl (lv_at hl 4 rfl) ?_
                      refine lv_dup hx hb dX4_readSum_127 rfl ?_
                      refine va_get (D := G.1) (ci := 4) (v := .int k_at) (C := RX4) (T := TX4) (N := 8) hx hb hts inG_X4 hown hK hP 2 rfl rfl 6 (by decide) (hts _ fl_X4_42) (fun _ h9 => h9) rfl dX4_readSum_128 ?_
                      refine lv_iconst (v := 1) hx hb dX4_readSum_131 (by decide) ?_
                      refine lv_iadd hx hb dX4_readSum_132 ?_
                      have t_82 : (k_at + 1).toInt = k_at.toInt + 1 := g5_iadd (a := k_at.toInt) (b := 1) (by rfl) (by decide) (by omega) (by omega)
                      refine va_put (D := G.1) (ci := 4) (v := .int (k_at + 1)) (ty := .int) (C := RX4) (T := TX4) (N := 8) hx hb hts inG_X4 tyX4 tyX4_ok nmX4 hown hK hP hD hS 2 rfl rfl 6 (by decide) (hts _ fl_X4_42) (fun _ h9 => h9) rfl (by decide +kernel) rfl rfl (Nat.le_of_ble_eq_true rfl) dX4_readSum_133 (fun H locs hP hD hS => ?_)
                      refine g5_rs [(a_nm, (arI G 401 f_nm)), (a_rc, (arI G 400 k_rc)), (a_r, (oc4 a_tk a_rh a_rs a_rc k_ln k_pa (k_at + 1) e_fp)), (a_tk, (oc8 a_kd a_nm a_pl)), (a_kd, (arI G 401 f_kd))] hP hD (fun hP hD => ?_)
                      refine lv_aload_n hx hb dX4_readSum_136 rfl (lv_at hl 4 rfl) ?_
                      refine lv_iload_n hx hb dX4_readSum_137 rfl (lv_at hl 5 rfl) ?_
                      obtain ⟨hPc, hDc, hFc⟩ := g5_sub3 (wc := [(a_r, (oc4 a_tk a_rh a_rs a_rc k_ln k_pa (k_at + 1) e_fp)), (a_tk, (oc8 a_kd a_nm a_pl)), (a_kd, (arI G 401 f_kd)), (a_nm, (arI G 401 f_nm)), (a_rc, (arI G 400 k_rc))]) hP hD hS hA [2, 3, 4, 0, 1] (by decide) rfl
                      refine va_calli (va_runV (As := [.int p_d]) (rest := []) ⟨hx, hb, hml, hown, hts⟩ ((r_part fr lo p_d h_p_d h_sum) l G a_r a_tk a_kd a_nm a_rc a_rh a_rs a_pl H.size k_ln k_pa (k_at + 1) e_fp f_kd f_nm k_rc i_16 i_17 ⟨by omega, by omega⟩ (e_tk) (i_20)) (cwV 1 hts gV_X4_90 rfl rfl rfl hv_X4_readPart ⟨by simp only [headSpec]; omega, by simp only [headSpec]; omega⟩) (g5_preV hPc hK hDc hN hT hS hFc (ci := 4) (q0 := 0) rfl rfl) rfl rfl hl.1 rfl (lv_room (Nat.le_of_ble_eq_true rfl)) dX4_readSum_138 ⟨Nat.le_of_ble_eq_true rfl, Nat.le_of_ble_eq_true rfl⟩) hS (fun q _ h => hFc q h) hFc (fun r u t H1 locs ht hvm hw hB hz1 hk1 hS => ?_)
                      obtain ⟨hP1, hD1⟩ := hB
                      rw [ht] at hP1
                      obtain ⟨z89, z90, z91, z92, z93, i_83, i_84, i_85, i_86, i_87, i_88, y94, rfl⟩ := hw
                      have i_83 : 0 ≤ z89.toInt ∧ z89.toInt ≤ 1 := i_83
                      have i_84 : k_ln.toInt ≤ z90.toInt ∧ z90.toInt ≤ 400 := i_84
                      have i_85 : 0 ≤ z92.toInt ∧ z92.toInt ≤ 401 := i_85
                      have i_86 : 0 ≤ z91.toInt ∧ z91.toInt ≤ 50 := i_86
                      have i_87 : CDI z93 z90.toInt := i_87
                      have i_88 : OPK k_rc z93 k_ln.toInt := i_88
                      obtain ⟨hP, hD⟩ := va_join (wr := []) hP hD [2, 3, 4, 0, 1] [] rfl rfl (by decide) (by decide) hk1 hFc hP1 hD1
                      generalize H1 = H at hP hS ⊢
                      refine g5_rs [(a_r, (oc4 a_tk a_rh a_rs a_rc z90 z91 z92 e_fp)), (a_tk, (oc8 a_kd a_nm a_pl)), (a_kd, (arI G 401 f_kd)), (a_nm, (arI G 401 f_nm)), (a_rc, (arI G 400 z93))] hP hD (fun hP hD => ?_)
                      refine g5_ti (v := z89) y94 ?_
                      refine lv_if_ne (tgt := 146) hx hb dX4_readSum_141 (by decide) (fun c_95 => ?_) (fun c_95 => ?_)
                      ·
                        have n_95 : gNe (z89.toInt) (0) := by have z := g5_ne (a := z89.toInt) (b := 0) (by rfl) (by decide) c_95; unfold gNe; omega
                        have i_95 : z89.toInt ≥ 1 := by have z := g5_ne (a := z89.toInt) (b := 0) (by rfl) (by decide) c_95; omega
                        refine lv_iload hx hb dX4_readSum_146 (lv_at hl 0 rfl) ?_
                        refine lv_if_eq (tgt := 157) hx hb dX4_readSum_148 (by decide) (fun c_96 => ?_) (fun c_96 => ?_)
                        ·
                          exact absurd c_96 (by decide)
                        ·
                          refine lv_iload hx hb dX4_readSum_151 (lv_at hl 1 rfl) ?_
                          refine lv_istore_n (lv' := [(2, .int 3), (5, .int 1), (4, .int 3), (3, .int k_i), (0, .ref a_r), (1, .int p_d)]) hx hb dX4_readSum_153 rfl hl (by decide) rfl (fun ls hl => ?_)
                          refine lv_goto (tgt := 165) hx hb dX4_readSum_154 (by decide) ?_
                          refine lv_iinc (v := (k_i + 1)) (lv' := [(3, .int (k_i + 1)), (2, .int 3), (5, .int 1), (4, .int 3), (0, .ref a_r), (1, .int p_d)]) hx hb dX4_readSum_165 hl (k := 3) rfl rfl (by decide) rfl (fun ls hl => ?_)
                          have t_97 : (k_i + 1).toInt = k_i.toInt + 1 := g5_iadd (a := k_i.toInt) (b := 1) rfl (by decide) (by omega) (by omega)
                          refine lv_goto (tgt := 14) hx hb dX4_readSum_168 (by decide) ?_
                          exact ih_14_23 (3, (k_i + 1), z90, z91, z92, z93) ls H locs (show Int.toNat (400 - (k_i + 1).toInt) < Int.toNat (400 - k_i.toInt) from g_up (show k_i.toInt < (k_i + 1).toInt by omega) (show k_i.toInt < 400 by omega)) ⟨lv_sub hl [1, 0, 4, 5] rfl, hP, hD, hS, ⟨by decide, by decide⟩, ⟨by omega, by omega⟩, ⟨by omega, by omega⟩, i_86, i_85, by omega, i_87, opk_trans i_21 (i_88) (by omega), Or.inr (Or.inr (by decide))⟩
                      ·
                        have i_95 : z89.toInt = 0 := by have z := g5_neN (a := z89.toInt) (b := 0) (by rfl) (by decide) c_95; omega
                        refine lv_iconst (v := 0) hx hb dX4_readSum_144 (by decide) ?_
                        exact W.zret (v := 0) hx hb hr rfl (fun t ht hW => ⟨⟨0, [(a_r, (oc4 a_tk a_rh a_rs a_rc z90 z91 z92 e_fp)), (a_tk, (oc8 a_kd a_nm a_pl)), (a_kd, (arI G 401 f_kd)), (a_nm, (arI G 401 f_nm)), (a_rc, (arI G 400 z93))], rfl, ⟨0, z90, z91, z92, z93, ⟨by have zc_o_r : (0 : Int32).toInt = 0 := (by decide); omega, by have zc_o_r : (0 : Int32).toInt = 0 := (by decide); omega⟩, ⟨by omega, by omega⟩, i_85, i_86, i_87, opk_trans i_21 (i_88) (by omega), rfl, rfl⟩, by rw [ht]; exact hP.sub [0, 1, 2, 3, 4] rfl, hD.sub [0, 1, 2, 3, 4] (by decide) rfl⟩, hS.F ht⟩) hS.2.2 dX4_readSum_145
                    ·
                      exact absurd c_81 (by decide)
                  ·
                    have n_80 : gNe (k_w.toInt) ((-1)) := by have z := g5_eqN (a := k_w.toInt) (b := (-1)) (by rfl) (by decide) c_80; unfold gNe; omega
                    have i_80 : k_w.toInt ≥ 0 := by have z := g5_eqN (a := k_w.toInt) (b := (-1)) (by rfl) (by decide) c_80; omega
                    refine lv_iload hx hb dX4_readSum_100 (lv_at hl 0 rfl) ?_
                    refine lv_if_ne (tgt := 111) hx hb dX4_readSum_102 (by decide) (fun c_98 => ?_) (fun c_98 => ?_)
                    ·
                      refine lv_aload_n hx hb dX4_readSum_111 rfl (lv_at hl 4 rfl) ?_
                      refine lv_iload_n hx hb dX4_readSum_112 rfl (lv_at hl 2 rfl) ?_
                      refine lv_iconst (v := 0) hx hb dX4_readSum_113 (by decide) ?_
                      obtain ⟨hPc, hDc, hFc⟩ := g5_sub3 (wc := [(a_r, (oc4 a_tk a_rh a_rs a_rc k_ln k_pa k_at e_fp)), (a_rc, (arI G 400 k_rc))]) hP hD hS hA [2, 1] (by decide) rfl
                      refine va_calli (va_runV (As := [.int k_w, .int 0]) (rest := []) ⟨hx, hb, hml, hown, hts⟩ (r_emit l G a_r a_rc a_tk a_rh a_rs H.size k_ln k_pa k_at e_fp k_w 0 k_rc i_16 i_17 i_18 (i_20) (wok_wait (by rcases i_22 with q | q | q; exact absurd q n_80; exact Or.inl q; exact Or.inr q))) (cwV 2 hts gV_X4_79 rfl rfl rfl hv_X4_emit ⟨by simp only [headSpec]; omega, by simp only [headSpec]; omega⟩) (g5_preV hPc hK hDc hN hT hS hFc (ci := 4) (q0 := 0) rfl rfl) rfl rfl hl.1 rfl (lv_room (Nat.le_of_ble_eq_true rfl)) dX4_readSum_114 ⟨Nat.le_of_ble_eq_true rfl, Nat.le_of_ble_eq_true rfl⟩) hS (fun q _ h => hFc q h) hFc (fun r u t H1 locs ht hvm hw hB hz1 hk1 hS => ?_)
                      obtain ⟨hP1, hD1⟩ := hB
                      rw [ht] at hP1
                      obtain ⟨z104, z105, z106, i_99, i_100, i_101, i_102, i_103, y107, rfl⟩ := hw
                      have i_99 : -1 ≤ z104.toInt ∧ z104.toInt ≤ 399 := i_99
                      have i_100 : k_ln.toInt ≤ z105.toInt ∧ z105.toInt ≤ 400 := i_100
                      have i_101 : CDI z106 z105.toInt := i_101
                      have i_102 : OPK k_rc z106 k_ln.toInt := i_102
                      have i_103 : 0 ≤ z104.toInt → z104.toInt < z105.toInt ∧ z106 z104.toNatClampNeg = ((k_w <<< (12 &&& 31)) ||| (0 : Int32)) := i_103
                      obtain ⟨hP, hD⟩ := va_join (wr := [(a_nm, (arI G 401 f_nm)), (a_tk, (oc8 a_kd a_nm a_pl)), (a_kd, (arI G 401 f_kd))]) hP hD [2, 1] [0, 3, 4] rfl rfl (by decide) (by decide) hk1 hFc hP1 hD1
                      generalize H1 = H at hP hS ⊢
                      refine g5_rs [(a_nm, (arI G 401 f_nm)), (a_tk, (oc8 a_kd a_nm a_pl)), (a_kd, (arI G 401 f_kd)), (a_r, (oc4 a_tk a_rh a_rs a_rc z105 k_pa k_at e_fp)), (a_rc, (arI G 400 z106))] hP hD (fun hP hD => ?_)
                      refine g5_ti (v := z104) y107 ?_
                      refine lv_pop hx hb dX4_readSum_117 rfl ?_
                      refine lv_iload hx hb dX4_readSum_118 (lv_at hl 1 rfl) ?_
                      refine lv_iconst (v := (-1)) hx hb dX4_readSum_120 (by decide) ?_
                      refine lv_icmp_ne (tgt := 126) hx hb dX4_readSum_121 (by decide) (fun c_108 => ?_) (fun c_108 => ?_)
                      ·
                        refine lv_aload_n hx hb dX4_readSum_126 rfl (lv_at hl 4 rfl) ?_
                        refine lv_dup hx hb dX4_readSum_127 rfl ?_
                        refine va_get (D := G.1) (ci := 4) (v := .int k_at) (C := RX4) (T := TX4) (N := 8) hx hb hts inG_X4 hown hK hP 3 rfl rfl 6 (by decide) (hts _ fl_X4_42) (fun _ h9 => h9) rfl dX4_readSum_128 ?_
                        refine lv_iconst (v := 1) hx hb dX4_readSum_131 (by decide) ?_
                        refine lv_iadd hx hb dX4_readSum_132 ?_
                        have t_109 : (k_at + 1).toInt = k_at.toInt + 1 := g5_iadd (a := k_at.toInt) (b := 1) (by rfl) (by decide) (by omega) (by omega)
                        refine va_put (D := G.1) (ci := 4) (v := .int (k_at + 1)) (ty := .int) (C := RX4) (T := TX4) (N := 8) hx hb hts inG_X4 tyX4 tyX4_ok nmX4 hown hK hP hD hS 3 rfl rfl 6 (by decide) (hts _ fl_X4_42) (fun _ h9 => h9) rfl (by decide +kernel) rfl rfl (Nat.le_of_ble_eq_true rfl) dX4_readSum_133 (fun H locs hP hD hS => ?_)
                        refine g5_rs [(a_nm, (arI G 401 f_nm)), (a_tk, (oc8 a_kd a_nm a_pl)), (a_kd, (arI G 401 f_kd)), (a_r, (oc4 a_tk a_rh a_rs a_rc z105 k_pa (k_at + 1) e_fp)), (a_rc, (arI G 400 z106))] hP hD (fun hP hD => ?_)
                        refine lv_aload_n hx hb dX4_readSum_136 rfl (lv_at hl 4 rfl) ?_
                        refine lv_iload_n hx hb dX4_readSum_137 rfl (lv_at hl 5 rfl) ?_
                        obtain ⟨hPc, hDc, hFc⟩ := g5_sub3 (wc := [(a_r, (oc4 a_tk a_rh a_rs a_rc z105 k_pa (k_at + 1) e_fp)), (a_tk, (oc8 a_kd a_nm a_pl)), (a_kd, (arI G 401 f_kd)), (a_nm, (arI G 401 f_nm)), (a_rc, (arI G 400 z106))]) hP hD hS hA [3, 1, 2, 0, 4] (by decide) rfl
                        refine va_calli (va_runV (As := [.int p_d]) (rest := []) ⟨hx, hb, hml, hown, hts⟩ ((r_part fr lo p_d h_p_d h_sum) l G a_r a_tk a_kd a_nm a_rc a_rh a_rs a_pl H.size z105 k_pa (k_at + 1) e_fp f_kd f_nm z106 ⟨by omega, by omega⟩ i_17 ⟨by omega, by omega⟩ (e_tk) (i_101)) (cwV 1 hts gV_X4_90 rfl rfl rfl hv_X4_readPart ⟨by simp only [headSpec]; omega, by simp only [headSpec]; omega⟩) (g5_preV hPc hK hDc hN hT hS hFc (ci := 4) (q0 := 0) rfl rfl) rfl rfl hl.1 rfl (lv_room (Nat.le_of_ble_eq_true rfl)) dX4_readSum_138 ⟨Nat.le_of_ble_eq_true rfl, Nat.le_of_ble_eq_true rfl⟩) hS (fun q _ h => hFc q h) hFc (fun r u t H1 locs ht hvm hw hB hz1 hk1 hS => ?_)
                        obtain ⟨hP1, hD1⟩ := hB
                        rw [ht] at hP1
                        obtain ⟨z116, z117, z118, z119, z120, i_110, i_111, i_112, i_113, i_114, i_115, y121, rfl⟩ := hw
                        have i_110 : 0 ≤ z116.toInt ∧ z116.toInt ≤ 1 := i_110
                        have i_111 : z105.toInt ≤ z117.toInt ∧ z117.toInt ≤ 400 := i_111
                        have i_112 : 0 ≤ z119.toInt ∧ z119.toInt ≤ 401 := i_112
                        have i_113 : 0 ≤ z118.toInt ∧ z118.toInt ≤ 50 := i_113
                        have i_114 : CDI z120 z117.toInt := i_114
                        have i_115 : OPK z106 z120 z105.toInt := i_115
                        obtain ⟨hP, hD⟩ := va_join (wr := []) hP hD [3, 1, 2, 0, 4] [] rfl rfl (by decide) (by decide) hk1 hFc hP1 hD1
                        generalize H1 = H at hP hS ⊢
                        refine g5_rs [(a_r, (oc4 a_tk a_rh a_rs a_rc z117 z118 z119 e_fp)), (a_tk, (oc8 a_kd a_nm a_pl)), (a_kd, (arI G 401 f_kd)), (a_nm, (arI G 401 f_nm)), (a_rc, (arI G 400 z120))] hP hD (fun hP hD => ?_)
                        refine g5_ti (v := z116) y121 ?_
                        refine lv_if_ne (tgt := 146) hx hb dX4_readSum_141 (by decide) (fun c_122 => ?_) (fun c_122 => ?_)
                        ·
                          have n_122 : gNe (z116.toInt) (0) := by have z := g5_ne (a := z116.toInt) (b := 0) (by rfl) (by decide) c_122; unfold gNe; omega
                          have i_122 : z116.toInt ≥ 1 := by have z := g5_ne (a := z116.toInt) (b := 0) (by rfl) (by decide) c_122; omega
                          refine lv_iload hx hb dX4_readSum_146 (lv_at hl 0 rfl) ?_
                          refine lv_if_eq (tgt := 157) hx hb dX4_readSum_148 (by decide) (fun c_123 => ?_) (fun c_123 => ?_)
                          ·
                            exact absurd c_123 (by decide)
                          ·
                            refine lv_iload hx hb dX4_readSum_151 (lv_at hl 1 rfl) ?_
                            refine lv_istore_n (lv' := [(2, .int 3), (5, .int 1), (4, .int 3), (3, .int k_i), (0, .ref a_r), (1, .int p_d)]) hx hb dX4_readSum_153 rfl hl (by decide) rfl (fun ls hl => ?_)
                            refine lv_goto (tgt := 165) hx hb dX4_readSum_154 (by decide) ?_
                            refine lv_iinc (v := (k_i + 1)) (lv' := [(3, .int (k_i + 1)), (2, .int 3), (5, .int 1), (4, .int 3), (0, .ref a_r), (1, .int p_d)]) hx hb dX4_readSum_165 hl (k := 3) rfl rfl (by decide) rfl (fun ls hl => ?_)
                            have t_124 : (k_i + 1).toInt = k_i.toInt + 1 := g5_iadd (a := k_i.toInt) (b := 1) rfl (by decide) (by omega) (by omega)
                            refine lv_goto (tgt := 14) hx hb dX4_readSum_168 (by decide) ?_
                            exact ih_14_23 (3, (k_i + 1), z117, z118, z119, z120) ls H locs (show Int.toNat (400 - (k_i + 1).toInt) < Int.toNat (400 - k_i.toInt) from g_up (show k_i.toInt < (k_i + 1).toInt by omega) (show k_i.toInt < 400 by omega)) ⟨lv_sub hl [1, 0, 4, 5] rfl, hP, hD, hS, ⟨by decide, by decide⟩, ⟨by omega, by omega⟩, ⟨by omega, by omega⟩, i_113, i_112, by omega, i_114, opk_trans i_21 (opk_trans i_102 (i_115) (by omega)) (by omega), Or.inr (Or.inr (by decide))⟩
                        ·
                          have i_122 : z116.toInt = 0 := by have z := g5_neN (a := z116.toInt) (b := 0) (by rfl) (by decide) c_122; omega
                          refine lv_iconst (v := 0) hx hb dX4_readSum_144 (by decide) ?_
                          exact W.zret (v := 0) hx hb hr rfl (fun t ht hW => ⟨⟨0, [(a_r, (oc4 a_tk a_rh a_rs a_rc z117 z118 z119 e_fp)), (a_tk, (oc8 a_kd a_nm a_pl)), (a_kd, (arI G 401 f_kd)), (a_nm, (arI G 401 f_nm)), (a_rc, (arI G 400 z120))], rfl, ⟨0, z117, z118, z119, z120, ⟨by have zc_o_r : (0 : Int32).toInt = 0 := (by decide); omega, by have zc_o_r : (0 : Int32).toInt = 0 := (by decide); omega⟩, ⟨by omega, by omega⟩, i_112, i_113, i_114, opk_trans i_21 (opk_trans i_102 (i_115) (by omega)) (by omega), rfl, rfl⟩, by rw [ht]; exact hP.sub [0, 1, 2, 3, 4] rfl, hD.sub [0, 1, 2, 3, 4] (by decide) rfl⟩, hS.F ht⟩) hS.2.2 dX4_readSum_145
                      ·
                        exact absurd c_108 (by decide)
                    ·
                      exact absurd c_98 (by decide)
          ·
            obtain ⟨hP, hD⟩ := va_join (wr := [(a_nm, (arI G 401 f_nm)), (a_rc, (arI G 400 k_rc))]) hP hD [2, 3, 4] [0, 1] rfl rfl (by decide) (by decide) hk1 hFc hP1 hD1
            generalize H1 = H at hP hS ⊢
            refine g5_rs [(a_nm, (arI G 401 f_nm)), (a_rc, (arI G 400 k_rc)), (a_r, (oc4 a_tk a_rh a_rs a_rc k_ln k_pa k_at e_fp)), (a_tk, (oc8 a_kd a_nm a_pl)), (a_kd, (arI G 401 f_kd))] hP hD (fun hP hD => ?_)
            refine lv_if_eq (tgt := 47) hx hb dX4_readSum_40 (by decide) (fun c_125 => ?_) (fun c_125 => ?_)
            ·
              refine lv_aload_n hx hb dX4_readSum_47 rfl (lv_at hl 2 rfl) ?_
              refine lv_bipush (v := 42) hx hb dX4_readSum_48 (by decide) ?_
              obtain ⟨hPc, hDc, hFc⟩ := g5_sub3 (wc := [(a_r, (oc4 a_tk a_rh a_rs a_rc k_ln k_pa k_at e_fp)), (a_tk, (oc8 a_kd a_nm a_pl)), (a_kd, (arI G 401 f_kd))]) hP hD hS hA [2, 3, 4] (by decide) rfl
              refine va_calli (va_runV (As := [.int 42]) (rest := []) ⟨hx, hb, hml, hown, hts⟩ (r_isNext l G a_r a_tk a_kd a_rh a_rs a_rc a_nm a_pl H.size k_ln k_pa k_at e_fp 42 f_kd i_16 i_17 i_18) (cwV 1 hts gV_X4_49 rfl rfl rfl hv_X4_isNext ⟨by simp only [headSpec]; omega, by simp only [headSpec]; omega⟩) (g5_preV hPc hK hDc hN hT hS hFc (ci := 4) (q0 := 0) rfl rfl) rfl rfl hl.1 rfl (lv_room (Nat.le_of_ble_eq_true rfl)) dX4_readSum_50 ⟨Nat.le_of_ble_eq_true rfl, Nat.le_of_ble_eq_true rfl⟩) hS (fun q _ h => hFc q h) hFc (fun r u t H1 locs ht hvm hw hB hz1 hk1 hS => ?_)
              obtain ⟨hP1, hD1⟩ := hB
              rw [ht] at hP1
              rcases hw with ⟨i_126, i_127, rfl, rfl⟩ | ⟨rfl, rfl⟩
              ·
                have i_126 : k_at.toInt ≤ 400 := i_126
                have i_127 : f_kd k_at.toNatClampNeg = (42 : Int32) := i_127
                obtain ⟨hP, hD⟩ := va_join (wr := [(a_nm, (arI G 401 f_nm)), (a_rc, (arI G 400 k_rc))]) hP hD [2, 3, 4] [0, 1] rfl rfl (by decide) (by decide) hk1 hFc hP1 hD1
                generalize H1 = H at hP hS ⊢
                refine g5_rs [(a_nm, (arI G 401 f_nm)), (a_rc, (arI G 400 k_rc)), (a_r, (oc4 a_tk a_rh a_rs a_rc k_ln k_pa k_at e_fp)), (a_tk, (oc8 a_kd a_nm a_pl)), (a_kd, (arI G 401 f_kd))] hP hD (fun hP hD => ?_)
                refine lv_if_eq (tgt := 60) hx hb dX4_readSum_53 (by decide) (fun c_128 => ?_) (fun c_128 => ?_)
                ·
                  exact absurd c_128 (by decide)
                ·
                  refine lv_iconst (v := 4) hx hb dX4_readSum_56 (by decide) ?_
                  refine lv_goto (tgt := 74) hx hb dX4_readSum_57 (by decide) ?_
                  refine lv_istore (lv' := [(4, .int 4), (2, .int k_w), (3, .int k_i), (0, .ref a_r), (1, .int p_d)]) hx hb dX4_readSum_74 hl (by decide) rfl (fun ls hl => ?_)
                  refine lv_iload hx hb dX4_readSum_76 (lv_at hl 0 rfl) ?_
                  refine lv_iconst (v := 2) hx hb dX4_readSum_78 (by decide) ?_
                  refine lv_icmp_eq (tgt := 88) hx hb dX4_readSum_79 (by decide) (fun c_129 => ?_) (fun c_129 => ?_)
                  ·
                    exact absurd c_129 (by decide)
                  ·
                    refine lv_iload hx hb dX4_readSum_82 (lv_at hl 0 rfl) ?_
                    refine lv_iconst (v := 3) hx hb dX4_readSum_84 (by decide) ?_
                    refine lv_icmp_ne (tgt := 92) hx hb dX4_readSum_85 (by decide) (fun c_130 => ?_) (fun c_130 => ?_)
                    ·
                      refine lv_iconst (v := 0) hx hb dX4_readSum_92 (by decide) ?_
                      refine lv_istore (lv' := [(5, .int 0), (4, .int 4), (2, .int k_w), (3, .int k_i), (0, .ref a_r), (1, .int p_d)]) hx hb dX4_readSum_93 hl (by decide) rfl (fun ls hl => ?_)
                      refine lv_iload_n hx hb dX4_readSum_95 rfl (lv_at hl 2 rfl) ?_
                      refine lv_iconst (v := (-1)) hx hb dX4_readSum_96 (by decide) ?_
                      refine lv_icmp_eq (tgt := 118) hx hb dX4_readSum_97 (by decide) (fun c_131 => ?_) (fun c_131 => ?_)
                      ·
                        have i_131 : k_w.toInt = (-1) := by have z := g5_eq (a := k_w.toInt) (b := (-1)) (by rfl) (by decide) c_131; omega
                        refine lv_iload hx hb dX4_readSum_118 (lv_at hl 1 rfl) ?_
                        refine lv_iconst (v := (-1)) hx hb dX4_readSum_120 (by decide) ?_
                        refine lv_icmp_ne (tgt := 126) hx hb dX4_readSum_121 (by decide) (fun c_132 => ?_) (fun c_132 => ?_)
                        ·
                          refine lv_aload_n hx hb dX4_readSum_126 rfl (lv_at hl 4 rfl) ?_
                          refine lv_dup hx hb dX4_readSum_127 rfl ?_
                          refine va_get (D := G.1) (ci := 4) (v := .int k_at) (C := RX4) (T := TX4) (N := 8) hx hb hts inG_X4 hown hK hP 2 rfl rfl 6 (by decide) (hts _ fl_X4_42) (fun _ h9 => h9) rfl dX4_readSum_128 ?_
                          refine lv_iconst (v := 1) hx hb dX4_readSum_131 (by decide) ?_
                          refine lv_iadd hx hb dX4_readSum_132 ?_
                          have t_133 : (k_at + 1).toInt = k_at.toInt + 1 := g5_iadd (a := k_at.toInt) (b := 1) (by rfl) (by decide) (by omega) (by omega)
                          refine va_put (D := G.1) (ci := 4) (v := .int (k_at + 1)) (ty := .int) (C := RX4) (T := TX4) (N := 8) hx hb hts inG_X4 tyX4 tyX4_ok nmX4 hown hK hP hD hS 2 rfl rfl 6 (by decide) (hts _ fl_X4_42) (fun _ h9 => h9) rfl (by decide +kernel) rfl rfl (Nat.le_of_ble_eq_true rfl) dX4_readSum_133 (fun H locs hP hD hS => ?_)
                          refine g5_rs [(a_nm, (arI G 401 f_nm)), (a_rc, (arI G 400 k_rc)), (a_r, (oc4 a_tk a_rh a_rs a_rc k_ln k_pa (k_at + 1) e_fp)), (a_tk, (oc8 a_kd a_nm a_pl)), (a_kd, (arI G 401 f_kd))] hP hD (fun hP hD => ?_)
                          refine lv_aload_n hx hb dX4_readSum_136 rfl (lv_at hl 4 rfl) ?_
                          refine lv_iload_n hx hb dX4_readSum_137 rfl (lv_at hl 5 rfl) ?_
                          obtain ⟨hPc, hDc, hFc⟩ := g5_sub3 (wc := [(a_r, (oc4 a_tk a_rh a_rs a_rc k_ln k_pa (k_at + 1) e_fp)), (a_tk, (oc8 a_kd a_nm a_pl)), (a_kd, (arI G 401 f_kd)), (a_nm, (arI G 401 f_nm)), (a_rc, (arI G 400 k_rc))]) hP hD hS hA [2, 3, 4, 0, 1] (by decide) rfl
                          refine va_calli (va_runV (As := [.int p_d]) (rest := []) ⟨hx, hb, hml, hown, hts⟩ ((r_part fr lo p_d h_p_d h_sum) l G a_r a_tk a_kd a_nm a_rc a_rh a_rs a_pl H.size k_ln k_pa (k_at + 1) e_fp f_kd f_nm k_rc i_16 i_17 ⟨by omega, by omega⟩ (e_tk) (i_20)) (cwV 1 hts gV_X4_90 rfl rfl rfl hv_X4_readPart ⟨by simp only [headSpec]; omega, by simp only [headSpec]; omega⟩) (g5_preV hPc hK hDc hN hT hS hFc (ci := 4) (q0 := 0) rfl rfl) rfl rfl hl.1 rfl (lv_room (Nat.le_of_ble_eq_true rfl)) dX4_readSum_138 ⟨Nat.le_of_ble_eq_true rfl, Nat.le_of_ble_eq_true rfl⟩) hS (fun q _ h => hFc q h) hFc (fun r u t H1 locs ht hvm hw hB hz1 hk1 hS => ?_)
                          obtain ⟨hP1, hD1⟩ := hB
                          rw [ht] at hP1
                          obtain ⟨z140, z141, z142, z143, z144, i_134, i_135, i_136, i_137, i_138, i_139, y145, rfl⟩ := hw
                          have i_134 : 0 ≤ z140.toInt ∧ z140.toInt ≤ 1 := i_134
                          have i_135 : k_ln.toInt ≤ z141.toInt ∧ z141.toInt ≤ 400 := i_135
                          have i_136 : 0 ≤ z143.toInt ∧ z143.toInt ≤ 401 := i_136
                          have i_137 : 0 ≤ z142.toInt ∧ z142.toInt ≤ 50 := i_137
                          have i_138 : CDI z144 z141.toInt := i_138
                          have i_139 : OPK k_rc z144 k_ln.toInt := i_139
                          obtain ⟨hP, hD⟩ := va_join (wr := []) hP hD [2, 3, 4, 0, 1] [] rfl rfl (by decide) (by decide) hk1 hFc hP1 hD1
                          generalize H1 = H at hP hS ⊢
                          refine g5_rs [(a_r, (oc4 a_tk a_rh a_rs a_rc z141 z142 z143 e_fp)), (a_tk, (oc8 a_kd a_nm a_pl)), (a_kd, (arI G 401 f_kd)), (a_nm, (arI G 401 f_nm)), (a_rc, (arI G 400 z144))] hP hD (fun hP hD => ?_)
                          refine g5_ti (v := z140) y145 ?_
                          refine lv_if_ne (tgt := 146) hx hb dX4_readSum_141 (by decide) (fun c_146 => ?_) (fun c_146 => ?_)
                          ·
                            have n_146 : gNe (z140.toInt) (0) := by have z := g5_ne (a := z140.toInt) (b := 0) (by rfl) (by decide) c_146; unfold gNe; omega
                            have i_146 : z140.toInt ≥ 1 := by have z := g5_ne (a := z140.toInt) (b := 0) (by rfl) (by decide) c_146; omega
                            refine lv_iload hx hb dX4_readSum_146 (lv_at hl 0 rfl) ?_
                            refine lv_if_eq (tgt := 157) hx hb dX4_readSum_148 (by decide) (fun c_147 => ?_) (fun c_147 => ?_)
                            ·
                              refine lv_aload_n hx hb dX4_readSum_157 rfl (lv_at hl 4 rfl) ?_
                              refine lv_iload hx hb dX4_readSum_158 (lv_at hl 1 rfl) ?_
                              refine lv_iconst (v := 0) hx hb dX4_readSum_160 (by decide) ?_
                              obtain ⟨hPc, hDc, hFc⟩ := g5_sub3 (wc := [(a_r, (oc4 a_tk a_rh a_rs a_rc z141 z142 z143 e_fp)), (a_rc, (arI G 400 z144))]) hP hD hS hA [0, 4] (by decide) rfl
                              refine va_calli (va_runV (As := [.int 4, .int 0]) (rest := []) ⟨hx, hb, hml, hown, hts⟩ (r_emit l G a_r a_rc a_tk a_rh a_rs H.size z141 z142 z143 e_fp 4 0 z144 ⟨by omega, by omega⟩ i_137 i_136 (i_138) (by unfold wOK; decide)) (cwV 2 hts gV_X4_79 rfl rfl rfl hv_X4_emit ⟨by simp only [headSpec]; omega, by simp only [headSpec]; omega⟩) (g5_preV hPc hK hDc hN hT hS hFc (ci := 4) (q0 := 0) rfl rfl) rfl rfl hl.1 rfl (lv_room (Nat.le_of_ble_eq_true rfl)) dX4_readSum_161 ⟨Nat.le_of_ble_eq_true rfl, Nat.le_of_ble_eq_true rfl⟩) hS (fun q _ h => hFc q h) hFc (fun r u t H1 locs ht hvm hw hB hz1 hk1 hS => ?_)
                              obtain ⟨hP1, hD1⟩ := hB
                              rw [ht] at hP1
                              obtain ⟨z153, z154, z155, i_148, i_149, i_150, i_151, i_152, y156, rfl⟩ := hw
                              have i_148 : -1 ≤ z153.toInt ∧ z153.toInt ≤ 399 := i_148
                              have i_149 : z141.toInt ≤ z154.toInt ∧ z154.toInt ≤ 400 := i_149
                              have i_150 : CDI z155 z154.toInt := i_150
                              have i_151 : OPK z144 z155 z141.toInt := i_151
                              have i_152 : 0 ≤ z153.toInt → z153.toInt < z154.toInt ∧ z155 z153.toNatClampNeg = (((4 : Int32) <<< (12 &&& 31)) ||| (0 : Int32)) := i_152
                              obtain ⟨hP, hD⟩ := va_join (wr := [(a_tk, (oc8 a_kd a_nm a_pl)), (a_kd, (arI G 401 f_kd)), (a_nm, (arI G 401 f_nm))]) hP hD [0, 4] [1, 2, 3] rfl rfl (by decide) (by decide) hk1 hFc hP1 hD1
                              generalize H1 = H at hP hS ⊢
                              refine g5_rs [(a_tk, (oc8 a_kd a_nm a_pl)), (a_kd, (arI G 401 f_kd)), (a_nm, (arI G 401 f_nm)), (a_r, (oc4 a_tk a_rh a_rs a_rc z154 z142 z143 e_fp)), (a_rc, (arI G 400 z155))] hP hD (fun hP hD => ?_)
                              refine g5_ti (v := z153) y156 ?_
                              refine lv_pop hx hb dX4_readSum_164 rfl ?_
                              refine lv_iinc (v := (k_i + 1)) (lv' := [(3, .int (k_i + 1)), (5, .int 0), (4, .int 4), (2, .int k_w), (0, .ref a_r), (1, .int p_d)]) hx hb dX4_readSum_165 hl (k := 3) rfl rfl (by decide) rfl (fun ls hl => ?_)
                              have t_157 : (k_i + 1).toInt = k_i.toInt + 1 := g5_iadd (a := k_i.toInt) (b := 1) rfl (by decide) (by omega) (by omega)
                              refine lv_goto (tgt := 14) hx hb dX4_readSum_168 (by decide) ?_
                              exact ih_14_23 (k_w, (k_i + 1), z154, z142, z143, z155) ls H locs (show Int.toNat (400 - (k_i + 1).toInt) < Int.toNat (400 - k_i.toInt) from g_up (show k_i.toInt < (k_i + 1).toInt by omega) (show k_i.toInt < 400 by omega)) ⟨lv_sub hl [3, 0, 4, 5] rfl, hP.sub [3, 0, 1, 2, 4] rfl, hD.sub [3, 0, 1, 2, 4] (by decide) rfl, hS, i_14, ⟨by omega, by omega⟩, ⟨by omega, by omega⟩, i_137, i_136, by omega, i_150, opk_trans i_21 (opk_trans i_139 (i_151) (by omega)) (by omega), i_22⟩
                            ·
                              exact absurd c_147 (by decide)
                          ·
                            have i_146 : z140.toInt = 0 := by have z := g5_neN (a := z140.toInt) (b := 0) (by rfl) (by decide) c_146; omega
                            refine lv_iconst (v := 0) hx hb dX4_readSum_144 (by decide) ?_
                            exact W.zret (v := 0) hx hb hr rfl (fun t ht hW => ⟨⟨0, [(a_r, (oc4 a_tk a_rh a_rs a_rc z141 z142 z143 e_fp)), (a_tk, (oc8 a_kd a_nm a_pl)), (a_kd, (arI G 401 f_kd)), (a_nm, (arI G 401 f_nm)), (a_rc, (arI G 400 z144))], rfl, ⟨0, z141, z142, z143, z144, ⟨by have zc_o_r : (0 : Int32).toInt = 0 := (by decide); omega, by have zc_o_r : (0 : Int32).toInt = 0 := (by decide); omega⟩, ⟨by omega, by omega⟩, i_136, i_137, i_138, opk_trans i_21 (i_139) (by omega), rfl, rfl⟩, by rw [ht]; exact hP.sub [0, 1, 2, 3, 4] rfl, hD.sub [0, 1, 2, 3, 4] (by decide) rfl⟩, hS.F ht⟩) hS.2.2 dX4_readSum_145
                        ·
                          exact absurd c_132 (by decide)
                      ·
                        have n_131 : gNe (k_w.toInt) ((-1)) := by have z := g5_eqN (a := k_w.toInt) (b := (-1)) (by rfl) (by decide) c_131; unfold gNe; omega
                        have i_131 : k_w.toInt ≥ 0 := by have z := g5_eqN (a := k_w.toInt) (b := (-1)) (by rfl) (by decide) c_131; omega
                        refine lv_iload hx hb dX4_readSum_100 (lv_at hl 0 rfl) ?_
                        refine lv_if_ne (tgt := 111) hx hb dX4_readSum_102 (by decide) (fun c_158 => ?_) (fun c_158 => ?_)
                        ·
                          exact absurd c_158 (by decide)
                        ·
                          refine lv_iload hx hb dX4_readSum_105 (lv_at hl 1 rfl) ?_
                          refine lv_iconst (v := (-1)) hx hb dX4_readSum_107 (by decide) ?_
                          refine lv_icmp_ne (tgt := 118) hx hb dX4_readSum_108 (by decide) (fun c_159 => ?_) (fun c_159 => ?_)
                          ·
                            refine lv_iload hx hb dX4_readSum_118 (lv_at hl 1 rfl) ?_
                            refine lv_iconst (v := (-1)) hx hb dX4_readSum_120 (by decide) ?_
                            refine lv_icmp_ne (tgt := 126) hx hb dX4_readSum_121 (by decide) (fun c_160 => ?_) (fun c_160 => ?_)
                            ·
                              refine lv_aload_n hx hb dX4_readSum_126 rfl (lv_at hl 4 rfl) ?_
                              refine lv_dup hx hb dX4_readSum_127 rfl ?_
                              refine va_get (D := G.1) (ci := 4) (v := .int k_at) (C := RX4) (T := TX4) (N := 8) hx hb hts inG_X4 hown hK hP 2 rfl rfl 6 (by decide) (hts _ fl_X4_42) (fun _ h9 => h9) rfl dX4_readSum_128 ?_
                              refine lv_iconst (v := 1) hx hb dX4_readSum_131 (by decide) ?_
                              refine lv_iadd hx hb dX4_readSum_132 ?_
                              have t_161 : (k_at + 1).toInt = k_at.toInt + 1 := g5_iadd (a := k_at.toInt) (b := 1) (by rfl) (by decide) (by omega) (by omega)
                              refine va_put (D := G.1) (ci := 4) (v := .int (k_at + 1)) (ty := .int) (C := RX4) (T := TX4) (N := 8) hx hb hts inG_X4 tyX4 tyX4_ok nmX4 hown hK hP hD hS 2 rfl rfl 6 (by decide) (hts _ fl_X4_42) (fun _ h9 => h9) rfl (by decide +kernel) rfl rfl (Nat.le_of_ble_eq_true rfl) dX4_readSum_133 (fun H locs hP hD hS => ?_)
                              refine g5_rs [(a_nm, (arI G 401 f_nm)), (a_rc, (arI G 400 k_rc)), (a_r, (oc4 a_tk a_rh a_rs a_rc k_ln k_pa (k_at + 1) e_fp)), (a_tk, (oc8 a_kd a_nm a_pl)), (a_kd, (arI G 401 f_kd))] hP hD (fun hP hD => ?_)
                              refine lv_aload_n hx hb dX4_readSum_136 rfl (lv_at hl 4 rfl) ?_
                              refine lv_iload_n hx hb dX4_readSum_137 rfl (lv_at hl 5 rfl) ?_
                              obtain ⟨hPc, hDc, hFc⟩ := g5_sub3 (wc := [(a_r, (oc4 a_tk a_rh a_rs a_rc k_ln k_pa (k_at + 1) e_fp)), (a_tk, (oc8 a_kd a_nm a_pl)), (a_kd, (arI G 401 f_kd)), (a_nm, (arI G 401 f_nm)), (a_rc, (arI G 400 k_rc))]) hP hD hS hA [2, 3, 4, 0, 1] (by decide) rfl
                              refine va_calli (va_runV (As := [.int p_d]) (rest := []) ⟨hx, hb, hml, hown, hts⟩ ((r_part fr lo p_d h_p_d h_sum) l G a_r a_tk a_kd a_nm a_rc a_rh a_rs a_pl H.size k_ln k_pa (k_at + 1) e_fp f_kd f_nm k_rc i_16 i_17 ⟨by omega, by omega⟩ (e_tk) (i_20)) (cwV 1 hts gV_X4_90 rfl rfl rfl hv_X4_readPart ⟨by simp only [headSpec]; omega, by simp only [headSpec]; omega⟩) (g5_preV hPc hK hDc hN hT hS hFc (ci := 4) (q0 := 0) rfl rfl) rfl rfl hl.1 rfl (lv_room (Nat.le_of_ble_eq_true rfl)) dX4_readSum_138 ⟨Nat.le_of_ble_eq_true rfl, Nat.le_of_ble_eq_true rfl⟩) hS (fun q _ h => hFc q h) hFc (fun r u t H1 locs ht hvm hw hB hz1 hk1 hS => ?_)
                              obtain ⟨hP1, hD1⟩ := hB
                              rw [ht] at hP1
                              obtain ⟨z168, z169, z170, z171, z172, i_162, i_163, i_164, i_165, i_166, i_167, y173, rfl⟩ := hw
                              have i_162 : 0 ≤ z168.toInt ∧ z168.toInt ≤ 1 := i_162
                              have i_163 : k_ln.toInt ≤ z169.toInt ∧ z169.toInt ≤ 400 := i_163
                              have i_164 : 0 ≤ z171.toInt ∧ z171.toInt ≤ 401 := i_164
                              have i_165 : 0 ≤ z170.toInt ∧ z170.toInt ≤ 50 := i_165
                              have i_166 : CDI z172 z169.toInt := i_166
                              have i_167 : OPK k_rc z172 k_ln.toInt := i_167
                              obtain ⟨hP, hD⟩ := va_join (wr := []) hP hD [2, 3, 4, 0, 1] [] rfl rfl (by decide) (by decide) hk1 hFc hP1 hD1
                              generalize H1 = H at hP hS ⊢
                              refine g5_rs [(a_r, (oc4 a_tk a_rh a_rs a_rc z169 z170 z171 e_fp)), (a_tk, (oc8 a_kd a_nm a_pl)), (a_kd, (arI G 401 f_kd)), (a_nm, (arI G 401 f_nm)), (a_rc, (arI G 400 z172))] hP hD (fun hP hD => ?_)
                              refine g5_ti (v := z168) y173 ?_
                              refine lv_if_ne (tgt := 146) hx hb dX4_readSum_141 (by decide) (fun c_174 => ?_) (fun c_174 => ?_)
                              ·
                                have n_174 : gNe (z168.toInt) (0) := by have z := g5_ne (a := z168.toInt) (b := 0) (by rfl) (by decide) c_174; unfold gNe; omega
                                have i_174 : z168.toInt ≥ 1 := by have z := g5_ne (a := z168.toInt) (b := 0) (by rfl) (by decide) c_174; omega
                                refine lv_iload hx hb dX4_readSum_146 (lv_at hl 0 rfl) ?_
                                refine lv_if_eq (tgt := 157) hx hb dX4_readSum_148 (by decide) (fun c_175 => ?_) (fun c_175 => ?_)
                                ·
                                  refine lv_aload_n hx hb dX4_readSum_157 rfl (lv_at hl 4 rfl) ?_
                                  refine lv_iload hx hb dX4_readSum_158 (lv_at hl 1 rfl) ?_
                                  refine lv_iconst (v := 0) hx hb dX4_readSum_160 (by decide) ?_
                                  obtain ⟨hPc, hDc, hFc⟩ := g5_sub3 (wc := [(a_r, (oc4 a_tk a_rh a_rs a_rc z169 z170 z171 e_fp)), (a_rc, (arI G 400 z172))]) hP hD hS hA [0, 4] (by decide) rfl
                                  refine va_calli (va_runV (As := [.int 4, .int 0]) (rest := []) ⟨hx, hb, hml, hown, hts⟩ (r_emit l G a_r a_rc a_tk a_rh a_rs H.size z169 z170 z171 e_fp 4 0 z172 ⟨by omega, by omega⟩ i_165 i_164 (i_166) (by unfold wOK; decide)) (cwV 2 hts gV_X4_79 rfl rfl rfl hv_X4_emit ⟨by simp only [headSpec]; omega, by simp only [headSpec]; omega⟩) (g5_preV hPc hK hDc hN hT hS hFc (ci := 4) (q0 := 0) rfl rfl) rfl rfl hl.1 rfl (lv_room (Nat.le_of_ble_eq_true rfl)) dX4_readSum_161 ⟨Nat.le_of_ble_eq_true rfl, Nat.le_of_ble_eq_true rfl⟩) hS (fun q _ h => hFc q h) hFc (fun r u t H1 locs ht hvm hw hB hz1 hk1 hS => ?_)
                                  obtain ⟨hP1, hD1⟩ := hB
                                  rw [ht] at hP1
                                  obtain ⟨z181, z182, z183, i_176, i_177, i_178, i_179, i_180, y184, rfl⟩ := hw
                                  have i_176 : -1 ≤ z181.toInt ∧ z181.toInt ≤ 399 := i_176
                                  have i_177 : z169.toInt ≤ z182.toInt ∧ z182.toInt ≤ 400 := i_177
                                  have i_178 : CDI z183 z182.toInt := i_178
                                  have i_179 : OPK z172 z183 z169.toInt := i_179
                                  have i_180 : 0 ≤ z181.toInt → z181.toInt < z182.toInt ∧ z183 z181.toNatClampNeg = (((4 : Int32) <<< (12 &&& 31)) ||| (0 : Int32)) := i_180
                                  obtain ⟨hP, hD⟩ := va_join (wr := [(a_tk, (oc8 a_kd a_nm a_pl)), (a_kd, (arI G 401 f_kd)), (a_nm, (arI G 401 f_nm))]) hP hD [0, 4] [1, 2, 3] rfl rfl (by decide) (by decide) hk1 hFc hP1 hD1
                                  generalize H1 = H at hP hS ⊢
                                  refine g5_rs [(a_tk, (oc8 a_kd a_nm a_pl)), (a_kd, (arI G 401 f_kd)), (a_nm, (arI G 401 f_nm)), (a_r, (oc4 a_tk a_rh a_rs a_rc z182 z170 z171 e_fp)), (a_rc, (arI G 400 z183))] hP hD (fun hP hD => ?_)
                                  refine g5_ti (v := z181) y184 ?_
                                  refine lv_pop hx hb dX4_readSum_164 rfl ?_
                                  refine lv_iinc (v := (k_i + 1)) (lv' := [(3, .int (k_i + 1)), (5, .int 0), (4, .int 4), (2, .int k_w), (0, .ref a_r), (1, .int p_d)]) hx hb dX4_readSum_165 hl (k := 3) rfl rfl (by decide) rfl (fun ls hl => ?_)
                                  have t_185 : (k_i + 1).toInt = k_i.toInt + 1 := g5_iadd (a := k_i.toInt) (b := 1) rfl (by decide) (by omega) (by omega)
                                  refine lv_goto (tgt := 14) hx hb dX4_readSum_168 (by decide) ?_
                                  exact ih_14_23 (k_w, (k_i + 1), z182, z170, z171, z183) ls H locs (show Int.toNat (400 - (k_i + 1).toInt) < Int.toNat (400 - k_i.toInt) from g_up (show k_i.toInt < (k_i + 1).toInt by omega) (show k_i.toInt < 400 by omega)) ⟨lv_sub hl [3, 0, 4, 5] rfl, hP.sub [3, 0, 1, 2, 4] rfl, hD.sub [3, 0, 1, 2, 4] (by decide) rfl, hS, i_14, ⟨by omega, by omega⟩, ⟨by omega, by omega⟩, i_165, i_164, by omega, i_178, opk_trans i_21 (opk_trans i_167 (i_179) (by omega)) (by omega), i_22⟩
                                ·
                                  exact absurd c_175 (by decide)
                              ·
                                have i_174 : z168.toInt = 0 := by have z := g5_neN (a := z168.toInt) (b := 0) (by rfl) (by decide) c_174; omega
                                refine lv_iconst (v := 0) hx hb dX4_readSum_144 (by decide) ?_
                                exact W.zret (v := 0) hx hb hr rfl (fun t ht hW => ⟨⟨0, [(a_r, (oc4 a_tk a_rh a_rs a_rc z169 z170 z171 e_fp)), (a_tk, (oc8 a_kd a_nm a_pl)), (a_kd, (arI G 401 f_kd)), (a_nm, (arI G 401 f_nm)), (a_rc, (arI G 400 z172))], rfl, ⟨0, z169, z170, z171, z172, ⟨by have zc_o_r : (0 : Int32).toInt = 0 := (by decide); omega, by have zc_o_r : (0 : Int32).toInt = 0 := (by decide); omega⟩, ⟨by omega, by omega⟩, i_164, i_165, i_166, opk_trans i_21 (i_167) (by omega), rfl, rfl⟩, by rw [ht]; exact hP.sub [0, 1, 2, 3, 4] rfl, hD.sub [0, 1, 2, 3, 4] (by decide) rfl⟩, hS.F ht⟩) hS.2.2 dX4_readSum_145
                            ·
                              exact absurd c_160 (by decide)
                          ·
                            exact absurd c_159 (by decide)
                    ·
                      exact absurd c_130 (by decide)
              ·
                obtain ⟨hP, hD⟩ := va_join (wr := [(a_nm, (arI G 401 f_nm)), (a_rc, (arI G 400 k_rc))]) hP hD [2, 3, 4] [0, 1] rfl rfl (by decide) (by decide) hk1 hFc hP1 hD1
                generalize H1 = H at hP hS ⊢
                refine g5_rs [(a_nm, (arI G 401 f_nm)), (a_rc, (arI G 400 k_rc)), (a_r, (oc4 a_tk a_rh a_rs a_rc k_ln k_pa k_at e_fp)), (a_tk, (oc8 a_kd a_nm a_pl)), (a_kd, (arI G 401 f_kd))] hP hD (fun hP hD => ?_)
                refine lv_if_eq (tgt := 60) hx hb dX4_readSum_53 (by decide) (fun c_186 => ?_) (fun c_186 => ?_)
                ·
                  refine lv_aload_n hx hb dX4_readSum_60 rfl (lv_at hl 2 rfl) ?_
                  refine lv_bipush (v := 47) hx hb dX4_readSum_61 (by decide) ?_
                  obtain ⟨hPc, hDc, hFc⟩ := g5_sub3 (wc := [(a_r, (oc4 a_tk a_rh a_rs a_rc k_ln k_pa k_at e_fp)), (a_tk, (oc8 a_kd a_nm a_pl)), (a_kd, (arI G 401 f_kd))]) hP hD hS hA [2, 3, 4] (by decide) rfl
                  refine va_calli (va_runV (As := [.int 47]) (rest := []) ⟨hx, hb, hml, hown, hts⟩ (r_isNext l G a_r a_tk a_kd a_rh a_rs a_rc a_nm a_pl H.size k_ln k_pa k_at e_fp 47 f_kd i_16 i_17 i_18) (cwV 1 hts gV_X4_49 rfl rfl rfl hv_X4_isNext ⟨by simp only [headSpec]; omega, by simp only [headSpec]; omega⟩) (g5_preV hPc hK hDc hN hT hS hFc (ci := 4) (q0 := 0) rfl rfl) rfl rfl hl.1 rfl (lv_room (Nat.le_of_ble_eq_true rfl)) dX4_readSum_63 ⟨Nat.le_of_ble_eq_true rfl, Nat.le_of_ble_eq_true rfl⟩) hS (fun q _ h => hFc q h) hFc (fun r u t H1 locs ht hvm hw hB hz1 hk1 hS => ?_)
                  obtain ⟨hP1, hD1⟩ := hB
                  rw [ht] at hP1
                  rcases hw with ⟨i_187, i_188, rfl, rfl⟩ | ⟨rfl, rfl⟩
                  ·
                    have i_187 : k_at.toInt ≤ 400 := i_187
                    have i_188 : f_kd k_at.toNatClampNeg = (47 : Int32) := i_188
                    obtain ⟨hP, hD⟩ := va_join (wr := [(a_nm, (arI G 401 f_nm)), (a_rc, (arI G 400 k_rc))]) hP hD [2, 3, 4] [0, 1] rfl rfl (by decide) (by decide) hk1 hFc hP1 hD1
                    generalize H1 = H at hP hS ⊢
                    refine g5_rs [(a_nm, (arI G 401 f_nm)), (a_rc, (arI G 400 k_rc)), (a_r, (oc4 a_tk a_rh a_rs a_rc k_ln k_pa k_at e_fp)), (a_tk, (oc8 a_kd a_nm a_pl)), (a_kd, (arI G 401 f_kd))] hP hD (fun hP hD => ?_)
                    refine lv_if_eq (tgt := 73) hx hb dX4_readSum_66 (by decide) (fun c_189 => ?_) (fun c_189 => ?_)
                    ·
                      exact absurd c_189 (by decide)
                    ·
                      refine lv_iconst (v := 5) hx hb dX4_readSum_69 (by decide) ?_
                      refine lv_goto (tgt := 74) hx hb dX4_readSum_70 (by decide) ?_
                      refine lv_istore (lv' := [(4, .int 5), (2, .int k_w), (3, .int k_i), (0, .ref a_r), (1, .int p_d)]) hx hb dX4_readSum_74 hl (by decide) rfl (fun ls hl => ?_)
                      refine lv_iload hx hb dX4_readSum_76 (lv_at hl 0 rfl) ?_
                      refine lv_iconst (v := 2) hx hb dX4_readSum_78 (by decide) ?_
                      refine lv_icmp_eq (tgt := 88) hx hb dX4_readSum_79 (by decide) (fun c_190 => ?_) (fun c_190 => ?_)
                      ·
                        exact absurd c_190 (by decide)
                      ·
                        refine lv_iload hx hb dX4_readSum_82 (lv_at hl 0 rfl) ?_
                        refine lv_iconst (v := 3) hx hb dX4_readSum_84 (by decide) ?_
                        refine lv_icmp_ne (tgt := 92) hx hb dX4_readSum_85 (by decide) (fun c_191 => ?_) (fun c_191 => ?_)
                        ·
                          refine lv_iconst (v := 0) hx hb dX4_readSum_92 (by decide) ?_
                          refine lv_istore (lv' := [(5, .int 0), (4, .int 5), (2, .int k_w), (3, .int k_i), (0, .ref a_r), (1, .int p_d)]) hx hb dX4_readSum_93 hl (by decide) rfl (fun ls hl => ?_)
                          refine lv_iload_n hx hb dX4_readSum_95 rfl (lv_at hl 2 rfl) ?_
                          refine lv_iconst (v := (-1)) hx hb dX4_readSum_96 (by decide) ?_
                          refine lv_icmp_eq (tgt := 118) hx hb dX4_readSum_97 (by decide) (fun c_192 => ?_) (fun c_192 => ?_)
                          ·
                            have i_192 : k_w.toInt = (-1) := by have z := g5_eq (a := k_w.toInt) (b := (-1)) (by rfl) (by decide) c_192; omega
                            refine lv_iload hx hb dX4_readSum_118 (lv_at hl 1 rfl) ?_
                            refine lv_iconst (v := (-1)) hx hb dX4_readSum_120 (by decide) ?_
                            refine lv_icmp_ne (tgt := 126) hx hb dX4_readSum_121 (by decide) (fun c_193 => ?_) (fun c_193 => ?_)
                            ·
                              refine lv_aload_n hx hb dX4_readSum_126 rfl (lv_at hl 4 rfl) ?_
                              refine lv_dup hx hb dX4_readSum_127 rfl ?_
                              refine va_get (D := G.1) (ci := 4) (v := .int k_at) (C := RX4) (T := TX4) (N := 8) hx hb hts inG_X4 hown hK hP 2 rfl rfl 6 (by decide) (hts _ fl_X4_42) (fun _ h9 => h9) rfl dX4_readSum_128 ?_
                              refine lv_iconst (v := 1) hx hb dX4_readSum_131 (by decide) ?_
                              refine lv_iadd hx hb dX4_readSum_132 ?_
                              have t_194 : (k_at + 1).toInt = k_at.toInt + 1 := g5_iadd (a := k_at.toInt) (b := 1) (by rfl) (by decide) (by omega) (by omega)
                              refine va_put (D := G.1) (ci := 4) (v := .int (k_at + 1)) (ty := .int) (C := RX4) (T := TX4) (N := 8) hx hb hts inG_X4 tyX4 tyX4_ok nmX4 hown hK hP hD hS 2 rfl rfl 6 (by decide) (hts _ fl_X4_42) (fun _ h9 => h9) rfl (by decide +kernel) rfl rfl (Nat.le_of_ble_eq_true rfl) dX4_readSum_133 (fun H locs hP hD hS => ?_)
                              refine g5_rs [(a_nm, (arI G 401 f_nm)), (a_rc, (arI G 400 k_rc)), (a_r, (oc4 a_tk a_rh a_rs a_rc k_ln k_pa (k_at + 1) e_fp)), (a_tk, (oc8 a_kd a_nm a_pl)), (a_kd, (arI G 401 f_kd))] hP hD (fun hP hD => ?_)
                              refine lv_aload_n hx hb dX4_readSum_136 rfl (lv_at hl 4 rfl) ?_
                              refine lv_iload_n hx hb dX4_readSum_137 rfl (lv_at hl 5 rfl) ?_
                              obtain ⟨hPc, hDc, hFc⟩ := g5_sub3 (wc := [(a_r, (oc4 a_tk a_rh a_rs a_rc k_ln k_pa (k_at + 1) e_fp)), (a_tk, (oc8 a_kd a_nm a_pl)), (a_kd, (arI G 401 f_kd)), (a_nm, (arI G 401 f_nm)), (a_rc, (arI G 400 k_rc))]) hP hD hS hA [2, 3, 4, 0, 1] (by decide) rfl
                              refine va_calli (va_runV (As := [.int p_d]) (rest := []) ⟨hx, hb, hml, hown, hts⟩ ((r_part fr lo p_d h_p_d h_sum) l G a_r a_tk a_kd a_nm a_rc a_rh a_rs a_pl H.size k_ln k_pa (k_at + 1) e_fp f_kd f_nm k_rc i_16 i_17 ⟨by omega, by omega⟩ (e_tk) (i_20)) (cwV 1 hts gV_X4_90 rfl rfl rfl hv_X4_readPart ⟨by simp only [headSpec]; omega, by simp only [headSpec]; omega⟩) (g5_preV hPc hK hDc hN hT hS hFc (ci := 4) (q0 := 0) rfl rfl) rfl rfl hl.1 rfl (lv_room (Nat.le_of_ble_eq_true rfl)) dX4_readSum_138 ⟨Nat.le_of_ble_eq_true rfl, Nat.le_of_ble_eq_true rfl⟩) hS (fun q _ h => hFc q h) hFc (fun r u t H1 locs ht hvm hw hB hz1 hk1 hS => ?_)
                              obtain ⟨hP1, hD1⟩ := hB
                              rw [ht] at hP1
                              obtain ⟨z201, z202, z203, z204, z205, i_195, i_196, i_197, i_198, i_199, i_200, y206, rfl⟩ := hw
                              have i_195 : 0 ≤ z201.toInt ∧ z201.toInt ≤ 1 := i_195
                              have i_196 : k_ln.toInt ≤ z202.toInt ∧ z202.toInt ≤ 400 := i_196
                              have i_197 : 0 ≤ z204.toInt ∧ z204.toInt ≤ 401 := i_197
                              have i_198 : 0 ≤ z203.toInt ∧ z203.toInt ≤ 50 := i_198
                              have i_199 : CDI z205 z202.toInt := i_199
                              have i_200 : OPK k_rc z205 k_ln.toInt := i_200
                              obtain ⟨hP, hD⟩ := va_join (wr := []) hP hD [2, 3, 4, 0, 1] [] rfl rfl (by decide) (by decide) hk1 hFc hP1 hD1
                              generalize H1 = H at hP hS ⊢
                              refine g5_rs [(a_r, (oc4 a_tk a_rh a_rs a_rc z202 z203 z204 e_fp)), (a_tk, (oc8 a_kd a_nm a_pl)), (a_kd, (arI G 401 f_kd)), (a_nm, (arI G 401 f_nm)), (a_rc, (arI G 400 z205))] hP hD (fun hP hD => ?_)
                              refine g5_ti (v := z201) y206 ?_
                              refine lv_if_ne (tgt := 146) hx hb dX4_readSum_141 (by decide) (fun c_207 => ?_) (fun c_207 => ?_)
                              ·
                                have n_207 : gNe (z201.toInt) (0) := by have z := g5_ne (a := z201.toInt) (b := 0) (by rfl) (by decide) c_207; unfold gNe; omega
                                have i_207 : z201.toInt ≥ 1 := by have z := g5_ne (a := z201.toInt) (b := 0) (by rfl) (by decide) c_207; omega
                                refine lv_iload hx hb dX4_readSum_146 (lv_at hl 0 rfl) ?_
                                refine lv_if_eq (tgt := 157) hx hb dX4_readSum_148 (by decide) (fun c_208 => ?_) (fun c_208 => ?_)
                                ·
                                  refine lv_aload_n hx hb dX4_readSum_157 rfl (lv_at hl 4 rfl) ?_
                                  refine lv_iload hx hb dX4_readSum_158 (lv_at hl 1 rfl) ?_
                                  refine lv_iconst (v := 0) hx hb dX4_readSum_160 (by decide) ?_
                                  obtain ⟨hPc, hDc, hFc⟩ := g5_sub3 (wc := [(a_r, (oc4 a_tk a_rh a_rs a_rc z202 z203 z204 e_fp)), (a_rc, (arI G 400 z205))]) hP hD hS hA [0, 4] (by decide) rfl
                                  refine va_calli (va_runV (As := [.int 5, .int 0]) (rest := []) ⟨hx, hb, hml, hown, hts⟩ (r_emit l G a_r a_rc a_tk a_rh a_rs H.size z202 z203 z204 e_fp 5 0 z205 ⟨by omega, by omega⟩ i_198 i_197 (i_199) (by unfold wOK; decide)) (cwV 2 hts gV_X4_79 rfl rfl rfl hv_X4_emit ⟨by simp only [headSpec]; omega, by simp only [headSpec]; omega⟩) (g5_preV hPc hK hDc hN hT hS hFc (ci := 4) (q0 := 0) rfl rfl) rfl rfl hl.1 rfl (lv_room (Nat.le_of_ble_eq_true rfl)) dX4_readSum_161 ⟨Nat.le_of_ble_eq_true rfl, Nat.le_of_ble_eq_true rfl⟩) hS (fun q _ h => hFc q h) hFc (fun r u t H1 locs ht hvm hw hB hz1 hk1 hS => ?_)
                                  obtain ⟨hP1, hD1⟩ := hB
                                  rw [ht] at hP1
                                  obtain ⟨z214, z215, z216, i_209, i_210, i_211, i_212, i_213, y217, rfl⟩ := hw
                                  have i_209 : -1 ≤ z214.toInt ∧ z214.toInt ≤ 399 := i_209
                                  have i_210 : z202.toInt ≤ z215.toInt ∧ z215.toInt ≤ 400 := i_210
                                  have i_211 : CDI z216 z215.toInt := i_211
                                  have i_212 : OPK z205 z216 z202.toInt := i_212
                                  have i_213 : 0 ≤ z214.toInt → z214.toInt < z215.toInt ∧ z216 z214.toNatClampNeg = (((5 : Int32) <<< (12 &&& 31)) ||| (0 : Int32)) := i_213
                                  obtain ⟨hP, hD⟩ := va_join (wr := [(a_tk, (oc8 a_kd a_nm a_pl)), (a_kd, (arI G 401 f_kd)), (a_nm, (arI G 401 f_nm))]) hP hD [0, 4] [1, 2, 3] rfl rfl (by decide) (by decide) hk1 hFc hP1 hD1
                                  generalize H1 = H at hP hS ⊢
                                  refine g5_rs [(a_tk, (oc8 a_kd a_nm a_pl)), (a_kd, (arI G 401 f_kd)), (a_nm, (arI G 401 f_nm)), (a_r, (oc4 a_tk a_rh a_rs a_rc z215 z203 z204 e_fp)), (a_rc, (arI G 400 z216))] hP hD (fun hP hD => ?_)
                                  refine g5_ti (v := z214) y217 ?_
                                  refine lv_pop hx hb dX4_readSum_164 rfl ?_
                                  refine lv_iinc (v := (k_i + 1)) (lv' := [(3, .int (k_i + 1)), (5, .int 0), (4, .int 5), (2, .int k_w), (0, .ref a_r), (1, .int p_d)]) hx hb dX4_readSum_165 hl (k := 3) rfl rfl (by decide) rfl (fun ls hl => ?_)
                                  have t_218 : (k_i + 1).toInt = k_i.toInt + 1 := g5_iadd (a := k_i.toInt) (b := 1) rfl (by decide) (by omega) (by omega)
                                  refine lv_goto (tgt := 14) hx hb dX4_readSum_168 (by decide) ?_
                                  exact ih_14_23 (k_w, (k_i + 1), z215, z203, z204, z216) ls H locs (show Int.toNat (400 - (k_i + 1).toInt) < Int.toNat (400 - k_i.toInt) from g_up (show k_i.toInt < (k_i + 1).toInt by omega) (show k_i.toInt < 400 by omega)) ⟨lv_sub hl [3, 0, 4, 5] rfl, hP.sub [3, 0, 1, 2, 4] rfl, hD.sub [3, 0, 1, 2, 4] (by decide) rfl, hS, i_14, ⟨by omega, by omega⟩, ⟨by omega, by omega⟩, i_198, i_197, by omega, i_211, opk_trans i_21 (opk_trans i_200 (i_212) (by omega)) (by omega), i_22⟩
                                ·
                                  exact absurd c_208 (by decide)
                              ·
                                have i_207 : z201.toInt = 0 := by have z := g5_neN (a := z201.toInt) (b := 0) (by rfl) (by decide) c_207; omega
                                refine lv_iconst (v := 0) hx hb dX4_readSum_144 (by decide) ?_
                                exact W.zret (v := 0) hx hb hr rfl (fun t ht hW => ⟨⟨0, [(a_r, (oc4 a_tk a_rh a_rs a_rc z202 z203 z204 e_fp)), (a_tk, (oc8 a_kd a_nm a_pl)), (a_kd, (arI G 401 f_kd)), (a_nm, (arI G 401 f_nm)), (a_rc, (arI G 400 z205))], rfl, ⟨0, z202, z203, z204, z205, ⟨by have zc_o_r : (0 : Int32).toInt = 0 := (by decide); omega, by have zc_o_r : (0 : Int32).toInt = 0 := (by decide); omega⟩, ⟨by omega, by omega⟩, i_197, i_198, i_199, opk_trans i_21 (i_200) (by omega), rfl, rfl⟩, by rw [ht]; exact hP.sub [0, 1, 2, 3, 4] rfl, hD.sub [0, 1, 2, 3, 4] (by decide) rfl⟩, hS.F ht⟩) hS.2.2 dX4_readSum_145
                            ·
                              exact absurd c_193 (by decide)
                          ·
                            have n_192 : gNe (k_w.toInt) ((-1)) := by have z := g5_eqN (a := k_w.toInt) (b := (-1)) (by rfl) (by decide) c_192; unfold gNe; omega
                            have i_192 : k_w.toInt ≥ 0 := by have z := g5_eqN (a := k_w.toInt) (b := (-1)) (by rfl) (by decide) c_192; omega
                            refine lv_iload hx hb dX4_readSum_100 (lv_at hl 0 rfl) ?_
                            refine lv_if_ne (tgt := 111) hx hb dX4_readSum_102 (by decide) (fun c_219 => ?_) (fun c_219 => ?_)
                            ·
                              exact absurd c_219 (by decide)
                            ·
                              refine lv_iload hx hb dX4_readSum_105 (lv_at hl 1 rfl) ?_
                              refine lv_iconst (v := (-1)) hx hb dX4_readSum_107 (by decide) ?_
                              refine lv_icmp_ne (tgt := 118) hx hb dX4_readSum_108 (by decide) (fun c_220 => ?_) (fun c_220 => ?_)
                              ·
                                refine lv_iload hx hb dX4_readSum_118 (lv_at hl 1 rfl) ?_
                                refine lv_iconst (v := (-1)) hx hb dX4_readSum_120 (by decide) ?_
                                refine lv_icmp_ne (tgt := 126) hx hb dX4_readSum_121 (by decide) (fun c_221 => ?_) (fun c_221 => ?_)
                                ·
                                  refine lv_aload_n hx hb dX4_readSum_126 rfl (lv_at hl 4 rfl) ?_
                                  refine lv_dup hx hb dX4_readSum_127 rfl ?_
                                  refine va_get (D := G.1) (ci := 4) (v := .int k_at) (C := RX4) (T := TX4) (N := 8) hx hb hts inG_X4 hown hK hP 2 rfl rfl 6 (by decide) (hts _ fl_X4_42) (fun _ h9 => h9) rfl dX4_readSum_128 ?_
                                  refine lv_iconst (v := 1) hx hb dX4_readSum_131 (by decide) ?_
                                  refine lv_iadd hx hb dX4_readSum_132 ?_
                                  have t_222 : (k_at + 1).toInt = k_at.toInt + 1 := g5_iadd (a := k_at.toInt) (b := 1) (by rfl) (by decide) (by omega) (by omega)
                                  refine va_put (D := G.1) (ci := 4) (v := .int (k_at + 1)) (ty := .int) (C := RX4) (T := TX4) (N := 8) hx hb hts inG_X4 tyX4 tyX4_ok nmX4 hown hK hP hD hS 2 rfl rfl 6 (by decide) (hts _ fl_X4_42) (fun _ h9 => h9) rfl (by decide +kernel) rfl rfl (Nat.le_of_ble_eq_true rfl) dX4_readSum_133 (fun H locs hP hD hS => ?_)
                                  refine g5_rs [(a_nm, (arI G 401 f_nm)), (a_rc, (arI G 400 k_rc)), (a_r, (oc4 a_tk a_rh a_rs a_rc k_ln k_pa (k_at + 1) e_fp)), (a_tk, (oc8 a_kd a_nm a_pl)), (a_kd, (arI G 401 f_kd))] hP hD (fun hP hD => ?_)
                                  refine lv_aload_n hx hb dX4_readSum_136 rfl (lv_at hl 4 rfl) ?_
                                  refine lv_iload_n hx hb dX4_readSum_137 rfl (lv_at hl 5 rfl) ?_
                                  obtain ⟨hPc, hDc, hFc⟩ := g5_sub3 (wc := [(a_r, (oc4 a_tk a_rh a_rs a_rc k_ln k_pa (k_at + 1) e_fp)), (a_tk, (oc8 a_kd a_nm a_pl)), (a_kd, (arI G 401 f_kd)), (a_nm, (arI G 401 f_nm)), (a_rc, (arI G 400 k_rc))]) hP hD hS hA [2, 3, 4, 0, 1] (by decide) rfl
                                  refine va_calli (va_runV (As := [.int p_d]) (rest := []) ⟨hx, hb, hml, hown, hts⟩ ((r_part fr lo p_d h_p_d h_sum) l G a_r a_tk a_kd a_nm a_rc a_rh a_rs a_pl H.size k_ln k_pa (k_at + 1) e_fp f_kd f_nm k_rc i_16 i_17 ⟨by omega, by omega⟩ (e_tk) (i_20)) (cwV 1 hts gV_X4_90 rfl rfl rfl hv_X4_readPart ⟨by simp only [headSpec]; omega, by simp only [headSpec]; omega⟩) (g5_preV hPc hK hDc hN hT hS hFc (ci := 4) (q0 := 0) rfl rfl) rfl rfl hl.1 rfl (lv_room (Nat.le_of_ble_eq_true rfl)) dX4_readSum_138 ⟨Nat.le_of_ble_eq_true rfl, Nat.le_of_ble_eq_true rfl⟩) hS (fun q _ h => hFc q h) hFc (fun r u t H1 locs ht hvm hw hB hz1 hk1 hS => ?_)
                                  obtain ⟨hP1, hD1⟩ := hB
                                  rw [ht] at hP1
                                  obtain ⟨z229, z230, z231, z232, z233, i_223, i_224, i_225, i_226, i_227, i_228, y234, rfl⟩ := hw
                                  have i_223 : 0 ≤ z229.toInt ∧ z229.toInt ≤ 1 := i_223
                                  have i_224 : k_ln.toInt ≤ z230.toInt ∧ z230.toInt ≤ 400 := i_224
                                  have i_225 : 0 ≤ z232.toInt ∧ z232.toInt ≤ 401 := i_225
                                  have i_226 : 0 ≤ z231.toInt ∧ z231.toInt ≤ 50 := i_226
                                  have i_227 : CDI z233 z230.toInt := i_227
                                  have i_228 : OPK k_rc z233 k_ln.toInt := i_228
                                  obtain ⟨hP, hD⟩ := va_join (wr := []) hP hD [2, 3, 4, 0, 1] [] rfl rfl (by decide) (by decide) hk1 hFc hP1 hD1
                                  generalize H1 = H at hP hS ⊢
                                  refine g5_rs [(a_r, (oc4 a_tk a_rh a_rs a_rc z230 z231 z232 e_fp)), (a_tk, (oc8 a_kd a_nm a_pl)), (a_kd, (arI G 401 f_kd)), (a_nm, (arI G 401 f_nm)), (a_rc, (arI G 400 z233))] hP hD (fun hP hD => ?_)
                                  refine g5_ti (v := z229) y234 ?_
                                  refine lv_if_ne (tgt := 146) hx hb dX4_readSum_141 (by decide) (fun c_235 => ?_) (fun c_235 => ?_)
                                  ·
                                    have n_235 : gNe (z229.toInt) (0) := by have z := g5_ne (a := z229.toInt) (b := 0) (by rfl) (by decide) c_235; unfold gNe; omega
                                    have i_235 : z229.toInt ≥ 1 := by have z := g5_ne (a := z229.toInt) (b := 0) (by rfl) (by decide) c_235; omega
                                    refine lv_iload hx hb dX4_readSum_146 (lv_at hl 0 rfl) ?_
                                    refine lv_if_eq (tgt := 157) hx hb dX4_readSum_148 (by decide) (fun c_236 => ?_) (fun c_236 => ?_)
                                    ·
                                      refine lv_aload_n hx hb dX4_readSum_157 rfl (lv_at hl 4 rfl) ?_
                                      refine lv_iload hx hb dX4_readSum_158 (lv_at hl 1 rfl) ?_
                                      refine lv_iconst (v := 0) hx hb dX4_readSum_160 (by decide) ?_
                                      obtain ⟨hPc, hDc, hFc⟩ := g5_sub3 (wc := [(a_r, (oc4 a_tk a_rh a_rs a_rc z230 z231 z232 e_fp)), (a_rc, (arI G 400 z233))]) hP hD hS hA [0, 4] (by decide) rfl
                                      refine va_calli (va_runV (As := [.int 5, .int 0]) (rest := []) ⟨hx, hb, hml, hown, hts⟩ (r_emit l G a_r a_rc a_tk a_rh a_rs H.size z230 z231 z232 e_fp 5 0 z233 ⟨by omega, by omega⟩ i_226 i_225 (i_227) (by unfold wOK; decide)) (cwV 2 hts gV_X4_79 rfl rfl rfl hv_X4_emit ⟨by simp only [headSpec]; omega, by simp only [headSpec]; omega⟩) (g5_preV hPc hK hDc hN hT hS hFc (ci := 4) (q0 := 0) rfl rfl) rfl rfl hl.1 rfl (lv_room (Nat.le_of_ble_eq_true rfl)) dX4_readSum_161 ⟨Nat.le_of_ble_eq_true rfl, Nat.le_of_ble_eq_true rfl⟩) hS (fun q _ h => hFc q h) hFc (fun r u t H1 locs ht hvm hw hB hz1 hk1 hS => ?_)
                                      obtain ⟨hP1, hD1⟩ := hB
                                      rw [ht] at hP1
                                      obtain ⟨z242, z243, z244, i_237, i_238, i_239, i_240, i_241, y245, rfl⟩ := hw
                                      have i_237 : -1 ≤ z242.toInt ∧ z242.toInt ≤ 399 := i_237
                                      have i_238 : z230.toInt ≤ z243.toInt ∧ z243.toInt ≤ 400 := i_238
                                      have i_239 : CDI z244 z243.toInt := i_239
                                      have i_240 : OPK z233 z244 z230.toInt := i_240
                                      have i_241 : 0 ≤ z242.toInt → z242.toInt < z243.toInt ∧ z244 z242.toNatClampNeg = (((5 : Int32) <<< (12 &&& 31)) ||| (0 : Int32)) := i_241
                                      obtain ⟨hP, hD⟩ := va_join (wr := [(a_tk, (oc8 a_kd a_nm a_pl)), (a_kd, (arI G 401 f_kd)), (a_nm, (arI G 401 f_nm))]) hP hD [0, 4] [1, 2, 3] rfl rfl (by decide) (by decide) hk1 hFc hP1 hD1
                                      generalize H1 = H at hP hS ⊢
                                      refine g5_rs [(a_tk, (oc8 a_kd a_nm a_pl)), (a_kd, (arI G 401 f_kd)), (a_nm, (arI G 401 f_nm)), (a_r, (oc4 a_tk a_rh a_rs a_rc z243 z231 z232 e_fp)), (a_rc, (arI G 400 z244))] hP hD (fun hP hD => ?_)
                                      refine g5_ti (v := z242) y245 ?_
                                      refine lv_pop hx hb dX4_readSum_164 rfl ?_
                                      refine lv_iinc (v := (k_i + 1)) (lv' := [(3, .int (k_i + 1)), (5, .int 0), (4, .int 5), (2, .int k_w), (0, .ref a_r), (1, .int p_d)]) hx hb dX4_readSum_165 hl (k := 3) rfl rfl (by decide) rfl (fun ls hl => ?_)
                                      have t_246 : (k_i + 1).toInt = k_i.toInt + 1 := g5_iadd (a := k_i.toInt) (b := 1) rfl (by decide) (by omega) (by omega)
                                      refine lv_goto (tgt := 14) hx hb dX4_readSum_168 (by decide) ?_
                                      exact ih_14_23 (k_w, (k_i + 1), z243, z231, z232, z244) ls H locs (show Int.toNat (400 - (k_i + 1).toInt) < Int.toNat (400 - k_i.toInt) from g_up (show k_i.toInt < (k_i + 1).toInt by omega) (show k_i.toInt < 400 by omega)) ⟨lv_sub hl [3, 0, 4, 5] rfl, hP.sub [3, 0, 1, 2, 4] rfl, hD.sub [3, 0, 1, 2, 4] (by decide) rfl, hS, i_14, ⟨by omega, by omega⟩, ⟨by omega, by omega⟩, i_226, i_225, by omega, i_239, opk_trans i_21 (opk_trans i_228 (i_240) (by omega)) (by omega), i_22⟩
                                    ·
                                      exact absurd c_236 (by decide)
                                  ·
                                    have i_235 : z229.toInt = 0 := by have z := g5_neN (a := z229.toInt) (b := 0) (by rfl) (by decide) c_235; omega
                                    refine lv_iconst (v := 0) hx hb dX4_readSum_144 (by decide) ?_
                                    exact W.zret (v := 0) hx hb hr rfl (fun t ht hW => ⟨⟨0, [(a_r, (oc4 a_tk a_rh a_rs a_rc z230 z231 z232 e_fp)), (a_tk, (oc8 a_kd a_nm a_pl)), (a_kd, (arI G 401 f_kd)), (a_nm, (arI G 401 f_nm)), (a_rc, (arI G 400 z233))], rfl, ⟨0, z230, z231, z232, z233, ⟨by have zc_o_r : (0 : Int32).toInt = 0 := (by decide); omega, by have zc_o_r : (0 : Int32).toInt = 0 := (by decide); omega⟩, ⟨by omega, by omega⟩, i_225, i_226, i_227, opk_trans i_21 (i_228) (by omega), rfl, rfl⟩, by rw [ht]; exact hP.sub [0, 1, 2, 3, 4] rfl, hD.sub [0, 1, 2, 3, 4] (by decide) rfl⟩, hS.F ht⟩) hS.2.2 dX4_readSum_145
                                ·
                                  exact absurd c_221 (by decide)
                              ·
                                exact absurd c_220 (by decide)
                        ·
                          exact absurd c_191 (by decide)
                  ·
                    obtain ⟨hP, hD⟩ := va_join (wr := [(a_nm, (arI G 401 f_nm)), (a_rc, (arI G 400 k_rc))]) hP hD [2, 3, 4] [0, 1] rfl rfl (by decide) (by decide) hk1 hFc hP1 hD1
                    generalize H1 = H at hP hS ⊢
                    refine g5_rs [(a_nm, (arI G 401 f_nm)), (a_rc, (arI G 400 k_rc)), (a_r, (oc4 a_tk a_rh a_rs a_rc k_ln k_pa k_at e_fp)), (a_tk, (oc8 a_kd a_nm a_pl)), (a_kd, (arI G 401 f_kd))] hP hD (fun hP hD => ?_)
                    refine lv_if_eq (tgt := 73) hx hb dX4_readSum_66 (by decide) (fun c_247 => ?_) (fun c_247 => ?_)
                    ·
                      refine lv_iconst (v := (-1)) hx hb dX4_readSum_73 (by decide) ?_
                      refine lv_istore (lv' := [(4, .int (-1)), (2, .int k_w), (3, .int k_i), (0, .ref a_r), (1, .int p_d)]) hx hb dX4_readSum_74 hl (by decide) rfl (fun ls hl => ?_)
                      refine lv_iload hx hb dX4_readSum_76 (lv_at hl 0 rfl) ?_
                      refine lv_iconst (v := 2) hx hb dX4_readSum_78 (by decide) ?_
                      refine lv_icmp_eq (tgt := 88) hx hb dX4_readSum_79 (by decide) (fun c_248 => ?_) (fun c_248 => ?_)
                      ·
                        exact absurd c_248 (by decide)
                      ·
                        refine lv_iload hx hb dX4_readSum_82 (lv_at hl 0 rfl) ?_
                        refine lv_iconst (v := 3) hx hb dX4_readSum_84 (by decide) ?_
                        refine lv_icmp_ne (tgt := 92) hx hb dX4_readSum_85 (by decide) (fun c_249 => ?_) (fun c_249 => ?_)
                        ·
                          refine lv_iconst (v := 0) hx hb dX4_readSum_92 (by decide) ?_
                          refine lv_istore (lv' := [(5, .int 0), (4, .int (-1)), (2, .int k_w), (3, .int k_i), (0, .ref a_r), (1, .int p_d)]) hx hb dX4_readSum_93 hl (by decide) rfl (fun ls hl => ?_)
                          refine lv_iload_n hx hb dX4_readSum_95 rfl (lv_at hl 2 rfl) ?_
                          refine lv_iconst (v := (-1)) hx hb dX4_readSum_96 (by decide) ?_
                          refine lv_icmp_eq (tgt := 118) hx hb dX4_readSum_97 (by decide) (fun c_250 => ?_) (fun c_250 => ?_)
                          ·
                            have i_250 : k_w.toInt = (-1) := by have z := g5_eq (a := k_w.toInt) (b := (-1)) (by rfl) (by decide) c_250; omega
                            refine lv_iload hx hb dX4_readSum_118 (lv_at hl 1 rfl) ?_
                            refine lv_iconst (v := (-1)) hx hb dX4_readSum_120 (by decide) ?_
                            refine lv_icmp_ne (tgt := 126) hx hb dX4_readSum_121 (by decide) (fun c_251 => ?_) (fun c_251 => ?_)
                            ·
                              exact absurd c_251 (by decide)
                            ·
                              refine lv_iconst (v := 1) hx hb dX4_readSum_124 (by decide) ?_
                              exact W.zret (v := 1) hx hb hr rfl (fun t ht hW => ⟨⟨1, [(a_r, (oc4 a_tk a_rh a_rs a_rc k_ln k_pa k_at e_fp)), (a_tk, (oc8 a_kd a_nm a_pl)), (a_kd, (arI G 401 f_kd)), (a_nm, (arI G 401 f_nm)), (a_rc, (arI G 400 k_rc))], rfl, ⟨1, k_ln, k_pa, k_at, k_rc, ⟨by have zc_o_r : (1 : Int32).toInt = 1 := (by decide); omega, by have zc_o_r : (1 : Int32).toInt = 1 := (by decide); omega⟩, ⟨by omega, by omega⟩, i_18, i_17, i_20, i_21, rfl, rfl⟩, by rw [ht]; exact hP.sub [2, 3, 4, 0, 1] rfl, hD.sub [2, 3, 4, 0, 1] (by decide) rfl⟩, hS.F ht⟩) hS.2.2 dX4_readSum_125
                          ·
                            have n_250 : gNe (k_w.toInt) ((-1)) := by have z := g5_eqN (a := k_w.toInt) (b := (-1)) (by rfl) (by decide) c_250; unfold gNe; omega
                            have i_250 : k_w.toInt ≥ 0 := by have z := g5_eqN (a := k_w.toInt) (b := (-1)) (by rfl) (by decide) c_250; omega
                            refine lv_iload hx hb dX4_readSum_100 (lv_at hl 0 rfl) ?_
                            refine lv_if_ne (tgt := 111) hx hb dX4_readSum_102 (by decide) (fun c_252 => ?_) (fun c_252 => ?_)
                            ·
                              exact absurd c_252 (by decide)
                            ·
                              refine lv_iload hx hb dX4_readSum_105 (lv_at hl 1 rfl) ?_
                              refine lv_iconst (v := (-1)) hx hb dX4_readSum_107 (by decide) ?_
                              refine lv_icmp_ne (tgt := 118) hx hb dX4_readSum_108 (by decide) (fun c_253 => ?_) (fun c_253 => ?_)
                              ·
                                exact absurd c_253 (by decide)
                              ·
                                refine lv_aload_n hx hb dX4_readSum_111 rfl (lv_at hl 4 rfl) ?_
                                refine lv_iload_n hx hb dX4_readSum_112 rfl (lv_at hl 2 rfl) ?_
                                refine lv_iconst (v := 0) hx hb dX4_readSum_113 (by decide) ?_
                                obtain ⟨hPc, hDc, hFc⟩ := g5_sub3 (wc := [(a_r, (oc4 a_tk a_rh a_rs a_rc k_ln k_pa k_at e_fp)), (a_rc, (arI G 400 k_rc))]) hP hD hS hA [2, 1] (by decide) rfl
                                refine va_calli (va_runV (As := [.int k_w, .int 0]) (rest := []) ⟨hx, hb, hml, hown, hts⟩ (r_emit l G a_r a_rc a_tk a_rh a_rs H.size k_ln k_pa k_at e_fp k_w 0 k_rc i_16 i_17 i_18 (i_20) (wok_wait (by rcases i_22 with q | q | q; exact absurd q n_250; exact Or.inl q; exact Or.inr q))) (cwV 2 hts gV_X4_79 rfl rfl rfl hv_X4_emit ⟨by simp only [headSpec]; omega, by simp only [headSpec]; omega⟩) (g5_preV hPc hK hDc hN hT hS hFc (ci := 4) (q0 := 0) rfl rfl) rfl rfl hl.1 rfl (lv_room (Nat.le_of_ble_eq_true rfl)) dX4_readSum_114 ⟨Nat.le_of_ble_eq_true rfl, Nat.le_of_ble_eq_true rfl⟩) hS (fun q _ h => hFc q h) hFc (fun r u t H1 locs ht hvm hw hB hz1 hk1 hS => ?_)
                                obtain ⟨hP1, hD1⟩ := hB
                                rw [ht] at hP1
                                obtain ⟨z259, z260, z261, i_254, i_255, i_256, i_257, i_258, y262, rfl⟩ := hw
                                have i_254 : -1 ≤ z259.toInt ∧ z259.toInt ≤ 399 := i_254
                                have i_255 : k_ln.toInt ≤ z260.toInt ∧ z260.toInt ≤ 400 := i_255
                                have i_256 : CDI z261 z260.toInt := i_256
                                have i_257 : OPK k_rc z261 k_ln.toInt := i_257
                                have i_258 : 0 ≤ z259.toInt → z259.toInt < z260.toInt ∧ z261 z259.toNatClampNeg = ((k_w <<< (12 &&& 31)) ||| (0 : Int32)) := i_258
                                obtain ⟨hP, hD⟩ := va_join (wr := [(a_nm, (arI G 401 f_nm)), (a_tk, (oc8 a_kd a_nm a_pl)), (a_kd, (arI G 401 f_kd))]) hP hD [2, 1] [0, 3, 4] rfl rfl (by decide) (by decide) hk1 hFc hP1 hD1
                                generalize H1 = H at hP hS ⊢
                                refine g5_rs [(a_nm, (arI G 401 f_nm)), (a_tk, (oc8 a_kd a_nm a_pl)), (a_kd, (arI G 401 f_kd)), (a_r, (oc4 a_tk a_rh a_rs a_rc z260 k_pa k_at e_fp)), (a_rc, (arI G 400 z261))] hP hD (fun hP hD => ?_)
                                refine g5_ti (v := z259) y262 ?_
                                refine lv_pop hx hb dX4_readSum_117 rfl ?_
                                refine lv_iload hx hb dX4_readSum_118 (lv_at hl 1 rfl) ?_
                                refine lv_iconst (v := (-1)) hx hb dX4_readSum_120 (by decide) ?_
                                refine lv_icmp_ne (tgt := 126) hx hb dX4_readSum_121 (by decide) (fun c_263 => ?_) (fun c_263 => ?_)
                                ·
                                  exact absurd c_263 (by decide)
                                ·
                                  refine lv_iconst (v := 1) hx hb dX4_readSum_124 (by decide) ?_
                                  exact W.zret (v := 1) hx hb hr rfl (fun t ht hW => ⟨⟨1, [(a_r, (oc4 a_tk a_rh a_rs a_rc z260 k_pa k_at e_fp)), (a_tk, (oc8 a_kd a_nm a_pl)), (a_kd, (arI G 401 f_kd)), (a_nm, (arI G 401 f_nm)), (a_rc, (arI G 400 z261))], rfl, ⟨1, z260, k_pa, k_at, z261, ⟨by have zc_o_r : (1 : Int32).toInt = 1 := (by decide); omega, by have zc_o_r : (1 : Int32).toInt = 1 := (by decide); omega⟩, ⟨by omega, by omega⟩, i_18, i_17, i_256, opk_trans i_21 (i_257) (by omega), rfl, rfl⟩, by rw [ht]; exact hP.sub [3, 1, 2, 0, 4] rfl, hD.sub [3, 1, 2, 0, 4] (by decide) rfl⟩, hS.F ht⟩) hS.2.2 dX4_readSum_125
                        ·
                          exact absurd c_249 (by decide)
                    ·
                      exact absurd c_247 (by decide)
                ·
                  exact absurd c_186 (by decide)
            ·
              exact absurd c_125 (by decide)
        ·
          exact absurd c_74 (by decide)
  ·
    have i_13 : z7.toInt = 0 := by have z := g5_neN (a := z7.toInt) (b := 0) (by rfl) (by decide) c_13; omega
    refine lv_iconst (v := 0) hx hb dX4_readSum_8 (by decide) ?_
    exact W.zret (v := 0) hx hb hr rfl (fun t ht hW => ⟨⟨0, [(a_r, (oc4 a_tk a_rh a_rs a_rc z8 z9 z10 e_fp)), (a_tk, (oc8 a_kd a_nm a_pl)), (a_kd, (arI G 401 f_kd)), (a_nm, (arI G 401 f_nm)), (a_rc, (arI G 400 z11))], rfl, ⟨0, z8, z9, z10, z11, ⟨by have zc_o_r : (0 : Int32).toInt = 0 := (by decide); omega, by have zc_o_r : (0 : Int32).toInt = 0 := (by decide); omega⟩, ⟨by omega, by omega⟩, i_3, i_4, i_5, i_6, rfl, rfl⟩, by rw [ht]; exact hP.sub [0, 1, 2, 3, 4] rfl, hD.sub [0, 1, 2, 3, 4] (by decide) rfl⟩, hS.F ht⟩) hS.2.2 dX4_readSum_9
