set_option maxHeartbeats 4000000 in
set_option maxRecDepth 100000 in
theorem r_plain (fr lo f2 l2 : Nat) (p_d : Int32) (h_p_d : 0 ≤ p_d.toInt ∧ p_d.toInt ≤ 8) (h_sum : ∀ x : Int32, x.toInt = p_d.toInt + 1 → p_d.toInt < 8 → ∀ (l : Launch) (G : g5_G) (a_r a_tk a_kd a_nm a_rc a_rh a_rs a_pl : Nat) (sz : Nat) (e_ln : Int32) (e_pa : Int32) (e_at : Int32) (e_fp : Int32) (f_kd : Nat → Int32) (f_nm : Nat → Int32) (f_rc : Nat → Int32) (h_e_ln : 0 ≤ e_ln.toInt ∧ e_ln.toInt ≤ 400) (h_e_pa : 0 ≤ e_pa.toInt ∧ e_pa.toInt ≤ 50) (h_e_at : 0 ≤ e_at.toInt ∧ e_at.toInt ≤ 401) (e_tk : TOKI f_kd f_nm) (e_cd : CDI f_rc e_ln.toInt), Met l yX4_readSum (wsG yX4_readSum cX4_readSum 6 (some .boolean)) ({ frames := fr + 0, cells := 0, slots := 0, locals := lo + 0 }) (va_Pc [.ref a_r, .int x] (g5_P G [(a_r, (oc4 a_tk a_rh a_rs a_rc e_ln e_pa e_at e_fp)), (a_tk, (oc8 a_kd a_nm a_pl)), (a_kd, (arI G 401 f_kd)), (a_nm, (arI G 401 f_nm)), (a_rc, (arI G 400 f_rc))] sz)) (va_Qi (fun (r : Int32) (u : va_W) => (∃ (o_r : Int32) (o_ln : Int32) (o_pa : Int32) (o_at : Int32) (o_rc : Nat → Int32), (0 ≤ o_r.toInt ∧ o_r.toInt ≤ 1) ∧ (e_ln.toInt ≤ o_ln.toInt ∧ o_ln.toInt ≤ 400) ∧ (0 ≤ o_at.toInt ∧ o_at.toInt ≤ 401) ∧ (0 ≤ o_pa.toInt ∧ o_pa.toInt ≤ 50) ∧ (CDI o_rc o_ln.toInt) ∧ (OPK f_rc o_rc e_ln.toInt) ∧ (r = o_r) ∧ (u = [(a_r, (oc4 a_tk a_rh a_rs a_rc o_ln o_pa o_at e_fp)), (a_tk, (oc8 a_kd a_nm a_pl)), (a_kd, (arI G 401 f_kd)), (a_nm, (arI G 401 f_nm)), (a_rc, (arI G 400 o_rc))]))) (g5_B G (va_A [(a_r, (oc4 a_tk a_rh a_rs a_rc e_ln e_pa e_at e_fp)), (a_tk, (oc8 a_kd a_nm a_pl)), (a_kd, (arI G 401 f_kd)), (a_nm, (arI G 401 f_nm)), (a_rc, (arI G 400 f_rc))] sz)) (va_A [(a_r, (oc4 a_tk a_rh a_rs a_rc e_ln e_pa e_at e_fp)), (a_tk, (oc8 a_kd a_nm a_pl)), (a_kd, (arI G 401 f_kd)), (a_nm, (arI G 401 f_nm)), (a_rc, (arI G 400 f_rc))] sz)) 0 0 (va_A [(a_r, (oc4 a_tk a_rh a_rs a_rc e_ln e_pa e_at e_fp)), (a_tk, (oc8 a_kd a_nm a_pl)), (a_kd, (arI G 401 f_kd)), (a_nm, (arI G 401 f_nm)), (a_rc, (arI G 400 f_rc))] sz)) (h_test : ∀ x : Int32, x.toInt = p_d.toInt + 1 → p_d.toInt < 8 → ∀ (l : Launch) (G : g5_G) (a_r a_tk a_kd a_nm a_rc a_rh a_rs a_pl : Nat) (sz : Nat) (e_ln : Int32) (e_pa : Int32) (e_at : Int32) (e_fp : Int32) (f_kd : Nat → Int32) (f_nm : Nat → Int32) (f_rc : Nat → Int32) (h_e_ln : 0 ≤ e_ln.toInt ∧ e_ln.toInt ≤ 400) (h_e_pa : 0 ≤ e_pa.toInt ∧ e_pa.toInt ≤ 50) (h_e_at : 0 ≤ e_at.toInt ∧ e_at.toInt ≤ 401) (e_tk : TOKI f_kd f_nm) (e_cd : CDI f_rc e_ln.toInt), Met l yX4_readTest (wsG yX4_readTest cX4_readTest 6 (some .boolean)) ({ frames := f2 + 0, cells := 0, slots := 0, locals := l2 + 0 }) (va_Pc [.ref a_r, .int x] (g5_P G [(a_r, (oc4 a_tk a_rh a_rs a_rc e_ln e_pa e_at e_fp)), (a_tk, (oc8 a_kd a_nm a_pl)), (a_kd, (arI G 401 f_kd)), (a_nm, (arI G 401 f_nm)), (a_rc, (arI G 400 f_rc))] sz)) (va_Qi (fun (r : Int32) (u : va_W) => (∃ (o_r : Int32) (o_ln : Int32) (o_pa : Int32) (o_at : Int32) (o_rc : Nat → Int32), (0 ≤ o_r.toInt ∧ o_r.toInt ≤ 1) ∧ (e_ln.toInt ≤ o_ln.toInt ∧ o_ln.toInt ≤ 400) ∧ (0 ≤ o_at.toInt ∧ o_at.toInt ≤ 401) ∧ (0 ≤ o_pa.toInt ∧ o_pa.toInt ≤ 50) ∧ (CDI o_rc o_ln.toInt) ∧ (OPK f_rc o_rc e_ln.toInt) ∧ (r = o_r) ∧ (u = [(a_r, (oc4 a_tk a_rh a_rs a_rc o_ln o_pa o_at e_fp)), (a_tk, (oc8 a_kd a_nm a_pl)), (a_kd, (arI G 401 f_kd)), (a_nm, (arI G 401 f_nm)), (a_rc, (arI G 400 o_rc))]))) (g5_B G (va_A [(a_r, (oc4 a_tk a_rh a_rs a_rc e_ln e_pa e_at e_fp)), (a_tk, (oc8 a_kd a_nm a_pl)), (a_kd, (arI G 401 f_kd)), (a_nm, (arI G 401 f_nm)), (a_rc, (arI G 400 f_rc))] sz)) (va_A [(a_r, (oc4 a_tk a_rh a_rs a_rc e_ln e_pa e_at e_fp)), (a_tk, (oc8 a_kd a_nm a_pl)), (a_kd, (arI G 401 f_kd)), (a_nm, (arI G 401 f_nm)), (a_rc, (arI G 400 f_rc))] sz)) 0 0 (va_A [(a_r, (oc4 a_tk a_rh a_rs a_rc e_ln e_pa e_at e_fp)), (a_tk, (oc8 a_kd a_nm a_pl)), (a_kd, (arI G 401 f_kd)), (a_nm, (arI G 401 f_nm)), (a_rc, (arI G 400 f_rc))] sz)) (l : Launch) (G : g5_G) (a_r a_tk a_kd a_nm a_rc a_rh a_rs a_pl : Nat) (sz : Nat) (e_ln : Int32) (e_pa : Int32) (e_at : Int32) (e_fp : Int32) (f_kd : Nat → Int32) (f_nm : Nat → Int32) (f_rc : Nat → Int32) (h_e_ln : 0 ≤ e_ln.toInt ∧ e_ln.toInt ≤ 400) (h_e_pa : 0 ≤ e_pa.toInt ∧ e_pa.toInt ≤ 50) (h_e_at : 0 ≤ e_at.toInt ∧ e_at.toInt ≤ 401) (e_tk : TOKI f_kd f_nm) (e_cd : CDI f_rc e_ln.toInt) : Met l yX4_readPlain (wsG yX4_readPlain cX4_readPlain 4 (some .boolean)) ({ frames := fr + f2 + 3, cells := 0, slots := 0, locals := lo + l2 + 73 }) (va_Pc [.ref a_r, .int p_d] (g5_P G [(a_r, (oc4 a_tk a_rh a_rs a_rc e_ln e_pa e_at e_fp)), (a_tk, (oc8 a_kd a_nm a_pl)), (a_kd, (arI G 401 f_kd)), (a_nm, (arI G 401 f_nm)), (a_rc, (arI G 400 f_rc))] sz)) (va_Qi (fun (r : Int32) (u : va_W) => (∃ (o_r : Int32) (o_ln : Int32) (o_pa : Int32) (o_at : Int32) (o_rc : Nat → Int32), (0 ≤ o_r.toInt ∧ o_r.toInt ≤ 1) ∧ (e_ln.toInt ≤ o_ln.toInt ∧ o_ln.toInt ≤ 400) ∧ (0 ≤ o_at.toInt ∧ o_at.toInt ≤ 401) ∧ (0 ≤ o_pa.toInt ∧ o_pa.toInt ≤ 50) ∧ (CDI o_rc o_ln.toInt) ∧ (OPK f_rc o_rc e_ln.toInt) ∧ (r = o_r) ∧ (u = [(a_r, (oc4 a_tk a_rh a_rs a_rc o_ln o_pa o_at e_fp)), (a_tk, (oc8 a_kd a_nm a_pl)), (a_kd, (arI G 401 f_kd)), (a_nm, (arI G 401 f_nm)), (a_rc, (arI G 400 o_rc))]))) (g5_B G (va_A [(a_r, (oc4 a_tk a_rh a_rs a_rc e_ln e_pa e_at e_fp)), (a_tk, (oc8 a_kd a_nm a_pl)), (a_kd, (arI G 401 f_kd)), (a_nm, (arI G 401 f_nm)), (a_rc, (arI G 400 f_rc))] sz)) (va_A [(a_r, (oc4 a_tk a_rh a_rs a_rc e_ln e_pa e_at e_fp)), (a_tk, (oc8 a_kd a_nm a_pl)), (a_kd, (arI G 401 f_kd)), (a_nm, (arI G 401 f_nm)), (a_rc, (arI G 400 f_rc))] sz)) 0 0 (va_A [(a_r, (oc4 a_tk a_rh a_rs a_rc e_ln e_pa e_at e_fp)), (a_tk, (oc8 a_kd a_nm a_pl)), (a_kd, (arI G 401 f_kd)), (a_nm, (arI G 401 f_nm)), (a_rc, (arI G 400 f_rc))] sz) := by
  refine Met.ofW (cc := cX4_readPlain) (maxL := 4) (ret := (some .boolean)) (by decide) rfl ?_
  intro p e s m args below meth c s₁ B hml hv
  obtain ⟨rfl, hsz, hP, hK, hD0, hN, hT⟩ := hv
  have hx := B.exec
  have hb := B.bytes
  have hr := B.returns
  have hts : ∀ w ∈ tblG, w.before _ s = true := fun w h => atoms_spec (ws := (wsG yX4_readPlain cX4_readPlain 4 (some .boolean))) B.pre w (List.mem_cons_of_mem _ h)
  have hown : s.vm.findClass RX4 = some m.cls := findClass_of_methodNamed B.named
  have hlocks := B.notSynchronized
  subst hsz
  have hD := hD0.self (sz := s.heap.size)
  generalize hAe : va_A [(a_r, (oc4 a_tk a_rh a_rs a_rc e_ln e_pa e_at e_fp)), (a_tk, (oc8 a_kd a_nm a_pl)), (a_kd, (arI G 401 f_kd)), (a_nm, (arI G 401 f_nm)), (a_rc, (arI G 400 f_rc))] s.heap.size = A at hD hT ⊢
  have hA : ∀ q : Nat, s.heap.size ≤ q → A q := fun q h => by rw [← hAe]; exact Or.inr h
  have hS : va_S A s.heap s.heap [] := va_S.rf
  have hP : va_P G.1 vwCl [(a_r, (oc4 a_tk a_rh a_rs a_rc e_ln e_pa e_at e_fp)), (a_tk, (oc8 a_kd a_nm a_pl)), (a_kd, (arI G 401 f_kd)), (a_nm, (arI G 401 f_nm)), (a_rc, (arI G 400 f_rc))] s.heap := hP
  have hl := lv_entry ([.ref a_r, .int p_d]) (n := 4) (Nat.le_of_ble_eq_true rfl)
  rw [lg_entry_eq]
  generalize (lg_sl ([.ref a_r, .int p_d]) ++ List.replicate (4 - (lg_sl ([.ref a_r, .int p_d])).length) Slot.unset).toArray = ls at hl ⊢
  have hl : lv_has ls 4 [(0, .ref a_r), (1, .int p_d)] := hl
  refine lv_iconst (v := 0) hx hb dX4_readPlain_0 (by decide) ?_
  refine lv_istore_n (lv' := [(2, .int 0), (0, .ref a_r), (1, .int p_d)]) hx hb dX4_readPlain_1 rfl hl (by decide) rfl (fun ls hl => ?_)
  refine lv_iconst (v := 0) hx hb dX4_readPlain_2 (by decide) ?_
  refine lv_istore_n (lv' := [(3, .int 0), (2, .int 0), (0, .ref a_r), (1, .int p_d)]) hx hb dX4_readPlain_3 rfl hl (by decide) rfl (fun ls hl => ?_)
  refine g5_loop (α := (Int32) × (Int32) × (Int32)) (fun (q : (Int32) × (Int32) × (Int32)) (ls : Array Slot) (H : Heap) (locs : List Loc) => match q with | (k_u, k_i, k_at) => lv_has ls 4 [(2, .int k_u), (3, .int k_i), (0, .ref a_r), (1, .int p_d)] ∧ va_P G.1 vwCl [(a_r, (oc4 a_tk a_rh a_rs a_rc e_ln e_pa k_at e_fp)), (a_tk, (oc8 a_kd a_nm a_pl)), (a_kd, (arI G 401 f_kd)), (a_nm, (arI G 401 f_nm)), (a_rc, (arI G 400 f_rc))] H ∧ va_D A [(a_r, (oc4 a_tk a_rh a_rs a_rc e_ln e_pa k_at e_fp)), (a_tk, (oc8 a_kd a_nm a_pl)), (a_kd, (arI G 401 f_kd)), (a_nm, (arI G 401 f_nm)), (a_rc, (arI G 400 f_rc))] ∧ va_S A s.heap H locs ∧ (0 ≤ k_u.toInt ∧ k_u.toInt ≤ 1) ∧ (0 ≤ k_i.toInt ∧ k_i.toInt ≤ 400) ∧ (0 ≤ k_at.toInt ∧ k_at.toInt ≤ 401)) (fun (q : (Int32) × (Int32) × (Int32)) => match q with | (k_u, k_i, k_at) => Int.toNat (400 - k_i.toInt)) (0, 0, e_at) ⟨lv_sub hl [1, 0, 2, 3] rfl, hP, hD, hS, ⟨by decide, by decide⟩, ⟨by decide, by decide⟩, h_e_at⟩ ?_
  rintro ⟨k_u, k_i, k_at⟩ ls H locs ⟨hl, hP, hD, hS, i_1, i_2, i_3⟩ ih_4_4
  have hl : lv_has ls 4 [(2, .int k_u), (3, .int k_i), (0, .ref a_r), (1, .int p_d)] := hl
  have i_1 : 0 ≤ k_u.toInt ∧ k_u.toInt ≤ 1 := i_1
  have i_2 : 0 ≤ k_i.toInt ∧ k_i.toInt ≤ 400 := i_2
  have i_3 : 0 ≤ k_at.toInt ∧ k_at.toInt ≤ 401 := i_3
  refine g5_rs [(a_r, (oc4 a_tk a_rh a_rs a_rc e_ln e_pa k_at e_fp)), (a_tk, (oc8 a_kd a_nm a_pl)), (a_kd, (arI G 401 f_kd)), (a_nm, (arI G 401 f_nm)), (a_rc, (arI G 400 f_rc))] hP hD (fun hP hD => ?_)
  refine lv_iload_n hx hb dX4_readPlain_4 rfl (lv_at hl 1 rfl) ?_
  refine lv_sipush (v := 400) hx hb dX4_readPlain_5 (by decide) ?_
  refine lv_icmp_ge (tgt := 37) hx hb dX4_readPlain_8 (by decide) (fun c_5 => ?_) (fun c_5 => ?_)
  ·
    have i_5 : k_i.toInt ≥ 400 := by have z := g5_ge (a := k_i.toInt) (b := 400) (by rfl) (by decide) c_5; omega
    refine lv_aload_n hx hb dX4_readPlain_37 rfl (lv_at hl 2 rfl) ?_
    refine lv_bipush (v := 40) hx hb dX4_readPlain_38 (by decide) ?_
    obtain ⟨hPc, hDc, hFc⟩ := g5_sub3 (wc := [(a_r, (oc4 a_tk a_rh a_rs a_rc e_ln e_pa k_at e_fp)), (a_tk, (oc8 a_kd a_nm a_pl)), (a_kd, (arI G 401 f_kd))]) hP hD hS hA [0, 1, 2] (by decide) rfl
    refine va_calli (va_runV (As := [.int 40]) (rest := []) ⟨hx, hb, hml, hown, hts⟩ (r_isNext l G a_r a_tk a_kd a_rh a_rs a_rc a_nm a_pl H.size e_ln e_pa k_at e_fp 40 f_kd h_e_ln h_e_pa i_3) (cwV 1 hts gV_X4_49 rfl rfl rfl hv_X4_isNext ⟨by simp only [headSpec]; omega, by simp only [headSpec]; omega⟩) (g5_preV hPc hK hDc hN hT hS hFc (ci := 4) (q0 := 0) rfl rfl) rfl rfl hl.1 rfl (lv_room (Nat.le_of_ble_eq_true rfl)) dX4_readPlain_40 ⟨Nat.le_of_ble_eq_true rfl, Nat.le_of_ble_eq_true rfl⟩) hS (fun q _ h => hFc q h) hFc (fun r u t H1 locs ht hvm hw hB hz1 hk1 hS => ?_)
    obtain ⟨hP1, hD1⟩ := hB
    rw [ht] at hP1
    rcases hw with ⟨i_6, i_7, rfl, rfl⟩ | ⟨rfl, rfl⟩
    ·
      have i_6 : k_at.toInt ≤ 400 := i_6
      have i_7 : f_kd k_at.toNatClampNeg = (40 : Int32) := i_7
      obtain ⟨hP, hD⟩ := va_join (wr := [(a_nm, (arI G 401 f_nm)), (a_rc, (arI G 400 f_rc))]) hP hD [0, 1, 2] [3, 4] rfl rfl (by decide) (by decide) hk1 hFc hP1 hD1
      generalize H1 = H at hP hS ⊢
      refine g5_rs [(a_nm, (arI G 401 f_nm)), (a_rc, (arI G 400 f_rc)), (a_r, (oc4 a_tk a_rh a_rs a_rc e_ln e_pa k_at e_fp)), (a_tk, (oc8 a_kd a_nm a_pl)), (a_kd, (arI G 401 f_kd))] hP hD (fun hP hD => ?_)
      refine lv_if_eq (tgt := 82) hx hb dX4_readPlain_43 (by decide) (fun c_8 => ?_) (fun c_8 => ?_)
      ·
        exact absurd c_8 (by decide)
      ·
        refine lv_iload_n hx hb dX4_readPlain_46 rfl (lv_at hl 3 rfl) ?_
        refine lv_bipush (v := 8) hx hb dX4_readPlain_47 (by decide) ?_
        refine lv_icmp_ge (tgt := 80) hx hb dX4_readPlain_49 (by decide) (fun c_9 => ?_) (fun c_9 => ?_)
        ·
          have i_9 : p_d.toInt ≥ 8 := by have z := g5_ge (a := p_d.toInt) (b := 8) (by rfl) (by decide) c_9; omega
          refine lv_iconst (v := 0) hx hb dX4_readPlain_80 (by decide) ?_
          exact W.zret (v := 0) hx hb hr rfl (fun t ht hW => ⟨⟨0, [(a_r, (oc4 a_tk a_rh a_rs a_rc e_ln e_pa k_at e_fp)), (a_tk, (oc8 a_kd a_nm a_pl)), (a_kd, (arI G 401 f_kd)), (a_nm, (arI G 401 f_nm)), (a_rc, (arI G 400 f_rc))], rfl, ⟨0, e_ln, e_pa, k_at, f_rc, ⟨by have zc_o_r : (0 : Int32).toInt = 0 := (by decide); omega, by have zc_o_r : (0 : Int32).toInt = 0 := (by decide); omega⟩, ⟨by omega, by omega⟩, i_3, h_e_pa, e_cd, opk_refl, rfl, rfl⟩, by rw [ht]; exact hP.sub [2, 3, 4, 0, 1] rfl, hD.sub [2, 3, 4, 0, 1] (by decide) rfl⟩, hS.F ht⟩) hS.2.2 dX4_readPlain_81
        ·
          have i_9 : p_d.toInt < 8 := by have z := g5_geN (a := p_d.toInt) (b := 8) (by rfl) (by decide) c_9; omega
          refine lv_aload_n hx hb dX4_readPlain_52 rfl (lv_at hl 2 rfl) ?_
          refine lv_bipush (v := 40) hx hb dX4_readPlain_53 (by decide) ?_
          obtain ⟨hPc, hDc, hFc⟩ := g5_sub3 (wc := [(a_r, (oc4 a_tk a_rh a_rs a_rc e_ln e_pa k_at e_fp)), (a_tk, (oc8 a_kd a_nm a_pl)), (a_kd, (arI G 401 f_kd))]) hP hD hS hA [2, 3, 4] (by decide) rfl
          refine va_calli (va_runV (As := [.int 40]) (rest := []) ⟨hx, hb, hml, hown, hts⟩ (r_passed l G a_r a_tk a_kd a_rh a_rs a_rc a_nm a_pl H.size e_ln e_pa k_at e_fp 40 f_kd h_e_ln h_e_pa i_3) (cwV 1 hts gV_X4_63 rfl rfl rfl hv_X4_passed ⟨by simp only [headSpec]; omega, by simp only [headSpec]; omega⟩) (g5_preV hPc hK hDc hN hT hS hFc (ci := 4) (q0 := 0) rfl rfl) rfl rfl hl.1 rfl (lv_room (Nat.le_of_ble_eq_true rfl)) dX4_readPlain_55 ⟨Nat.le_of_ble_eq_true rfl, Nat.le_of_ble_eq_true rfl⟩) hS (fun q _ h => hFc q h) hFc (fun r u t H1 locs ht hvm hw hB hz1 hk1 hS => ?_)
          obtain ⟨hP1, hD1⟩ := hB
          rw [ht] at hP1
          obtain ⟨z12, z13, i_10, i_11, y14, rfl⟩ := hw
          have i_10 : 0 ≤ z12.toInt ∧ z12.toInt ≤ 1 := i_10
          have i_11 : 0 ≤ z13.toInt ∧ z13.toInt ≤ 401 := i_11
          obtain ⟨hP, hD⟩ := va_join (wr := [(a_nm, (arI G 401 f_nm)), (a_rc, (arI G 400 f_rc))]) hP hD [2, 3, 4] [0, 1] rfl rfl (by decide) (by decide) hk1 hFc hP1 hD1
          generalize H1 = H at hP hS ⊢
          refine g5_rs [(a_nm, (arI G 401 f_nm)), (a_rc, (arI G 400 f_rc)), (a_r, (oc4 a_tk a_rh a_rs a_rc e_ln e_pa z13 e_fp)), (a_tk, (oc8 a_kd a_nm a_pl)), (a_kd, (arI G 401 f_kd))] hP hD (fun hP hD => ?_)
          refine g5_ti (v := z12) y14 ?_
          refine lv_if_eq (tgt := 80) hx hb dX4_readPlain_58 (by decide) (fun c_15 => ?_) (fun c_15 => ?_)
          ·
            have i_15 : z12.toInt = 0 := by have z := g5_eq (a := z12.toInt) (b := 0) (by rfl) (by decide) c_15; omega
            refine lv_iconst (v := 0) hx hb dX4_readPlain_80 (by decide) ?_
            exact W.zret (v := 0) hx hb hr rfl (fun t ht hW => ⟨⟨0, [(a_r, (oc4 a_tk a_rh a_rs a_rc e_ln e_pa z13 e_fp)), (a_tk, (oc8 a_kd a_nm a_pl)), (a_kd, (arI G 401 f_kd)), (a_nm, (arI G 401 f_nm)), (a_rc, (arI G 400 f_rc))], rfl, ⟨0, e_ln, e_pa, z13, f_rc, ⟨by have zc_o_r : (0 : Int32).toInt = 0 := (by decide); omega, by have zc_o_r : (0 : Int32).toInt = 0 := (by decide); omega⟩, ⟨by omega, by omega⟩, i_11, h_e_pa, e_cd, opk_refl, rfl, rfl⟩, by rw [ht]; exact hP.sub [2, 3, 4, 0, 1] rfl, hD.sub [2, 3, 4, 0, 1] (by decide) rfl⟩, hS.F ht⟩) hS.2.2 dX4_readPlain_81
          ·
            have n_15 : gNe (z12.toInt) (0) := by have z := g5_eqN (a := z12.toInt) (b := 0) (by rfl) (by decide) c_15; unfold gNe; omega
            have i_15 : z12.toInt ≥ 1 := by have z := g5_eqN (a := z12.toInt) (b := 0) (by rfl) (by decide) c_15; omega
            refine lv_aload_n hx hb dX4_readPlain_61 rfl (lv_at hl 2 rfl) ?_
            refine lv_iload_n hx hb dX4_readPlain_62 rfl (lv_at hl 3 rfl) ?_
            refine lv_iconst (v := 1) hx hb dX4_readPlain_63 (by decide) ?_
            refine lv_iadd hx hb dX4_readPlain_64 ?_
            have t_16 : (p_d + 1).toInt = p_d.toInt + 1 := g5_iadd (a := p_d.toInt) (b := 1) (by rfl) (by decide) (by omega) (by omega)
            obtain ⟨hPc, hDc, hFc⟩ := g5_sub3 (wc := [(a_r, (oc4 a_tk a_rh a_rs a_rc e_ln e_pa z13 e_fp)), (a_tk, (oc8 a_kd a_nm a_pl)), (a_kd, (arI G 401 f_kd)), (a_nm, (arI G 401 f_nm)), (a_rc, (arI G 400 f_rc))]) hP hD hS hA [2, 3, 4, 0, 1] (by decide) rfl
            refine va_calli (va_runV (As := [.int (p_d + 1)]) (rest := []) ⟨hx, hb, hml, hown, hts⟩ ((h_test (p_d + 1) (by omega) (by omega)) l G a_r a_tk a_kd a_nm a_rc a_rh a_rs a_pl H.size e_ln e_pa z13 e_fp f_kd f_nm f_rc h_e_ln h_e_pa i_11 (e_tk) (e_cd)) (cwV 1 hts gV_X4_76 rfl rfl rfl hv_X4_readTest ⟨by simp only [headSpec]; omega, by simp only [headSpec]; omega⟩) (g5_preV hPc hK hDc hN hT hS hFc (ci := 4) (q0 := 0) rfl rfl) rfl rfl hl.1 rfl (lv_room (Nat.le_of_ble_eq_true rfl)) dX4_readPlain_65 ⟨Nat.le_of_ble_eq_true rfl, Nat.le_of_ble_eq_true rfl⟩) hS (fun q _ h => hFc q h) hFc (fun r u t H1 locs ht hvm hw hB hz1 hk1 hS => ?_)
            obtain ⟨hP1, hD1⟩ := hB
            rw [ht] at hP1
            obtain ⟨z23, z24, z25, z26, z27, i_17, i_18, i_19, i_20, i_21, i_22, y28, rfl⟩ := hw
            have i_17 : 0 ≤ z23.toInt ∧ z23.toInt ≤ 1 := i_17
            have i_18 : e_ln.toInt ≤ z24.toInt ∧ z24.toInt ≤ 400 := i_18
            have i_19 : 0 ≤ z26.toInt ∧ z26.toInt ≤ 401 := i_19
            have i_20 : 0 ≤ z25.toInt ∧ z25.toInt ≤ 50 := i_20
            have i_21 : CDI z27 z24.toInt := i_21
            have i_22 : OPK f_rc z27 e_ln.toInt := i_22
            obtain ⟨hP, hD⟩ := va_join (wr := []) hP hD [2, 3, 4, 0, 1] [] rfl rfl (by decide) (by decide) hk1 hFc hP1 hD1
            generalize H1 = H at hP hS ⊢
            refine g5_rs [(a_r, (oc4 a_tk a_rh a_rs a_rc z24 z25 z26 e_fp)), (a_tk, (oc8 a_kd a_nm a_pl)), (a_kd, (arI G 401 f_kd)), (a_nm, (arI G 401 f_nm)), (a_rc, (arI G 400 z27))] hP hD (fun hP hD => ?_)
            refine g5_ti (v := z23) y28 ?_
            refine lv_if_eq (tgt := 80) hx hb dX4_readPlain_68 (by decide) (fun c_29 => ?_) (fun c_29 => ?_)
            ·
              have i_29 : z23.toInt = 0 := by have z := g5_eq (a := z23.toInt) (b := 0) (by rfl) (by decide) c_29; omega
              refine lv_iconst (v := 0) hx hb dX4_readPlain_80 (by decide) ?_
              exact W.zret (v := 0) hx hb hr rfl (fun t ht hW => ⟨⟨0, [(a_r, (oc4 a_tk a_rh a_rs a_rc z24 z25 z26 e_fp)), (a_tk, (oc8 a_kd a_nm a_pl)), (a_kd, (arI G 401 f_kd)), (a_nm, (arI G 401 f_nm)), (a_rc, (arI G 400 z27))], rfl, ⟨0, z24, z25, z26, z27, ⟨by have zc_o_r : (0 : Int32).toInt = 0 := (by decide); omega, by have zc_o_r : (0 : Int32).toInt = 0 := (by decide); omega⟩, ⟨by omega, by omega⟩, i_19, i_20, i_21, i_22, rfl, rfl⟩, by rw [ht]; exact hP.sub [0, 1, 2, 3, 4] rfl, hD.sub [0, 1, 2, 3, 4] (by decide) rfl⟩, hS.F ht⟩) hS.2.2 dX4_readPlain_81
            ·
              have n_29 : gNe (z23.toInt) (0) := by have z := g5_eqN (a := z23.toInt) (b := 0) (by rfl) (by decide) c_29; unfold gNe; omega
              have i_29 : z23.toInt ≥ 1 := by have z := g5_eqN (a := z23.toInt) (b := 0) (by rfl) (by decide) c_29; omega
              refine lv_aload_n hx hb dX4_readPlain_71 rfl (lv_at hl 2 rfl) ?_
              refine lv_bipush (v := 41) hx hb dX4_readPlain_72 (by decide) ?_
              obtain ⟨hPc, hDc, hFc⟩ := g5_sub3 (wc := [(a_r, (oc4 a_tk a_rh a_rs a_rc z24 z25 z26 e_fp)), (a_tk, (oc8 a_kd a_nm a_pl)), (a_kd, (arI G 401 f_kd))]) hP hD hS hA [0, 1, 2] (by decide) rfl
              refine va_calli (va_runV (As := [.int 41]) (rest := []) ⟨hx, hb, hml, hown, hts⟩ (r_passed l G a_r a_tk a_kd a_rh a_rs a_rc a_nm a_pl H.size z24 z25 z26 e_fp 41 f_kd ⟨by omega, by omega⟩ i_20 i_19) (cwV 1 hts gV_X4_63 rfl rfl rfl hv_X4_passed ⟨by simp only [headSpec]; omega, by simp only [headSpec]; omega⟩) (g5_preV hPc hK hDc hN hT hS hFc (ci := 4) (q0 := 0) rfl rfl) rfl rfl hl.1 rfl (lv_room (Nat.le_of_ble_eq_true rfl)) dX4_readPlain_74 ⟨Nat.le_of_ble_eq_true rfl, Nat.le_of_ble_eq_true rfl⟩) hS (fun q _ h => hFc q h) hFc (fun r u t H1 locs ht hvm hw hB hz1 hk1 hS => ?_)
              obtain ⟨hP1, hD1⟩ := hB
              rw [ht] at hP1
              obtain ⟨z32, z33, i_30, i_31, y34, rfl⟩ := hw
              have i_30 : 0 ≤ z32.toInt ∧ z32.toInt ≤ 1 := i_30
              have i_31 : 0 ≤ z33.toInt ∧ z33.toInt ≤ 401 := i_31
              obtain ⟨hP, hD⟩ := va_join (wr := [(a_nm, (arI G 401 f_nm)), (a_rc, (arI G 400 z27))]) hP hD [0, 1, 2] [3, 4] rfl rfl (by decide) (by decide) hk1 hFc hP1 hD1
              generalize H1 = H at hP hS ⊢
              refine g5_rs [(a_nm, (arI G 401 f_nm)), (a_rc, (arI G 400 z27)), (a_r, (oc4 a_tk a_rh a_rs a_rc z24 z25 z33 e_fp)), (a_tk, (oc8 a_kd a_nm a_pl)), (a_kd, (arI G 401 f_kd))] hP hD (fun hP hD => ?_)
              refine g5_ti (v := z32) y34 ?_
              refine lv_if_ne (tgt := 170) hx hb dX4_readPlain_77 (by decide) (fun c_35 => ?_) (fun c_35 => ?_)
              ·
                have n_35 : gNe (z32.toInt) (0) := by have z := g5_ne (a := z32.toInt) (b := 0) (by rfl) (by decide) c_35; unfold gNe; omega
                have i_35 : z32.toInt ≥ 1 := by have z := g5_ne (a := z32.toInt) (b := 0) (by rfl) (by decide) c_35; omega
                refine lv_iload_n hx hb dX4_readPlain_170 rfl (lv_at hl 0 rfl) ?_
                refine lv_if_eq (tgt := 182) hx hb dX4_readPlain_171 (by decide) (fun c_36 => ?_) (fun c_36 => ?_)
                ·
                  have i_36 : k_u.toInt = 0 := by have z := g5_eq (a := k_u.toInt) (b := 0) (by rfl) (by decide) c_36; omega
                  refine lv_iconst (v := 1) hx hb dX4_readPlain_182 (by decide) ?_
                  exact W.zret (v := 1) hx hb hr rfl (fun t ht hW => ⟨⟨1, [(a_r, (oc4 a_tk a_rh a_rs a_rc z24 z25 z33 e_fp)), (a_tk, (oc8 a_kd a_nm a_pl)), (a_kd, (arI G 401 f_kd)), (a_nm, (arI G 401 f_nm)), (a_rc, (arI G 400 z27))], rfl, ⟨1, z24, z25, z33, z27, ⟨by have zc_o_r : (1 : Int32).toInt = 1 := (by decide); omega, by have zc_o_r : (1 : Int32).toInt = 1 := (by decide); omega⟩, ⟨by omega, by omega⟩, i_31, i_20, i_21, i_22, rfl, rfl⟩, by rw [ht]; exact hP.sub [2, 3, 4, 0, 1] rfl, hD.sub [2, 3, 4, 0, 1] (by decide) rfl⟩, hS.F ht⟩) hS.2.2 dX4_readPlain_183
                ·
                  have n_36 : gNe (k_u.toInt) (0) := by have z := g5_eqN (a := k_u.toInt) (b := 0) (by rfl) (by decide) c_36; unfold gNe; omega
                  have i_36 : k_u.toInt ≥ 1 := by have z := g5_eqN (a := k_u.toInt) (b := 0) (by rfl) (by decide) c_36; omega
                  refine lv_aload_n hx hb dX4_readPlain_174 rfl (lv_at hl 2 rfl) ?_
                  refine lv_bipush (v := 9) hx hb dX4_readPlain_175 (by decide) ?_
                  refine lv_iconst (v := 0) hx hb dX4_readPlain_177 (by decide) ?_
                  obtain ⟨hPc, hDc, hFc⟩ := g5_sub3 (wc := [(a_r, (oc4 a_tk a_rh a_rs a_rc z24 z25 z33 e_fp)), (a_rc, (arI G 400 z27))]) hP hD hS hA [2, 1] (by decide) rfl
                  refine va_calli (va_runV (As := [.int 9, .int 0]) (rest := []) ⟨hx, hb, hml, hown, hts⟩ (r_emit l G a_r a_rc a_tk a_rh a_rs H.size z24 z25 z33 e_fp 9 0 z27 ⟨by omega, by omega⟩ i_20 i_31 (i_21) (by unfold wOK; decide)) (cwV 2 hts gV_X4_79 rfl rfl rfl hv_X4_emit ⟨by simp only [headSpec]; omega, by simp only [headSpec]; omega⟩) (g5_preV hPc hK hDc hN hT hS hFc (ci := 4) (q0 := 0) rfl rfl) rfl rfl hl.1 rfl (lv_room (Nat.le_of_ble_eq_true rfl)) dX4_readPlain_178 ⟨Nat.le_of_ble_eq_true rfl, Nat.le_of_ble_eq_true rfl⟩) hS (fun q _ h => hFc q h) hFc (fun r u t H1 locs ht hvm hw hB hz1 hk1 hS => ?_)
                  obtain ⟨hP1, hD1⟩ := hB
                  rw [ht] at hP1
                  obtain ⟨z42, z43, z44, i_37, i_38, i_39, i_40, i_41, y45, rfl⟩ := hw
                  have i_37 : -1 ≤ z42.toInt ∧ z42.toInt ≤ 399 := i_37
                  have i_38 : z24.toInt ≤ z43.toInt ∧ z43.toInt ≤ 400 := i_38
                  have i_39 : CDI z44 z43.toInt := i_39
                  have i_40 : OPK z27 z44 z24.toInt := i_40
                  have i_41 : 0 ≤ z42.toInt → z42.toInt < z43.toInt ∧ z44 z42.toNatClampNeg = (((9 : Int32) <<< (12 &&& 31)) ||| (0 : Int32)) := i_41
                  obtain ⟨hP, hD⟩ := va_join (wr := [(a_nm, (arI G 401 f_nm)), (a_tk, (oc8 a_kd a_nm a_pl)), (a_kd, (arI G 401 f_kd))]) hP hD [2, 1] [0, 3, 4] rfl rfl (by decide) (by decide) hk1 hFc hP1 hD1
                  generalize H1 = H at hP hS ⊢
                  refine g5_rs [(a_nm, (arI G 401 f_nm)), (a_tk, (oc8 a_kd a_nm a_pl)), (a_kd, (arI G 401 f_kd)), (a_r, (oc4 a_tk a_rh a_rs a_rc z43 z25 z33 e_fp)), (a_rc, (arI G 400 z44))] hP hD (fun hP hD => ?_)
                  refine g5_ti (v := z42) y45 ?_
                  refine lv_pop hx hb dX4_readPlain_181 rfl ?_
                  refine lv_iconst (v := 1) hx hb dX4_readPlain_182 (by decide) ?_
                  exact W.zret (v := 1) hx hb hr rfl (fun t ht hW => ⟨⟨1, [(a_r, (oc4 a_tk a_rh a_rs a_rc z43 z25 z33 e_fp)), (a_tk, (oc8 a_kd a_nm a_pl)), (a_kd, (arI G 401 f_kd)), (a_nm, (arI G 401 f_nm)), (a_rc, (arI G 400 z44))], rfl, ⟨1, z43, z25, z33, z44, ⟨by have zc_o_r : (1 : Int32).toInt = 1 := (by decide); omega, by have zc_o_r : (1 : Int32).toInt = 1 := (by decide); omega⟩, ⟨by omega, by omega⟩, i_31, i_20, i_39, opk_trans i_22 (i_40) (by omega), rfl, rfl⟩, by rw [ht]; exact hP.sub [3, 1, 2, 0, 4] rfl, hD.sub [3, 1, 2, 0, 4] (by decide) rfl⟩, hS.F ht⟩) hS.2.2 dX4_readPlain_183
              ·
                have i_35 : z32.toInt = 0 := by have z := g5_neN (a := z32.toInt) (b := 0) (by rfl) (by decide) c_35; omega
                refine lv_iconst (v := 0) hx hb dX4_readPlain_80 (by decide) ?_
                exact W.zret (v := 0) hx hb hr rfl (fun t ht hW => ⟨⟨0, [(a_r, (oc4 a_tk a_rh a_rs a_rc z24 z25 z33 e_fp)), (a_tk, (oc8 a_kd a_nm a_pl)), (a_kd, (arI G 401 f_kd)), (a_nm, (arI G 401 f_nm)), (a_rc, (arI G 400 z27))], rfl, ⟨0, z24, z25, z33, z27, ⟨by have zc_o_r : (0 : Int32).toInt = 0 := (by decide); omega, by have zc_o_r : (0 : Int32).toInt = 0 := (by decide); omega⟩, ⟨by omega, by omega⟩, i_31, i_20, i_21, i_22, rfl, rfl⟩, by rw [ht]; exact hP.sub [2, 3, 4, 0, 1] rfl, hD.sub [2, 3, 4, 0, 1] (by decide) rfl⟩, hS.F ht⟩) hS.2.2 dX4_readPlain_81
    ·
      obtain ⟨hP, hD⟩ := va_join (wr := [(a_nm, (arI G 401 f_nm)), (a_rc, (arI G 400 f_rc))]) hP hD [0, 1, 2] [3, 4] rfl rfl (by decide) (by decide) hk1 hFc hP1 hD1
      generalize H1 = H at hP hS ⊢
      refine g5_rs [(a_nm, (arI G 401 f_nm)), (a_rc, (arI G 400 f_rc)), (a_r, (oc4 a_tk a_rh a_rs a_rc e_ln e_pa k_at e_fp)), (a_tk, (oc8 a_kd a_nm a_pl)), (a_kd, (arI G 401 f_kd))] hP hD (fun hP hD => ?_)
      refine lv_if_eq (tgt := 82) hx hb dX4_readPlain_43 (by decide) (fun c_46 => ?_) (fun c_46 => ?_)
      ·
        refine lv_aload_n hx hb dX4_readPlain_82 rfl (lv_at hl 2 rfl) ?_
        refine lv_iload_n hx hb dX4_readPlain_83 rfl (lv_at hl 3 rfl) ?_
        obtain ⟨hPc, hDc, hFc⟩ := g5_sub3 (wc := [(a_r, (oc4 a_tk a_rh a_rs a_rc e_ln e_pa k_at e_fp)), (a_tk, (oc8 a_kd a_nm a_pl)), (a_kd, (arI G 401 f_kd)), (a_nm, (arI G 401 f_nm)), (a_rc, (arI G 400 f_rc))]) hP hD hS hA [2, 3, 4, 0, 1] (by decide) rfl
        refine va_calli (va_runV (As := [.int p_d]) (rest := []) ⟨hx, hb, hml, hown, hts⟩ ((r_sum fr lo p_d h_p_d h_sum) l G a_r a_tk a_kd a_nm a_rc a_rh a_rs a_pl H.size e_ln e_pa k_at e_fp f_kd f_nm f_rc h_e_ln h_e_pa i_3 (e_tk) (e_cd)) (cwV 1 hts gV_X4_73 rfl rfl rfl hv_X4_readSum ⟨by simp only [headSpec]; omega, by simp only [headSpec]; omega⟩) (g5_preV hPc hK hDc hN hT hS hFc (ci := 4) (q0 := 0) rfl rfl) rfl rfl hl.1 rfl (lv_room (Nat.le_of_ble_eq_true rfl)) dX4_readPlain_84 ⟨Nat.le_of_ble_eq_true rfl, Nat.le_of_ble_eq_true rfl⟩) hS (fun q _ h => hFc q h) hFc (fun r u t H1 locs ht hvm hw hB hz1 hk1 hS => ?_)
        obtain ⟨hP1, hD1⟩ := hB
        rw [ht] at hP1
        obtain ⟨z53, z54, z55, z56, z57, i_47, i_48, i_49, i_50, i_51, i_52, y58, rfl⟩ := hw
        have i_47 : 0 ≤ z53.toInt ∧ z53.toInt ≤ 1 := i_47
        have i_48 : e_ln.toInt ≤ z54.toInt ∧ z54.toInt ≤ 400 := i_48
        have i_49 : 0 ≤ z56.toInt ∧ z56.toInt ≤ 401 := i_49
        have i_50 : 0 ≤ z55.toInt ∧ z55.toInt ≤ 50 := i_50
        have i_51 : CDI z57 z54.toInt := i_51
        have i_52 : OPK f_rc z57 e_ln.toInt := i_52
        obtain ⟨hP, hD⟩ := va_join (wr := []) hP hD [2, 3, 4, 0, 1] [] rfl rfl (by decide) (by decide) hk1 hFc hP1 hD1
        generalize H1 = H at hP hS ⊢
        refine g5_rs [(a_r, (oc4 a_tk a_rh a_rs a_rc z54 z55 z56 e_fp)), (a_tk, (oc8 a_kd a_nm a_pl)), (a_kd, (arI G 401 f_kd)), (a_nm, (arI G 401 f_nm)), (a_rc, (arI G 400 z57))] hP hD (fun hP hD => ?_)
        refine g5_ti (v := z53) y58 ?_
        refine lv_if_ne (tgt := 92) hx hb dX4_readPlain_87 (by decide) (fun c_59 => ?_) (fun c_59 => ?_)
        ·
          have n_59 : gNe (z53.toInt) (0) := by have z := g5_ne (a := z53.toInt) (b := 0) (by rfl) (by decide) c_59; unfold gNe; omega
          have i_59 : z53.toInt ≥ 1 := by have z := g5_ne (a := z53.toInt) (b := 0) (by rfl) (by decide) c_59; omega
          refine lv_aload_n hx hb dX4_readPlain_92 rfl (lv_at hl 2 rfl) ?_
          refine lv_bipush (v := 60) hx hb dX4_readPlain_93 (by decide) ?_
          obtain ⟨hPc, hDc, hFc⟩ := g5_sub3 (wc := [(a_r, (oc4 a_tk a_rh a_rs a_rc z54 z55 z56 e_fp)), (a_tk, (oc8 a_kd a_nm a_pl)), (a_kd, (arI G 401 f_kd))]) hP hD hS hA [0, 1, 2] (by decide) rfl
          refine va_calli (va_runV (As := [.int 60]) (rest := []) ⟨hx, hb, hml, hown, hts⟩ (r_isNext l G a_r a_tk a_kd a_rh a_rs a_rc a_nm a_pl H.size z54 z55 z56 e_fp 60 f_kd ⟨by omega, by omega⟩ i_50 i_49) (cwV 1 hts gV_X4_49 rfl rfl rfl hv_X4_isNext ⟨by simp only [headSpec]; omega, by simp only [headSpec]; omega⟩) (g5_preV hPc hK hDc hN hT hS hFc (ci := 4) (q0 := 0) rfl rfl) rfl rfl hl.1 rfl (lv_room (Nat.le_of_ble_eq_true rfl)) dX4_readPlain_95 ⟨Nat.le_of_ble_eq_true rfl, Nat.le_of_ble_eq_true rfl⟩) hS (fun q _ h => hFc q h) hFc (fun r u t H1 locs ht hvm hw hB hz1 hk1 hS => ?_)
          obtain ⟨hP1, hD1⟩ := hB
          rw [ht] at hP1
          rcases hw with ⟨i_60, i_61, rfl, rfl⟩ | ⟨rfl, rfl⟩
          ·
            have i_60 : z56.toInt ≤ 400 := i_60
            have i_61 : f_kd z56.toNatClampNeg = (60 : Int32) := i_61
            obtain ⟨hP, hD⟩ := va_join (wr := [(a_nm, (arI G 401 f_nm)), (a_rc, (arI G 400 z57))]) hP hD [0, 1, 2] [3, 4] rfl rfl (by decide) (by decide) hk1 hFc hP1 hD1
            generalize H1 = H at hP hS ⊢
            refine g5_rs [(a_nm, (arI G 401 f_nm)), (a_rc, (arI G 400 z57)), (a_r, (oc4 a_tk a_rh a_rs a_rc z54 z55 z56 e_fp)), (a_tk, (oc8 a_kd a_nm a_pl)), (a_kd, (arI G 401 f_kd))] hP hD (fun hP hD => ?_)
            refine lv_if_eq (tgt := 106) hx hb dX4_readPlain_98 (by decide) (fun c_62 => ?_) (fun c_62 => ?_)
            ·
              exact absurd c_62 (by decide)
            ·
              refine lv_bipush (v := 6) hx hb dX4_readPlain_101 (by decide) ?_
              refine lv_goto (tgt := 135) hx hb dX4_readPlain_103 (by decide) ?_
              refine lv_istore_n (lv' := [(3, .int 6), (2, .int k_u), (0, .ref a_r), (1, .int p_d)]) hx hb dX4_readPlain_135 rfl hl (by decide) rfl (fun ls hl => ?_)
              refine lv_iload_n hx hb dX4_readPlain_136 rfl (lv_at hl 0 rfl) ?_
              refine lv_iconst (v := (-1)) hx hb dX4_readPlain_137 (by decide) ?_
              refine lv_icmp_ne (tgt := 143) hx hb dX4_readPlain_138 (by decide) (fun c_63 => ?_) (fun c_63 => ?_)
              ·
                refine lv_aload_n hx hb dX4_readPlain_143 rfl (lv_at hl 2 rfl) ?_
                refine lv_dup hx hb dX4_readPlain_144 rfl ?_
                refine va_get (D := G.1) (ci := 4) (v := .int z56) (C := RX4) (T := TX4) (N := 8) hx hb hts inG_X4 hown hK hP 2 rfl rfl 6 (by decide) (hts _ fl_X4_42) (fun _ h9 => h9) rfl dX4_readPlain_145 ?_
                refine lv_iconst (v := 1) hx hb dX4_readPlain_148 (by decide) ?_
                refine lv_iadd hx hb dX4_readPlain_149 ?_
                have t_64 : (z56 + 1).toInt = z56.toInt + 1 := g5_iadd (a := z56.toInt) (b := 1) (by rfl) (by decide) (by omega) (by omega)
                refine va_put (D := G.1) (ci := 4) (v := .int (z56 + 1)) (ty := .int) (C := RX4) (T := TX4) (N := 8) hx hb hts inG_X4 tyX4 tyX4_ok nmX4 hown hK hP hD hS 2 rfl rfl 6 (by decide) (hts _ fl_X4_42) (fun _ h9 => h9) rfl (by decide +kernel) rfl rfl (Nat.le_of_ble_eq_true rfl) dX4_readPlain_150 (fun H locs hP hD hS => ?_)
                refine g5_rs [(a_nm, (arI G 401 f_nm)), (a_rc, (arI G 400 z57)), (a_r, (oc4 a_tk a_rh a_rs a_rc z54 z55 (z56 + 1) e_fp)), (a_tk, (oc8 a_kd a_nm a_pl)), (a_kd, (arI G 401 f_kd))] hP hD (fun hP hD => ?_)
                refine lv_aload_n hx hb dX4_readPlain_153 rfl (lv_at hl 2 rfl) ?_
                refine lv_iload_n hx hb dX4_readPlain_154 rfl (lv_at hl 3 rfl) ?_
                obtain ⟨hPc, hDc, hFc⟩ := g5_sub3 (wc := [(a_r, (oc4 a_tk a_rh a_rs a_rc z54 z55 (z56 + 1) e_fp)), (a_tk, (oc8 a_kd a_nm a_pl)), (a_kd, (arI G 401 f_kd)), (a_nm, (arI G 401 f_nm)), (a_rc, (arI G 400 z57))]) hP hD hS hA [2, 3, 4, 0, 1] (by decide) rfl
                refine va_calli (va_runV (As := [.int p_d]) (rest := []) ⟨hx, hb, hml, hown, hts⟩ ((r_sum fr lo p_d h_p_d h_sum) l G a_r a_tk a_kd a_nm a_rc a_rh a_rs a_pl H.size z54 z55 (z56 + 1) e_fp f_kd f_nm z57 ⟨by omega, by omega⟩ i_50 ⟨by omega, by omega⟩ (e_tk) (i_51)) (cwV 1 hts gV_X4_73 rfl rfl rfl hv_X4_readSum ⟨by simp only [headSpec]; omega, by simp only [headSpec]; omega⟩) (g5_preV hPc hK hDc hN hT hS hFc (ci := 4) (q0 := 0) rfl rfl) rfl rfl hl.1 rfl (lv_room (Nat.le_of_ble_eq_true rfl)) dX4_readPlain_155 ⟨Nat.le_of_ble_eq_true rfl, Nat.le_of_ble_eq_true rfl⟩) hS (fun q _ h => hFc q h) hFc (fun r u t H1 locs ht hvm hw hB hz1 hk1 hS => ?_)
                obtain ⟨hP1, hD1⟩ := hB
                rw [ht] at hP1
                obtain ⟨z71, z72, z73, z74, z75, i_65, i_66, i_67, i_68, i_69, i_70, y76, rfl⟩ := hw
                have i_65 : 0 ≤ z71.toInt ∧ z71.toInt ≤ 1 := i_65
                have i_66 : z54.toInt ≤ z72.toInt ∧ z72.toInt ≤ 400 := i_66
                have i_67 : 0 ≤ z74.toInt ∧ z74.toInt ≤ 401 := i_67
                have i_68 : 0 ≤ z73.toInt ∧ z73.toInt ≤ 50 := i_68
                have i_69 : CDI z75 z72.toInt := i_69
                have i_70 : OPK z57 z75 z54.toInt := i_70
                obtain ⟨hP, hD⟩ := va_join (wr := []) hP hD [2, 3, 4, 0, 1] [] rfl rfl (by decide) (by decide) hk1 hFc hP1 hD1
                generalize H1 = H at hP hS ⊢
                refine g5_rs [(a_r, (oc4 a_tk a_rh a_rs a_rc z72 z73 z74 e_fp)), (a_tk, (oc8 a_kd a_nm a_pl)), (a_kd, (arI G 401 f_kd)), (a_nm, (arI G 401 f_nm)), (a_rc, (arI G 400 z75))] hP hD (fun hP hD => ?_)
                refine g5_ti (v := z71) y76 ?_
                refine lv_if_ne (tgt := 163) hx hb dX4_readPlain_158 (by decide) (fun c_77 => ?_) (fun c_77 => ?_)
                ·
                  have n_77 : gNe (z71.toInt) (0) := by have z := g5_ne (a := z71.toInt) (b := 0) (by rfl) (by decide) c_77; unfold gNe; omega
                  have i_77 : z71.toInt ≥ 1 := by have z := g5_ne (a := z71.toInt) (b := 0) (by rfl) (by decide) c_77; omega
                  refine lv_aload_n hx hb dX4_readPlain_163 rfl (lv_at hl 2 rfl) ?_
                  refine lv_iload_n hx hb dX4_readPlain_164 rfl (lv_at hl 0 rfl) ?_
                  refine lv_iconst (v := 0) hx hb dX4_readPlain_165 (by decide) ?_
                  obtain ⟨hPc, hDc, hFc⟩ := g5_sub3 (wc := [(a_r, (oc4 a_tk a_rh a_rs a_rc z72 z73 z74 e_fp)), (a_rc, (arI G 400 z75))]) hP hD hS hA [0, 4] (by decide) rfl
                  refine va_calli (va_runV (As := [.int 6, .int 0]) (rest := []) ⟨hx, hb, hml, hown, hts⟩ (r_emit l G a_r a_rc a_tk a_rh a_rs H.size z72 z73 z74 e_fp 6 0 z75 ⟨by omega, by omega⟩ i_68 i_67 (i_69) (by unfold wOK; decide)) (cwV 2 hts gV_X4_79 rfl rfl rfl hv_X4_emit ⟨by simp only [headSpec]; omega, by simp only [headSpec]; omega⟩) (g5_preV hPc hK hDc hN hT hS hFc (ci := 4) (q0 := 0) rfl rfl) rfl rfl hl.1 rfl (lv_room (Nat.le_of_ble_eq_true rfl)) dX4_readPlain_166 ⟨Nat.le_of_ble_eq_true rfl, Nat.le_of_ble_eq_true rfl⟩) hS (fun q _ h => hFc q h) hFc (fun r u t H1 locs ht hvm hw hB hz1 hk1 hS => ?_)
                  obtain ⟨hP1, hD1⟩ := hB
                  rw [ht] at hP1
                  obtain ⟨z83, z84, z85, i_78, i_79, i_80, i_81, i_82, y86, rfl⟩ := hw
                  have i_78 : -1 ≤ z83.toInt ∧ z83.toInt ≤ 399 := i_78
                  have i_79 : z72.toInt ≤ z84.toInt ∧ z84.toInt ≤ 400 := i_79
                  have i_80 : CDI z85 z84.toInt := i_80
                  have i_81 : OPK z75 z85 z72.toInt := i_81
                  have i_82 : 0 ≤ z83.toInt → z83.toInt < z84.toInt ∧ z85 z83.toNatClampNeg = (((6 : Int32) <<< (12 &&& 31)) ||| (0 : Int32)) := i_82
                  obtain ⟨hP, hD⟩ := va_join (wr := [(a_tk, (oc8 a_kd a_nm a_pl)), (a_kd, (arI G 401 f_kd)), (a_nm, (arI G 401 f_nm))]) hP hD [0, 4] [1, 2, 3] rfl rfl (by decide) (by decide) hk1 hFc hP1 hD1
                  generalize H1 = H at hP hS ⊢
                  refine g5_rs [(a_tk, (oc8 a_kd a_nm a_pl)), (a_kd, (arI G 401 f_kd)), (a_nm, (arI G 401 f_nm)), (a_r, (oc4 a_tk a_rh a_rs a_rc z84 z73 z74 e_fp)), (a_rc, (arI G 400 z85))] hP hD (fun hP hD => ?_)
                  refine g5_ti (v := z83) y86 ?_
                  refine lv_pop hx hb dX4_readPlain_169 rfl ?_
                  refine lv_iload_n hx hb dX4_readPlain_170 rfl (lv_at hl 1 rfl) ?_
                  refine lv_if_eq (tgt := 182) hx hb dX4_readPlain_171 (by decide) (fun c_87 => ?_) (fun c_87 => ?_)
                  ·
                    have i_87 : k_u.toInt = 0 := by have z := g5_eq (a := k_u.toInt) (b := 0) (by rfl) (by decide) c_87; omega
                    refine lv_iconst (v := 1) hx hb dX4_readPlain_182 (by decide) ?_
                    exact W.zret (v := 1) hx hb hr rfl (fun t ht hW => ⟨⟨1, [(a_r, (oc4 a_tk a_rh a_rs a_rc z84 z73 z74 e_fp)), (a_tk, (oc8 a_kd a_nm a_pl)), (a_kd, (arI G 401 f_kd)), (a_nm, (arI G 401 f_nm)), (a_rc, (arI G 400 z85))], rfl, ⟨1, z84, z73, z74, z85, ⟨by have zc_o_r : (1 : Int32).toInt = 1 := (by decide); omega, by have zc_o_r : (1 : Int32).toInt = 1 := (by decide); omega⟩, ⟨by omega, by omega⟩, i_67, i_68, i_80, opk_trans i_52 (opk_trans i_70 (i_81) (by omega)) (by omega), rfl, rfl⟩, by rw [ht]; exact hP.sub [3, 0, 1, 2, 4] rfl, hD.sub [3, 0, 1, 2, 4] (by decide) rfl⟩, hS.F ht⟩) hS.2.2 dX4_readPlain_183
                  ·
                    have n_87 : gNe (k_u.toInt) (0) := by have z := g5_eqN (a := k_u.toInt) (b := 0) (by rfl) (by decide) c_87; unfold gNe; omega
                    have i_87 : k_u.toInt ≥ 1 := by have z := g5_eqN (a := k_u.toInt) (b := 0) (by rfl) (by decide) c_87; omega
                    refine lv_aload_n hx hb dX4_readPlain_174 rfl (lv_at hl 2 rfl) ?_
                    refine lv_bipush (v := 9) hx hb dX4_readPlain_175 (by decide) ?_
                    refine lv_iconst (v := 0) hx hb dX4_readPlain_177 (by decide) ?_
                    obtain ⟨hPc, hDc, hFc⟩ := g5_sub3 (wc := [(a_r, (oc4 a_tk a_rh a_rs a_rc z84 z73 z74 e_fp)), (a_rc, (arI G 400 z85))]) hP hD hS hA [3, 4] (by decide) rfl
                    refine va_calli (va_runV (As := [.int 9, .int 0]) (rest := []) ⟨hx, hb, hml, hown, hts⟩ (r_emit l G a_r a_rc a_tk a_rh a_rs H.size z84 z73 z74 e_fp 9 0 z85 ⟨by omega, by omega⟩ i_68 i_67 (i_80) (by unfold wOK; decide)) (cwV 2 hts gV_X4_79 rfl rfl rfl hv_X4_emit ⟨by simp only [headSpec]; omega, by simp only [headSpec]; omega⟩) (g5_preV hPc hK hDc hN hT hS hFc (ci := 4) (q0 := 0) rfl rfl) rfl rfl hl.1 rfl (lv_room (Nat.le_of_ble_eq_true rfl)) dX4_readPlain_178 ⟨Nat.le_of_ble_eq_true rfl, Nat.le_of_ble_eq_true rfl⟩) hS (fun q _ h => hFc q h) hFc (fun r u t H1 locs ht hvm hw hB hz1 hk1 hS => ?_)
                    obtain ⟨hP1, hD1⟩ := hB
                    rw [ht] at hP1
                    obtain ⟨z93, z94, z95, i_88, i_89, i_90, i_91, i_92, y96, rfl⟩ := hw
                    have i_88 : -1 ≤ z93.toInt ∧ z93.toInt ≤ 399 := i_88
                    have i_89 : z84.toInt ≤ z94.toInt ∧ z94.toInt ≤ 400 := i_89
                    have i_90 : CDI z95 z94.toInt := i_90
                    have i_91 : OPK z85 z95 z84.toInt := i_91
                    have i_92 : 0 ≤ z93.toInt → z93.toInt < z94.toInt ∧ z95 z93.toNatClampNeg = (((9 : Int32) <<< (12 &&& 31)) ||| (0 : Int32)) := i_92
                    obtain ⟨hP, hD⟩ := va_join (wr := [(a_tk, (oc8 a_kd a_nm a_pl)), (a_kd, (arI G 401 f_kd)), (a_nm, (arI G 401 f_nm))]) hP hD [3, 4] [0, 1, 2] rfl rfl (by decide) (by decide) hk1 hFc hP1 hD1
                    generalize H1 = H at hP hS ⊢
                    refine g5_rs [(a_tk, (oc8 a_kd a_nm a_pl)), (a_kd, (arI G 401 f_kd)), (a_nm, (arI G 401 f_nm)), (a_r, (oc4 a_tk a_rh a_rs a_rc z94 z73 z74 e_fp)), (a_rc, (arI G 400 z95))] hP hD (fun hP hD => ?_)
                    refine g5_ti (v := z93) y96 ?_
                    refine lv_pop hx hb dX4_readPlain_181 rfl ?_
                    refine lv_iconst (v := 1) hx hb dX4_readPlain_182 (by decide) ?_
                    exact W.zret (v := 1) hx hb hr rfl (fun t ht hW => ⟨⟨1, [(a_r, (oc4 a_tk a_rh a_rs a_rc z94 z73 z74 e_fp)), (a_tk, (oc8 a_kd a_nm a_pl)), (a_kd, (arI G 401 f_kd)), (a_nm, (arI G 401 f_nm)), (a_rc, (arI G 400 z95))], rfl, ⟨1, z94, z73, z74, z95, ⟨by have zc_o_r : (1 : Int32).toInt = 1 := (by decide); omega, by have zc_o_r : (1 : Int32).toInt = 1 := (by decide); omega⟩, ⟨by omega, by omega⟩, i_67, i_68, i_90, opk_trans i_52 (opk_trans i_70 (opk_trans i_81 (i_91) (by omega)) (by omega)) (by omega), rfl, rfl⟩, by rw [ht]; exact hP.sub [3, 0, 1, 2, 4] rfl, hD.sub [3, 0, 1, 2, 4] (by decide) rfl⟩, hS.F ht⟩) hS.2.2 dX4_readPlain_183
                ·
                  have i_77 : z71.toInt = 0 := by have z := g5_neN (a := z71.toInt) (b := 0) (by rfl) (by decide) c_77; omega
                  refine lv_iconst (v := 0) hx hb dX4_readPlain_161 (by decide) ?_
                  exact W.zret (v := 0) hx hb hr rfl (fun t ht hW => ⟨⟨0, [(a_r, (oc4 a_tk a_rh a_rs a_rc z72 z73 z74 e_fp)), (a_tk, (oc8 a_kd a_nm a_pl)), (a_kd, (arI G 401 f_kd)), (a_nm, (arI G 401 f_nm)), (a_rc, (arI G 400 z75))], rfl, ⟨0, z72, z73, z74, z75, ⟨by have zc_o_r : (0 : Int32).toInt = 0 := (by decide); omega, by have zc_o_r : (0 : Int32).toInt = 0 := (by decide); omega⟩, ⟨by omega, by omega⟩, i_67, i_68, i_69, opk_trans i_52 (i_70) (by omega), rfl, rfl⟩, by rw [ht]; exact hP.sub [0, 1, 2, 3, 4] rfl, hD.sub [0, 1, 2, 3, 4] (by decide) rfl⟩, hS.F ht⟩) hS.2.2 dX4_readPlain_162
              ·
                exact absurd c_63 (by decide)
          ·
            obtain ⟨hP, hD⟩ := va_join (wr := [(a_nm, (arI G 401 f_nm)), (a_rc, (arI G 400 z57))]) hP hD [0, 1, 2] [3, 4] rfl rfl (by decide) (by decide) hk1 hFc hP1 hD1
            generalize H1 = H at hP hS ⊢
            refine g5_rs [(a_nm, (arI G 401 f_nm)), (a_rc, (arI G 400 z57)), (a_r, (oc4 a_tk a_rh a_rs a_rc z54 z55 z56 e_fp)), (a_tk, (oc8 a_kd a_nm a_pl)), (a_kd, (arI G 401 f_kd))] hP hD (fun hP hD => ?_)
            refine lv_if_eq (tgt := 106) hx hb dX4_readPlain_98 (by decide) (fun c_97 => ?_) (fun c_97 => ?_)
            ·
              refine lv_aload_n hx hb dX4_readPlain_106 rfl (lv_at hl 2 rfl) ?_
              refine lv_bipush (v := 62) hx hb dX4_readPlain_107 (by decide) ?_
              obtain ⟨hPc, hDc, hFc⟩ := g5_sub3 (wc := [(a_r, (oc4 a_tk a_rh a_rs a_rc z54 z55 z56 e_fp)), (a_tk, (oc8 a_kd a_nm a_pl)), (a_kd, (arI G 401 f_kd))]) hP hD hS hA [2, 3, 4] (by decide) rfl
              refine va_calli (va_runV (As := [.int 62]) (rest := []) ⟨hx, hb, hml, hown, hts⟩ (r_isNext l G a_r a_tk a_kd a_rh a_rs a_rc a_nm a_pl H.size z54 z55 z56 e_fp 62 f_kd ⟨by omega, by omega⟩ i_50 i_49) (cwV 1 hts gV_X4_49 rfl rfl rfl hv_X4_isNext ⟨by simp only [headSpec]; omega, by simp only [headSpec]; omega⟩) (g5_preV hPc hK hDc hN hT hS hFc (ci := 4) (q0 := 0) rfl rfl) rfl rfl hl.1 rfl (lv_room (Nat.le_of_ble_eq_true rfl)) dX4_readPlain_109 ⟨Nat.le_of_ble_eq_true rfl, Nat.le_of_ble_eq_true rfl⟩) hS (fun q _ h => hFc q h) hFc (fun r u t H1 locs ht hvm hw hB hz1 hk1 hS => ?_)
              obtain ⟨hP1, hD1⟩ := hB
              rw [ht] at hP1
              rcases hw with ⟨i_98, i_99, rfl, rfl⟩ | ⟨rfl, rfl⟩
              ·
                have i_98 : z56.toInt ≤ 400 := i_98
                have i_99 : f_kd z56.toNatClampNeg = (62 : Int32) := i_99
                obtain ⟨hP, hD⟩ := va_join (wr := [(a_nm, (arI G 401 f_nm)), (a_rc, (arI G 400 z57))]) hP hD [2, 3, 4] [0, 1] rfl rfl (by decide) (by decide) hk1 hFc hP1 hD1
                generalize H1 = H at hP hS ⊢
                refine g5_rs [(a_nm, (arI G 401 f_nm)), (a_rc, (arI G 400 z57)), (a_r, (oc4 a_tk a_rh a_rs a_rc z54 z55 z56 e_fp)), (a_tk, (oc8 a_kd a_nm a_pl)), (a_kd, (arI G 401 f_kd))] hP hD (fun hP hD => ?_)
                refine lv_if_eq (tgt := 120) hx hb dX4_readPlain_112 (by decide) (fun c_100 => ?_) (fun c_100 => ?_)
                ·
                  exact absurd c_100 (by decide)
                ·
                  refine lv_bipush (v := 7) hx hb dX4_readPlain_115 (by decide) ?_
                  refine lv_goto (tgt := 135) hx hb dX4_readPlain_117 (by decide) ?_
                  refine lv_istore_n (lv' := [(3, .int 7), (2, .int k_u), (0, .ref a_r), (1, .int p_d)]) hx hb dX4_readPlain_135 rfl hl (by decide) rfl (fun ls hl => ?_)
                  refine lv_iload_n hx hb dX4_readPlain_136 rfl (lv_at hl 0 rfl) ?_
                  refine lv_iconst (v := (-1)) hx hb dX4_readPlain_137 (by decide) ?_
                  refine lv_icmp_ne (tgt := 143) hx hb dX4_readPlain_138 (by decide) (fun c_101 => ?_) (fun c_101 => ?_)
                  ·
                    refine lv_aload_n hx hb dX4_readPlain_143 rfl (lv_at hl 2 rfl) ?_
                    refine lv_dup hx hb dX4_readPlain_144 rfl ?_
                    refine va_get (D := G.1) (ci := 4) (v := .int z56) (C := RX4) (T := TX4) (N := 8) hx hb hts inG_X4 hown hK hP 2 rfl rfl 6 (by decide) (hts _ fl_X4_42) (fun _ h9 => h9) rfl dX4_readPlain_145 ?_
                    refine lv_iconst (v := 1) hx hb dX4_readPlain_148 (by decide) ?_
                    refine lv_iadd hx hb dX4_readPlain_149 ?_
                    have t_102 : (z56 + 1).toInt = z56.toInt + 1 := g5_iadd (a := z56.toInt) (b := 1) (by rfl) (by decide) (by omega) (by omega)
                    refine va_put (D := G.1) (ci := 4) (v := .int (z56 + 1)) (ty := .int) (C := RX4) (T := TX4) (N := 8) hx hb hts inG_X4 tyX4 tyX4_ok nmX4 hown hK hP hD hS 2 rfl rfl 6 (by decide) (hts _ fl_X4_42) (fun _ h9 => h9) rfl (by decide +kernel) rfl rfl (Nat.le_of_ble_eq_true rfl) dX4_readPlain_150 (fun H locs hP hD hS => ?_)
                    refine g5_rs [(a_nm, (arI G 401 f_nm)), (a_rc, (arI G 400 z57)), (a_r, (oc4 a_tk a_rh a_rs a_rc z54 z55 (z56 + 1) e_fp)), (a_tk, (oc8 a_kd a_nm a_pl)), (a_kd, (arI G 401 f_kd))] hP hD (fun hP hD => ?_)
                    refine lv_aload_n hx hb dX4_readPlain_153 rfl (lv_at hl 2 rfl) ?_
                    refine lv_iload_n hx hb dX4_readPlain_154 rfl (lv_at hl 3 rfl) ?_
                    obtain ⟨hPc, hDc, hFc⟩ := g5_sub3 (wc := [(a_r, (oc4 a_tk a_rh a_rs a_rc z54 z55 (z56 + 1) e_fp)), (a_tk, (oc8 a_kd a_nm a_pl)), (a_kd, (arI G 401 f_kd)), (a_nm, (arI G 401 f_nm)), (a_rc, (arI G 400 z57))]) hP hD hS hA [2, 3, 4, 0, 1] (by decide) rfl
                    refine va_calli (va_runV (As := [.int p_d]) (rest := []) ⟨hx, hb, hml, hown, hts⟩ ((r_sum fr lo p_d h_p_d h_sum) l G a_r a_tk a_kd a_nm a_rc a_rh a_rs a_pl H.size z54 z55 (z56 + 1) e_fp f_kd f_nm z57 ⟨by omega, by omega⟩ i_50 ⟨by omega, by omega⟩ (e_tk) (i_51)) (cwV 1 hts gV_X4_73 rfl rfl rfl hv_X4_readSum ⟨by simp only [headSpec]; omega, by simp only [headSpec]; omega⟩) (g5_preV hPc hK hDc hN hT hS hFc (ci := 4) (q0 := 0) rfl rfl) rfl rfl hl.1 rfl (lv_room (Nat.le_of_ble_eq_true rfl)) dX4_readPlain_155 ⟨Nat.le_of_ble_eq_true rfl, Nat.le_of_ble_eq_true rfl⟩) hS (fun q _ h => hFc q h) hFc (fun r u t H1 locs ht hvm hw hB hz1 hk1 hS => ?_)
                    obtain ⟨hP1, hD1⟩ := hB
                    rw [ht] at hP1
                    obtain ⟨z109, z110, z111, z112, z113, i_103, i_104, i_105, i_106, i_107, i_108, y114, rfl⟩ := hw
                    have i_103 : 0 ≤ z109.toInt ∧ z109.toInt ≤ 1 := i_103
                    have i_104 : z54.toInt ≤ z110.toInt ∧ z110.toInt ≤ 400 := i_104
                    have i_105 : 0 ≤ z112.toInt ∧ z112.toInt ≤ 401 := i_105
                    have i_106 : 0 ≤ z111.toInt ∧ z111.toInt ≤ 50 := i_106
                    have i_107 : CDI z113 z110.toInt := i_107
                    have i_108 : OPK z57 z113 z54.toInt := i_108
                    obtain ⟨hP, hD⟩ := va_join (wr := []) hP hD [2, 3, 4, 0, 1] [] rfl rfl (by decide) (by decide) hk1 hFc hP1 hD1
                    generalize H1 = H at hP hS ⊢
                    refine g5_rs [(a_r, (oc4 a_tk a_rh a_rs a_rc z110 z111 z112 e_fp)), (a_tk, (oc8 a_kd a_nm a_pl)), (a_kd, (arI G 401 f_kd)), (a_nm, (arI G 401 f_nm)), (a_rc, (arI G 400 z113))] hP hD (fun hP hD => ?_)
                    refine g5_ti (v := z109) y114 ?_
                    refine lv_if_ne (tgt := 163) hx hb dX4_readPlain_158 (by decide) (fun c_115 => ?_) (fun c_115 => ?_)
                    ·
                      have n_115 : gNe (z109.toInt) (0) := by have z := g5_ne (a := z109.toInt) (b := 0) (by rfl) (by decide) c_115; unfold gNe; omega
                      have i_115 : z109.toInt ≥ 1 := by have z := g5_ne (a := z109.toInt) (b := 0) (by rfl) (by decide) c_115; omega
                      refine lv_aload_n hx hb dX4_readPlain_163 rfl (lv_at hl 2 rfl) ?_
                      refine lv_iload_n hx hb dX4_readPlain_164 rfl (lv_at hl 0 rfl) ?_
                      refine lv_iconst (v := 0) hx hb dX4_readPlain_165 (by decide) ?_
                      obtain ⟨hPc, hDc, hFc⟩ := g5_sub3 (wc := [(a_r, (oc4 a_tk a_rh a_rs a_rc z110 z111 z112 e_fp)), (a_rc, (arI G 400 z113))]) hP hD hS hA [0, 4] (by decide) rfl
                      refine va_calli (va_runV (As := [.int 7, .int 0]) (rest := []) ⟨hx, hb, hml, hown, hts⟩ (r_emit l G a_r a_rc a_tk a_rh a_rs H.size z110 z111 z112 e_fp 7 0 z113 ⟨by omega, by omega⟩ i_106 i_105 (i_107) (by unfold wOK; decide)) (cwV 2 hts gV_X4_79 rfl rfl rfl hv_X4_emit ⟨by simp only [headSpec]; omega, by simp only [headSpec]; omega⟩) (g5_preV hPc hK hDc hN hT hS hFc (ci := 4) (q0 := 0) rfl rfl) rfl rfl hl.1 rfl (lv_room (Nat.le_of_ble_eq_true rfl)) dX4_readPlain_166 ⟨Nat.le_of_ble_eq_true rfl, Nat.le_of_ble_eq_true rfl⟩) hS (fun q _ h => hFc q h) hFc (fun r u t H1 locs ht hvm hw hB hz1 hk1 hS => ?_)
                      obtain ⟨hP1, hD1⟩ := hB
                      rw [ht] at hP1
                      obtain ⟨z121, z122, z123, i_116, i_117, i_118, i_119, i_120, y124, rfl⟩ := hw
                      have i_116 : -1 ≤ z121.toInt ∧ z121.toInt ≤ 399 := i_116
                      have i_117 : z110.toInt ≤ z122.toInt ∧ z122.toInt ≤ 400 := i_117
                      have i_118 : CDI z123 z122.toInt := i_118
                      have i_119 : OPK z113 z123 z110.toInt := i_119
                      have i_120 : 0 ≤ z121.toInt → z121.toInt < z122.toInt ∧ z123 z121.toNatClampNeg = (((7 : Int32) <<< (12 &&& 31)) ||| (0 : Int32)) := i_120
                      obtain ⟨hP, hD⟩ := va_join (wr := [(a_tk, (oc8 a_kd a_nm a_pl)), (a_kd, (arI G 401 f_kd)), (a_nm, (arI G 401 f_nm))]) hP hD [0, 4] [1, 2, 3] rfl rfl (by decide) (by decide) hk1 hFc hP1 hD1
                      generalize H1 = H at hP hS ⊢
                      refine g5_rs [(a_tk, (oc8 a_kd a_nm a_pl)), (a_kd, (arI G 401 f_kd)), (a_nm, (arI G 401 f_nm)), (a_r, (oc4 a_tk a_rh a_rs a_rc z122 z111 z112 e_fp)), (a_rc, (arI G 400 z123))] hP hD (fun hP hD => ?_)
                      refine g5_ti (v := z121) y124 ?_
                      refine lv_pop hx hb dX4_readPlain_169 rfl ?_
                      refine lv_iload_n hx hb dX4_readPlain_170 rfl (lv_at hl 1 rfl) ?_
                      refine lv_if_eq (tgt := 182) hx hb dX4_readPlain_171 (by decide) (fun c_125 => ?_) (fun c_125 => ?_)
                      ·
                        have i_125 : k_u.toInt = 0 := by have z := g5_eq (a := k_u.toInt) (b := 0) (by rfl) (by decide) c_125; omega
                        refine lv_iconst (v := 1) hx hb dX4_readPlain_182 (by decide) ?_
                        exact W.zret (v := 1) hx hb hr rfl (fun t ht hW => ⟨⟨1, [(a_r, (oc4 a_tk a_rh a_rs a_rc z122 z111 z112 e_fp)), (a_tk, (oc8 a_kd a_nm a_pl)), (a_kd, (arI G 401 f_kd)), (a_nm, (arI G 401 f_nm)), (a_rc, (arI G 400 z123))], rfl, ⟨1, z122, z111, z112, z123, ⟨by have zc_o_r : (1 : Int32).toInt = 1 := (by decide); omega, by have zc_o_r : (1 : Int32).toInt = 1 := (by decide); omega⟩, ⟨by omega, by omega⟩, i_105, i_106, i_118, opk_trans i_52 (opk_trans i_108 (i_119) (by omega)) (by omega), rfl, rfl⟩, by rw [ht]; exact hP.sub [3, 0, 1, 2, 4] rfl, hD.sub [3, 0, 1, 2, 4] (by decide) rfl⟩, hS.F ht⟩) hS.2.2 dX4_readPlain_183
                      ·
                        have n_125 : gNe (k_u.toInt) (0) := by have z := g5_eqN (a := k_u.toInt) (b := 0) (by rfl) (by decide) c_125; unfold gNe; omega
                        have i_125 : k_u.toInt ≥ 1 := by have z := g5_eqN (a := k_u.toInt) (b := 0) (by rfl) (by decide) c_125; omega
                        refine lv_aload_n hx hb dX4_readPlain_174 rfl (lv_at hl 2 rfl) ?_
                        refine lv_bipush (v := 9) hx hb dX4_readPlain_175 (by decide) ?_
                        refine lv_iconst (v := 0) hx hb dX4_readPlain_177 (by decide) ?_
                        obtain ⟨hPc, hDc, hFc⟩ := g5_sub3 (wc := [(a_r, (oc4 a_tk a_rh a_rs a_rc z122 z111 z112 e_fp)), (a_rc, (arI G 400 z123))]) hP hD hS hA [3, 4] (by decide) rfl
                        refine va_calli (va_runV (As := [.int 9, .int 0]) (rest := []) ⟨hx, hb, hml, hown, hts⟩ (r_emit l G a_r a_rc a_tk a_rh a_rs H.size z122 z111 z112 e_fp 9 0 z123 ⟨by omega, by omega⟩ i_106 i_105 (i_118) (by unfold wOK; decide)) (cwV 2 hts gV_X4_79 rfl rfl rfl hv_X4_emit ⟨by simp only [headSpec]; omega, by simp only [headSpec]; omega⟩) (g5_preV hPc hK hDc hN hT hS hFc (ci := 4) (q0 := 0) rfl rfl) rfl rfl hl.1 rfl (lv_room (Nat.le_of_ble_eq_true rfl)) dX4_readPlain_178 ⟨Nat.le_of_ble_eq_true rfl, Nat.le_of_ble_eq_true rfl⟩) hS (fun q _ h => hFc q h) hFc (fun r u t H1 locs ht hvm hw hB hz1 hk1 hS => ?_)
                        obtain ⟨hP1, hD1⟩ := hB
                        rw [ht] at hP1
                        obtain ⟨z131, z132, z133, i_126, i_127, i_128, i_129, i_130, y134, rfl⟩ := hw
                        have i_126 : -1 ≤ z131.toInt ∧ z131.toInt ≤ 399 := i_126
                        have i_127 : z122.toInt ≤ z132.toInt ∧ z132.toInt ≤ 400 := i_127
                        have i_128 : CDI z133 z132.toInt := i_128
                        have i_129 : OPK z123 z133 z122.toInt := i_129
                        have i_130 : 0 ≤ z131.toInt → z131.toInt < z132.toInt ∧ z133 z131.toNatClampNeg = (((9 : Int32) <<< (12 &&& 31)) ||| (0 : Int32)) := i_130
                        obtain ⟨hP, hD⟩ := va_join (wr := [(a_tk, (oc8 a_kd a_nm a_pl)), (a_kd, (arI G 401 f_kd)), (a_nm, (arI G 401 f_nm))]) hP hD [3, 4] [0, 1, 2] rfl rfl (by decide) (by decide) hk1 hFc hP1 hD1
                        generalize H1 = H at hP hS ⊢
                        refine g5_rs [(a_tk, (oc8 a_kd a_nm a_pl)), (a_kd, (arI G 401 f_kd)), (a_nm, (arI G 401 f_nm)), (a_r, (oc4 a_tk a_rh a_rs a_rc z132 z111 z112 e_fp)), (a_rc, (arI G 400 z133))] hP hD (fun hP hD => ?_)
                        refine g5_ti (v := z131) y134 ?_
                        refine lv_pop hx hb dX4_readPlain_181 rfl ?_
                        refine lv_iconst (v := 1) hx hb dX4_readPlain_182 (by decide) ?_
                        exact W.zret (v := 1) hx hb hr rfl (fun t ht hW => ⟨⟨1, [(a_r, (oc4 a_tk a_rh a_rs a_rc z132 z111 z112 e_fp)), (a_tk, (oc8 a_kd a_nm a_pl)), (a_kd, (arI G 401 f_kd)), (a_nm, (arI G 401 f_nm)), (a_rc, (arI G 400 z133))], rfl, ⟨1, z132, z111, z112, z133, ⟨by have zc_o_r : (1 : Int32).toInt = 1 := (by decide); omega, by have zc_o_r : (1 : Int32).toInt = 1 := (by decide); omega⟩, ⟨by omega, by omega⟩, i_105, i_106, i_128, opk_trans i_52 (opk_trans i_108 (opk_trans i_119 (i_129) (by omega)) (by omega)) (by omega), rfl, rfl⟩, by rw [ht]; exact hP.sub [3, 0, 1, 2, 4] rfl, hD.sub [3, 0, 1, 2, 4] (by decide) rfl⟩, hS.F ht⟩) hS.2.2 dX4_readPlain_183
                    ·
                      have i_115 : z109.toInt = 0 := by have z := g5_neN (a := z109.toInt) (b := 0) (by rfl) (by decide) c_115; omega
                      refine lv_iconst (v := 0) hx hb dX4_readPlain_161 (by decide) ?_
                      exact W.zret (v := 0) hx hb hr rfl (fun t ht hW => ⟨⟨0, [(a_r, (oc4 a_tk a_rh a_rs a_rc z110 z111 z112 e_fp)), (a_tk, (oc8 a_kd a_nm a_pl)), (a_kd, (arI G 401 f_kd)), (a_nm, (arI G 401 f_nm)), (a_rc, (arI G 400 z113))], rfl, ⟨0, z110, z111, z112, z113, ⟨by have zc_o_r : (0 : Int32).toInt = 0 := (by decide); omega, by have zc_o_r : (0 : Int32).toInt = 0 := (by decide); omega⟩, ⟨by omega, by omega⟩, i_105, i_106, i_107, opk_trans i_52 (i_108) (by omega), rfl, rfl⟩, by rw [ht]; exact hP.sub [0, 1, 2, 3, 4] rfl, hD.sub [0, 1, 2, 3, 4] (by decide) rfl⟩, hS.F ht⟩) hS.2.2 dX4_readPlain_162
                  ·
                    exact absurd c_101 (by decide)
              ·
                obtain ⟨hP, hD⟩ := va_join (wr := [(a_nm, (arI G 401 f_nm)), (a_rc, (arI G 400 z57))]) hP hD [2, 3, 4] [0, 1] rfl rfl (by decide) (by decide) hk1 hFc hP1 hD1
                generalize H1 = H at hP hS ⊢
                refine g5_rs [(a_nm, (arI G 401 f_nm)), (a_rc, (arI G 400 z57)), (a_r, (oc4 a_tk a_rh a_rs a_rc z54 z55 z56 e_fp)), (a_tk, (oc8 a_kd a_nm a_pl)), (a_kd, (arI G 401 f_kd))] hP hD (fun hP hD => ?_)
                refine lv_if_eq (tgt := 120) hx hb dX4_readPlain_112 (by decide) (fun c_135 => ?_) (fun c_135 => ?_)
                ·
                  refine lv_aload_n hx hb dX4_readPlain_120 rfl (lv_at hl 2 rfl) ?_
                  refine lv_bipush (v := 61) hx hb dX4_readPlain_121 (by decide) ?_
                  obtain ⟨hPc, hDc, hFc⟩ := g5_sub3 (wc := [(a_r, (oc4 a_tk a_rh a_rs a_rc z54 z55 z56 e_fp)), (a_tk, (oc8 a_kd a_nm a_pl)), (a_kd, (arI G 401 f_kd))]) hP hD hS hA [2, 3, 4] (by decide) rfl
                  refine va_calli (va_runV (As := [.int 61]) (rest := []) ⟨hx, hb, hml, hown, hts⟩ (r_isNext l G a_r a_tk a_kd a_rh a_rs a_rc a_nm a_pl H.size z54 z55 z56 e_fp 61 f_kd ⟨by omega, by omega⟩ i_50 i_49) (cwV 1 hts gV_X4_49 rfl rfl rfl hv_X4_isNext ⟨by simp only [headSpec]; omega, by simp only [headSpec]; omega⟩) (g5_preV hPc hK hDc hN hT hS hFc (ci := 4) (q0 := 0) rfl rfl) rfl rfl hl.1 rfl (lv_room (Nat.le_of_ble_eq_true rfl)) dX4_readPlain_123 ⟨Nat.le_of_ble_eq_true rfl, Nat.le_of_ble_eq_true rfl⟩) hS (fun q _ h => hFc q h) hFc (fun r u t H1 locs ht hvm hw hB hz1 hk1 hS => ?_)
                  obtain ⟨hP1, hD1⟩ := hB
                  rw [ht] at hP1
                  rcases hw with ⟨i_136, i_137, rfl, rfl⟩ | ⟨rfl, rfl⟩
                  ·
                    have i_136 : z56.toInt ≤ 400 := i_136
                    have i_137 : f_kd z56.toNatClampNeg = (61 : Int32) := i_137
                    obtain ⟨hP, hD⟩ := va_join (wr := [(a_nm, (arI G 401 f_nm)), (a_rc, (arI G 400 z57))]) hP hD [2, 3, 4] [0, 1] rfl rfl (by decide) (by decide) hk1 hFc hP1 hD1
                    generalize H1 = H at hP hS ⊢
                    refine g5_rs [(a_nm, (arI G 401 f_nm)), (a_rc, (arI G 400 z57)), (a_r, (oc4 a_tk a_rh a_rs a_rc z54 z55 z56 e_fp)), (a_tk, (oc8 a_kd a_nm a_pl)), (a_kd, (arI G 401 f_kd))] hP hD (fun hP hD => ?_)
                    refine lv_if_eq (tgt := 134) hx hb dX4_readPlain_126 (by decide) (fun c_138 => ?_) (fun c_138 => ?_)
                    ·
                      exact absurd c_138 (by decide)
                    ·
                      refine lv_bipush (v := 8) hx hb dX4_readPlain_129 (by decide) ?_
                      refine lv_goto (tgt := 135) hx hb dX4_readPlain_131 (by decide) ?_
                      refine lv_istore_n (lv' := [(3, .int 8), (2, .int k_u), (0, .ref a_r), (1, .int p_d)]) hx hb dX4_readPlain_135 rfl hl (by decide) rfl (fun ls hl => ?_)
                      refine lv_iload_n hx hb dX4_readPlain_136 rfl (lv_at hl 0 rfl) ?_
                      refine lv_iconst (v := (-1)) hx hb dX4_readPlain_137 (by decide) ?_
                      refine lv_icmp_ne (tgt := 143) hx hb dX4_readPlain_138 (by decide) (fun c_139 => ?_) (fun c_139 => ?_)
                      ·
                        refine lv_aload_n hx hb dX4_readPlain_143 rfl (lv_at hl 2 rfl) ?_
                        refine lv_dup hx hb dX4_readPlain_144 rfl ?_
                        refine va_get (D := G.1) (ci := 4) (v := .int z56) (C := RX4) (T := TX4) (N := 8) hx hb hts inG_X4 hown hK hP 2 rfl rfl 6 (by decide) (hts _ fl_X4_42) (fun _ h9 => h9) rfl dX4_readPlain_145 ?_
                        refine lv_iconst (v := 1) hx hb dX4_readPlain_148 (by decide) ?_
                        refine lv_iadd hx hb dX4_readPlain_149 ?_
                        have t_140 : (z56 + 1).toInt = z56.toInt + 1 := g5_iadd (a := z56.toInt) (b := 1) (by rfl) (by decide) (by omega) (by omega)
                        refine va_put (D := G.1) (ci := 4) (v := .int (z56 + 1)) (ty := .int) (C := RX4) (T := TX4) (N := 8) hx hb hts inG_X4 tyX4 tyX4_ok nmX4 hown hK hP hD hS 2 rfl rfl 6 (by decide) (hts _ fl_X4_42) (fun _ h9 => h9) rfl (by decide +kernel) rfl rfl (Nat.le_of_ble_eq_true rfl) dX4_readPlain_150 (fun H locs hP hD hS => ?_)
                        refine g5_rs [(a_nm, (arI G 401 f_nm)), (a_rc, (arI G 400 z57)), (a_r, (oc4 a_tk a_rh a_rs a_rc z54 z55 (z56 + 1) e_fp)), (a_tk, (oc8 a_kd a_nm a_pl)), (a_kd, (arI G 401 f_kd))] hP hD (fun hP hD => ?_)
                        refine lv_aload_n hx hb dX4_readPlain_153 rfl (lv_at hl 2 rfl) ?_
                        refine lv_iload_n hx hb dX4_readPlain_154 rfl (lv_at hl 3 rfl) ?_
                        obtain ⟨hPc, hDc, hFc⟩ := g5_sub3 (wc := [(a_r, (oc4 a_tk a_rh a_rs a_rc z54 z55 (z56 + 1) e_fp)), (a_tk, (oc8 a_kd a_nm a_pl)), (a_kd, (arI G 401 f_kd)), (a_nm, (arI G 401 f_nm)), (a_rc, (arI G 400 z57))]) hP hD hS hA [2, 3, 4, 0, 1] (by decide) rfl
                        refine va_calli (va_runV (As := [.int p_d]) (rest := []) ⟨hx, hb, hml, hown, hts⟩ ((r_sum fr lo p_d h_p_d h_sum) l G a_r a_tk a_kd a_nm a_rc a_rh a_rs a_pl H.size z54 z55 (z56 + 1) e_fp f_kd f_nm z57 ⟨by omega, by omega⟩ i_50 ⟨by omega, by omega⟩ (e_tk) (i_51)) (cwV 1 hts gV_X4_73 rfl rfl rfl hv_X4_readSum ⟨by simp only [headSpec]; omega, by simp only [headSpec]; omega⟩) (g5_preV hPc hK hDc hN hT hS hFc (ci := 4) (q0 := 0) rfl rfl) rfl rfl hl.1 rfl (lv_room (Nat.le_of_ble_eq_true rfl)) dX4_readPlain_155 ⟨Nat.le_of_ble_eq_true rfl, Nat.le_of_ble_eq_true rfl⟩) hS (fun q _ h => hFc q h) hFc (fun r u t H1 locs ht hvm hw hB hz1 hk1 hS => ?_)
                        obtain ⟨hP1, hD1⟩ := hB
                        rw [ht] at hP1
                        obtain ⟨z147, z148, z149, z150, z151, i_141, i_142, i_143, i_144, i_145, i_146, y152, rfl⟩ := hw
                        have i_141 : 0 ≤ z147.toInt ∧ z147.toInt ≤ 1 := i_141
                        have i_142 : z54.toInt ≤ z148.toInt ∧ z148.toInt ≤ 400 := i_142
                        have i_143 : 0 ≤ z150.toInt ∧ z150.toInt ≤ 401 := i_143
                        have i_144 : 0 ≤ z149.toInt ∧ z149.toInt ≤ 50 := i_144
                        have i_145 : CDI z151 z148.toInt := i_145
                        have i_146 : OPK z57 z151 z54.toInt := i_146
                        obtain ⟨hP, hD⟩ := va_join (wr := []) hP hD [2, 3, 4, 0, 1] [] rfl rfl (by decide) (by decide) hk1 hFc hP1 hD1
                        generalize H1 = H at hP hS ⊢
                        refine g5_rs [(a_r, (oc4 a_tk a_rh a_rs a_rc z148 z149 z150 e_fp)), (a_tk, (oc8 a_kd a_nm a_pl)), (a_kd, (arI G 401 f_kd)), (a_nm, (arI G 401 f_nm)), (a_rc, (arI G 400 z151))] hP hD (fun hP hD => ?_)
                        refine g5_ti (v := z147) y152 ?_
                        refine lv_if_ne (tgt := 163) hx hb dX4_readPlain_158 (by decide) (fun c_153 => ?_) (fun c_153 => ?_)
                        ·
                          have n_153 : gNe (z147.toInt) (0) := by have z := g5_ne (a := z147.toInt) (b := 0) (by rfl) (by decide) c_153; unfold gNe; omega
                          have i_153 : z147.toInt ≥ 1 := by have z := g5_ne (a := z147.toInt) (b := 0) (by rfl) (by decide) c_153; omega
                          refine lv_aload_n hx hb dX4_readPlain_163 rfl (lv_at hl 2 rfl) ?_
                          refine lv_iload_n hx hb dX4_readPlain_164 rfl (lv_at hl 0 rfl) ?_
                          refine lv_iconst (v := 0) hx hb dX4_readPlain_165 (by decide) ?_
                          obtain ⟨hPc, hDc, hFc⟩ := g5_sub3 (wc := [(a_r, (oc4 a_tk a_rh a_rs a_rc z148 z149 z150 e_fp)), (a_rc, (arI G 400 z151))]) hP hD hS hA [0, 4] (by decide) rfl
                          refine va_calli (va_runV (As := [.int 8, .int 0]) (rest := []) ⟨hx, hb, hml, hown, hts⟩ (r_emit l G a_r a_rc a_tk a_rh a_rs H.size z148 z149 z150 e_fp 8 0 z151 ⟨by omega, by omega⟩ i_144 i_143 (i_145) (by unfold wOK; decide)) (cwV 2 hts gV_X4_79 rfl rfl rfl hv_X4_emit ⟨by simp only [headSpec]; omega, by simp only [headSpec]; omega⟩) (g5_preV hPc hK hDc hN hT hS hFc (ci := 4) (q0 := 0) rfl rfl) rfl rfl hl.1 rfl (lv_room (Nat.le_of_ble_eq_true rfl)) dX4_readPlain_166 ⟨Nat.le_of_ble_eq_true rfl, Nat.le_of_ble_eq_true rfl⟩) hS (fun q _ h => hFc q h) hFc (fun r u t H1 locs ht hvm hw hB hz1 hk1 hS => ?_)
                          obtain ⟨hP1, hD1⟩ := hB
                          rw [ht] at hP1
                          obtain ⟨z159, z160, z161, i_154, i_155, i_156, i_157, i_158, y162, rfl⟩ := hw
                          have i_154 : -1 ≤ z159.toInt ∧ z159.toInt ≤ 399 := i_154
                          have i_155 : z148.toInt ≤ z160.toInt ∧ z160.toInt ≤ 400 := i_155
                          have i_156 : CDI z161 z160.toInt := i_156
                          have i_157 : OPK z151 z161 z148.toInt := i_157
                          have i_158 : 0 ≤ z159.toInt → z159.toInt < z160.toInt ∧ z161 z159.toNatClampNeg = (((8 : Int32) <<< (12 &&& 31)) ||| (0 : Int32)) := i_158
                          obtain ⟨hP, hD⟩ := va_join (wr := [(a_tk, (oc8 a_kd a_nm a_pl)), (a_kd, (arI G 401 f_kd)), (a_nm, (arI G 401 f_nm))]) hP hD [0, 4] [1, 2, 3] rfl rfl (by decide) (by decide) hk1 hFc hP1 hD1
                          generalize H1 = H at hP hS ⊢
                          refine g5_rs [(a_tk, (oc8 a_kd a_nm a_pl)), (a_kd, (arI G 401 f_kd)), (a_nm, (arI G 401 f_nm)), (a_r, (oc4 a_tk a_rh a_rs a_rc z160 z149 z150 e_fp)), (a_rc, (arI G 400 z161))] hP hD (fun hP hD => ?_)
                          refine g5_ti (v := z159) y162 ?_
                          refine lv_pop hx hb dX4_readPlain_169 rfl ?_
                          refine lv_iload_n hx hb dX4_readPlain_170 rfl (lv_at hl 1 rfl) ?_
                          refine lv_if_eq (tgt := 182) hx hb dX4_readPlain_171 (by decide) (fun c_163 => ?_) (fun c_163 => ?_)
                          ·
                            have i_163 : k_u.toInt = 0 := by have z := g5_eq (a := k_u.toInt) (b := 0) (by rfl) (by decide) c_163; omega
                            refine lv_iconst (v := 1) hx hb dX4_readPlain_182 (by decide) ?_
                            exact W.zret (v := 1) hx hb hr rfl (fun t ht hW => ⟨⟨1, [(a_r, (oc4 a_tk a_rh a_rs a_rc z160 z149 z150 e_fp)), (a_tk, (oc8 a_kd a_nm a_pl)), (a_kd, (arI G 401 f_kd)), (a_nm, (arI G 401 f_nm)), (a_rc, (arI G 400 z161))], rfl, ⟨1, z160, z149, z150, z161, ⟨by have zc_o_r : (1 : Int32).toInt = 1 := (by decide); omega, by have zc_o_r : (1 : Int32).toInt = 1 := (by decide); omega⟩, ⟨by omega, by omega⟩, i_143, i_144, i_156, opk_trans i_52 (opk_trans i_146 (i_157) (by omega)) (by omega), rfl, rfl⟩, by rw [ht]; exact hP.sub [3, 0, 1, 2, 4] rfl, hD.sub [3, 0, 1, 2, 4] (by decide) rfl⟩, hS.F ht⟩) hS.2.2 dX4_readPlain_183
                          ·
                            have n_163 : gNe (k_u.toInt) (0) := by have z := g5_eqN (a := k_u.toInt) (b := 0) (by rfl) (by decide) c_163; unfold gNe; omega
                            have i_163 : k_u.toInt ≥ 1 := by have z := g5_eqN (a := k_u.toInt) (b := 0) (by rfl) (by decide) c_163; omega
                            refine lv_aload_n hx hb dX4_readPlain_174 rfl (lv_at hl 2 rfl) ?_
                            refine lv_bipush (v := 9) hx hb dX4_readPlain_175 (by decide) ?_
                            refine lv_iconst (v := 0) hx hb dX4_readPlain_177 (by decide) ?_
                            obtain ⟨hPc, hDc, hFc⟩ := g5_sub3 (wc := [(a_r, (oc4 a_tk a_rh a_rs a_rc z160 z149 z150 e_fp)), (a_rc, (arI G 400 z161))]) hP hD hS hA [3, 4] (by decide) rfl
                            refine va_calli (va_runV (As := [.int 9, .int 0]) (rest := []) ⟨hx, hb, hml, hown, hts⟩ (r_emit l G a_r a_rc a_tk a_rh a_rs H.size z160 z149 z150 e_fp 9 0 z161 ⟨by omega, by omega⟩ i_144 i_143 (i_156) (by unfold wOK; decide)) (cwV 2 hts gV_X4_79 rfl rfl rfl hv_X4_emit ⟨by simp only [headSpec]; omega, by simp only [headSpec]; omega⟩) (g5_preV hPc hK hDc hN hT hS hFc (ci := 4) (q0 := 0) rfl rfl) rfl rfl hl.1 rfl (lv_room (Nat.le_of_ble_eq_true rfl)) dX4_readPlain_178 ⟨Nat.le_of_ble_eq_true rfl, Nat.le_of_ble_eq_true rfl⟩) hS (fun q _ h => hFc q h) hFc (fun r u t H1 locs ht hvm hw hB hz1 hk1 hS => ?_)
                            obtain ⟨hP1, hD1⟩ := hB
                            rw [ht] at hP1
                            obtain ⟨z169, z170, z171, i_164, i_165, i_166, i_167, i_168, y172, rfl⟩ := hw
                            have i_164 : -1 ≤ z169.toInt ∧ z169.toInt ≤ 399 := i_164
                            have i_165 : z160.toInt ≤ z170.toInt ∧ z170.toInt ≤ 400 := i_165
                            have i_166 : CDI z171 z170.toInt := i_166
                            have i_167 : OPK z161 z171 z160.toInt := i_167
                            have i_168 : 0 ≤ z169.toInt → z169.toInt < z170.toInt ∧ z171 z169.toNatClampNeg = (((9 : Int32) <<< (12 &&& 31)) ||| (0 : Int32)) := i_168
                            obtain ⟨hP, hD⟩ := va_join (wr := [(a_tk, (oc8 a_kd a_nm a_pl)), (a_kd, (arI G 401 f_kd)), (a_nm, (arI G 401 f_nm))]) hP hD [3, 4] [0, 1, 2] rfl rfl (by decide) (by decide) hk1 hFc hP1 hD1
                            generalize H1 = H at hP hS ⊢
                            refine g5_rs [(a_tk, (oc8 a_kd a_nm a_pl)), (a_kd, (arI G 401 f_kd)), (a_nm, (arI G 401 f_nm)), (a_r, (oc4 a_tk a_rh a_rs a_rc z170 z149 z150 e_fp)), (a_rc, (arI G 400 z171))] hP hD (fun hP hD => ?_)
                            refine g5_ti (v := z169) y172 ?_
                            refine lv_pop hx hb dX4_readPlain_181 rfl ?_
                            refine lv_iconst (v := 1) hx hb dX4_readPlain_182 (by decide) ?_
                            exact W.zret (v := 1) hx hb hr rfl (fun t ht hW => ⟨⟨1, [(a_r, (oc4 a_tk a_rh a_rs a_rc z170 z149 z150 e_fp)), (a_tk, (oc8 a_kd a_nm a_pl)), (a_kd, (arI G 401 f_kd)), (a_nm, (arI G 401 f_nm)), (a_rc, (arI G 400 z171))], rfl, ⟨1, z170, z149, z150, z171, ⟨by have zc_o_r : (1 : Int32).toInt = 1 := (by decide); omega, by have zc_o_r : (1 : Int32).toInt = 1 := (by decide); omega⟩, ⟨by omega, by omega⟩, i_143, i_144, i_166, opk_trans i_52 (opk_trans i_146 (opk_trans i_157 (i_167) (by omega)) (by omega)) (by omega), rfl, rfl⟩, by rw [ht]; exact hP.sub [3, 0, 1, 2, 4] rfl, hD.sub [3, 0, 1, 2, 4] (by decide) rfl⟩, hS.F ht⟩) hS.2.2 dX4_readPlain_183
                        ·
                          have i_153 : z147.toInt = 0 := by have z := g5_neN (a := z147.toInt) (b := 0) (by rfl) (by decide) c_153; omega
                          refine lv_iconst (v := 0) hx hb dX4_readPlain_161 (by decide) ?_
                          exact W.zret (v := 0) hx hb hr rfl (fun t ht hW => ⟨⟨0, [(a_r, (oc4 a_tk a_rh a_rs a_rc z148 z149 z150 e_fp)), (a_tk, (oc8 a_kd a_nm a_pl)), (a_kd, (arI G 401 f_kd)), (a_nm, (arI G 401 f_nm)), (a_rc, (arI G 400 z151))], rfl, ⟨0, z148, z149, z150, z151, ⟨by have zc_o_r : (0 : Int32).toInt = 0 := (by decide); omega, by have zc_o_r : (0 : Int32).toInt = 0 := (by decide); omega⟩, ⟨by omega, by omega⟩, i_143, i_144, i_145, opk_trans i_52 (i_146) (by omega), rfl, rfl⟩, by rw [ht]; exact hP.sub [0, 1, 2, 3, 4] rfl, hD.sub [0, 1, 2, 3, 4] (by decide) rfl⟩, hS.F ht⟩) hS.2.2 dX4_readPlain_162
                      ·
                        exact absurd c_139 (by decide)
                  ·
                    obtain ⟨hP, hD⟩ := va_join (wr := [(a_nm, (arI G 401 f_nm)), (a_rc, (arI G 400 z57))]) hP hD [2, 3, 4] [0, 1] rfl rfl (by decide) (by decide) hk1 hFc hP1 hD1
                    generalize H1 = H at hP hS ⊢
                    refine g5_rs [(a_nm, (arI G 401 f_nm)), (a_rc, (arI G 400 z57)), (a_r, (oc4 a_tk a_rh a_rs a_rc z54 z55 z56 e_fp)), (a_tk, (oc8 a_kd a_nm a_pl)), (a_kd, (arI G 401 f_kd))] hP hD (fun hP hD => ?_)
                    refine lv_if_eq (tgt := 134) hx hb dX4_readPlain_126 (by decide) (fun c_173 => ?_) (fun c_173 => ?_)
                    ·
                      refine lv_iconst (v := (-1)) hx hb dX4_readPlain_134 (by decide) ?_
                      refine lv_istore_n (lv' := [(3, .int (-1)), (2, .int k_u), (0, .ref a_r), (1, .int p_d)]) hx hb dX4_readPlain_135 rfl hl (by decide) rfl (fun ls hl => ?_)
                      refine lv_iload_n hx hb dX4_readPlain_136 rfl (lv_at hl 0 rfl) ?_
                      refine lv_iconst (v := (-1)) hx hb dX4_readPlain_137 (by decide) ?_
                      refine lv_icmp_ne (tgt := 143) hx hb dX4_readPlain_138 (by decide) (fun c_174 => ?_) (fun c_174 => ?_)
                      ·
                        exact absurd c_174 (by decide)
                      ·
                        refine lv_iconst (v := 0) hx hb dX4_readPlain_141 (by decide) ?_
                        exact W.zret (v := 0) hx hb hr rfl (fun t ht hW => ⟨⟨0, [(a_r, (oc4 a_tk a_rh a_rs a_rc z54 z55 z56 e_fp)), (a_tk, (oc8 a_kd a_nm a_pl)), (a_kd, (arI G 401 f_kd)), (a_nm, (arI G 401 f_nm)), (a_rc, (arI G 400 z57))], rfl, ⟨0, z54, z55, z56, z57, ⟨by have zc_o_r : (0 : Int32).toInt = 0 := (by decide); omega, by have zc_o_r : (0 : Int32).toInt = 0 := (by decide); omega⟩, ⟨by omega, by omega⟩, i_49, i_50, i_51, i_52, rfl, rfl⟩, by rw [ht]; exact hP.sub [2, 3, 4, 0, 1] rfl, hD.sub [2, 3, 4, 0, 1] (by decide) rfl⟩, hS.F ht⟩) hS.2.2 dX4_readPlain_142
                    ·
                      exact absurd c_173 (by decide)
                ·
                  exact absurd c_135 (by decide)
            ·
              exact absurd c_97 (by decide)
        ·
          have i_59 : z53.toInt = 0 := by have z := g5_neN (a := z53.toInt) (b := 0) (by rfl) (by decide) c_59; omega
          refine lv_iconst (v := 0) hx hb dX4_readPlain_90 (by decide) ?_
          exact W.zret (v := 0) hx hb hr rfl (fun t ht hW => ⟨⟨0, [(a_r, (oc4 a_tk a_rh a_rs a_rc z54 z55 z56 e_fp)), (a_tk, (oc8 a_kd a_nm a_pl)), (a_kd, (arI G 401 f_kd)), (a_nm, (arI G 401 f_nm)), (a_rc, (arI G 400 z57))], rfl, ⟨0, z54, z55, z56, z57, ⟨by have zc_o_r : (0 : Int32).toInt = 0 := (by decide); omega, by have zc_o_r : (0 : Int32).toInt = 0 := (by decide); omega⟩, ⟨by omega, by omega⟩, i_49, i_50, i_51, i_52, rfl, rfl⟩, by rw [ht]; exact hP.sub [0, 1, 2, 3, 4] rfl, hD.sub [0, 1, 2, 3, 4] (by decide) rfl⟩, hS.F ht⟩) hS.2.2 dX4_readPlain_91
      ·
        exact absurd c_46 (by decide)
  ·
    have i_5 : k_i.toInt < 400 := by have z := g5_geN (a := k_i.toInt) (b := 400) (by rfl) (by decide) c_5; omega
    refine lv_aload_n hx hb dX4_readPlain_11 rfl (lv_at hl 2 rfl) ?_
    refine lv_sipush (v := 263) hx hb dX4_readPlain_12 (by decide) ?_
    obtain ⟨hPc, hDc, hFc⟩ := g5_sub3 (wc := [(a_r, (oc4 a_tk a_rh a_rs a_rc e_ln e_pa k_at e_fp)), (a_tk, (oc8 a_kd a_nm a_pl)), (a_kd, (arI G 401 f_kd))]) hP hD hS hA [0, 1, 2] (by decide) rfl
    refine va_calli (va_runV (As := [.int 263]) (rest := []) ⟨hx, hb, hml, hown, hts⟩ (r_passed l G a_r a_tk a_kd a_rh a_rs a_rc a_nm a_pl H.size e_ln e_pa k_at e_fp 263 f_kd h_e_ln h_e_pa i_3) (cwV 1 hts gV_X4_63 rfl rfl rfl hv_X4_passed ⟨by simp only [headSpec]; omega, by simp only [headSpec]; omega⟩) (g5_preV hPc hK hDc hN hT hS hFc (ci := 4) (q0 := 0) rfl rfl) rfl rfl hl.1 rfl (lv_room (Nat.le_of_ble_eq_true rfl)) dX4_readPlain_15 ⟨Nat.le_of_ble_eq_true rfl, Nat.le_of_ble_eq_true rfl⟩) hS (fun q _ h => hFc q h) hFc (fun r u t H1 locs ht hvm hw hB hz1 hk1 hS => ?_)
    obtain ⟨hP1, hD1⟩ := hB
    rw [ht] at hP1
    obtain ⟨z177, z178, i_175, i_176, y179, rfl⟩ := hw
    have i_175 : 0 ≤ z177.toInt ∧ z177.toInt ≤ 1 := i_175
    have i_176 : 0 ≤ z178.toInt ∧ z178.toInt ≤ 401 := i_176
    obtain ⟨hP, hD⟩ := va_join (wr := [(a_nm, (arI G 401 f_nm)), (a_rc, (arI G 400 f_rc))]) hP hD [0, 1, 2] [3, 4] rfl rfl (by decide) (by decide) hk1 hFc hP1 hD1
    generalize H1 = H at hP hS ⊢
    refine g5_rs [(a_nm, (arI G 401 f_nm)), (a_rc, (arI G 400 f_rc)), (a_r, (oc4 a_tk a_rh a_rs a_rc e_ln e_pa z178 e_fp)), (a_tk, (oc8 a_kd a_nm a_pl)), (a_kd, (arI G 401 f_kd))] hP hD (fun hP hD => ?_)
    refine g5_ti (v := z177) y179 ?_
    refine lv_if_eq (tgt := 37) hx hb dX4_readPlain_18 (by decide) (fun c_180 => ?_) (fun c_180 => ?_)
    ·
      have i_180 : z177.toInt = 0 := by have z := g5_eq (a := z177.toInt) (b := 0) (by rfl) (by decide) c_180; omega
      refine lv_aload_n hx hb dX4_readPlain_37 rfl (lv_at hl 2 rfl) ?_
      refine lv_bipush (v := 40) hx hb dX4_readPlain_38 (by decide) ?_
      obtain ⟨hPc, hDc, hFc⟩ := g5_sub3 (wc := [(a_r, (oc4 a_tk a_rh a_rs a_rc e_ln e_pa z178 e_fp)), (a_tk, (oc8 a_kd a_nm a_pl)), (a_kd, (arI G 401 f_kd))]) hP hD hS hA [2, 3, 4] (by decide) rfl
      refine va_calli (va_runV (As := [.int 40]) (rest := []) ⟨hx, hb, hml, hown, hts⟩ (r_isNext l G a_r a_tk a_kd a_rh a_rs a_rc a_nm a_pl H.size e_ln e_pa z178 e_fp 40 f_kd h_e_ln h_e_pa i_176) (cwV 1 hts gV_X4_49 rfl rfl rfl hv_X4_isNext ⟨by simp only [headSpec]; omega, by simp only [headSpec]; omega⟩) (g5_preV hPc hK hDc hN hT hS hFc (ci := 4) (q0 := 0) rfl rfl) rfl rfl hl.1 rfl (lv_room (Nat.le_of_ble_eq_true rfl)) dX4_readPlain_40 ⟨Nat.le_of_ble_eq_true rfl, Nat.le_of_ble_eq_true rfl⟩) hS (fun q _ h => hFc q h) hFc (fun r u t H1 locs ht hvm hw hB hz1 hk1 hS => ?_)
      obtain ⟨hP1, hD1⟩ := hB
      rw [ht] at hP1
      rcases hw with ⟨i_181, i_182, rfl, rfl⟩ | ⟨rfl, rfl⟩
      ·
        have i_181 : z178.toInt ≤ 400 := i_181
        have i_182 : f_kd z178.toNatClampNeg = (40 : Int32) := i_182
        obtain ⟨hP, hD⟩ := va_join (wr := [(a_nm, (arI G 401 f_nm)), (a_rc, (arI G 400 f_rc))]) hP hD [2, 3, 4] [0, 1] rfl rfl (by decide) (by decide) hk1 hFc hP1 hD1
        generalize H1 = H at hP hS ⊢
        refine g5_rs [(a_nm, (arI G 401 f_nm)), (a_rc, (arI G 400 f_rc)), (a_r, (oc4 a_tk a_rh a_rs a_rc e_ln e_pa z178 e_fp)), (a_tk, (oc8 a_kd a_nm a_pl)), (a_kd, (arI G 401 f_kd))] hP hD (fun hP hD => ?_)
        refine lv_if_eq (tgt := 82) hx hb dX4_readPlain_43 (by decide) (fun c_183 => ?_) (fun c_183 => ?_)
        ·
          exact absurd c_183 (by decide)
        ·
          refine lv_iload_n hx hb dX4_readPlain_46 rfl (lv_at hl 3 rfl) ?_
          refine lv_bipush (v := 8) hx hb dX4_readPlain_47 (by decide) ?_
          refine lv_icmp_ge (tgt := 80) hx hb dX4_readPlain_49 (by decide) (fun c_184 => ?_) (fun c_184 => ?_)
          ·
            have i_184 : p_d.toInt ≥ 8 := by have z := g5_ge (a := p_d.toInt) (b := 8) (by rfl) (by decide) c_184; omega
            refine lv_iconst (v := 0) hx hb dX4_readPlain_80 (by decide) ?_
            exact W.zret (v := 0) hx hb hr rfl (fun t ht hW => ⟨⟨0, [(a_r, (oc4 a_tk a_rh a_rs a_rc e_ln e_pa z178 e_fp)), (a_tk, (oc8 a_kd a_nm a_pl)), (a_kd, (arI G 401 f_kd)), (a_nm, (arI G 401 f_nm)), (a_rc, (arI G 400 f_rc))], rfl, ⟨0, e_ln, e_pa, z178, f_rc, ⟨by have zc_o_r : (0 : Int32).toInt = 0 := (by decide); omega, by have zc_o_r : (0 : Int32).toInt = 0 := (by decide); omega⟩, ⟨by omega, by omega⟩, i_176, h_e_pa, e_cd, opk_refl, rfl, rfl⟩, by rw [ht]; exact hP.sub [2, 3, 4, 0, 1] rfl, hD.sub [2, 3, 4, 0, 1] (by decide) rfl⟩, hS.F ht⟩) hS.2.2 dX4_readPlain_81
          ·
            have i_184 : p_d.toInt < 8 := by have z := g5_geN (a := p_d.toInt) (b := 8) (by rfl) (by decide) c_184; omega
            refine lv_aload_n hx hb dX4_readPlain_52 rfl (lv_at hl 2 rfl) ?_
            refine lv_bipush (v := 40) hx hb dX4_readPlain_53 (by decide) ?_
            obtain ⟨hPc, hDc, hFc⟩ := g5_sub3 (wc := [(a_r, (oc4 a_tk a_rh a_rs a_rc e_ln e_pa z178 e_fp)), (a_tk, (oc8 a_kd a_nm a_pl)), (a_kd, (arI G 401 f_kd))]) hP hD hS hA [2, 3, 4] (by decide) rfl
            refine va_calli (va_runV (As := [.int 40]) (rest := []) ⟨hx, hb, hml, hown, hts⟩ (r_passed l G a_r a_tk a_kd a_rh a_rs a_rc a_nm a_pl H.size e_ln e_pa z178 e_fp 40 f_kd h_e_ln h_e_pa i_176) (cwV 1 hts gV_X4_63 rfl rfl rfl hv_X4_passed ⟨by simp only [headSpec]; omega, by simp only [headSpec]; omega⟩) (g5_preV hPc hK hDc hN hT hS hFc (ci := 4) (q0 := 0) rfl rfl) rfl rfl hl.1 rfl (lv_room (Nat.le_of_ble_eq_true rfl)) dX4_readPlain_55 ⟨Nat.le_of_ble_eq_true rfl, Nat.le_of_ble_eq_true rfl⟩) hS (fun q _ h => hFc q h) hFc (fun r u t H1 locs ht hvm hw hB hz1 hk1 hS => ?_)
            obtain ⟨hP1, hD1⟩ := hB
            rw [ht] at hP1
            obtain ⟨z187, z188, i_185, i_186, y189, rfl⟩ := hw
            have i_185 : 0 ≤ z187.toInt ∧ z187.toInt ≤ 1 := i_185
            have i_186 : 0 ≤ z188.toInt ∧ z188.toInt ≤ 401 := i_186
            obtain ⟨hP, hD⟩ := va_join (wr := [(a_nm, (arI G 401 f_nm)), (a_rc, (arI G 400 f_rc))]) hP hD [2, 3, 4] [0, 1] rfl rfl (by decide) (by decide) hk1 hFc hP1 hD1
            generalize H1 = H at hP hS ⊢
            refine g5_rs [(a_nm, (arI G 401 f_nm)), (a_rc, (arI G 400 f_rc)), (a_r, (oc4 a_tk a_rh a_rs a_rc e_ln e_pa z188 e_fp)), (a_tk, (oc8 a_kd a_nm a_pl)), (a_kd, (arI G 401 f_kd))] hP hD (fun hP hD => ?_)
            refine g5_ti (v := z187) y189 ?_
            refine lv_if_eq (tgt := 80) hx hb dX4_readPlain_58 (by decide) (fun c_190 => ?_) (fun c_190 => ?_)
            ·
              have i_190 : z187.toInt = 0 := by have z := g5_eq (a := z187.toInt) (b := 0) (by rfl) (by decide) c_190; omega
              refine lv_iconst (v := 0) hx hb dX4_readPlain_80 (by decide) ?_
              exact W.zret (v := 0) hx hb hr rfl (fun t ht hW => ⟨⟨0, [(a_r, (oc4 a_tk a_rh a_rs a_rc e_ln e_pa z188 e_fp)), (a_tk, (oc8 a_kd a_nm a_pl)), (a_kd, (arI G 401 f_kd)), (a_nm, (arI G 401 f_nm)), (a_rc, (arI G 400 f_rc))], rfl, ⟨0, e_ln, e_pa, z188, f_rc, ⟨by have zc_o_r : (0 : Int32).toInt = 0 := (by decide); omega, by have zc_o_r : (0 : Int32).toInt = 0 := (by decide); omega⟩, ⟨by omega, by omega⟩, i_186, h_e_pa, e_cd, opk_refl, rfl, rfl⟩, by rw [ht]; exact hP.sub [2, 3, 4, 0, 1] rfl, hD.sub [2, 3, 4, 0, 1] (by decide) rfl⟩, hS.F ht⟩) hS.2.2 dX4_readPlain_81
            ·
              have n_190 : gNe (z187.toInt) (0) := by have z := g5_eqN (a := z187.toInt) (b := 0) (by rfl) (by decide) c_190; unfold gNe; omega
              have i_190 : z187.toInt ≥ 1 := by have z := g5_eqN (a := z187.toInt) (b := 0) (by rfl) (by decide) c_190; omega
              refine lv_aload_n hx hb dX4_readPlain_61 rfl (lv_at hl 2 rfl) ?_
              refine lv_iload_n hx hb dX4_readPlain_62 rfl (lv_at hl 3 rfl) ?_
              refine lv_iconst (v := 1) hx hb dX4_readPlain_63 (by decide) ?_
              refine lv_iadd hx hb dX4_readPlain_64 ?_
              have t_191 : (p_d + 1).toInt = p_d.toInt + 1 := g5_iadd (a := p_d.toInt) (b := 1) (by rfl) (by decide) (by omega) (by omega)
              obtain ⟨hPc, hDc, hFc⟩ := g5_sub3 (wc := [(a_r, (oc4 a_tk a_rh a_rs a_rc e_ln e_pa z188 e_fp)), (a_tk, (oc8 a_kd a_nm a_pl)), (a_kd, (arI G 401 f_kd)), (a_nm, (arI G 401 f_nm)), (a_rc, (arI G 400 f_rc))]) hP hD hS hA [2, 3, 4, 0, 1] (by decide) rfl
              refine va_calli (va_runV (As := [.int (p_d + 1)]) (rest := []) ⟨hx, hb, hml, hown, hts⟩ ((h_test (p_d + 1) (by omega) (by omega)) l G a_r a_tk a_kd a_nm a_rc a_rh a_rs a_pl H.size e_ln e_pa z188 e_fp f_kd f_nm f_rc h_e_ln h_e_pa i_186 (e_tk) (e_cd)) (cwV 1 hts gV_X4_76 rfl rfl rfl hv_X4_readTest ⟨by simp only [headSpec]; omega, by simp only [headSpec]; omega⟩) (g5_preV hPc hK hDc hN hT hS hFc (ci := 4) (q0 := 0) rfl rfl) rfl rfl hl.1 rfl (lv_room (Nat.le_of_ble_eq_true rfl)) dX4_readPlain_65 ⟨Nat.le_of_ble_eq_true rfl, Nat.le_of_ble_eq_true rfl⟩) hS (fun q _ h => hFc q h) hFc (fun r u t H1 locs ht hvm hw hB hz1 hk1 hS => ?_)
              obtain ⟨hP1, hD1⟩ := hB
              rw [ht] at hP1
              obtain ⟨z198, z199, z200, z201, z202, i_192, i_193, i_194, i_195, i_196, i_197, y203, rfl⟩ := hw
              have i_192 : 0 ≤ z198.toInt ∧ z198.toInt ≤ 1 := i_192
              have i_193 : e_ln.toInt ≤ z199.toInt ∧ z199.toInt ≤ 400 := i_193
              have i_194 : 0 ≤ z201.toInt ∧ z201.toInt ≤ 401 := i_194
              have i_195 : 0 ≤ z200.toInt ∧ z200.toInt ≤ 50 := i_195
              have i_196 : CDI z202 z199.toInt := i_196
              have i_197 : OPK f_rc z202 e_ln.toInt := i_197
              obtain ⟨hP, hD⟩ := va_join (wr := []) hP hD [2, 3, 4, 0, 1] [] rfl rfl (by decide) (by decide) hk1 hFc hP1 hD1
              generalize H1 = H at hP hS ⊢
              refine g5_rs [(a_r, (oc4 a_tk a_rh a_rs a_rc z199 z200 z201 e_fp)), (a_tk, (oc8 a_kd a_nm a_pl)), (a_kd, (arI G 401 f_kd)), (a_nm, (arI G 401 f_nm)), (a_rc, (arI G 400 z202))] hP hD (fun hP hD => ?_)
              refine g5_ti (v := z198) y203 ?_
              refine lv_if_eq (tgt := 80) hx hb dX4_readPlain_68 (by decide) (fun c_204 => ?_) (fun c_204 => ?_)
              ·
                have i_204 : z198.toInt = 0 := by have z := g5_eq (a := z198.toInt) (b := 0) (by rfl) (by decide) c_204; omega
                refine lv_iconst (v := 0) hx hb dX4_readPlain_80 (by decide) ?_
                exact W.zret (v := 0) hx hb hr rfl (fun t ht hW => ⟨⟨0, [(a_r, (oc4 a_tk a_rh a_rs a_rc z199 z200 z201 e_fp)), (a_tk, (oc8 a_kd a_nm a_pl)), (a_kd, (arI G 401 f_kd)), (a_nm, (arI G 401 f_nm)), (a_rc, (arI G 400 z202))], rfl, ⟨0, z199, z200, z201, z202, ⟨by have zc_o_r : (0 : Int32).toInt = 0 := (by decide); omega, by have zc_o_r : (0 : Int32).toInt = 0 := (by decide); omega⟩, ⟨by omega, by omega⟩, i_194, i_195, i_196, i_197, rfl, rfl⟩, by rw [ht]; exact hP.sub [0, 1, 2, 3, 4] rfl, hD.sub [0, 1, 2, 3, 4] (by decide) rfl⟩, hS.F ht⟩) hS.2.2 dX4_readPlain_81
              ·
                have n_204 : gNe (z198.toInt) (0) := by have z := g5_eqN (a := z198.toInt) (b := 0) (by rfl) (by decide) c_204; unfold gNe; omega
                have i_204 : z198.toInt ≥ 1 := by have z := g5_eqN (a := z198.toInt) (b := 0) (by rfl) (by decide) c_204; omega
                refine lv_aload_n hx hb dX4_readPlain_71 rfl (lv_at hl 2 rfl) ?_
                refine lv_bipush (v := 41) hx hb dX4_readPlain_72 (by decide) ?_
                obtain ⟨hPc, hDc, hFc⟩ := g5_sub3 (wc := [(a_r, (oc4 a_tk a_rh a_rs a_rc z199 z200 z201 e_fp)), (a_tk, (oc8 a_kd a_nm a_pl)), (a_kd, (arI G 401 f_kd))]) hP hD hS hA [0, 1, 2] (by decide) rfl
                refine va_calli (va_runV (As := [.int 41]) (rest := []) ⟨hx, hb, hml, hown, hts⟩ (r_passed l G a_r a_tk a_kd a_rh a_rs a_rc a_nm a_pl H.size z199 z200 z201 e_fp 41 f_kd ⟨by omega, by omega⟩ i_195 i_194) (cwV 1 hts gV_X4_63 rfl rfl rfl hv_X4_passed ⟨by simp only [headSpec]; omega, by simp only [headSpec]; omega⟩) (g5_preV hPc hK hDc hN hT hS hFc (ci := 4) (q0 := 0) rfl rfl) rfl rfl hl.1 rfl (lv_room (Nat.le_of_ble_eq_true rfl)) dX4_readPlain_74 ⟨Nat.le_of_ble_eq_true rfl, Nat.le_of_ble_eq_true rfl⟩) hS (fun q _ h => hFc q h) hFc (fun r u t H1 locs ht hvm hw hB hz1 hk1 hS => ?_)
                obtain ⟨hP1, hD1⟩ := hB
                rw [ht] at hP1
                obtain ⟨z207, z208, i_205, i_206, y209, rfl⟩ := hw
                have i_205 : 0 ≤ z207.toInt ∧ z207.toInt ≤ 1 := i_205
                have i_206 : 0 ≤ z208.toInt ∧ z208.toInt ≤ 401 := i_206
                obtain ⟨hP, hD⟩ := va_join (wr := [(a_nm, (arI G 401 f_nm)), (a_rc, (arI G 400 z202))]) hP hD [0, 1, 2] [3, 4] rfl rfl (by decide) (by decide) hk1 hFc hP1 hD1
                generalize H1 = H at hP hS ⊢
                refine g5_rs [(a_nm, (arI G 401 f_nm)), (a_rc, (arI G 400 z202)), (a_r, (oc4 a_tk a_rh a_rs a_rc z199 z200 z208 e_fp)), (a_tk, (oc8 a_kd a_nm a_pl)), (a_kd, (arI G 401 f_kd))] hP hD (fun hP hD => ?_)
                refine g5_ti (v := z207) y209 ?_
                refine lv_if_ne (tgt := 170) hx hb dX4_readPlain_77 (by decide) (fun c_210 => ?_) (fun c_210 => ?_)
                ·
                  have n_210 : gNe (z207.toInt) (0) := by have z := g5_ne (a := z207.toInt) (b := 0) (by rfl) (by decide) c_210; unfold gNe; omega
                  have i_210 : z207.toInt ≥ 1 := by have z := g5_ne (a := z207.toInt) (b := 0) (by rfl) (by decide) c_210; omega
                  refine lv_iload_n hx hb dX4_readPlain_170 rfl (lv_at hl 0 rfl) ?_
                  refine lv_if_eq (tgt := 182) hx hb dX4_readPlain_171 (by decide) (fun c_211 => ?_) (fun c_211 => ?_)
                  ·
                    have i_211 : k_u.toInt = 0 := by have z := g5_eq (a := k_u.toInt) (b := 0) (by rfl) (by decide) c_211; omega
                    refine lv_iconst (v := 1) hx hb dX4_readPlain_182 (by decide) ?_
                    exact W.zret (v := 1) hx hb hr rfl (fun t ht hW => ⟨⟨1, [(a_r, (oc4 a_tk a_rh a_rs a_rc z199 z200 z208 e_fp)), (a_tk, (oc8 a_kd a_nm a_pl)), (a_kd, (arI G 401 f_kd)), (a_nm, (arI G 401 f_nm)), (a_rc, (arI G 400 z202))], rfl, ⟨1, z199, z200, z208, z202, ⟨by have zc_o_r : (1 : Int32).toInt = 1 := (by decide); omega, by have zc_o_r : (1 : Int32).toInt = 1 := (by decide); omega⟩, ⟨by omega, by omega⟩, i_206, i_195, i_196, i_197, rfl, rfl⟩, by rw [ht]; exact hP.sub [2, 3, 4, 0, 1] rfl, hD.sub [2, 3, 4, 0, 1] (by decide) rfl⟩, hS.F ht⟩) hS.2.2 dX4_readPlain_183
                  ·
                    have n_211 : gNe (k_u.toInt) (0) := by have z := g5_eqN (a := k_u.toInt) (b := 0) (by rfl) (by decide) c_211; unfold gNe; omega
                    have i_211 : k_u.toInt ≥ 1 := by have z := g5_eqN (a := k_u.toInt) (b := 0) (by rfl) (by decide) c_211; omega
                    refine lv_aload_n hx hb dX4_readPlain_174 rfl (lv_at hl 2 rfl) ?_
                    refine lv_bipush (v := 9) hx hb dX4_readPlain_175 (by decide) ?_
                    refine lv_iconst (v := 0) hx hb dX4_readPlain_177 (by decide) ?_
                    obtain ⟨hPc, hDc, hFc⟩ := g5_sub3 (wc := [(a_r, (oc4 a_tk a_rh a_rs a_rc z199 z200 z208 e_fp)), (a_rc, (arI G 400 z202))]) hP hD hS hA [2, 1] (by decide) rfl
                    refine va_calli (va_runV (As := [.int 9, .int 0]) (rest := []) ⟨hx, hb, hml, hown, hts⟩ (r_emit l G a_r a_rc a_tk a_rh a_rs H.size z199 z200 z208 e_fp 9 0 z202 ⟨by omega, by omega⟩ i_195 i_206 (i_196) (by unfold wOK; decide)) (cwV 2 hts gV_X4_79 rfl rfl rfl hv_X4_emit ⟨by simp only [headSpec]; omega, by simp only [headSpec]; omega⟩) (g5_preV hPc hK hDc hN hT hS hFc (ci := 4) (q0 := 0) rfl rfl) rfl rfl hl.1 rfl (lv_room (Nat.le_of_ble_eq_true rfl)) dX4_readPlain_178 ⟨Nat.le_of_ble_eq_true rfl, Nat.le_of_ble_eq_true rfl⟩) hS (fun q _ h => hFc q h) hFc (fun r u t H1 locs ht hvm hw hB hz1 hk1 hS => ?_)
                    obtain ⟨hP1, hD1⟩ := hB
                    rw [ht] at hP1
                    obtain ⟨z217, z218, z219, i_212, i_213, i_214, i_215, i_216, y220, rfl⟩ := hw
                    have i_212 : -1 ≤ z217.toInt ∧ z217.toInt ≤ 399 := i_212
                    have i_213 : z199.toInt ≤ z218.toInt ∧ z218.toInt ≤ 400 := i_213
                    have i_214 : CDI z219 z218.toInt := i_214
                    have i_215 : OPK z202 z219 z199.toInt := i_215
                    have i_216 : 0 ≤ z217.toInt → z217.toInt < z218.toInt ∧ z219 z217.toNatClampNeg = (((9 : Int32) <<< (12 &&& 31)) ||| (0 : Int32)) := i_216
                    obtain ⟨hP, hD⟩ := va_join (wr := [(a_nm, (arI G 401 f_nm)), (a_tk, (oc8 a_kd a_nm a_pl)), (a_kd, (arI G 401 f_kd))]) hP hD [2, 1] [0, 3, 4] rfl rfl (by decide) (by decide) hk1 hFc hP1 hD1
                    generalize H1 = H at hP hS ⊢
                    refine g5_rs [(a_nm, (arI G 401 f_nm)), (a_tk, (oc8 a_kd a_nm a_pl)), (a_kd, (arI G 401 f_kd)), (a_r, (oc4 a_tk a_rh a_rs a_rc z218 z200 z208 e_fp)), (a_rc, (arI G 400 z219))] hP hD (fun hP hD => ?_)
                    refine g5_ti (v := z217) y220 ?_
                    refine lv_pop hx hb dX4_readPlain_181 rfl ?_
                    refine lv_iconst (v := 1) hx hb dX4_readPlain_182 (by decide) ?_
                    exact W.zret (v := 1) hx hb hr rfl (fun t ht hW => ⟨⟨1, [(a_r, (oc4 a_tk a_rh a_rs a_rc z218 z200 z208 e_fp)), (a_tk, (oc8 a_kd a_nm a_pl)), (a_kd, (arI G 401 f_kd)), (a_nm, (arI G 401 f_nm)), (a_rc, (arI G 400 z219))], rfl, ⟨1, z218, z200, z208, z219, ⟨by have zc_o_r : (1 : Int32).toInt = 1 := (by decide); omega, by have zc_o_r : (1 : Int32).toInt = 1 := (by decide); omega⟩, ⟨by omega, by omega⟩, i_206, i_195, i_214, opk_trans i_197 (i_215) (by omega), rfl, rfl⟩, by rw [ht]; exact hP.sub [3, 1, 2, 0, 4] rfl, hD.sub [3, 1, 2, 0, 4] (by decide) rfl⟩, hS.F ht⟩) hS.2.2 dX4_readPlain_183
                ·
                  have i_210 : z207.toInt = 0 := by have z := g5_neN (a := z207.toInt) (b := 0) (by rfl) (by decide) c_210; omega
                  refine lv_iconst (v := 0) hx hb dX4_readPlain_80 (by decide) ?_
                  exact W.zret (v := 0) hx hb hr rfl (fun t ht hW => ⟨⟨0, [(a_r, (oc4 a_tk a_rh a_rs a_rc z199 z200 z208 e_fp)), (a_tk, (oc8 a_kd a_nm a_pl)), (a_kd, (arI G 401 f_kd)), (a_nm, (arI G 401 f_nm)), (a_rc, (arI G 400 z202))], rfl, ⟨0, z199, z200, z208, z202, ⟨by have zc_o_r : (0 : Int32).toInt = 0 := (by decide); omega, by have zc_o_r : (0 : Int32).toInt = 0 := (by decide); omega⟩, ⟨by omega, by omega⟩, i_206, i_195, i_196, i_197, rfl, rfl⟩, by rw [ht]; exact hP.sub [2, 3, 4, 0, 1] rfl, hD.sub [2, 3, 4, 0, 1] (by decide) rfl⟩, hS.F ht⟩) hS.2.2 dX4_readPlain_81
      ·
        obtain ⟨hP, hD⟩ := va_join (wr := [(a_nm, (arI G 401 f_nm)), (a_rc, (arI G 400 f_rc))]) hP hD [2, 3, 4] [0, 1] rfl rfl (by decide) (by decide) hk1 hFc hP1 hD1
        generalize H1 = H at hP hS ⊢
        refine g5_rs [(a_nm, (arI G 401 f_nm)), (a_rc, (arI G 400 f_rc)), (a_r, (oc4 a_tk a_rh a_rs a_rc e_ln e_pa z178 e_fp)), (a_tk, (oc8 a_kd a_nm a_pl)), (a_kd, (arI G 401 f_kd))] hP hD (fun hP hD => ?_)
        refine lv_if_eq (tgt := 82) hx hb dX4_readPlain_43 (by decide) (fun c_221 => ?_) (fun c_221 => ?_)
        ·
          refine lv_aload_n hx hb dX4_readPlain_82 rfl (lv_at hl 2 rfl) ?_
          refine lv_iload_n hx hb dX4_readPlain_83 rfl (lv_at hl 3 rfl) ?_
          obtain ⟨hPc, hDc, hFc⟩ := g5_sub3 (wc := [(a_r, (oc4 a_tk a_rh a_rs a_rc e_ln e_pa z178 e_fp)), (a_tk, (oc8 a_kd a_nm a_pl)), (a_kd, (arI G 401 f_kd)), (a_nm, (arI G 401 f_nm)), (a_rc, (arI G 400 f_rc))]) hP hD hS hA [2, 3, 4, 0, 1] (by decide) rfl
          refine va_calli (va_runV (As := [.int p_d]) (rest := []) ⟨hx, hb, hml, hown, hts⟩ ((r_sum fr lo p_d h_p_d h_sum) l G a_r a_tk a_kd a_nm a_rc a_rh a_rs a_pl H.size e_ln e_pa z178 e_fp f_kd f_nm f_rc h_e_ln h_e_pa i_176 (e_tk) (e_cd)) (cwV 1 hts gV_X4_73 rfl rfl rfl hv_X4_readSum ⟨by simp only [headSpec]; omega, by simp only [headSpec]; omega⟩) (g5_preV hPc hK hDc hN hT hS hFc (ci := 4) (q0 := 0) rfl rfl) rfl rfl hl.1 rfl (lv_room (Nat.le_of_ble_eq_true rfl)) dX4_readPlain_84 ⟨Nat.le_of_ble_eq_true rfl, Nat.le_of_ble_eq_true rfl⟩) hS (fun q _ h => hFc q h) hFc (fun r u t H1 locs ht hvm hw hB hz1 hk1 hS => ?_)
          obtain ⟨hP1, hD1⟩ := hB
          rw [ht] at hP1
          obtain ⟨z228, z229, z230, z231, z232, i_222, i_223, i_224, i_225, i_226, i_227, y233, rfl⟩ := hw
          have i_222 : 0 ≤ z228.toInt ∧ z228.toInt ≤ 1 := i_222
          have i_223 : e_ln.toInt ≤ z229.toInt ∧ z229.toInt ≤ 400 := i_223
          have i_224 : 0 ≤ z231.toInt ∧ z231.toInt ≤ 401 := i_224
          have i_225 : 0 ≤ z230.toInt ∧ z230.toInt ≤ 50 := i_225
          have i_226 : CDI z232 z229.toInt := i_226
          have i_227 : OPK f_rc z232 e_ln.toInt := i_227
          obtain ⟨hP, hD⟩ := va_join (wr := []) hP hD [2, 3, 4, 0, 1] [] rfl rfl (by decide) (by decide) hk1 hFc hP1 hD1
          generalize H1 = H at hP hS ⊢
          refine g5_rs [(a_r, (oc4 a_tk a_rh a_rs a_rc z229 z230 z231 e_fp)), (a_tk, (oc8 a_kd a_nm a_pl)), (a_kd, (arI G 401 f_kd)), (a_nm, (arI G 401 f_nm)), (a_rc, (arI G 400 z232))] hP hD (fun hP hD => ?_)
          refine g5_ti (v := z228) y233 ?_
          refine lv_if_ne (tgt := 92) hx hb dX4_readPlain_87 (by decide) (fun c_234 => ?_) (fun c_234 => ?_)
          ·
            have n_234 : gNe (z228.toInt) (0) := by have z := g5_ne (a := z228.toInt) (b := 0) (by rfl) (by decide) c_234; unfold gNe; omega
            have i_234 : z228.toInt ≥ 1 := by have z := g5_ne (a := z228.toInt) (b := 0) (by rfl) (by decide) c_234; omega
            refine lv_aload_n hx hb dX4_readPlain_92 rfl (lv_at hl 2 rfl) ?_
            refine lv_bipush (v := 60) hx hb dX4_readPlain_93 (by decide) ?_
            obtain ⟨hPc, hDc, hFc⟩ := g5_sub3 (wc := [(a_r, (oc4 a_tk a_rh a_rs a_rc z229 z230 z231 e_fp)), (a_tk, (oc8 a_kd a_nm a_pl)), (a_kd, (arI G 401 f_kd))]) hP hD hS hA [0, 1, 2] (by decide) rfl
            refine va_calli (va_runV (As := [.int 60]) (rest := []) ⟨hx, hb, hml, hown, hts⟩ (r_isNext l G a_r a_tk a_kd a_rh a_rs a_rc a_nm a_pl H.size z229 z230 z231 e_fp 60 f_kd ⟨by omega, by omega⟩ i_225 i_224) (cwV 1 hts gV_X4_49 rfl rfl rfl hv_X4_isNext ⟨by simp only [headSpec]; omega, by simp only [headSpec]; omega⟩) (g5_preV hPc hK hDc hN hT hS hFc (ci := 4) (q0 := 0) rfl rfl) rfl rfl hl.1 rfl (lv_room (Nat.le_of_ble_eq_true rfl)) dX4_readPlain_95 ⟨Nat.le_of_ble_eq_true rfl, Nat.le_of_ble_eq_true rfl⟩) hS (fun q _ h => hFc q h) hFc (fun r u t H1 locs ht hvm hw hB hz1 hk1 hS => ?_)
            obtain ⟨hP1, hD1⟩ := hB
            rw [ht] at hP1
            rcases hw with ⟨i_235, i_236, rfl, rfl⟩ | ⟨rfl, rfl⟩
            ·
              have i_235 : z231.toInt ≤ 400 := i_235
              have i_236 : f_kd z231.toNatClampNeg = (60 : Int32) := i_236
              obtain ⟨hP, hD⟩ := va_join (wr := [(a_nm, (arI G 401 f_nm)), (a_rc, (arI G 400 z232))]) hP hD [0, 1, 2] [3, 4] rfl rfl (by decide) (by decide) hk1 hFc hP1 hD1
              generalize H1 = H at hP hS ⊢
              refine g5_rs [(a_nm, (arI G 401 f_nm)), (a_rc, (arI G 400 z232)), (a_r, (oc4 a_tk a_rh a_rs a_rc z229 z230 z231 e_fp)), (a_tk, (oc8 a_kd a_nm a_pl)), (a_kd, (arI G 401 f_kd))] hP hD (fun hP hD => ?_)
              refine lv_if_eq (tgt := 106) hx hb dX4_readPlain_98 (by decide) (fun c_237 => ?_) (fun c_237 => ?_)
              ·
                exact absurd c_237 (by decide)
              ·
                refine lv_bipush (v := 6) hx hb dX4_readPlain_101 (by decide) ?_
                refine lv_goto (tgt := 135) hx hb dX4_readPlain_103 (by decide) ?_
                refine lv_istore_n (lv' := [(3, .int 6), (2, .int k_u), (0, .ref a_r), (1, .int p_d)]) hx hb dX4_readPlain_135 rfl hl (by decide) rfl (fun ls hl => ?_)
                refine lv_iload_n hx hb dX4_readPlain_136 rfl (lv_at hl 0 rfl) ?_
                refine lv_iconst (v := (-1)) hx hb dX4_readPlain_137 (by decide) ?_
                refine lv_icmp_ne (tgt := 143) hx hb dX4_readPlain_138 (by decide) (fun c_238 => ?_) (fun c_238 => ?_)
                ·
                  refine lv_aload_n hx hb dX4_readPlain_143 rfl (lv_at hl 2 rfl) ?_
                  refine lv_dup hx hb dX4_readPlain_144 rfl ?_
                  refine va_get (D := G.1) (ci := 4) (v := .int z231) (C := RX4) (T := TX4) (N := 8) hx hb hts inG_X4 hown hK hP 2 rfl rfl 6 (by decide) (hts _ fl_X4_42) (fun _ h9 => h9) rfl dX4_readPlain_145 ?_
                  refine lv_iconst (v := 1) hx hb dX4_readPlain_148 (by decide) ?_
                  refine lv_iadd hx hb dX4_readPlain_149 ?_
                  have t_239 : (z231 + 1).toInt = z231.toInt + 1 := g5_iadd (a := z231.toInt) (b := 1) (by rfl) (by decide) (by omega) (by omega)
                  refine va_put (D := G.1) (ci := 4) (v := .int (z231 + 1)) (ty := .int) (C := RX4) (T := TX4) (N := 8) hx hb hts inG_X4 tyX4 tyX4_ok nmX4 hown hK hP hD hS 2 rfl rfl 6 (by decide) (hts _ fl_X4_42) (fun _ h9 => h9) rfl (by decide +kernel) rfl rfl (Nat.le_of_ble_eq_true rfl) dX4_readPlain_150 (fun H locs hP hD hS => ?_)
                  refine g5_rs [(a_nm, (arI G 401 f_nm)), (a_rc, (arI G 400 z232)), (a_r, (oc4 a_tk a_rh a_rs a_rc z229 z230 (z231 + 1) e_fp)), (a_tk, (oc8 a_kd a_nm a_pl)), (a_kd, (arI G 401 f_kd))] hP hD (fun hP hD => ?_)
                  refine lv_aload_n hx hb dX4_readPlain_153 rfl (lv_at hl 2 rfl) ?_
                  refine lv_iload_n hx hb dX4_readPlain_154 rfl (lv_at hl 3 rfl) ?_
                  obtain ⟨hPc, hDc, hFc⟩ := g5_sub3 (wc := [(a_r, (oc4 a_tk a_rh a_rs a_rc z229 z230 (z231 + 1) e_fp)), (a_tk, (oc8 a_kd a_nm a_pl)), (a_kd, (arI G 401 f_kd)), (a_nm, (arI G 401 f_nm)), (a_rc, (arI G 400 z232))]) hP hD hS hA [2, 3, 4, 0, 1] (by decide) rfl
                  refine va_calli (va_runV (As := [.int p_d]) (rest := []) ⟨hx, hb, hml, hown, hts⟩ ((r_sum fr lo p_d h_p_d h_sum) l G a_r a_tk a_kd a_nm a_rc a_rh a_rs a_pl H.size z229 z230 (z231 + 1) e_fp f_kd f_nm z232 ⟨by omega, by omega⟩ i_225 ⟨by omega, by omega⟩ (e_tk) (i_226)) (cwV 1 hts gV_X4_73 rfl rfl rfl hv_X4_readSum ⟨by simp only [headSpec]; omega, by simp only [headSpec]; omega⟩) (g5_preV hPc hK hDc hN hT hS hFc (ci := 4) (q0 := 0) rfl rfl) rfl rfl hl.1 rfl (lv_room (Nat.le_of_ble_eq_true rfl)) dX4_readPlain_155 ⟨Nat.le_of_ble_eq_true rfl, Nat.le_of_ble_eq_true rfl⟩) hS (fun q _ h => hFc q h) hFc (fun r u t H1 locs ht hvm hw hB hz1 hk1 hS => ?_)
                  obtain ⟨hP1, hD1⟩ := hB
                  rw [ht] at hP1
                  obtain ⟨z246, z247, z248, z249, z250, i_240, i_241, i_242, i_243, i_244, i_245, y251, rfl⟩ := hw
                  have i_240 : 0 ≤ z246.toInt ∧ z246.toInt ≤ 1 := i_240
                  have i_241 : z229.toInt ≤ z247.toInt ∧ z247.toInt ≤ 400 := i_241
                  have i_242 : 0 ≤ z249.toInt ∧ z249.toInt ≤ 401 := i_242
                  have i_243 : 0 ≤ z248.toInt ∧ z248.toInt ≤ 50 := i_243
                  have i_244 : CDI z250 z247.toInt := i_244
                  have i_245 : OPK z232 z250 z229.toInt := i_245
                  obtain ⟨hP, hD⟩ := va_join (wr := []) hP hD [2, 3, 4, 0, 1] [] rfl rfl (by decide) (by decide) hk1 hFc hP1 hD1
                  generalize H1 = H at hP hS ⊢
                  refine g5_rs [(a_r, (oc4 a_tk a_rh a_rs a_rc z247 z248 z249 e_fp)), (a_tk, (oc8 a_kd a_nm a_pl)), (a_kd, (arI G 401 f_kd)), (a_nm, (arI G 401 f_nm)), (a_rc, (arI G 400 z250))] hP hD (fun hP hD => ?_)
                  refine g5_ti (v := z246) y251 ?_
                  refine lv_if_ne (tgt := 163) hx hb dX4_readPlain_158 (by decide) (fun c_252 => ?_) (fun c_252 => ?_)
                  ·
                    have n_252 : gNe (z246.toInt) (0) := by have z := g5_ne (a := z246.toInt) (b := 0) (by rfl) (by decide) c_252; unfold gNe; omega
                    have i_252 : z246.toInt ≥ 1 := by have z := g5_ne (a := z246.toInt) (b := 0) (by rfl) (by decide) c_252; omega
                    refine lv_aload_n hx hb dX4_readPlain_163 rfl (lv_at hl 2 rfl) ?_
                    refine lv_iload_n hx hb dX4_readPlain_164 rfl (lv_at hl 0 rfl) ?_
                    refine lv_iconst (v := 0) hx hb dX4_readPlain_165 (by decide) ?_
                    obtain ⟨hPc, hDc, hFc⟩ := g5_sub3 (wc := [(a_r, (oc4 a_tk a_rh a_rs a_rc z247 z248 z249 e_fp)), (a_rc, (arI G 400 z250))]) hP hD hS hA [0, 4] (by decide) rfl
                    refine va_calli (va_runV (As := [.int 6, .int 0]) (rest := []) ⟨hx, hb, hml, hown, hts⟩ (r_emit l G a_r a_rc a_tk a_rh a_rs H.size z247 z248 z249 e_fp 6 0 z250 ⟨by omega, by omega⟩ i_243 i_242 (i_244) (by unfold wOK; decide)) (cwV 2 hts gV_X4_79 rfl rfl rfl hv_X4_emit ⟨by simp only [headSpec]; omega, by simp only [headSpec]; omega⟩) (g5_preV hPc hK hDc hN hT hS hFc (ci := 4) (q0 := 0) rfl rfl) rfl rfl hl.1 rfl (lv_room (Nat.le_of_ble_eq_true rfl)) dX4_readPlain_166 ⟨Nat.le_of_ble_eq_true rfl, Nat.le_of_ble_eq_true rfl⟩) hS (fun q _ h => hFc q h) hFc (fun r u t H1 locs ht hvm hw hB hz1 hk1 hS => ?_)
                    obtain ⟨hP1, hD1⟩ := hB
                    rw [ht] at hP1
                    obtain ⟨z258, z259, z260, i_253, i_254, i_255, i_256, i_257, y261, rfl⟩ := hw
                    have i_253 : -1 ≤ z258.toInt ∧ z258.toInt ≤ 399 := i_253
                    have i_254 : z247.toInt ≤ z259.toInt ∧ z259.toInt ≤ 400 := i_254
                    have i_255 : CDI z260 z259.toInt := i_255
                    have i_256 : OPK z250 z260 z247.toInt := i_256
                    have i_257 : 0 ≤ z258.toInt → z258.toInt < z259.toInt ∧ z260 z258.toNatClampNeg = (((6 : Int32) <<< (12 &&& 31)) ||| (0 : Int32)) := i_257
                    obtain ⟨hP, hD⟩ := va_join (wr := [(a_tk, (oc8 a_kd a_nm a_pl)), (a_kd, (arI G 401 f_kd)), (a_nm, (arI G 401 f_nm))]) hP hD [0, 4] [1, 2, 3] rfl rfl (by decide) (by decide) hk1 hFc hP1 hD1
                    generalize H1 = H at hP hS ⊢
                    refine g5_rs [(a_tk, (oc8 a_kd a_nm a_pl)), (a_kd, (arI G 401 f_kd)), (a_nm, (arI G 401 f_nm)), (a_r, (oc4 a_tk a_rh a_rs a_rc z259 z248 z249 e_fp)), (a_rc, (arI G 400 z260))] hP hD (fun hP hD => ?_)
                    refine g5_ti (v := z258) y261 ?_
                    refine lv_pop hx hb dX4_readPlain_169 rfl ?_
                    refine lv_iload_n hx hb dX4_readPlain_170 rfl (lv_at hl 1 rfl) ?_
                    refine lv_if_eq (tgt := 182) hx hb dX4_readPlain_171 (by decide) (fun c_262 => ?_) (fun c_262 => ?_)
                    ·
                      have i_262 : k_u.toInt = 0 := by have z := g5_eq (a := k_u.toInt) (b := 0) (by rfl) (by decide) c_262; omega
                      refine lv_iconst (v := 1) hx hb dX4_readPlain_182 (by decide) ?_
                      exact W.zret (v := 1) hx hb hr rfl (fun t ht hW => ⟨⟨1, [(a_r, (oc4 a_tk a_rh a_rs a_rc z259 z248 z249 e_fp)), (a_tk, (oc8 a_kd a_nm a_pl)), (a_kd, (arI G 401 f_kd)), (a_nm, (arI G 401 f_nm)), (a_rc, (arI G 400 z260))], rfl, ⟨1, z259, z248, z249, z260, ⟨by have zc_o_r : (1 : Int32).toInt = 1 := (by decide); omega, by have zc_o_r : (1 : Int32).toInt = 1 := (by decide); omega⟩, ⟨by omega, by omega⟩, i_242, i_243, i_255, opk_trans i_227 (opk_trans i_245 (i_256) (by omega)) (by omega), rfl, rfl⟩, by rw [ht]; exact hP.sub [3, 0, 1, 2, 4] rfl, hD.sub [3, 0, 1, 2, 4] (by decide) rfl⟩, hS.F ht⟩) hS.2.2 dX4_readPlain_183
                    ·
                      have n_262 : gNe (k_u.toInt) (0) := by have z := g5_eqN (a := k_u.toInt) (b := 0) (by rfl) (by decide) c_262; unfold gNe; omega
                      have i_262 : k_u.toInt ≥ 1 := by have z := g5_eqN (a := k_u.toInt) (b := 0) (by rfl) (by decide) c_262; omega
                      refine lv_aload_n hx hb dX4_readPlain_174 rfl (lv_at hl 2 rfl) ?_
                      refine lv_bipush (v := 9) hx hb dX4_readPlain_175 (by decide) ?_
                      refine lv_iconst (v := 0) hx hb dX4_readPlain_177 (by decide) ?_
                      obtain ⟨hPc, hDc, hFc⟩ := g5_sub3 (wc := [(a_r, (oc4 a_tk a_rh a_rs a_rc z259 z248 z249 e_fp)), (a_rc, (arI G 400 z260))]) hP hD hS hA [3, 4] (by decide) rfl
                      refine va_calli (va_runV (As := [.int 9, .int 0]) (rest := []) ⟨hx, hb, hml, hown, hts⟩ (r_emit l G a_r a_rc a_tk a_rh a_rs H.size z259 z248 z249 e_fp 9 0 z260 ⟨by omega, by omega⟩ i_243 i_242 (i_255) (by unfold wOK; decide)) (cwV 2 hts gV_X4_79 rfl rfl rfl hv_X4_emit ⟨by simp only [headSpec]; omega, by simp only [headSpec]; omega⟩) (g5_preV hPc hK hDc hN hT hS hFc (ci := 4) (q0 := 0) rfl rfl) rfl rfl hl.1 rfl (lv_room (Nat.le_of_ble_eq_true rfl)) dX4_readPlain_178 ⟨Nat.le_of_ble_eq_true rfl, Nat.le_of_ble_eq_true rfl⟩) hS (fun q _ h => hFc q h) hFc (fun r u t H1 locs ht hvm hw hB hz1 hk1 hS => ?_)
                      obtain ⟨hP1, hD1⟩ := hB
                      rw [ht] at hP1
                      obtain ⟨z268, z269, z270, i_263, i_264, i_265, i_266, i_267, y271, rfl⟩ := hw
                      have i_263 : -1 ≤ z268.toInt ∧ z268.toInt ≤ 399 := i_263
                      have i_264 : z259.toInt ≤ z269.toInt ∧ z269.toInt ≤ 400 := i_264
                      have i_265 : CDI z270 z269.toInt := i_265
                      have i_266 : OPK z260 z270 z259.toInt := i_266
                      have i_267 : 0 ≤ z268.toInt → z268.toInt < z269.toInt ∧ z270 z268.toNatClampNeg = (((9 : Int32) <<< (12 &&& 31)) ||| (0 : Int32)) := i_267
                      obtain ⟨hP, hD⟩ := va_join (wr := [(a_tk, (oc8 a_kd a_nm a_pl)), (a_kd, (arI G 401 f_kd)), (a_nm, (arI G 401 f_nm))]) hP hD [3, 4] [0, 1, 2] rfl rfl (by decide) (by decide) hk1 hFc hP1 hD1
                      generalize H1 = H at hP hS ⊢
                      refine g5_rs [(a_tk, (oc8 a_kd a_nm a_pl)), (a_kd, (arI G 401 f_kd)), (a_nm, (arI G 401 f_nm)), (a_r, (oc4 a_tk a_rh a_rs a_rc z269 z248 z249 e_fp)), (a_rc, (arI G 400 z270))] hP hD (fun hP hD => ?_)
                      refine g5_ti (v := z268) y271 ?_
                      refine lv_pop hx hb dX4_readPlain_181 rfl ?_
                      refine lv_iconst (v := 1) hx hb dX4_readPlain_182 (by decide) ?_
                      exact W.zret (v := 1) hx hb hr rfl (fun t ht hW => ⟨⟨1, [(a_r, (oc4 a_tk a_rh a_rs a_rc z269 z248 z249 e_fp)), (a_tk, (oc8 a_kd a_nm a_pl)), (a_kd, (arI G 401 f_kd)), (a_nm, (arI G 401 f_nm)), (a_rc, (arI G 400 z270))], rfl, ⟨1, z269, z248, z249, z270, ⟨by have zc_o_r : (1 : Int32).toInt = 1 := (by decide); omega, by have zc_o_r : (1 : Int32).toInt = 1 := (by decide); omega⟩, ⟨by omega, by omega⟩, i_242, i_243, i_265, opk_trans i_227 (opk_trans i_245 (opk_trans i_256 (i_266) (by omega)) (by omega)) (by omega), rfl, rfl⟩, by rw [ht]; exact hP.sub [3, 0, 1, 2, 4] rfl, hD.sub [3, 0, 1, 2, 4] (by decide) rfl⟩, hS.F ht⟩) hS.2.2 dX4_readPlain_183
                  ·
                    have i_252 : z246.toInt = 0 := by have z := g5_neN (a := z246.toInt) (b := 0) (by rfl) (by decide) c_252; omega
                    refine lv_iconst (v := 0) hx hb dX4_readPlain_161 (by decide) ?_
                    exact W.zret (v := 0) hx hb hr rfl (fun t ht hW => ⟨⟨0, [(a_r, (oc4 a_tk a_rh a_rs a_rc z247 z248 z249 e_fp)), (a_tk, (oc8 a_kd a_nm a_pl)), (a_kd, (arI G 401 f_kd)), (a_nm, (arI G 401 f_nm)), (a_rc, (arI G 400 z250))], rfl, ⟨0, z247, z248, z249, z250, ⟨by have zc_o_r : (0 : Int32).toInt = 0 := (by decide); omega, by have zc_o_r : (0 : Int32).toInt = 0 := (by decide); omega⟩, ⟨by omega, by omega⟩, i_242, i_243, i_244, opk_trans i_227 (i_245) (by omega), rfl, rfl⟩, by rw [ht]; exact hP.sub [0, 1, 2, 3, 4] rfl, hD.sub [0, 1, 2, 3, 4] (by decide) rfl⟩, hS.F ht⟩) hS.2.2 dX4_readPlain_162
                ·
                  exact absurd c_238 (by decide)
            ·
              obtain ⟨hP, hD⟩ := va_join (wr := [(a_nm, (arI G 401 f_nm)), (a_rc, (arI G 400 z232))]) hP hD [0, 1, 2] [3, 4] rfl rfl (by decide) (by decide) hk1 hFc hP1 hD1
              generalize H1 = H at hP hS ⊢
              refine g5_rs [(a_nm, (arI G 401 f_nm)), (a_rc, (arI G 400 z232)), (a_r, (oc4 a_tk a_rh a_rs a_rc z229 z230 z231 e_fp)), (a_tk, (oc8 a_kd a_nm a_pl)), (a_kd, (arI G 401 f_kd))] hP hD (fun hP hD => ?_)
              refine lv_if_eq (tgt := 106) hx hb dX4_readPlain_98 (by decide) (fun c_272 => ?_) (fun c_272 => ?_)
              ·
                refine lv_aload_n hx hb dX4_readPlain_106 rfl (lv_at hl 2 rfl) ?_
                refine lv_bipush (v := 62) hx hb dX4_readPlain_107 (by decide) ?_
                obtain ⟨hPc, hDc, hFc⟩ := g5_sub3 (wc := [(a_r, (oc4 a_tk a_rh a_rs a_rc z229 z230 z231 e_fp)), (a_tk, (oc8 a_kd a_nm a_pl)), (a_kd, (arI G 401 f_kd))]) hP hD hS hA [2, 3, 4] (by decide) rfl
                refine va_calli (va_runV (As := [.int 62]) (rest := []) ⟨hx, hb, hml, hown, hts⟩ (r_isNext l G a_r a_tk a_kd a_rh a_rs a_rc a_nm a_pl H.size z229 z230 z231 e_fp 62 f_kd ⟨by omega, by omega⟩ i_225 i_224) (cwV 1 hts gV_X4_49 rfl rfl rfl hv_X4_isNext ⟨by simp only [headSpec]; omega, by simp only [headSpec]; omega⟩) (g5_preV hPc hK hDc hN hT hS hFc (ci := 4) (q0 := 0) rfl rfl) rfl rfl hl.1 rfl (lv_room (Nat.le_of_ble_eq_true rfl)) dX4_readPlain_109 ⟨Nat.le_of_ble_eq_true rfl, Nat.le_of_ble_eq_true rfl⟩) hS (fun q _ h => hFc q h) hFc (fun r u t H1 locs ht hvm hw hB hz1 hk1 hS => ?_)
                obtain ⟨hP1, hD1⟩ := hB
                rw [ht] at hP1
                rcases hw with ⟨i_273, i_274, rfl, rfl⟩ | ⟨rfl, rfl⟩
                ·
                  have i_273 : z231.toInt ≤ 400 := i_273
                  have i_274 : f_kd z231.toNatClampNeg = (62 : Int32) := i_274
                  obtain ⟨hP, hD⟩ := va_join (wr := [(a_nm, (arI G 401 f_nm)), (a_rc, (arI G 400 z232))]) hP hD [2, 3, 4] [0, 1] rfl rfl (by decide) (by decide) hk1 hFc hP1 hD1
                  generalize H1 = H at hP hS ⊢
                  refine g5_rs [(a_nm, (arI G 401 f_nm)), (a_rc, (arI G 400 z232)), (a_r, (oc4 a_tk a_rh a_rs a_rc z229 z230 z231 e_fp)), (a_tk, (oc8 a_kd a_nm a_pl)), (a_kd, (arI G 401 f_kd))] hP hD (fun hP hD => ?_)
                  refine lv_if_eq (tgt := 120) hx hb dX4_readPlain_112 (by decide) (fun c_275 => ?_) (fun c_275 => ?_)
                  ·
                    exact absurd c_275 (by decide)
                  ·
                    refine lv_bipush (v := 7) hx hb dX4_readPlain_115 (by decide) ?_
                    refine lv_goto (tgt := 135) hx hb dX4_readPlain_117 (by decide) ?_
                    refine lv_istore_n (lv' := [(3, .int 7), (2, .int k_u), (0, .ref a_r), (1, .int p_d)]) hx hb dX4_readPlain_135 rfl hl (by decide) rfl (fun ls hl => ?_)
                    refine lv_iload_n hx hb dX4_readPlain_136 rfl (lv_at hl 0 rfl) ?_
                    refine lv_iconst (v := (-1)) hx hb dX4_readPlain_137 (by decide) ?_
                    refine lv_icmp_ne (tgt := 143) hx hb dX4_readPlain_138 (by decide) (fun c_276 => ?_) (fun c_276 => ?_)
                    ·
                      refine lv_aload_n hx hb dX4_readPlain_143 rfl (lv_at hl 2 rfl) ?_
                      refine lv_dup hx hb dX4_readPlain_144 rfl ?_
                      refine va_get (D := G.1) (ci := 4) (v := .int z231) (C := RX4) (T := TX4) (N := 8) hx hb hts inG_X4 hown hK hP 2 rfl rfl 6 (by decide) (hts _ fl_X4_42) (fun _ h9 => h9) rfl dX4_readPlain_145 ?_
                      refine lv_iconst (v := 1) hx hb dX4_readPlain_148 (by decide) ?_
                      refine lv_iadd hx hb dX4_readPlain_149 ?_
                      have t_277 : (z231 + 1).toInt = z231.toInt + 1 := g5_iadd (a := z231.toInt) (b := 1) (by rfl) (by decide) (by omega) (by omega)
                      refine va_put (D := G.1) (ci := 4) (v := .int (z231 + 1)) (ty := .int) (C := RX4) (T := TX4) (N := 8) hx hb hts inG_X4 tyX4 tyX4_ok nmX4 hown hK hP hD hS 2 rfl rfl 6 (by decide) (hts _ fl_X4_42) (fun _ h9 => h9) rfl (by decide +kernel) rfl rfl (Nat.le_of_ble_eq_true rfl) dX4_readPlain_150 (fun H locs hP hD hS => ?_)
                      refine g5_rs [(a_nm, (arI G 401 f_nm)), (a_rc, (arI G 400 z232)), (a_r, (oc4 a_tk a_rh a_rs a_rc z229 z230 (z231 + 1) e_fp)), (a_tk, (oc8 a_kd a_nm a_pl)), (a_kd, (arI G 401 f_kd))] hP hD (fun hP hD => ?_)
                      refine lv_aload_n hx hb dX4_readPlain_153 rfl (lv_at hl 2 rfl) ?_
                      refine lv_iload_n hx hb dX4_readPlain_154 rfl (lv_at hl 3 rfl) ?_
                      obtain ⟨hPc, hDc, hFc⟩ := g5_sub3 (wc := [(a_r, (oc4 a_tk a_rh a_rs a_rc z229 z230 (z231 + 1) e_fp)), (a_tk, (oc8 a_kd a_nm a_pl)), (a_kd, (arI G 401 f_kd)), (a_nm, (arI G 401 f_nm)), (a_rc, (arI G 400 z232))]) hP hD hS hA [2, 3, 4, 0, 1] (by decide) rfl
                      refine va_calli (va_runV (As := [.int p_d]) (rest := []) ⟨hx, hb, hml, hown, hts⟩ ((r_sum fr lo p_d h_p_d h_sum) l G a_r a_tk a_kd a_nm a_rc a_rh a_rs a_pl H.size z229 z230 (z231 + 1) e_fp f_kd f_nm z232 ⟨by omega, by omega⟩ i_225 ⟨by omega, by omega⟩ (e_tk) (i_226)) (cwV 1 hts gV_X4_73 rfl rfl rfl hv_X4_readSum ⟨by simp only [headSpec]; omega, by simp only [headSpec]; omega⟩) (g5_preV hPc hK hDc hN hT hS hFc (ci := 4) (q0 := 0) rfl rfl) rfl rfl hl.1 rfl (lv_room (Nat.le_of_ble_eq_true rfl)) dX4_readPlain_155 ⟨Nat.le_of_ble_eq_true rfl, Nat.le_of_ble_eq_true rfl⟩) hS (fun q _ h => hFc q h) hFc (fun r u t H1 locs ht hvm hw hB hz1 hk1 hS => ?_)
                      obtain ⟨hP1, hD1⟩ := hB
                      rw [ht] at hP1
                      obtain ⟨z284, z285, z286, z287, z288, i_278, i_279, i_280, i_281, i_282, i_283, y289, rfl⟩ := hw
                      have i_278 : 0 ≤ z284.toInt ∧ z284.toInt ≤ 1 := i_278
                      have i_279 : z229.toInt ≤ z285.toInt ∧ z285.toInt ≤ 400 := i_279
                      have i_280 : 0 ≤ z287.toInt ∧ z287.toInt ≤ 401 := i_280
                      have i_281 : 0 ≤ z286.toInt ∧ z286.toInt ≤ 50 := i_281
                      have i_282 : CDI z288 z285.toInt := i_282
                      have i_283 : OPK z232 z288 z229.toInt := i_283
                      obtain ⟨hP, hD⟩ := va_join (wr := []) hP hD [2, 3, 4, 0, 1] [] rfl rfl (by decide) (by decide) hk1 hFc hP1 hD1
                      generalize H1 = H at hP hS ⊢
                      refine g5_rs [(a_r, (oc4 a_tk a_rh a_rs a_rc z285 z286 z287 e_fp)), (a_tk, (oc8 a_kd a_nm a_pl)), (a_kd, (arI G 401 f_kd)), (a_nm, (arI G 401 f_nm)), (a_rc, (arI G 400 z288))] hP hD (fun hP hD => ?_)
                      refine g5_ti (v := z284) y289 ?_
                      refine lv_if_ne (tgt := 163) hx hb dX4_readPlain_158 (by decide) (fun c_290 => ?_) (fun c_290 => ?_)
                      ·
                        have n_290 : gNe (z284.toInt) (0) := by have z := g5_ne (a := z284.toInt) (b := 0) (by rfl) (by decide) c_290; unfold gNe; omega
                        have i_290 : z284.toInt ≥ 1 := by have z := g5_ne (a := z284.toInt) (b := 0) (by rfl) (by decide) c_290; omega
                        refine lv_aload_n hx hb dX4_readPlain_163 rfl (lv_at hl 2 rfl) ?_
                        refine lv_iload_n hx hb dX4_readPlain_164 rfl (lv_at hl 0 rfl) ?_
                        refine lv_iconst (v := 0) hx hb dX4_readPlain_165 (by decide) ?_
                        obtain ⟨hPc, hDc, hFc⟩ := g5_sub3 (wc := [(a_r, (oc4 a_tk a_rh a_rs a_rc z285 z286 z287 e_fp)), (a_rc, (arI G 400 z288))]) hP hD hS hA [0, 4] (by decide) rfl
                        refine va_calli (va_runV (As := [.int 7, .int 0]) (rest := []) ⟨hx, hb, hml, hown, hts⟩ (r_emit l G a_r a_rc a_tk a_rh a_rs H.size z285 z286 z287 e_fp 7 0 z288 ⟨by omega, by omega⟩ i_281 i_280 (i_282) (by unfold wOK; decide)) (cwV 2 hts gV_X4_79 rfl rfl rfl hv_X4_emit ⟨by simp only [headSpec]; omega, by simp only [headSpec]; omega⟩) (g5_preV hPc hK hDc hN hT hS hFc (ci := 4) (q0 := 0) rfl rfl) rfl rfl hl.1 rfl (lv_room (Nat.le_of_ble_eq_true rfl)) dX4_readPlain_166 ⟨Nat.le_of_ble_eq_true rfl, Nat.le_of_ble_eq_true rfl⟩) hS (fun q _ h => hFc q h) hFc (fun r u t H1 locs ht hvm hw hB hz1 hk1 hS => ?_)
                        obtain ⟨hP1, hD1⟩ := hB
                        rw [ht] at hP1
                        obtain ⟨z296, z297, z298, i_291, i_292, i_293, i_294, i_295, y299, rfl⟩ := hw
                        have i_291 : -1 ≤ z296.toInt ∧ z296.toInt ≤ 399 := i_291
                        have i_292 : z285.toInt ≤ z297.toInt ∧ z297.toInt ≤ 400 := i_292
                        have i_293 : CDI z298 z297.toInt := i_293
                        have i_294 : OPK z288 z298 z285.toInt := i_294
                        have i_295 : 0 ≤ z296.toInt → z296.toInt < z297.toInt ∧ z298 z296.toNatClampNeg = (((7 : Int32) <<< (12 &&& 31)) ||| (0 : Int32)) := i_295
                        obtain ⟨hP, hD⟩ := va_join (wr := [(a_tk, (oc8 a_kd a_nm a_pl)), (a_kd, (arI G 401 f_kd)), (a_nm, (arI G 401 f_nm))]) hP hD [0, 4] [1, 2, 3] rfl rfl (by decide) (by decide) hk1 hFc hP1 hD1
                        generalize H1 = H at hP hS ⊢
                        refine g5_rs [(a_tk, (oc8 a_kd a_nm a_pl)), (a_kd, (arI G 401 f_kd)), (a_nm, (arI G 401 f_nm)), (a_r, (oc4 a_tk a_rh a_rs a_rc z297 z286 z287 e_fp)), (a_rc, (arI G 400 z298))] hP hD (fun hP hD => ?_)
                        refine g5_ti (v := z296) y299 ?_
                        refine lv_pop hx hb dX4_readPlain_169 rfl ?_
                        refine lv_iload_n hx hb dX4_readPlain_170 rfl (lv_at hl 1 rfl) ?_
                        refine lv_if_eq (tgt := 182) hx hb dX4_readPlain_171 (by decide) (fun c_300 => ?_) (fun c_300 => ?_)
                        ·
                          have i_300 : k_u.toInt = 0 := by have z := g5_eq (a := k_u.toInt) (b := 0) (by rfl) (by decide) c_300; omega
                          refine lv_iconst (v := 1) hx hb dX4_readPlain_182 (by decide) ?_
                          exact W.zret (v := 1) hx hb hr rfl (fun t ht hW => ⟨⟨1, [(a_r, (oc4 a_tk a_rh a_rs a_rc z297 z286 z287 e_fp)), (a_tk, (oc8 a_kd a_nm a_pl)), (a_kd, (arI G 401 f_kd)), (a_nm, (arI G 401 f_nm)), (a_rc, (arI G 400 z298))], rfl, ⟨1, z297, z286, z287, z298, ⟨by have zc_o_r : (1 : Int32).toInt = 1 := (by decide); omega, by have zc_o_r : (1 : Int32).toInt = 1 := (by decide); omega⟩, ⟨by omega, by omega⟩, i_280, i_281, i_293, opk_trans i_227 (opk_trans i_283 (i_294) (by omega)) (by omega), rfl, rfl⟩, by rw [ht]; exact hP.sub [3, 0, 1, 2, 4] rfl, hD.sub [3, 0, 1, 2, 4] (by decide) rfl⟩, hS.F ht⟩) hS.2.2 dX4_readPlain_183
                        ·
                          have n_300 : gNe (k_u.toInt) (0) := by have z := g5_eqN (a := k_u.toInt) (b := 0) (by rfl) (by decide) c_300; unfold gNe; omega
                          have i_300 : k_u.toInt ≥ 1 := by have z := g5_eqN (a := k_u.toInt) (b := 0) (by rfl) (by decide) c_300; omega
                          refine lv_aload_n hx hb dX4_readPlain_174 rfl (lv_at hl 2 rfl) ?_
                          refine lv_bipush (v := 9) hx hb dX4_readPlain_175 (by decide) ?_
                          refine lv_iconst (v := 0) hx hb dX4_readPlain_177 (by decide) ?_
                          obtain ⟨hPc, hDc, hFc⟩ := g5_sub3 (wc := [(a_r, (oc4 a_tk a_rh a_rs a_rc z297 z286 z287 e_fp)), (a_rc, (arI G 400 z298))]) hP hD hS hA [3, 4] (by decide) rfl
                          refine va_calli (va_runV (As := [.int 9, .int 0]) (rest := []) ⟨hx, hb, hml, hown, hts⟩ (r_emit l G a_r a_rc a_tk a_rh a_rs H.size z297 z286 z287 e_fp 9 0 z298 ⟨by omega, by omega⟩ i_281 i_280 (i_293) (by unfold wOK; decide)) (cwV 2 hts gV_X4_79 rfl rfl rfl hv_X4_emit ⟨by simp only [headSpec]; omega, by simp only [headSpec]; omega⟩) (g5_preV hPc hK hDc hN hT hS hFc (ci := 4) (q0 := 0) rfl rfl) rfl rfl hl.1 rfl (lv_room (Nat.le_of_ble_eq_true rfl)) dX4_readPlain_178 ⟨Nat.le_of_ble_eq_true rfl, Nat.le_of_ble_eq_true rfl⟩) hS (fun q _ h => hFc q h) hFc (fun r u t H1 locs ht hvm hw hB hz1 hk1 hS => ?_)
                          obtain ⟨hP1, hD1⟩ := hB
                          rw [ht] at hP1
                          obtain ⟨z306, z307, z308, i_301, i_302, i_303, i_304, i_305, y309, rfl⟩ := hw
                          have i_301 : -1 ≤ z306.toInt ∧ z306.toInt ≤ 399 := i_301
                          have i_302 : z297.toInt ≤ z307.toInt ∧ z307.toInt ≤ 400 := i_302
                          have i_303 : CDI z308 z307.toInt := i_303
                          have i_304 : OPK z298 z308 z297.toInt := i_304
                          have i_305 : 0 ≤ z306.toInt → z306.toInt < z307.toInt ∧ z308 z306.toNatClampNeg = (((9 : Int32) <<< (12 &&& 31)) ||| (0 : Int32)) := i_305
                          obtain ⟨hP, hD⟩ := va_join (wr := [(a_tk, (oc8 a_kd a_nm a_pl)), (a_kd, (arI G 401 f_kd)), (a_nm, (arI G 401 f_nm))]) hP hD [3, 4] [0, 1, 2] rfl rfl (by decide) (by decide) hk1 hFc hP1 hD1
                          generalize H1 = H at hP hS ⊢
                          refine g5_rs [(a_tk, (oc8 a_kd a_nm a_pl)), (a_kd, (arI G 401 f_kd)), (a_nm, (arI G 401 f_nm)), (a_r, (oc4 a_tk a_rh a_rs a_rc z307 z286 z287 e_fp)), (a_rc, (arI G 400 z308))] hP hD (fun hP hD => ?_)
                          refine g5_ti (v := z306) y309 ?_
                          refine lv_pop hx hb dX4_readPlain_181 rfl ?_
                          refine lv_iconst (v := 1) hx hb dX4_readPlain_182 (by decide) ?_
                          exact W.zret (v := 1) hx hb hr rfl (fun t ht hW => ⟨⟨1, [(a_r, (oc4 a_tk a_rh a_rs a_rc z307 z286 z287 e_fp)), (a_tk, (oc8 a_kd a_nm a_pl)), (a_kd, (arI G 401 f_kd)), (a_nm, (arI G 401 f_nm)), (a_rc, (arI G 400 z308))], rfl, ⟨1, z307, z286, z287, z308, ⟨by have zc_o_r : (1 : Int32).toInt = 1 := (by decide); omega, by have zc_o_r : (1 : Int32).toInt = 1 := (by decide); omega⟩, ⟨by omega, by omega⟩, i_280, i_281, i_303, opk_trans i_227 (opk_trans i_283 (opk_trans i_294 (i_304) (by omega)) (by omega)) (by omega), rfl, rfl⟩, by rw [ht]; exact hP.sub [3, 0, 1, 2, 4] rfl, hD.sub [3, 0, 1, 2, 4] (by decide) rfl⟩, hS.F ht⟩) hS.2.2 dX4_readPlain_183
                      ·
                        have i_290 : z284.toInt = 0 := by have z := g5_neN (a := z284.toInt) (b := 0) (by rfl) (by decide) c_290; omega
                        refine lv_iconst (v := 0) hx hb dX4_readPlain_161 (by decide) ?_
                        exact W.zret (v := 0) hx hb hr rfl (fun t ht hW => ⟨⟨0, [(a_r, (oc4 a_tk a_rh a_rs a_rc z285 z286 z287 e_fp)), (a_tk, (oc8 a_kd a_nm a_pl)), (a_kd, (arI G 401 f_kd)), (a_nm, (arI G 401 f_nm)), (a_rc, (arI G 400 z288))], rfl, ⟨0, z285, z286, z287, z288, ⟨by have zc_o_r : (0 : Int32).toInt = 0 := (by decide); omega, by have zc_o_r : (0 : Int32).toInt = 0 := (by decide); omega⟩, ⟨by omega, by omega⟩, i_280, i_281, i_282, opk_trans i_227 (i_283) (by omega), rfl, rfl⟩, by rw [ht]; exact hP.sub [0, 1, 2, 3, 4] rfl, hD.sub [0, 1, 2, 3, 4] (by decide) rfl⟩, hS.F ht⟩) hS.2.2 dX4_readPlain_162
                    ·
                      exact absurd c_276 (by decide)
                ·
                  obtain ⟨hP, hD⟩ := va_join (wr := [(a_nm, (arI G 401 f_nm)), (a_rc, (arI G 400 z232))]) hP hD [2, 3, 4] [0, 1] rfl rfl (by decide) (by decide) hk1 hFc hP1 hD1
                  generalize H1 = H at hP hS ⊢
                  refine g5_rs [(a_nm, (arI G 401 f_nm)), (a_rc, (arI G 400 z232)), (a_r, (oc4 a_tk a_rh a_rs a_rc z229 z230 z231 e_fp)), (a_tk, (oc8 a_kd a_nm a_pl)), (a_kd, (arI G 401 f_kd))] hP hD (fun hP hD => ?_)
                  refine lv_if_eq (tgt := 120) hx hb dX4_readPlain_112 (by decide) (fun c_310 => ?_) (fun c_310 => ?_)
                  ·
                    refine lv_aload_n hx hb dX4_readPlain_120 rfl (lv_at hl 2 rfl) ?_
                    refine lv_bipush (v := 61) hx hb dX4_readPlain_121 (by decide) ?_
                    obtain ⟨hPc, hDc, hFc⟩ := g5_sub3 (wc := [(a_r, (oc4 a_tk a_rh a_rs a_rc z229 z230 z231 e_fp)), (a_tk, (oc8 a_kd a_nm a_pl)), (a_kd, (arI G 401 f_kd))]) hP hD hS hA [2, 3, 4] (by decide) rfl
                    refine va_calli (va_runV (As := [.int 61]) (rest := []) ⟨hx, hb, hml, hown, hts⟩ (r_isNext l G a_r a_tk a_kd a_rh a_rs a_rc a_nm a_pl H.size z229 z230 z231 e_fp 61 f_kd ⟨by omega, by omega⟩ i_225 i_224) (cwV 1 hts gV_X4_49 rfl rfl rfl hv_X4_isNext ⟨by simp only [headSpec]; omega, by simp only [headSpec]; omega⟩) (g5_preV hPc hK hDc hN hT hS hFc (ci := 4) (q0 := 0) rfl rfl) rfl rfl hl.1 rfl (lv_room (Nat.le_of_ble_eq_true rfl)) dX4_readPlain_123 ⟨Nat.le_of_ble_eq_true rfl, Nat.le_of_ble_eq_true rfl⟩) hS (fun q _ h => hFc q h) hFc (fun r u t H1 locs ht hvm hw hB hz1 hk1 hS => ?_)
                    obtain ⟨hP1, hD1⟩ := hB
                    rw [ht] at hP1
                    rcases hw with ⟨i_311, i_312, rfl, rfl⟩ | ⟨rfl, rfl⟩
                    ·
                      have i_311 : z231.toInt ≤ 400 := i_311
                      have i_312 : f_kd z231.toNatClampNeg = (61 : Int32) := i_312
                      obtain ⟨hP, hD⟩ := va_join (wr := [(a_nm, (arI G 401 f_nm)), (a_rc, (arI G 400 z232))]) hP hD [2, 3, 4] [0, 1] rfl rfl (by decide) (by decide) hk1 hFc hP1 hD1
                      generalize H1 = H at hP hS ⊢
                      refine g5_rs [(a_nm, (arI G 401 f_nm)), (a_rc, (arI G 400 z232)), (a_r, (oc4 a_tk a_rh a_rs a_rc z229 z230 z231 e_fp)), (a_tk, (oc8 a_kd a_nm a_pl)), (a_kd, (arI G 401 f_kd))] hP hD (fun hP hD => ?_)
                      refine lv_if_eq (tgt := 134) hx hb dX4_readPlain_126 (by decide) (fun c_313 => ?_) (fun c_313 => ?_)
                      ·
                        exact absurd c_313 (by decide)
                      ·
                        refine lv_bipush (v := 8) hx hb dX4_readPlain_129 (by decide) ?_
                        refine lv_goto (tgt := 135) hx hb dX4_readPlain_131 (by decide) ?_
                        refine lv_istore_n (lv' := [(3, .int 8), (2, .int k_u), (0, .ref a_r), (1, .int p_d)]) hx hb dX4_readPlain_135 rfl hl (by decide) rfl (fun ls hl => ?_)
                        refine lv_iload_n hx hb dX4_readPlain_136 rfl (lv_at hl 0 rfl) ?_
                        refine lv_iconst (v := (-1)) hx hb dX4_readPlain_137 (by decide) ?_
                        refine lv_icmp_ne (tgt := 143) hx hb dX4_readPlain_138 (by decide) (fun c_314 => ?_) (fun c_314 => ?_)
                        ·
                          refine lv_aload_n hx hb dX4_readPlain_143 rfl (lv_at hl 2 rfl) ?_
                          refine lv_dup hx hb dX4_readPlain_144 rfl ?_
                          refine va_get (D := G.1) (ci := 4) (v := .int z231) (C := RX4) (T := TX4) (N := 8) hx hb hts inG_X4 hown hK hP 2 rfl rfl 6 (by decide) (hts _ fl_X4_42) (fun _ h9 => h9) rfl dX4_readPlain_145 ?_
                          refine lv_iconst (v := 1) hx hb dX4_readPlain_148 (by decide) ?_
                          refine lv_iadd hx hb dX4_readPlain_149 ?_
                          have t_315 : (z231 + 1).toInt = z231.toInt + 1 := g5_iadd (a := z231.toInt) (b := 1) (by rfl) (by decide) (by omega) (by omega)
                          refine va_put (D := G.1) (ci := 4) (v := .int (z231 + 1)) (ty := .int) (C := RX4) (T := TX4) (N := 8) hx hb hts inG_X4 tyX4 tyX4_ok nmX4 hown hK hP hD hS 2 rfl rfl 6 (by decide) (hts _ fl_X4_42) (fun _ h9 => h9) rfl (by decide +kernel) rfl rfl (Nat.le_of_ble_eq_true rfl) dX4_readPlain_150 (fun H locs hP hD hS => ?_)
                          refine g5_rs [(a_nm, (arI G 401 f_nm)), (a_rc, (arI G 400 z232)), (a_r, (oc4 a_tk a_rh a_rs a_rc z229 z230 (z231 + 1) e_fp)), (a_tk, (oc8 a_kd a_nm a_pl)), (a_kd, (arI G 401 f_kd))] hP hD (fun hP hD => ?_)
                          refine lv_aload_n hx hb dX4_readPlain_153 rfl (lv_at hl 2 rfl) ?_
                          refine lv_iload_n hx hb dX4_readPlain_154 rfl (lv_at hl 3 rfl) ?_
                          obtain ⟨hPc, hDc, hFc⟩ := g5_sub3 (wc := [(a_r, (oc4 a_tk a_rh a_rs a_rc z229 z230 (z231 + 1) e_fp)), (a_tk, (oc8 a_kd a_nm a_pl)), (a_kd, (arI G 401 f_kd)), (a_nm, (arI G 401 f_nm)), (a_rc, (arI G 400 z232))]) hP hD hS hA [2, 3, 4, 0, 1] (by decide) rfl
                          refine va_calli (va_runV (As := [.int p_d]) (rest := []) ⟨hx, hb, hml, hown, hts⟩ ((r_sum fr lo p_d h_p_d h_sum) l G a_r a_tk a_kd a_nm a_rc a_rh a_rs a_pl H.size z229 z230 (z231 + 1) e_fp f_kd f_nm z232 ⟨by omega, by omega⟩ i_225 ⟨by omega, by omega⟩ (e_tk) (i_226)) (cwV 1 hts gV_X4_73 rfl rfl rfl hv_X4_readSum ⟨by simp only [headSpec]; omega, by simp only [headSpec]; omega⟩) (g5_preV hPc hK hDc hN hT hS hFc (ci := 4) (q0 := 0) rfl rfl) rfl rfl hl.1 rfl (lv_room (Nat.le_of_ble_eq_true rfl)) dX4_readPlain_155 ⟨Nat.le_of_ble_eq_true rfl, Nat.le_of_ble_eq_true rfl⟩) hS (fun q _ h => hFc q h) hFc (fun r u t H1 locs ht hvm hw hB hz1 hk1 hS => ?_)
                          obtain ⟨hP1, hD1⟩ := hB
                          rw [ht] at hP1
                          obtain ⟨z322, z323, z324, z325, z326, i_316, i_317, i_318, i_319, i_320, i_321, y327, rfl⟩ := hw
                          have i_316 : 0 ≤ z322.toInt ∧ z322.toInt ≤ 1 := i_316
                          have i_317 : z229.toInt ≤ z323.toInt ∧ z323.toInt ≤ 400 := i_317
                          have i_318 : 0 ≤ z325.toInt ∧ z325.toInt ≤ 401 := i_318
                          have i_319 : 0 ≤ z324.toInt ∧ z324.toInt ≤ 50 := i_319
                          have i_320 : CDI z326 z323.toInt := i_320
                          have i_321 : OPK z232 z326 z229.toInt := i_321
                          obtain ⟨hP, hD⟩ := va_join (wr := []) hP hD [2, 3, 4, 0, 1] [] rfl rfl (by decide) (by decide) hk1 hFc hP1 hD1
                          generalize H1 = H at hP hS ⊢
                          refine g5_rs [(a_r, (oc4 a_tk a_rh a_rs a_rc z323 z324 z325 e_fp)), (a_tk, (oc8 a_kd a_nm a_pl)), (a_kd, (arI G 401 f_kd)), (a_nm, (arI G 401 f_nm)), (a_rc, (arI G 400 z326))] hP hD (fun hP hD => ?_)
                          refine g5_ti (v := z322) y327 ?_
                          refine lv_if_ne (tgt := 163) hx hb dX4_readPlain_158 (by decide) (fun c_328 => ?_) (fun c_328 => ?_)
                          ·
                            have n_328 : gNe (z322.toInt) (0) := by have z := g5_ne (a := z322.toInt) (b := 0) (by rfl) (by decide) c_328; unfold gNe; omega
                            have i_328 : z322.toInt ≥ 1 := by have z := g5_ne (a := z322.toInt) (b := 0) (by rfl) (by decide) c_328; omega
                            refine lv_aload_n hx hb dX4_readPlain_163 rfl (lv_at hl 2 rfl) ?_
                            refine lv_iload_n hx hb dX4_readPlain_164 rfl (lv_at hl 0 rfl) ?_
                            refine lv_iconst (v := 0) hx hb dX4_readPlain_165 (by decide) ?_
                            obtain ⟨hPc, hDc, hFc⟩ := g5_sub3 (wc := [(a_r, (oc4 a_tk a_rh a_rs a_rc z323 z324 z325 e_fp)), (a_rc, (arI G 400 z326))]) hP hD hS hA [0, 4] (by decide) rfl
                            refine va_calli (va_runV (As := [.int 8, .int 0]) (rest := []) ⟨hx, hb, hml, hown, hts⟩ (r_emit l G a_r a_rc a_tk a_rh a_rs H.size z323 z324 z325 e_fp 8 0 z326 ⟨by omega, by omega⟩ i_319 i_318 (i_320) (by unfold wOK; decide)) (cwV 2 hts gV_X4_79 rfl rfl rfl hv_X4_emit ⟨by simp only [headSpec]; omega, by simp only [headSpec]; omega⟩) (g5_preV hPc hK hDc hN hT hS hFc (ci := 4) (q0 := 0) rfl rfl) rfl rfl hl.1 rfl (lv_room (Nat.le_of_ble_eq_true rfl)) dX4_readPlain_166 ⟨Nat.le_of_ble_eq_true rfl, Nat.le_of_ble_eq_true rfl⟩) hS (fun q _ h => hFc q h) hFc (fun r u t H1 locs ht hvm hw hB hz1 hk1 hS => ?_)
                            obtain ⟨hP1, hD1⟩ := hB
                            rw [ht] at hP1
                            obtain ⟨z334, z335, z336, i_329, i_330, i_331, i_332, i_333, y337, rfl⟩ := hw
                            have i_329 : -1 ≤ z334.toInt ∧ z334.toInt ≤ 399 := i_329
                            have i_330 : z323.toInt ≤ z335.toInt ∧ z335.toInt ≤ 400 := i_330
                            have i_331 : CDI z336 z335.toInt := i_331
                            have i_332 : OPK z326 z336 z323.toInt := i_332
                            have i_333 : 0 ≤ z334.toInt → z334.toInt < z335.toInt ∧ z336 z334.toNatClampNeg = (((8 : Int32) <<< (12 &&& 31)) ||| (0 : Int32)) := i_333
                            obtain ⟨hP, hD⟩ := va_join (wr := [(a_tk, (oc8 a_kd a_nm a_pl)), (a_kd, (arI G 401 f_kd)), (a_nm, (arI G 401 f_nm))]) hP hD [0, 4] [1, 2, 3] rfl rfl (by decide) (by decide) hk1 hFc hP1 hD1
                            generalize H1 = H at hP hS ⊢
                            refine g5_rs [(a_tk, (oc8 a_kd a_nm a_pl)), (a_kd, (arI G 401 f_kd)), (a_nm, (arI G 401 f_nm)), (a_r, (oc4 a_tk a_rh a_rs a_rc z335 z324 z325 e_fp)), (a_rc, (arI G 400 z336))] hP hD (fun hP hD => ?_)
                            refine g5_ti (v := z334) y337 ?_
                            refine lv_pop hx hb dX4_readPlain_169 rfl ?_
                            refine lv_iload_n hx hb dX4_readPlain_170 rfl (lv_at hl 1 rfl) ?_
                            refine lv_if_eq (tgt := 182) hx hb dX4_readPlain_171 (by decide) (fun c_338 => ?_) (fun c_338 => ?_)
                            ·
                              have i_338 : k_u.toInt = 0 := by have z := g5_eq (a := k_u.toInt) (b := 0) (by rfl) (by decide) c_338; omega
                              refine lv_iconst (v := 1) hx hb dX4_readPlain_182 (by decide) ?_
                              exact W.zret (v := 1) hx hb hr rfl (fun t ht hW => ⟨⟨1, [(a_r, (oc4 a_tk a_rh a_rs a_rc z335 z324 z325 e_fp)), (a_tk, (oc8 a_kd a_nm a_pl)), (a_kd, (arI G 401 f_kd)), (a_nm, (arI G 401 f_nm)), (a_rc, (arI G 400 z336))], rfl, ⟨1, z335, z324, z325, z336, ⟨by have zc_o_r : (1 : Int32).toInt = 1 := (by decide); omega, by have zc_o_r : (1 : Int32).toInt = 1 := (by decide); omega⟩, ⟨by omega, by omega⟩, i_318, i_319, i_331, opk_trans i_227 (opk_trans i_321 (i_332) (by omega)) (by omega), rfl, rfl⟩, by rw [ht]; exact hP.sub [3, 0, 1, 2, 4] rfl, hD.sub [3, 0, 1, 2, 4] (by decide) rfl⟩, hS.F ht⟩) hS.2.2 dX4_readPlain_183
                            ·
                              have n_338 : gNe (k_u.toInt) (0) := by have z := g5_eqN (a := k_u.toInt) (b := 0) (by rfl) (by decide) c_338; unfold gNe; omega
                              have i_338 : k_u.toInt ≥ 1 := by have z := g5_eqN (a := k_u.toInt) (b := 0) (by rfl) (by decide) c_338; omega
                              refine lv_aload_n hx hb dX4_readPlain_174 rfl (lv_at hl 2 rfl) ?_
                              refine lv_bipush (v := 9) hx hb dX4_readPlain_175 (by decide) ?_
                              refine lv_iconst (v := 0) hx hb dX4_readPlain_177 (by decide) ?_
                              obtain ⟨hPc, hDc, hFc⟩ := g5_sub3 (wc := [(a_r, (oc4 a_tk a_rh a_rs a_rc z335 z324 z325 e_fp)), (a_rc, (arI G 400 z336))]) hP hD hS hA [3, 4] (by decide) rfl
                              refine va_calli (va_runV (As := [.int 9, .int 0]) (rest := []) ⟨hx, hb, hml, hown, hts⟩ (r_emit l G a_r a_rc a_tk a_rh a_rs H.size z335 z324 z325 e_fp 9 0 z336 ⟨by omega, by omega⟩ i_319 i_318 (i_331) (by unfold wOK; decide)) (cwV 2 hts gV_X4_79 rfl rfl rfl hv_X4_emit ⟨by simp only [headSpec]; omega, by simp only [headSpec]; omega⟩) (g5_preV hPc hK hDc hN hT hS hFc (ci := 4) (q0 := 0) rfl rfl) rfl rfl hl.1 rfl (lv_room (Nat.le_of_ble_eq_true rfl)) dX4_readPlain_178 ⟨Nat.le_of_ble_eq_true rfl, Nat.le_of_ble_eq_true rfl⟩) hS (fun q _ h => hFc q h) hFc (fun r u t H1 locs ht hvm hw hB hz1 hk1 hS => ?_)
                              obtain ⟨hP1, hD1⟩ := hB
                              rw [ht] at hP1
                              obtain ⟨z344, z345, z346, i_339, i_340, i_341, i_342, i_343, y347, rfl⟩ := hw
                              have i_339 : -1 ≤ z344.toInt ∧ z344.toInt ≤ 399 := i_339
                              have i_340 : z335.toInt ≤ z345.toInt ∧ z345.toInt ≤ 400 := i_340
                              have i_341 : CDI z346 z345.toInt := i_341
                              have i_342 : OPK z336 z346 z335.toInt := i_342
                              have i_343 : 0 ≤ z344.toInt → z344.toInt < z345.toInt ∧ z346 z344.toNatClampNeg = (((9 : Int32) <<< (12 &&& 31)) ||| (0 : Int32)) := i_343
                              obtain ⟨hP, hD⟩ := va_join (wr := [(a_tk, (oc8 a_kd a_nm a_pl)), (a_kd, (arI G 401 f_kd)), (a_nm, (arI G 401 f_nm))]) hP hD [3, 4] [0, 1, 2] rfl rfl (by decide) (by decide) hk1 hFc hP1 hD1
                              generalize H1 = H at hP hS ⊢
                              refine g5_rs [(a_tk, (oc8 a_kd a_nm a_pl)), (a_kd, (arI G 401 f_kd)), (a_nm, (arI G 401 f_nm)), (a_r, (oc4 a_tk a_rh a_rs a_rc z345 z324 z325 e_fp)), (a_rc, (arI G 400 z346))] hP hD (fun hP hD => ?_)
                              refine g5_ti (v := z344) y347 ?_
                              refine lv_pop hx hb dX4_readPlain_181 rfl ?_
                              refine lv_iconst (v := 1) hx hb dX4_readPlain_182 (by decide) ?_
                              exact W.zret (v := 1) hx hb hr rfl (fun t ht hW => ⟨⟨1, [(a_r, (oc4 a_tk a_rh a_rs a_rc z345 z324 z325 e_fp)), (a_tk, (oc8 a_kd a_nm a_pl)), (a_kd, (arI G 401 f_kd)), (a_nm, (arI G 401 f_nm)), (a_rc, (arI G 400 z346))], rfl, ⟨1, z345, z324, z325, z346, ⟨by have zc_o_r : (1 : Int32).toInt = 1 := (by decide); omega, by have zc_o_r : (1 : Int32).toInt = 1 := (by decide); omega⟩, ⟨by omega, by omega⟩, i_318, i_319, i_341, opk_trans i_227 (opk_trans i_321 (opk_trans i_332 (i_342) (by omega)) (by omega)) (by omega), rfl, rfl⟩, by rw [ht]; exact hP.sub [3, 0, 1, 2, 4] rfl, hD.sub [3, 0, 1, 2, 4] (by decide) rfl⟩, hS.F ht⟩) hS.2.2 dX4_readPlain_183
                          ·
                            have i_328 : z322.toInt = 0 := by have z := g5_neN (a := z322.toInt) (b := 0) (by rfl) (by decide) c_328; omega
                            refine lv_iconst (v := 0) hx hb dX4_readPlain_161 (by decide) ?_
                            exact W.zret (v := 0) hx hb hr rfl (fun t ht hW => ⟨⟨0, [(a_r, (oc4 a_tk a_rh a_rs a_rc z323 z324 z325 e_fp)), (a_tk, (oc8 a_kd a_nm a_pl)), (a_kd, (arI G 401 f_kd)), (a_nm, (arI G 401 f_nm)), (a_rc, (arI G 400 z326))], rfl, ⟨0, z323, z324, z325, z326, ⟨by have zc_o_r : (0 : Int32).toInt = 0 := (by decide); omega, by have zc_o_r : (0 : Int32).toInt = 0 := (by decide); omega⟩, ⟨by omega, by omega⟩, i_318, i_319, i_320, opk_trans i_227 (i_321) (by omega), rfl, rfl⟩, by rw [ht]; exact hP.sub [0, 1, 2, 3, 4] rfl, hD.sub [0, 1, 2, 3, 4] (by decide) rfl⟩, hS.F ht⟩) hS.2.2 dX4_readPlain_162
                        ·
                          exact absurd c_314 (by decide)
                    ·
                      obtain ⟨hP, hD⟩ := va_join (wr := [(a_nm, (arI G 401 f_nm)), (a_rc, (arI G 400 z232))]) hP hD [2, 3, 4] [0, 1] rfl rfl (by decide) (by decide) hk1 hFc hP1 hD1
                      generalize H1 = H at hP hS ⊢
                      refine g5_rs [(a_nm, (arI G 401 f_nm)), (a_rc, (arI G 400 z232)), (a_r, (oc4 a_tk a_rh a_rs a_rc z229 z230 z231 e_fp)), (a_tk, (oc8 a_kd a_nm a_pl)), (a_kd, (arI G 401 f_kd))] hP hD (fun hP hD => ?_)
                      refine lv_if_eq (tgt := 134) hx hb dX4_readPlain_126 (by decide) (fun c_348 => ?_) (fun c_348 => ?_)
                      ·
                        refine lv_iconst (v := (-1)) hx hb dX4_readPlain_134 (by decide) ?_
                        refine lv_istore_n (lv' := [(3, .int (-1)), (2, .int k_u), (0, .ref a_r), (1, .int p_d)]) hx hb dX4_readPlain_135 rfl hl (by decide) rfl (fun ls hl => ?_)
                        refine lv_iload_n hx hb dX4_readPlain_136 rfl (lv_at hl 0 rfl) ?_
                        refine lv_iconst (v := (-1)) hx hb dX4_readPlain_137 (by decide) ?_
                        refine lv_icmp_ne (tgt := 143) hx hb dX4_readPlain_138 (by decide) (fun c_349 => ?_) (fun c_349 => ?_)
                        ·
                          exact absurd c_349 (by decide)
                        ·
                          refine lv_iconst (v := 0) hx hb dX4_readPlain_141 (by decide) ?_
                          exact W.zret (v := 0) hx hb hr rfl (fun t ht hW => ⟨⟨0, [(a_r, (oc4 a_tk a_rh a_rs a_rc z229 z230 z231 e_fp)), (a_tk, (oc8 a_kd a_nm a_pl)), (a_kd, (arI G 401 f_kd)), (a_nm, (arI G 401 f_nm)), (a_rc, (arI G 400 z232))], rfl, ⟨0, z229, z230, z231, z232, ⟨by have zc_o_r : (0 : Int32).toInt = 0 := (by decide); omega, by have zc_o_r : (0 : Int32).toInt = 0 := (by decide); omega⟩, ⟨by omega, by omega⟩, i_224, i_225, i_226, i_227, rfl, rfl⟩, by rw [ht]; exact hP.sub [2, 3, 4, 0, 1] rfl, hD.sub [2, 3, 4, 0, 1] (by decide) rfl⟩, hS.F ht⟩) hS.2.2 dX4_readPlain_142
                      ·
                        exact absurd c_348 (by decide)
                  ·
                    exact absurd c_310 (by decide)
              ·
                exact absurd c_272 (by decide)
          ·
            have i_234 : z228.toInt = 0 := by have z := g5_neN (a := z228.toInt) (b := 0) (by rfl) (by decide) c_234; omega
            refine lv_iconst (v := 0) hx hb dX4_readPlain_90 (by decide) ?_
            exact W.zret (v := 0) hx hb hr rfl (fun t ht hW => ⟨⟨0, [(a_r, (oc4 a_tk a_rh a_rs a_rc z229 z230 z231 e_fp)), (a_tk, (oc8 a_kd a_nm a_pl)), (a_kd, (arI G 401 f_kd)), (a_nm, (arI G 401 f_nm)), (a_rc, (arI G 400 z232))], rfl, ⟨0, z229, z230, z231, z232, ⟨by have zc_o_r : (0 : Int32).toInt = 0 := (by decide); omega, by have zc_o_r : (0 : Int32).toInt = 0 := (by decide); omega⟩, ⟨by omega, by omega⟩, i_224, i_225, i_226, i_227, rfl, rfl⟩, by rw [ht]; exact hP.sub [0, 1, 2, 3, 4] rfl, hD.sub [0, 1, 2, 3, 4] (by decide) rfl⟩, hS.F ht⟩) hS.2.2 dX4_readPlain_91
        ·
          exact absurd c_221 (by decide)
    ·
      have n_180 : gNe (z177.toInt) (0) := by have z := g5_eqN (a := z177.toInt) (b := 0) (by rfl) (by decide) c_180; unfold gNe; omega
      have i_180 : z177.toInt ≥ 1 := by have z := g5_eqN (a := z177.toInt) (b := 0) (by rfl) (by decide) c_180; omega
      refine lv_iload_n hx hb dX4_readPlain_21 rfl (lv_at hl 0 rfl) ?_
      refine lv_if_ne (tgt := 29) hx hb dX4_readPlain_22 (by decide) (fun c_350 => ?_) (fun c_350 => ?_)
      ·
        have n_350 : gNe (k_u.toInt) (0) := by have z := g5_ne (a := k_u.toInt) (b := 0) (by rfl) (by decide) c_350; unfold gNe; omega
        have i_350 : k_u.toInt ≥ 1 := by have z := g5_ne (a := k_u.toInt) (b := 0) (by rfl) (by decide) c_350; omega
        refine lv_iconst (v := 0) hx hb dX4_readPlain_29 (by decide) ?_
        refine lv_istore_n (lv' := [(2, .int 0), (3, .int k_i), (0, .ref a_r), (1, .int p_d)]) hx hb dX4_readPlain_30 rfl hl (by decide) rfl (fun ls hl => ?_)
        refine lv_iinc (v := (k_i + 1)) (lv' := [(3, .int (k_i + 1)), (2, .int 0), (0, .ref a_r), (1, .int p_d)]) hx hb dX4_readPlain_31 hl (k := 1) rfl rfl (by decide) rfl (fun ls hl => ?_)
        have t_351 : (k_i + 1).toInt = k_i.toInt + 1 := g5_iadd (a := k_i.toInt) (b := 1) rfl (by decide) (by omega) (by omega)
        refine lv_goto (tgt := 4) hx hb dX4_readPlain_34 (by decide) ?_
        exact ih_4_4 (0, (k_i + 1), z178) ls H locs (show Int.toNat (400 - (k_i + 1).toInt) < Int.toNat (400 - k_i.toInt) from g_up (show k_i.toInt < (k_i + 1).toInt by omega) (show k_i.toInt < 400 by omega)) ⟨lv_sub hl [1, 0, 2, 3] rfl, hP.sub [2, 3, 4, 0, 1] rfl, hD.sub [2, 3, 4, 0, 1] (by decide) rfl, hS, ⟨by decide, by decide⟩, ⟨by omega, by omega⟩, i_176⟩
      ·
        have i_350 : k_u.toInt = 0 := by have z := g5_neN (a := k_u.toInt) (b := 0) (by rfl) (by decide) c_350; omega
        refine lv_iconst (v := 1) hx hb dX4_readPlain_25 (by decide) ?_
        refine lv_goto (tgt := 30) hx hb dX4_readPlain_26 (by decide) ?_
        refine lv_istore_n (lv' := [(2, .int 1), (3, .int k_i), (0, .ref a_r), (1, .int p_d)]) hx hb dX4_readPlain_30 rfl hl (by decide) rfl (fun ls hl => ?_)
        refine lv_iinc (v := (k_i + 1)) (lv' := [(3, .int (k_i + 1)), (2, .int 1), (0, .ref a_r), (1, .int p_d)]) hx hb dX4_readPlain_31 hl (k := 1) rfl rfl (by decide) rfl (fun ls hl => ?_)
        have t_352 : (k_i + 1).toInt = k_i.toInt + 1 := g5_iadd (a := k_i.toInt) (b := 1) rfl (by decide) (by omega) (by omega)
        refine lv_goto (tgt := 4) hx hb dX4_readPlain_34 (by decide) ?_
        exact ih_4_4 (1, (k_i + 1), z178) ls H locs (show Int.toNat (400 - (k_i + 1).toInt) < Int.toNat (400 - k_i.toInt) from g_up (show k_i.toInt < (k_i + 1).toInt by omega) (show k_i.toInt < 400 by omega)) ⟨lv_sub hl [1, 0, 2, 3] rfl, hP.sub [2, 3, 4, 0, 1] rfl, hD.sub [2, 3, 4, 0, 1] (by decide) rfl, hS, ⟨by decide, by decide⟩, ⟨by omega, by omega⟩, i_176⟩
theorem dgX4_readTest_0 : ∀ r ∈ ([(0, (.aload_n 0, 1)), (1, (.iload_n 1, 1)), (2, (.invokevirtual 83, 3)), (5, (.ifCond .ne 5, 3)), (8, (.iconst 0, 1)), (9, (.ireturn, 1)), (10, (.iconst (-1), 1)), (11, (.istore_n 2, 1)), (12, (.iconst 0, 1)), (13, (.istore_n 3, 1)), (14, (.iload_n 3, 1)), (15, (.sipush 400, 3)), (18, (.if_icmp .ge 104, 3)), (21, (.aload_n 0, 1)), (22, (.sipush 261, 3)), (25, (.invokevirtual 49, 3)), (28, (.ifCond .ne 13, 3)), (31, (.aload_n 0, 1)), (32, (.sipush 262, 3)), (35, (.invokevirtual 49, 3)), (38, (.ifCond .eq 84, 3)), (41, (.aload_n 0, 1)), (42, (.sipush 261, 3)), (45, (.invokevirtual 49, 3)), (48, (.istore 4, 2)), (50, (.aload_n 0, 1)), (51, (.dup, 1)), (52, (.getfield 42, 3)), (55, (.iconst 1, 1)), (56, (.iadd, 1)), (57, (.putfield 42, 3)), (60, (.iload 4, 2)), (62, (.ifCond .eq 8, 3)), (65, (.aload_n 0, 1)), (66, (.iload_n 2, 1)), (67, (.invokevirtual 86, 3)), (70, (.aload_n 0, 1)), (71, (.iload 4, 2)), (73, (.ifCond .eq 8, 3)), (76, (.bipush 11, 2))] : List (Nat × (Instr × Nat))), decode cX4_readTest r.1 = .ok r.2 := by decide +kernel
theorem dX4_readTest_0 : decode cX4_readTest 0 = .ok (.aload_n 0, 1) := dgX4_readTest_0 (0, (.aload_n 0, 1)) (List.mem_of_getElem? (i := 0) rfl)
theorem dX4_readTest_1 : decode cX4_readTest 1 = .ok (.iload_n 1, 1) := dgX4_readTest_0 (1, (.iload_n 1, 1)) (List.mem_of_getElem? (i := 1) rfl)
theorem dX4_readTest_2 : decode cX4_readTest 2 = .ok (.invokevirtual 83, 3) := dgX4_readTest_0 (2, (.invokevirtual 83, 3)) (List.mem_of_getElem? (i := 2) rfl)
theorem dX4_readTest_5 : decode cX4_readTest 5 = .ok (.ifCond .ne 5, 3) := dgX4_readTest_0 (5, (.ifCond .ne 5, 3)) (List.mem_of_getElem? (i := 3) rfl)
theorem dX4_readTest_8 : decode cX4_readTest 8 = .ok (.iconst 0, 1) := dgX4_readTest_0 (8, (.iconst 0, 1)) (List.mem_of_getElem? (i := 4) rfl)
theorem dX4_readTest_9 : decode cX4_readTest 9 = .ok (.ireturn, 1) := dgX4_readTest_0 (9, (.ireturn, 1)) (List.mem_of_getElem? (i := 5) rfl)
theorem dX4_readTest_10 : decode cX4_readTest 10 = .ok (.iconst (-1), 1) := dgX4_readTest_0 (10, (.iconst (-1), 1)) (List.mem_of_getElem? (i := 6) rfl)
theorem dX4_readTest_11 : decode cX4_readTest 11 = .ok (.istore_n 2, 1) := dgX4_readTest_0 (11, (.istore_n 2, 1)) (List.mem_of_getElem? (i := 7) rfl)
theorem dX4_readTest_12 : decode cX4_readTest 12 = .ok (.iconst 0, 1) := dgX4_readTest_0 (12, (.iconst 0, 1)) (List.mem_of_getElem? (i := 8) rfl)
theorem dX4_readTest_13 : decode cX4_readTest 13 = .ok (.istore_n 3, 1) := dgX4_readTest_0 (13, (.istore_n 3, 1)) (List.mem_of_getElem? (i := 9) rfl)
theorem dX4_readTest_14 : decode cX4_readTest 14 = .ok (.iload_n 3, 1) := dgX4_readTest_0 (14, (.iload_n 3, 1)) (List.mem_of_getElem? (i := 10) rfl)
theorem dX4_readTest_15 : decode cX4_readTest 15 = .ok (.sipush 400, 3) := dgX4_readTest_0 (15, (.sipush 400, 3)) (List.mem_of_getElem? (i := 11) rfl)
theorem dX4_readTest_18 : decode cX4_readTest 18 = .ok (.if_icmp .ge 104, 3) := dgX4_readTest_0 (18, (.if_icmp .ge 104, 3)) (List.mem_of_getElem? (i := 12) rfl)
theorem dX4_readTest_21 : decode cX4_readTest 21 = .ok (.aload_n 0, 1) := dgX4_readTest_0 (21, (.aload_n 0, 1)) (List.mem_of_getElem? (i := 13) rfl)
theorem dX4_readTest_22 : decode cX4_readTest 22 = .ok (.sipush 261, 3) := dgX4_readTest_0 (22, (.sipush 261, 3)) (List.mem_of_getElem? (i := 14) rfl)
theorem dX4_readTest_25 : decode cX4_readTest 25 = .ok (.invokevirtual 49, 3) := dgX4_readTest_0 (25, (.invokevirtual 49, 3)) (List.mem_of_getElem? (i := 15) rfl)
theorem dX4_readTest_28 : decode cX4_readTest 28 = .ok (.ifCond .ne 13, 3) := dgX4_readTest_0 (28, (.ifCond .ne 13, 3)) (List.mem_of_getElem? (i := 16) rfl)
theorem dX4_readTest_31 : decode cX4_readTest 31 = .ok (.aload_n 0, 1) := dgX4_readTest_0 (31, (.aload_n 0, 1)) (List.mem_of_getElem? (i := 17) rfl)
theorem dX4_readTest_32 : decode cX4_readTest 32 = .ok (.sipush 262, 3) := dgX4_readTest_0 (32, (.sipush 262, 3)) (List.mem_of_getElem? (i := 18) rfl)
theorem dX4_readTest_35 : decode cX4_readTest 35 = .ok (.invokevirtual 49, 3) := dgX4_readTest_0 (35, (.invokevirtual 49, 3)) (List.mem_of_getElem? (i := 19) rfl)
theorem dX4_readTest_38 : decode cX4_readTest 38 = .ok (.ifCond .eq 84, 3) := dgX4_readTest_0 (38, (.ifCond .eq 84, 3)) (List.mem_of_getElem? (i := 20) rfl)
theorem dX4_readTest_41 : decode cX4_readTest 41 = .ok (.aload_n 0, 1) := dgX4_readTest_0 (41, (.aload_n 0, 1)) (List.mem_of_getElem? (i := 21) rfl)
theorem dX4_readTest_42 : decode cX4_readTest 42 = .ok (.sipush 261, 3) := dgX4_readTest_0 (42, (.sipush 261, 3)) (List.mem_of_getElem? (i := 22) rfl)
theorem dX4_readTest_45 : decode cX4_readTest 45 = .ok (.invokevirtual 49, 3) := dgX4_readTest_0 (45, (.invokevirtual 49, 3)) (List.mem_of_getElem? (i := 23) rfl)
theorem dX4_readTest_48 : decode cX4_readTest 48 = .ok (.istore 4, 2) := dgX4_readTest_0 (48, (.istore 4, 2)) (List.mem_of_getElem? (i := 24) rfl)
theorem dX4_readTest_50 : decode cX4_readTest 50 = .ok (.aload_n 0, 1) := dgX4_readTest_0 (50, (.aload_n 0, 1)) (List.mem_of_getElem? (i := 25) rfl)
theorem dX4_readTest_51 : decode cX4_readTest 51 = .ok (.dup, 1) := dgX4_readTest_0 (51, (.dup, 1)) (List.mem_of_getElem? (i := 26) rfl)
theorem dX4_readTest_52 : decode cX4_readTest 52 = .ok (.getfield 42, 3) := dgX4_readTest_0 (52, (.getfield 42, 3)) (List.mem_of_getElem? (i := 27) rfl)
theorem dX4_readTest_55 : decode cX4_readTest 55 = .ok (.iconst 1, 1) := dgX4_readTest_0 (55, (.iconst 1, 1)) (List.mem_of_getElem? (i := 28) rfl)
theorem dX4_readTest_56 : decode cX4_readTest 56 = .ok (.iadd, 1) := dgX4_readTest_0 (56, (.iadd, 1)) (List.mem_of_getElem? (i := 29) rfl)
theorem dX4_readTest_57 : decode cX4_readTest 57 = .ok (.putfield 42, 3) := dgX4_readTest_0 (57, (.putfield 42, 3)) (List.mem_of_getElem? (i := 30) rfl)
theorem dX4_readTest_60 : decode cX4_readTest 60 = .ok (.iload 4, 2) := dgX4_readTest_0 (60, (.iload 4, 2)) (List.mem_of_getElem? (i := 31) rfl)
theorem dX4_readTest_62 : decode cX4_readTest 62 = .ok (.ifCond .eq 8, 3) := dgX4_readTest_0 (62, (.ifCond .eq 8, 3)) (List.mem_of_getElem? (i := 32) rfl)
theorem dX4_readTest_65 : decode cX4_readTest 65 = .ok (.aload_n 0, 1) := dgX4_readTest_0 (65, (.aload_n 0, 1)) (List.mem_of_getElem? (i := 33) rfl)
theorem dX4_readTest_66 : decode cX4_readTest 66 = .ok (.iload_n 2, 1) := dgX4_readTest_0 (66, (.iload_n 2, 1)) (List.mem_of_getElem? (i := 34) rfl)
theorem dX4_readTest_67 : decode cX4_readTest 67 = .ok (.invokevirtual 86, 3) := dgX4_readTest_0 (67, (.invokevirtual 86, 3)) (List.mem_of_getElem? (i := 35) rfl)
theorem dX4_readTest_70 : decode cX4_readTest 70 = .ok (.aload_n 0, 1) := dgX4_readTest_0 (70, (.aload_n 0, 1)) (List.mem_of_getElem? (i := 36) rfl)
theorem dX4_readTest_71 : decode cX4_readTest 71 = .ok (.iload 4, 2) := dgX4_readTest_0 (71, (.iload 4, 2)) (List.mem_of_getElem? (i := 37) rfl)
theorem dX4_readTest_73 : decode cX4_readTest 73 = .ok (.ifCond .eq 8, 3) := dgX4_readTest_0 (73, (.ifCond .eq 8, 3)) (List.mem_of_getElem? (i := 38) rfl)
theorem dX4_readTest_76 : decode cX4_readTest 76 = .ok (.bipush 11, 2) := dgX4_readTest_0 (76, (.bipush 11, 2)) (List.mem_of_getElem? (i := 39) rfl)
theorem dgX4_readTest_1 : ∀ r ∈ ([(78, (.goto 5, 3)), (81, (.bipush 12, 2)), (83, (.iconst 0, 1)), (84, (.invokevirtual 79, 3)), (87, (.istore 5, 2)), (89, (.aload_n 0, 1)), (90, (.iload_n 1, 1)), (91, (.invokevirtual 83, 3)), (94, (.ifCond .ne 5, 3)), (97, (.iconst 0, 1)), (98, (.ireturn, 1)), (99, (.iload 4, 2)), (101, (.ifCond .eq 9, 3)), (104, (.iload 5, 2)), (106, (.istore_n 2, 1)), (107, (.goto 9, 3)), (110, (.aload_n 0, 1)), (111, (.iload 5, 2)), (113, (.invokevirtual 86, 3)), (116, (.iinc 3 1, 3)), (119, (.goto (-105), 3)), (122, (.aload_n 0, 1)), (123, (.iload_n 2, 1)), (124, (.invokevirtual 86, 3)), (127, (.iconst 1, 1)), (128, (.ireturn, 1))] : List (Nat × (Instr × Nat))), decode cX4_readTest r.1 = .ok r.2 := by decide +kernel
theorem dX4_readTest_78 : decode cX4_readTest 78 = .ok (.goto 5, 3) := dgX4_readTest_1 (78, (.goto 5, 3)) (List.mem_of_getElem? (i := 0) rfl)
theorem dX4_readTest_81 : decode cX4_readTest 81 = .ok (.bipush 12, 2) := dgX4_readTest_1 (81, (.bipush 12, 2)) (List.mem_of_getElem? (i := 1) rfl)
theorem dX4_readTest_83 : decode cX4_readTest 83 = .ok (.iconst 0, 1) := dgX4_readTest_1 (83, (.iconst 0, 1)) (List.mem_of_getElem? (i := 2) rfl)
theorem dX4_readTest_84 : decode cX4_readTest 84 = .ok (.invokevirtual 79, 3) := dgX4_readTest_1 (84, (.invokevirtual 79, 3)) (List.mem_of_getElem? (i := 3) rfl)
theorem dX4_readTest_87 : decode cX4_readTest 87 = .ok (.istore 5, 2) := dgX4_readTest_1 (87, (.istore 5, 2)) (List.mem_of_getElem? (i := 4) rfl)
theorem dX4_readTest_89 : decode cX4_readTest 89 = .ok (.aload_n 0, 1) := dgX4_readTest_1 (89, (.aload_n 0, 1)) (List.mem_of_getElem? (i := 5) rfl)
theorem dX4_readTest_90 : decode cX4_readTest 90 = .ok (.iload_n 1, 1) := dgX4_readTest_1 (90, (.iload_n 1, 1)) (List.mem_of_getElem? (i := 6) rfl)
theorem dX4_readTest_91 : decode cX4_readTest 91 = .ok (.invokevirtual 83, 3) := dgX4_readTest_1 (91, (.invokevirtual 83, 3)) (List.mem_of_getElem? (i := 7) rfl)
theorem dX4_readTest_94 : decode cX4_readTest 94 = .ok (.ifCond .ne 5, 3) := dgX4_readTest_1 (94, (.ifCond .ne 5, 3)) (List.mem_of_getElem? (i := 8) rfl)
theorem dX4_readTest_97 : decode cX4_readTest 97 = .ok (.iconst 0, 1) := dgX4_readTest_1 (97, (.iconst 0, 1)) (List.mem_of_getElem? (i := 9) rfl)
theorem dX4_readTest_98 : decode cX4_readTest 98 = .ok (.ireturn, 1) := dgX4_readTest_1 (98, (.ireturn, 1)) (List.mem_of_getElem? (i := 10) rfl)
theorem dX4_readTest_99 : decode cX4_readTest 99 = .ok (.iload 4, 2) := dgX4_readTest_1 (99, (.iload 4, 2)) (List.mem_of_getElem? (i := 11) rfl)
theorem dX4_readTest_101 : decode cX4_readTest 101 = .ok (.ifCond .eq 9, 3) := dgX4_readTest_1 (101, (.ifCond .eq 9, 3)) (List.mem_of_getElem? (i := 12) rfl)
theorem dX4_readTest_104 : decode cX4_readTest 104 = .ok (.iload 5, 2) := dgX4_readTest_1 (104, (.iload 5, 2)) (List.mem_of_getElem? (i := 13) rfl)
theorem dX4_readTest_106 : decode cX4_readTest 106 = .ok (.istore_n 2, 1) := dgX4_readTest_1 (106, (.istore_n 2, 1)) (List.mem_of_getElem? (i := 14) rfl)
theorem dX4_readTest_107 : decode cX4_readTest 107 = .ok (.goto 9, 3) := dgX4_readTest_1 (107, (.goto 9, 3)) (List.mem_of_getElem? (i := 15) rfl)
theorem dX4_readTest_110 : decode cX4_readTest 110 = .ok (.aload_n 0, 1) := dgX4_readTest_1 (110, (.aload_n 0, 1)) (List.mem_of_getElem? (i := 16) rfl)
theorem dX4_readTest_111 : decode cX4_readTest 111 = .ok (.iload 5, 2) := dgX4_readTest_1 (111, (.iload 5, 2)) (List.mem_of_getElem? (i := 17) rfl)
theorem dX4_readTest_113 : decode cX4_readTest 113 = .ok (.invokevirtual 86, 3) := dgX4_readTest_1 (113, (.invokevirtual 86, 3)) (List.mem_of_getElem? (i := 18) rfl)
theorem dX4_readTest_116 : decode cX4_readTest 116 = .ok (.iinc 3 1, 3) := dgX4_readTest_1 (116, (.iinc 3 1, 3)) (List.mem_of_getElem? (i := 19) rfl)
theorem dX4_readTest_119 : decode cX4_readTest 119 = .ok (.goto (-105), 3) := dgX4_readTest_1 (119, (.goto (-105), 3)) (List.mem_of_getElem? (i := 20) rfl)
theorem dX4_readTest_122 : decode cX4_readTest 122 = .ok (.aload_n 0, 1) := dgX4_readTest_1 (122, (.aload_n 0, 1)) (List.mem_of_getElem? (i := 21) rfl)
theorem dX4_readTest_123 : decode cX4_readTest 123 = .ok (.iload_n 2, 1) := dgX4_readTest_1 (123, (.iload_n 2, 1)) (List.mem_of_getElem? (i := 22) rfl)
theorem dX4_readTest_124 : decode cX4_readTest 124 = .ok (.invokevirtual 86, 3) := dgX4_readTest_1 (124, (.invokevirtual 86, 3)) (List.mem_of_getElem? (i := 23) rfl)
theorem dX4_readTest_127 : decode cX4_readTest 127 = .ok (.iconst 1, 1) := dgX4_readTest_1 (127, (.iconst 1, 1)) (List.mem_of_getElem? (i := 24) rfl)
theorem dX4_readTest_128 : decode cX4_readTest 128 = .ok (.ireturn, 1) := dgX4_readTest_1 (128, (.ireturn, 1)) (List.mem_of_getElem? (i := 25) rfl)
theorem ml_X4_83 : Cond.methodLink RX4 83 yX4_readPlain ∈ tblG := tg 748 (by decide +kernel) (by decide +kernel)
theorem im_X4_readPlain : Cond.instanceMethod yX4_readPlain ∈ tblG := tg 750 (by decide +kernel) (by decide +kernel)
theorem se_X4_readPlain : Cond.selects RX4 yX4_readPlain yX4_readPlain ∈ tblG := tg 11 (by decide +kernel) (by decide +kernel)
theorem cd_X4_readPlain : Cond.code yX4_readPlain cX4_readPlain 4 (some .boolean) ∈ tblG := tg 751 (by decide +kernel) (by decide +kernel)
theorem gW_X4_readPlain : GoodIn tblG (wsG yX4_readPlain cX4_readPlain 4 (some .boolean)) := tgi cd_X4_readPlain
theorem gV_X4_83 : GoodIn tblG (wsV RX4 83 RX4 yX4_readPlain (wsG yX4_readPlain cX4_readPlain 4 (some .boolean))) := tgV ml_X4_83 im_X4_readPlain se_X4_readPlain ini_X4 gW_X4_readPlain
theorem hv_X4_readPlain : yX4_readPlain.cls = RX4 ∧ yX4_readPlain.cls ≠ "java/lang/invoke/MethodHandle" ∧ yX4_readPlain.cls ≠ "java/lang/invoke/VarHandle" ∧ (parseMethodDescriptor yX4_readPlain.desc).map (fun d => d.parameters.length) = some 1 := by decide +kernel
theorem ml_X4_86 : Cond.methodLink RX4 86 yX4_jumpHere ∈ tblG := tg 752 (by decide +kernel) (by decide +kernel)
theorem im_X4_jumpHere : Cond.instanceMethod yX4_jumpHere ∈ tblG := tg 754 (by decide +kernel) (by decide +kernel)
theorem se_X4_jumpHere : Cond.selects RX4 yX4_jumpHere yX4_jumpHere ∈ tblG := tg 12 (by decide +kernel) (by decide +kernel)
theorem cd_X4_jumpHere : Cond.code yX4_jumpHere cX4_jumpHere 2 none ∈ tblG := tg 755 (by decide +kernel) (by decide +kernel)
theorem gW_X4_jumpHere : GoodIn tblG (wsG yX4_jumpHere cX4_jumpHere 2 none) := tgi cd_X4_jumpHere
theorem gV_X4_86 : GoodIn tblG (wsV RX4 86 RX4 yX4_jumpHere (wsG yX4_jumpHere cX4_jumpHere 2 none)) := tgV ml_X4_86 im_X4_jumpHere se_X4_jumpHere ini_X4 gW_X4_jumpHere
theorem hv_X4_jumpHere : yX4_jumpHere.cls = RX4 ∧ yX4_jumpHere.cls ≠ "java/lang/invoke/MethodHandle" ∧ yX4_jumpHere.cls ≠ "java/lang/invoke/VarHandle" ∧ (parseMethodDescriptor yX4_jumpHere.desc).map (fun d => d.parameters.length) = some 1 := by decide +kernel
set_option maxHeartbeats 4000000 in
set_option maxRecDepth 100000 in
theorem r_test (fr lo f2 l2 : Nat) (p_d : Int32) (h_p_d : 0 ≤ p_d.toInt ∧ p_d.toInt ≤ 8) (h_sum : ∀ x : Int32, x.toInt = p_d.toInt + 1 → p_d.toInt < 8 → ∀ (l : Launch) (G : g5_G) (a_r a_tk a_kd a_nm a_rc a_rh a_rs a_pl : Nat) (sz : Nat) (e_ln : Int32) (e_pa : Int32) (e_at : Int32) (e_fp : Int32) (f_kd : Nat → Int32) (f_nm : Nat → Int32) (f_rc : Nat → Int32) (h_e_ln : 0 ≤ e_ln.toInt ∧ e_ln.toInt ≤ 400) (h_e_pa : 0 ≤ e_pa.toInt ∧ e_pa.toInt ≤ 50) (h_e_at : 0 ≤ e_at.toInt ∧ e_at.toInt ≤ 401) (e_tk : TOKI f_kd f_nm) (e_cd : CDI f_rc e_ln.toInt), Met l yX4_readSum (wsG yX4_readSum cX4_readSum 6 (some .boolean)) ({ frames := fr + 0, cells := 0, slots := 0, locals := lo + 0 }) (va_Pc [.ref a_r, .int x] (g5_P G [(a_r, (oc4 a_tk a_rh a_rs a_rc e_ln e_pa e_at e_fp)), (a_tk, (oc8 a_kd a_nm a_pl)), (a_kd, (arI G 401 f_kd)), (a_nm, (arI G 401 f_nm)), (a_rc, (arI G 400 f_rc))] sz)) (va_Qi (fun (r : Int32) (u : va_W) => (∃ (o_r : Int32) (o_ln : Int32) (o_pa : Int32) (o_at : Int32) (o_rc : Nat → Int32), (0 ≤ o_r.toInt ∧ o_r.toInt ≤ 1) ∧ (e_ln.toInt ≤ o_ln.toInt ∧ o_ln.toInt ≤ 400) ∧ (0 ≤ o_at.toInt ∧ o_at.toInt ≤ 401) ∧ (0 ≤ o_pa.toInt ∧ o_pa.toInt ≤ 50) ∧ (CDI o_rc o_ln.toInt) ∧ (OPK f_rc o_rc e_ln.toInt) ∧ (r = o_r) ∧ (u = [(a_r, (oc4 a_tk a_rh a_rs a_rc o_ln o_pa o_at e_fp)), (a_tk, (oc8 a_kd a_nm a_pl)), (a_kd, (arI G 401 f_kd)), (a_nm, (arI G 401 f_nm)), (a_rc, (arI G 400 o_rc))]))) (g5_B G (va_A [(a_r, (oc4 a_tk a_rh a_rs a_rc e_ln e_pa e_at e_fp)), (a_tk, (oc8 a_kd a_nm a_pl)), (a_kd, (arI G 401 f_kd)), (a_nm, (arI G 401 f_nm)), (a_rc, (arI G 400 f_rc))] sz)) (va_A [(a_r, (oc4 a_tk a_rh a_rs a_rc e_ln e_pa e_at e_fp)), (a_tk, (oc8 a_kd a_nm a_pl)), (a_kd, (arI G 401 f_kd)), (a_nm, (arI G 401 f_nm)), (a_rc, (arI G 400 f_rc))] sz)) 0 0 (va_A [(a_r, (oc4 a_tk a_rh a_rs a_rc e_ln e_pa e_at e_fp)), (a_tk, (oc8 a_kd a_nm a_pl)), (a_kd, (arI G 401 f_kd)), (a_nm, (arI G 401 f_nm)), (a_rc, (arI G 400 f_rc))] sz)) (h_test : ∀ x : Int32, x.toInt = p_d.toInt + 1 → p_d.toInt < 8 → ∀ (l : Launch) (G : g5_G) (a_r a_tk a_kd a_nm a_rc a_rh a_rs a_pl : Nat) (sz : Nat) (e_ln : Int32) (e_pa : Int32) (e_at : Int32) (e_fp : Int32) (f_kd : Nat → Int32) (f_nm : Nat → Int32) (f_rc : Nat → Int32) (h_e_ln : 0 ≤ e_ln.toInt ∧ e_ln.toInt ≤ 400) (h_e_pa : 0 ≤ e_pa.toInt ∧ e_pa.toInt ≤ 50) (h_e_at : 0 ≤ e_at.toInt ∧ e_at.toInt ≤ 401) (e_tk : TOKI f_kd f_nm) (e_cd : CDI f_rc e_ln.toInt), Met l yX4_readTest (wsG yX4_readTest cX4_readTest 6 (some .boolean)) ({ frames := f2 + 0, cells := 0, slots := 0, locals := l2 + 0 }) (va_Pc [.ref a_r, .int x] (g5_P G [(a_r, (oc4 a_tk a_rh a_rs a_rc e_ln e_pa e_at e_fp)), (a_tk, (oc8 a_kd a_nm a_pl)), (a_kd, (arI G 401 f_kd)), (a_nm, (arI G 401 f_nm)), (a_rc, (arI G 400 f_rc))] sz)) (va_Qi (fun (r : Int32) (u : va_W) => (∃ (o_r : Int32) (o_ln : Int32) (o_pa : Int32) (o_at : Int32) (o_rc : Nat → Int32), (0 ≤ o_r.toInt ∧ o_r.toInt ≤ 1) ∧ (e_ln.toInt ≤ o_ln.toInt ∧ o_ln.toInt ≤ 400) ∧ (0 ≤ o_at.toInt ∧ o_at.toInt ≤ 401) ∧ (0 ≤ o_pa.toInt ∧ o_pa.toInt ≤ 50) ∧ (CDI o_rc o_ln.toInt) ∧ (OPK f_rc o_rc e_ln.toInt) ∧ (r = o_r) ∧ (u = [(a_r, (oc4 a_tk a_rh a_rs a_rc o_ln o_pa o_at e_fp)), (a_tk, (oc8 a_kd a_nm a_pl)), (a_kd, (arI G 401 f_kd)), (a_nm, (arI G 401 f_nm)), (a_rc, (arI G 400 o_rc))]))) (g5_B G (va_A [(a_r, (oc4 a_tk a_rh a_rs a_rc e_ln e_pa e_at e_fp)), (a_tk, (oc8 a_kd a_nm a_pl)), (a_kd, (arI G 401 f_kd)), (a_nm, (arI G 401 f_nm)), (a_rc, (arI G 400 f_rc))] sz)) (va_A [(a_r, (oc4 a_tk a_rh a_rs a_rc e_ln e_pa e_at e_fp)), (a_tk, (oc8 a_kd a_nm a_pl)), (a_kd, (arI G 401 f_kd)), (a_nm, (arI G 401 f_nm)), (a_rc, (arI G 400 f_rc))] sz)) 0 0 (va_A [(a_r, (oc4 a_tk a_rh a_rs a_rc e_ln e_pa e_at e_fp)), (a_tk, (oc8 a_kd a_nm a_pl)), (a_kd, (arI G 401 f_kd)), (a_nm, (arI G 401 f_nm)), (a_rc, (arI G 400 f_rc))] sz)) (l : Launch) (G : g5_G) (a_r a_tk a_kd a_nm a_rc a_rh a_rs a_pl : Nat) (sz : Nat) (e_ln : Int32) (e_pa : Int32) (e_at : Int32) (e_fp : Int32) (f_kd : Nat → Int32) (f_nm : Nat → Int32) (f_rc : Nat → Int32) (h_e_ln : 0 ≤ e_ln.toInt ∧ e_ln.toInt ≤ 400) (h_e_pa : 0 ≤ e_pa.toInt ∧ e_pa.toInt ≤ 50) (h_e_at : 0 ≤ e_at.toInt ∧ e_at.toInt ≤ 401) (e_tk : TOKI f_kd f_nm) (e_cd : CDI f_rc e_ln.toInt) : Met l yX4_readTest (wsG yX4_readTest cX4_readTest 6 (some .boolean)) ({ frames := fr + f2 + 4, cells := 0, slots := 0, locals := lo + l2 + 96 }) (va_Pc [.ref a_r, .int p_d] (g5_P G [(a_r, (oc4 a_tk a_rh a_rs a_rc e_ln e_pa e_at e_fp)), (a_tk, (oc8 a_kd a_nm a_pl)), (a_kd, (arI G 401 f_kd)), (a_nm, (arI G 401 f_nm)), (a_rc, (arI G 400 f_rc))] sz)) (va_Qi (fun (r : Int32) (u : va_W) => (∃ (o_r : Int32) (o_ln : Int32) (o_pa : Int32) (o_at : Int32) (o_rc : Nat → Int32), (0 ≤ o_r.toInt ∧ o_r.toInt ≤ 1) ∧ (e_ln.toInt ≤ o_ln.toInt ∧ o_ln.toInt ≤ 400) ∧ (0 ≤ o_at.toInt ∧ o_at.toInt ≤ 401) ∧ (0 ≤ o_pa.toInt ∧ o_pa.toInt ≤ 50) ∧ (CDI o_rc o_ln.toInt) ∧ (OPK f_rc o_rc e_ln.toInt) ∧ (r = o_r) ∧ (u = [(a_r, (oc4 a_tk a_rh a_rs a_rc o_ln o_pa o_at e_fp)), (a_tk, (oc8 a_kd a_nm a_pl)), (a_kd, (arI G 401 f_kd)), (a_nm, (arI G 401 f_nm)), (a_rc, (arI G 400 o_rc))]))) (g5_B G (va_A [(a_r, (oc4 a_tk a_rh a_rs a_rc e_ln e_pa e_at e_fp)), (a_tk, (oc8 a_kd a_nm a_pl)), (a_kd, (arI G 401 f_kd)), (a_nm, (arI G 401 f_nm)), (a_rc, (arI G 400 f_rc))] sz)) (va_A [(a_r, (oc4 a_tk a_rh a_rs a_rc e_ln e_pa e_at e_fp)), (a_tk, (oc8 a_kd a_nm a_pl)), (a_kd, (arI G 401 f_kd)), (a_nm, (arI G 401 f_nm)), (a_rc, (arI G 400 f_rc))] sz)) 0 0 (va_A [(a_r, (oc4 a_tk a_rh a_rs a_rc e_ln e_pa e_at e_fp)), (a_tk, (oc8 a_kd a_nm a_pl)), (a_kd, (arI G 401 f_kd)), (a_nm, (arI G 401 f_nm)), (a_rc, (arI G 400 f_rc))] sz) := by
  refine Met.ofW (cc := cX4_readTest) (maxL := 6) (ret := (some .boolean)) (by decide) rfl ?_
  intro p e s m args below meth c s₁ B hml hv
  obtain ⟨rfl, hsz, hP, hK, hD0, hN, hT⟩ := hv
  have hx := B.exec
  have hb := B.bytes
  have hr := B.returns
  have hts : ∀ w ∈ tblG, w.before _ s = true := fun w h => atoms_spec (ws := (wsG yX4_readTest cX4_readTest 6 (some .boolean))) B.pre w (List.mem_cons_of_mem _ h)
  have hown : s.vm.findClass RX4 = some m.cls := findClass_of_methodNamed B.named
  have hlocks := B.notSynchronized
  subst hsz
  have hD := hD0.self (sz := s.heap.size)
  generalize hAe : va_A [(a_r, (oc4 a_tk a_rh a_rs a_rc e_ln e_pa e_at e_fp)), (a_tk, (oc8 a_kd a_nm a_pl)), (a_kd, (arI G 401 f_kd)), (a_nm, (arI G 401 f_nm)), (a_rc, (arI G 400 f_rc))] s.heap.size = A at hD hT ⊢
  have hA : ∀ q : Nat, s.heap.size ≤ q → A q := fun q h => by rw [← hAe]; exact Or.inr h
  have hS : va_S A s.heap s.heap [] := va_S.rf
  have hP : va_P G.1 vwCl [(a_r, (oc4 a_tk a_rh a_rs a_rc e_ln e_pa e_at e_fp)), (a_tk, (oc8 a_kd a_nm a_pl)), (a_kd, (arI G 401 f_kd)), (a_nm, (arI G 401 f_nm)), (a_rc, (arI G 400 f_rc))] s.heap := hP
  have hl := lv_entry ([.ref a_r, .int p_d]) (n := 6) (Nat.le_of_ble_eq_true rfl)
  rw [lg_entry_eq]
  generalize (lg_sl ([.ref a_r, .int p_d]) ++ List.replicate (6 - (lg_sl ([.ref a_r, .int p_d])).length) Slot.unset).toArray = ls at hl ⊢
  have hl : lv_has ls 6 [(0, .ref a_r), (1, .int p_d)] := hl
  refine lv_aload_n hx hb dX4_readTest_0 rfl (lv_at hl 0 rfl) ?_
  refine lv_iload_n hx hb dX4_readTest_1 rfl (lv_at hl 1 rfl) ?_
  obtain ⟨hPc, hDc, hFc⟩ := g5_sub3 (wc := [(a_r, (oc4 a_tk a_rh a_rs a_rc e_ln e_pa e_at e_fp)), (a_tk, (oc8 a_kd a_nm a_pl)), (a_kd, (arI G 401 f_kd)), (a_nm, (arI G 401 f_nm)), (a_rc, (arI G 400 f_rc))]) hP hD hS hA [0, 1, 2, 3, 4] (by decide) rfl
  refine va_calli (va_runV (As := [.int p_d]) (rest := []) ⟨hx, hb, hml, hown, hts⟩ ((r_plain fr lo f2 l2 p_d h_p_d h_sum h_test) l G a_r a_tk a_kd a_nm a_rc a_rh a_rs a_pl s.heap.size e_ln e_pa e_at e_fp f_kd f_nm f_rc h_e_ln h_e_pa h_e_at (e_tk) (e_cd)) (cwV 1 hts gV_X4_83 rfl rfl rfl hv_X4_readPlain ⟨by simp only [headSpec]; omega, by simp only [headSpec]; omega⟩) (g5_preV hPc hK hDc hN hT hS hFc (ci := 4) (q0 := 0) rfl rfl) rfl rfl hl.1 rfl (lv_room (Nat.le_of_ble_eq_true rfl)) dX4_readTest_2 ⟨Nat.le_of_ble_eq_true rfl, Nat.le_of_ble_eq_true rfl⟩) hS (fun q _ h => hFc q h) hFc (fun r u t H1 locs ht hvm hw hB hz1 hk1 hS => ?_)
  obtain ⟨hP1, hD1⟩ := hB
  rw [ht] at hP1
  obtain ⟨z7, z8, z9, z10, z11, i_1, i_2, i_3, i_4, i_5, i_6, y12, rfl⟩ := hw
  have i_1 : 0 ≤ z7.toInt ∧ z7.toInt ≤ 1 := i_1
  have i_2 : e_ln.toInt ≤ z8.toInt ∧ z8.toInt ≤ 400 := i_2
  have i_3 : 0 ≤ z10.toInt ∧ z10.toInt ≤ 401 := i_3
  have i_4 : 0 ≤ z9.toInt ∧ z9.toInt ≤ 50 := i_4
  have i_5 : CDI z11 z8.toInt := i_5
  have i_6 : OPK f_rc z11 e_ln.toInt := i_6
  obtain ⟨hP, hD⟩ := va_join (wr := []) hP hD [0, 1, 2, 3, 4] [] rfl rfl (by decide) (by decide) hk1 hFc hP1 hD1
  generalize H1 = H at hP hS ⊢
  refine g5_rs [(a_r, (oc4 a_tk a_rh a_rs a_rc z8 z9 z10 e_fp)), (a_tk, (oc8 a_kd a_nm a_pl)), (a_kd, (arI G 401 f_kd)), (a_nm, (arI G 401 f_nm)), (a_rc, (arI G 400 z11))] hP hD (fun hP hD => ?_)
  refine g5_ti (v := z7) y12 ?_
  refine lv_if_ne (tgt := 10) hx hb dX4_readTest_5 (by decide) (fun c_13 => ?_) (fun c_13 => ?_)
  ·
    have n_13 : gNe (z7.toInt) (0) := by have z := g5_ne (a := z7.toInt) (b := 0) (by rfl) (by decide) c_13; unfold gNe; omega
    have i_13 : z7.toInt ≥ 1 := by have z := g5_ne (a := z7.toInt) (b := 0) (by rfl) (by decide) c_13; omega
    refine lv_iconst (v := (-1)) hx hb dX4_readTest_10 (by decide) ?_
    refine lv_istore_n (lv' := [(2, .int (-1)), (0, .ref a_r), (1, .int p_d)]) hx hb dX4_readTest_11 rfl hl (by decide) rfl (fun ls hl => ?_)
    refine lv_iconst (v := 0) hx hb dX4_readTest_12 (by decide) ?_
    refine lv_istore_n (lv' := [(3, .int 0), (2, .int (-1)), (0, .ref a_r), (1, .int p_d)]) hx hb dX4_readTest_13 rfl hl (by decide) rfl (fun ls hl => ?_)
    refine g5_loop (α := (Int32) × (Int32) × (Int32) × (Int32) × (Int32) × (Nat → Int32)) (fun (q : (Int32) × (Int32) × (Int32) × (Int32) × (Int32) × (Nat → Int32)) (ls : Array Slot) (H : Heap) (locs : List Loc) => match q with | (k_w, k_i, k_ln, k_pa, k_at, k_rc) => lv_has ls 6 [(2, .int k_w), (3, .int k_i), (0, .ref a_r), (1, .int p_d)] ∧ va_P G.1 vwCl [(a_r, (oc4 a_tk a_rh a_rs a_rc k_ln k_pa k_at e_fp)), (a_tk, (oc8 a_kd a_nm a_pl)), (a_kd, (arI G 401 f_kd)), (a_nm, (arI G 401 f_nm)), (a_rc, (arI G 400 k_rc))] H ∧ va_D A [(a_r, (oc4 a_tk a_rh a_rs a_rc k_ln k_pa k_at e_fp)), (a_tk, (oc8 a_kd a_nm a_pl)), (a_kd, (arI G 401 f_kd)), (a_nm, (arI G 401 f_nm)), (a_rc, (arI G 400 k_rc))] ∧ va_S A s.heap H locs ∧ ((-1) ≤ k_w.toInt ∧ k_w.toInt ≤ 399) ∧ (0 ≤ k_i.toInt ∧ k_i.toInt ≤ 400) ∧ (0 ≤ k_ln.toInt ∧ k_ln.toInt ≤ 400) ∧ (0 ≤ k_pa.toInt ∧ k_pa.toInt ≤ 50) ∧ (0 ≤ k_at.toInt ∧ k_at.toInt ≤ 401) ∧ (e_ln.toInt ≤ k_ln.toInt) ∧ (CDI k_rc k_ln.toInt) ∧ (OPK f_rc k_rc e_ln.toInt) ∧ (JOK k_rc k_ln.toInt k_w)) (fun (q : (Int32) × (Int32) × (Int32) × (Int32) × (Int32) × (Nat → Int32)) => match q with | (k_w, k_i, k_ln, k_pa, k_at, k_rc) => Int.toNat (400 - k_i.toInt)) ((-1), 0, z8, z9, z10, z11) ⟨lv_sub hl [1, 0, 2, 3] rfl, hP, hD, hS, ⟨by decide, by decide⟩, ⟨by decide, by decide⟩, ⟨by omega, by omega⟩, i_4, i_3, by omega, i_5, i_6, jok_none⟩ ?_
    rintro ⟨k_w, k_i, k_ln, k_pa, k_at, k_rc⟩ ls H locs ⟨hl, hP, hD, hS, i_14, i_15, i_16, i_17, i_18, i_19, i_20, i_21, i_22⟩ ih_14_23
    have hl : lv_has ls 6 [(2, .int k_w), (3, .int k_i), (0, .ref a_r), (1, .int p_d)] := hl
    have i_14 : (-1) ≤ k_w.toInt ∧ k_w.toInt ≤ 399 := i_14
    have i_15 : 0 ≤ k_i.toInt ∧ k_i.toInt ≤ 400 := i_15
    have i_16 : 0 ≤ k_ln.toInt ∧ k_ln.toInt ≤ 400 := i_16
    have i_17 : 0 ≤ k_pa.toInt ∧ k_pa.toInt ≤ 50 := i_17
    have i_18 : 0 ≤ k_at.toInt ∧ k_at.toInt ≤ 401 := i_18
    have i_19 : e_ln.toInt ≤ k_ln.toInt := i_19
    have i_20 : CDI k_rc k_ln.toInt := i_20
    have i_21 : OPK f_rc k_rc e_ln.toInt := i_21
    have i_22 : JOK k_rc k_ln.toInt k_w := i_22
    refine g5_rs [(a_r, (oc4 a_tk a_rh a_rs a_rc k_ln k_pa k_at e_fp)), (a_tk, (oc8 a_kd a_nm a_pl)), (a_kd, (arI G 401 f_kd)), (a_nm, (arI G 401 f_nm)), (a_rc, (arI G 400 k_rc))] hP hD (fun hP hD => ?_)
    refine lv_iload_n hx hb dX4_readTest_14 rfl (lv_at hl 1 rfl) ?_
    refine lv_sipush (v := 400) hx hb dX4_readTest_15 (by decide) ?_
    refine lv_icmp_ge (tgt := 122) hx hb dX4_readTest_18 (by decide) (fun c_24 => ?_) (fun c_24 => ?_)
    ·
      have i_24 : k_i.toInt ≥ 400 := by have z := g5_ge (a := k_i.toInt) (b := 400) (by rfl) (by decide) c_24; omega
      refine lv_aload_n hx hb dX4_readTest_122 rfl (lv_at hl 2 rfl) ?_
      refine lv_iload_n hx hb dX4_readTest_123 rfl (lv_at hl 0 rfl) ?_
      obtain ⟨hPc, hDc, hFc⟩ := g5_sub3 (wc := [(a_r, (oc4 a_tk a_rh a_rs a_rc k_ln k_pa k_at e_fp)), (a_rc, (arI G 400 k_rc))]) hP hD hS hA [0, 4] (by decide) rfl
      refine va_callv (va_runV (As := [.int k_w]) (rest := []) ⟨hx, hb, hml, hown, hts⟩ (r_jump l G a_r a_rc a_tk a_rh a_rs H.size k_ln k_pa k_at e_fp k_w k_rc i_16 i_17 i_18 (i_20) (i_22)) (cwV 1 hts gV_X4_86 rfl rfl rfl hv_X4_jumpHere ⟨by simp only [headSpec]; omega, by simp only [headSpec]; omega⟩) (g5_preV hPc hK hDc hN hT hS hFc (ci := 4) (q0 := 0) rfl rfl) rfl rfl hl.1 rfl (lv_room (Nat.le_of_ble_eq_true rfl)) dX4_readTest_124 ⟨Nat.le_of_ble_eq_true rfl, Nat.le_of_ble_eq_true rfl⟩) hS (fun q _ h => hFc q h) hFc (fun u t H1 locs ht hvm hw hB hz1 hk1 hS => ?_)
      obtain ⟨hP1, hD1⟩ := hB
      rw [ht] at hP1
      obtain ⟨z27, i_25, i_26, rfl⟩ := hw
      have i_25 : CDI z27 k_ln.toInt := i_25
      have i_26 : OPK k_rc z27 k_ln.toInt := i_26
      obtain ⟨hP, hD⟩ := va_join (wr := [(a_tk, (oc8 a_kd a_nm a_pl)), (a_kd, (arI G 401 f_kd)), (a_nm, (arI G 401 f_nm))]) hP hD [0, 4] [1, 2, 3] rfl rfl (by decide) (by decide) hk1 hFc hP1 hD1
      generalize H1 = H at hP hS ⊢
      refine g5_rs [(a_tk, (oc8 a_kd a_nm a_pl)), (a_kd, (arI G 401 f_kd)), (a_nm, (arI G 401 f_nm)), (a_r, (oc4 a_tk a_rh a_rs a_rc k_ln k_pa k_at e_fp)), (a_rc, (arI G 400 z27))] hP hD (fun hP hD => ?_)
      refine lv_iconst (v := 1) hx hb dX4_readTest_127 (by decide) ?_
      exact W.zret (v := 1) hx hb hr rfl (fun t ht hW => ⟨⟨1, [(a_r, (oc4 a_tk a_rh a_rs a_rc k_ln k_pa k_at e_fp)), (a_tk, (oc8 a_kd a_nm a_pl)), (a_kd, (arI G 401 f_kd)), (a_nm, (arI G 401 f_nm)), (a_rc, (arI G 400 z27))], rfl, ⟨1, k_ln, k_pa, k_at, z27, ⟨by have zc_o_r : (1 : Int32).toInt = 1 := (by decide); omega, by have zc_o_r : (1 : Int32).toInt = 1 := (by decide); omega⟩, ⟨by omega, by omega⟩, i_18, i_17, i_25, opk_trans i_21 (i_26) (by omega), rfl, rfl⟩, by rw [ht]; exact hP.sub [3, 0, 1, 2, 4] rfl, hD.sub [3, 0, 1, 2, 4] (by decide) rfl⟩, hS.F ht⟩) hS.2.2 dX4_readTest_128
    ·
      have i_24 : k_i.toInt < 400 := by have z := g5_geN (a := k_i.toInt) (b := 400) (by rfl) (by decide) c_24; omega
      refine lv_aload_n hx hb dX4_readTest_21 rfl (lv_at hl 2 rfl) ?_
      refine lv_sipush (v := 261) hx hb dX4_readTest_22 (by decide) ?_
      obtain ⟨hPc, hDc, hFc⟩ := g5_sub3 (wc := [(a_r, (oc4 a_tk a_rh a_rs a_rc k_ln k_pa k_at e_fp)), (a_tk, (oc8 a_kd a_nm a_pl)), (a_kd, (arI G 401 f_kd))]) hP hD hS hA [0, 1, 2] (by decide) rfl
      refine va_calli (va_runV (As := [.int 261]) (rest := []) ⟨hx, hb, hml, hown, hts⟩ (r_isNext l G a_r a_tk a_kd a_rh a_rs a_rc a_nm a_pl H.size k_ln k_pa k_at e_fp 261 f_kd i_16 i_17 i_18) (cwV 1 hts gV_X4_49 rfl rfl rfl hv_X4_isNext ⟨by simp only [headSpec]; omega, by simp only [headSpec]; omega⟩) (g5_preV hPc hK hDc hN hT hS hFc (ci := 4) (q0 := 0) rfl rfl) rfl rfl hl.1 rfl (lv_room (Nat.le_of_ble_eq_true rfl)) dX4_readTest_25 ⟨Nat.le_of_ble_eq_true rfl, Nat.le_of_ble_eq_true rfl⟩) hS (fun q _ h => hFc q h) hFc (fun r u t H1 locs ht hvm hw hB hz1 hk1 hS => ?_)
      obtain ⟨hP1, hD1⟩ := hB
      rw [ht] at hP1
      rcases hw with ⟨i_28, i_29, rfl, rfl⟩ | ⟨rfl, rfl⟩
      ·
        have i_28 : k_at.toInt ≤ 400 := i_28
        have i_29 : f_kd k_at.toNatClampNeg = (261 : Int32) := i_29
        obtain ⟨hP, hD⟩ := va_join (wr := [(a_nm, (arI G 401 f_nm)), (a_rc, (arI G 400 k_rc))]) hP hD [0, 1, 2] [3, 4] rfl rfl (by decide) (by decide) hk1 hFc hP1 hD1
        generalize H1 = H at hP hS ⊢
        refine g5_rs [(a_nm, (arI G 401 f_nm)), (a_rc, (arI G 400 k_rc)), (a_r, (oc4 a_tk a_rh a_rs a_rc k_ln k_pa k_at e_fp)), (a_tk, (oc8 a_kd a_nm a_pl)), (a_kd, (arI G 401 f_kd))] hP hD (fun hP hD => ?_)
        refine lv_if_ne (tgt := 41) hx hb dX4_readTest_28 (by decide) (fun c_30 => ?_) (fun c_30 => ?_)
        ·
          refine lv_aload_n hx hb dX4_readTest_41 rfl (lv_at hl 2 rfl) ?_
          refine lv_sipush (v := 261) hx hb dX4_readTest_42 (by decide) ?_
          obtain ⟨hPc, hDc, hFc⟩ := g5_sub3 (wc := [(a_r, (oc4 a_tk a_rh a_rs a_rc k_ln k_pa k_at e_fp)), (a_tk, (oc8 a_kd a_nm a_pl)), (a_kd, (arI G 401 f_kd))]) hP hD hS hA [2, 3, 4] (by decide) rfl
          refine va_calli (va_runV (As := [.int 261]) (rest := []) ⟨hx, hb, hml, hown, hts⟩ (r_isNext l G a_r a_tk a_kd a_rh a_rs a_rc a_nm a_pl H.size k_ln k_pa k_at e_fp 261 f_kd i_16 i_17 i_18) (cwV 1 hts gV_X4_49 rfl rfl rfl hv_X4_isNext ⟨by simp only [headSpec]; omega, by simp only [headSpec]; omega⟩) (g5_preV hPc hK hDc hN hT hS hFc (ci := 4) (q0 := 0) rfl rfl) rfl rfl hl.1 rfl (lv_room (Nat.le_of_ble_eq_true rfl)) dX4_readTest_45 ⟨Nat.le_of_ble_eq_true rfl, Nat.le_of_ble_eq_true rfl⟩) hS (fun q _ h => hFc q h) hFc (fun r u t H1 locs ht hvm hw hB hz1 hk1 hS => ?_)
          obtain ⟨hP1, hD1⟩ := hB
          rw [ht] at hP1
          rcases hw with ⟨i_31, i_32, rfl, rfl⟩ | ⟨rfl, rfl⟩
          ·
            have i_31 : k_at.toInt ≤ 400 := i_31
            have i_32 : f_kd k_at.toNatClampNeg = (261 : Int32) := i_32
            obtain ⟨hP, hD⟩ := va_join (wr := [(a_nm, (arI G 401 f_nm)), (a_rc, (arI G 400 k_rc))]) hP hD [2, 3, 4] [0, 1] rfl rfl (by decide) (by decide) hk1 hFc hP1 hD1
            generalize H1 = H at hP hS ⊢
            refine g5_rs [(a_nm, (arI G 401 f_nm)), (a_rc, (arI G 400 k_rc)), (a_r, (oc4 a_tk a_rh a_rs a_rc k_ln k_pa k_at e_fp)), (a_tk, (oc8 a_kd a_nm a_pl)), (a_kd, (arI G 401 f_kd))] hP hD (fun hP hD => ?_)
            refine lv_istore (lv' := [(4, .int 1), (2, .int k_w), (3, .int k_i), (0, .ref a_r), (1, .int p_d)]) hx hb dX4_readTest_48 hl (by decide) rfl (fun ls hl => ?_)
            refine lv_aload_n hx hb dX4_readTest_50 rfl (lv_at hl 3 rfl) ?_
            refine lv_dup hx hb dX4_readTest_51 rfl ?_
            refine va_get (D := G.1) (ci := 4) (v := .int k_at) (C := RX4) (T := TX4) (N := 8) hx hb hts inG_X4 hown hK hP 2 rfl rfl 6 (by decide) (hts _ fl_X4_42) (fun _ h9 => h9) rfl dX4_readTest_52 ?_
            refine lv_iconst (v := 1) hx hb dX4_readTest_55 (by decide) ?_
            refine lv_iadd hx hb dX4_readTest_56 ?_
            have t_33 : (k_at + 1).toInt = k_at.toInt + 1 := g5_iadd (a := k_at.toInt) (b := 1) (by rfl) (by decide) (by omega) (by omega)
            refine va_put (D := G.1) (ci := 4) (v := .int (k_at + 1)) (ty := .int) (C := RX4) (T := TX4) (N := 8) hx hb hts inG_X4 tyX4 tyX4_ok nmX4 hown hK hP hD hS 2 rfl rfl 6 (by decide) (hts _ fl_X4_42) (fun _ h9 => h9) rfl (by decide +kernel) rfl rfl (Nat.le_of_ble_eq_true rfl) dX4_readTest_57 (fun H locs hP hD hS => ?_)
            refine g5_rs [(a_nm, (arI G 401 f_nm)), (a_rc, (arI G 400 k_rc)), (a_r, (oc4 a_tk a_rh a_rs a_rc k_ln k_pa (k_at + 1) e_fp)), (a_tk, (oc8 a_kd a_nm a_pl)), (a_kd, (arI G 401 f_kd))] hP hD (fun hP hD => ?_)
            refine lv_iload hx hb dX4_readTest_60 (lv_at hl 0 rfl) ?_
            refine lv_if_eq (tgt := 70) hx hb dX4_readTest_62 (by decide) (fun c_34 => ?_) (fun c_34 => ?_)
            ·
              exact absurd c_34 (by decide)
            ·
              refine lv_aload_n hx hb dX4_readTest_65 rfl (lv_at hl 3 rfl) ?_
              refine lv_iload_n hx hb dX4_readTest_66 rfl (lv_at hl 1 rfl) ?_
              obtain ⟨hPc, hDc, hFc⟩ := g5_sub3 (wc := [(a_r, (oc4 a_tk a_rh a_rs a_rc k_ln k_pa (k_at + 1) e_fp)), (a_rc, (arI G 400 k_rc))]) hP hD hS hA [2, 1] (by decide) rfl
              refine va_callv (va_runV (As := [.int k_w]) (rest := []) ⟨hx, hb, hml, hown, hts⟩ (r_jump l G a_r a_rc a_tk a_rh a_rs H.size k_ln k_pa (k_at + 1) e_fp k_w k_rc i_16 i_17 ⟨by omega, by omega⟩ (i_20) (i_22)) (cwV 1 hts gV_X4_86 rfl rfl rfl hv_X4_jumpHere ⟨by simp only [headSpec]; omega, by simp only [headSpec]; omega⟩) (g5_preV hPc hK hDc hN hT hS hFc (ci := 4) (q0 := 0) rfl rfl) rfl rfl hl.1 rfl (lv_room (Nat.le_of_ble_eq_true rfl)) dX4_readTest_67 ⟨Nat.le_of_ble_eq_true rfl, Nat.le_of_ble_eq_true rfl⟩) hS (fun q _ h => hFc q h) hFc (fun u t H1 locs ht hvm hw hB hz1 hk1 hS => ?_)
              obtain ⟨hP1, hD1⟩ := hB
              rw [ht] at hP1
              obtain ⟨z37, i_35, i_36, rfl⟩ := hw
              have i_35 : CDI z37 k_ln.toInt := i_35
              have i_36 : OPK k_rc z37 k_ln.toInt := i_36
              obtain ⟨hP, hD⟩ := va_join (wr := [(a_nm, (arI G 401 f_nm)), (a_tk, (oc8 a_kd a_nm a_pl)), (a_kd, (arI G 401 f_kd))]) hP hD [2, 1] [0, 3, 4] rfl rfl (by decide) (by decide) hk1 hFc hP1 hD1
              generalize H1 = H at hP hS ⊢
              refine g5_rs [(a_nm, (arI G 401 f_nm)), (a_tk, (oc8 a_kd a_nm a_pl)), (a_kd, (arI G 401 f_kd)), (a_r, (oc4 a_tk a_rh a_rs a_rc k_ln k_pa (k_at + 1) e_fp)), (a_rc, (arI G 400 z37))] hP hD (fun hP hD => ?_)
              refine lv_aload_n hx hb dX4_readTest_70 rfl (lv_at hl 3 rfl) ?_
              refine lv_iload hx hb dX4_readTest_71 (lv_at hl 0 rfl) ?_
              refine lv_if_eq (tgt := 81) hx hb dX4_readTest_73 (by decide) (fun c_38 => ?_) (fun c_38 => ?_)
              ·
                exact absurd c_38 (by decide)
              ·
                refine lv_bipush (v := 11) hx hb dX4_readTest_76 (by decide) ?_
                refine lv_goto (tgt := 83) hx hb dX4_readTest_78 (by decide) ?_
                refine lv_iconst (v := 0) hx hb dX4_readTest_83 (by decide) ?_
                obtain ⟨hPc, hDc, hFc⟩ := g5_sub3 (wc := [(a_r, (oc4 a_tk a_rh a_rs a_rc k_ln k_pa (k_at + 1) e_fp)), (a_rc, (arI G 400 z37))]) hP hD hS hA [3, 4] (by decide) rfl
                refine va_calli (va_runV (As := [.int 11, .int 0]) (rest := []) ⟨hx, hb, hml, hown, hts⟩ (r_emit l G a_r a_rc a_tk a_rh a_rs H.size k_ln k_pa (k_at + 1) e_fp 11 0 z37 i_16 i_17 ⟨by omega, by omega⟩ (i_35) (by unfold wOK; decide)) (cwV 2 hts gV_X4_79 rfl rfl rfl hv_X4_emit ⟨by simp only [headSpec]; omega, by simp only [headSpec]; omega⟩) (g5_preV hPc hK hDc hN hT hS hFc (ci := 4) (q0 := 0) rfl rfl) rfl rfl hl.1 rfl (lv_room (Nat.le_of_ble_eq_true rfl)) dX4_readTest_84 ⟨Nat.le_of_ble_eq_true rfl, Nat.le_of_ble_eq_true rfl⟩) hS (fun q _ h => hFc q h) hFc (fun r u t H1 locs ht hvm hw hB hz1 hk1 hS => ?_)
                obtain ⟨hP1, hD1⟩ := hB
                rw [ht] at hP1
                obtain ⟨z44, z45, z46, i_39, i_40, i_41, i_42, i_43, y47, rfl⟩ := hw
                have i_39 : -1 ≤ z44.toInt ∧ z44.toInt ≤ 399 := i_39
                have i_40 : k_ln.toInt ≤ z45.toInt ∧ z45.toInt ≤ 400 := i_40
                have i_41 : CDI z46 z45.toInt := i_41
                have i_42 : OPK z37 z46 k_ln.toInt := i_42
                have i_43 : 0 ≤ z44.toInt → z44.toInt < z45.toInt ∧ z46 z44.toNatClampNeg = (((11 : Int32) <<< (12 &&& 31)) ||| (0 : Int32)) := i_43
                obtain ⟨hP, hD⟩ := va_join (wr := [(a_nm, (arI G 401 f_nm)), (a_tk, (oc8 a_kd a_nm a_pl)), (a_kd, (arI G 401 f_kd))]) hP hD [3, 4] [0, 1, 2] rfl rfl (by decide) (by decide) hk1 hFc hP1 hD1
                generalize H1 = H at hP hS ⊢
                refine g5_rs [(a_nm, (arI G 401 f_nm)), (a_tk, (oc8 a_kd a_nm a_pl)), (a_kd, (arI G 401 f_kd)), (a_r, (oc4 a_tk a_rh a_rs a_rc z45 k_pa (k_at + 1) e_fp)), (a_rc, (arI G 400 z46))] hP hD (fun hP hD => ?_)
                refine g5_ti (v := z44) y47 ?_
                refine lv_istore (lv' := [(5, .int z44), (4, .int 1), (2, .int k_w), (3, .int k_i), (0, .ref a_r), (1, .int p_d)]) hx hb dX4_readTest_87 hl (by decide) rfl (fun ls hl => ?_)
                refine lv_aload_n hx hb dX4_readTest_89 rfl (lv_at hl 4 rfl) ?_
                refine lv_iload_n hx hb dX4_readTest_90 rfl (lv_at hl 5 rfl) ?_
                obtain ⟨hPc, hDc, hFc⟩ := g5_sub3 (wc := [(a_r, (oc4 a_tk a_rh a_rs a_rc z45 k_pa (k_at + 1) e_fp)), (a_tk, (oc8 a_kd a_nm a_pl)), (a_kd, (arI G 401 f_kd)), (a_nm, (arI G 401 f_nm)), (a_rc, (arI G 400 z46))]) hP hD hS hA [3, 1, 2, 0, 4] (by decide) rfl
                refine va_calli (va_runV (As := [.int p_d]) (rest := []) ⟨hx, hb, hml, hown, hts⟩ ((r_plain fr lo f2 l2 p_d h_p_d h_sum h_test) l G a_r a_tk a_kd a_nm a_rc a_rh a_rs a_pl H.size z45 k_pa (k_at + 1) e_fp f_kd f_nm z46 ⟨by omega, by omega⟩ i_17 ⟨by omega, by omega⟩ (e_tk) (i_41)) (cwV 1 hts gV_X4_83 rfl rfl rfl hv_X4_readPlain ⟨by simp only [headSpec]; omega, by simp only [headSpec]; omega⟩) (g5_preV hPc hK hDc hN hT hS hFc (ci := 4) (q0 := 0) rfl rfl) rfl rfl hl.1 rfl (lv_room (Nat.le_of_ble_eq_true rfl)) dX4_readTest_91 ⟨Nat.le_of_ble_eq_true rfl, Nat.le_of_ble_eq_true rfl⟩) hS (fun q _ h => hFc q h) hFc (fun r u t H1 locs ht hvm hw hB hz1 hk1 hS => ?_)
                obtain ⟨hP1, hD1⟩ := hB
                rw [ht] at hP1
                obtain ⟨z54, z55, z56, z57, z58, i_48, i_49, i_50, i_51, i_52, i_53, y59, rfl⟩ := hw
                have i_48 : 0 ≤ z54.toInt ∧ z54.toInt ≤ 1 := i_48
                have i_49 : z45.toInt ≤ z55.toInt ∧ z55.toInt ≤ 400 := i_49
                have i_50 : 0 ≤ z57.toInt ∧ z57.toInt ≤ 401 := i_50
                have i_51 : 0 ≤ z56.toInt ∧ z56.toInt ≤ 50 := i_51
                have i_52 : CDI z58 z55.toInt := i_52
                have i_53 : OPK z46 z58 z45.toInt := i_53
                obtain ⟨hP, hD⟩ := va_join (wr := []) hP hD [3, 1, 2, 0, 4] [] rfl rfl (by decide) (by decide) hk1 hFc hP1 hD1
                generalize H1 = H at hP hS ⊢
                refine g5_rs [(a_r, (oc4 a_tk a_rh a_rs a_rc z55 z56 z57 e_fp)), (a_tk, (oc8 a_kd a_nm a_pl)), (a_kd, (arI G 401 f_kd)), (a_nm, (arI G 401 f_nm)), (a_rc, (arI G 400 z58))] hP hD (fun hP hD => ?_)
                refine g5_ti (v := z54) y59 ?_
                refine lv_if_ne (tgt := 99) hx hb dX4_readTest_94 (by decide) (fun c_60 => ?_) (fun c_60 => ?_)
                ·
                  have n_60 : gNe (z54.toInt) (0) := by have z := g5_ne (a := z54.toInt) (b := 0) (by rfl) (by decide) c_60; unfold gNe; omega
                  have i_60 : z54.toInt ≥ 1 := by have z := g5_ne (a := z54.toInt) (b := 0) (by rfl) (by decide) c_60; omega
                  refine lv_iload hx hb dX4_readTest_99 (lv_at hl 1 rfl) ?_
                  refine lv_if_eq (tgt := 110) hx hb dX4_readTest_101 (by decide) (fun c_61 => ?_) (fun c_61 => ?_)
                  ·
                    exact absurd c_61 (by decide)
                  ·
                    refine lv_iload hx hb dX4_readTest_104 (lv_at hl 0 rfl) ?_
                    refine lv_istore_n (lv' := [(2, .int z44), (5, .int z44), (4, .int 1), (3, .int k_i), (0, .ref a_r), (1, .int p_d)]) hx hb dX4_readTest_106 rfl hl (by decide) rfl (fun ls hl => ?_)
                    refine lv_goto (tgt := 116) hx hb dX4_readTest_107 (by decide) ?_
                    refine lv_iinc (v := (k_i + 1)) (lv' := [(3, .int (k_i + 1)), (2, .int z44), (5, .int z44), (4, .int 1), (0, .ref a_r), (1, .int p_d)]) hx hb dX4_readTest_116 hl (k := 3) rfl rfl (by decide) rfl (fun ls hl => ?_)
                    have t_62 : (k_i + 1).toInt = k_i.toInt + 1 := g5_iadd (a := k_i.toInt) (b := 1) rfl (by decide) (by omega) (by omega)
                    refine lv_goto (tgt := 14) hx hb dX4_readTest_119 (by decide) ?_
                    exact ih_14_23 (z44, (k_i + 1), z55, z56, z57, z58) ls H locs (show Int.toNat (400 - (k_i + 1).toInt) < Int.toNat (400 - k_i.toInt) from g_up (show k_i.toInt < (k_i + 1).toInt by omega) (show k_i.toInt < 400 by omega)) ⟨lv_sub hl [1, 0, 4, 5] rfl, hP, hD, hS, ⟨by omega, by omega⟩, ⟨by omega, by omega⟩, ⟨by omega, by omega⟩, i_51, i_50, by omega, i_52, opk_trans i_21 (opk_trans i_36 (opk_trans i_42 (i_53) (by omega)) (by omega)) (by omega), jok_opk (jok_emit i_43 (by decide)) (i_53) (by omega)⟩
                ·
                  have i_60 : z54.toInt = 0 := by have z := g5_neN (a := z54.toInt) (b := 0) (by rfl) (by decide) c_60; omega
                  refine lv_iconst (v := 0) hx hb dX4_readTest_97 (by decide) ?_
                  exact W.zret (v := 0) hx hb hr rfl (fun t ht hW => ⟨⟨0, [(a_r, (oc4 a_tk a_rh a_rs a_rc z55 z56 z57 e_fp)), (a_tk, (oc8 a_kd a_nm a_pl)), (a_kd, (arI G 401 f_kd)), (a_nm, (arI G 401 f_nm)), (a_rc, (arI G 400 z58))], rfl, ⟨0, z55, z56, z57, z58, ⟨by have zc_o_r : (0 : Int32).toInt = 0 := (by decide); omega, by have zc_o_r : (0 : Int32).toInt = 0 := (by decide); omega⟩, ⟨by omega, by omega⟩, i_50, i_51, i_52, opk_trans i_21 (opk_trans i_36 (opk_trans i_42 (i_53) (by omega)) (by omega)) (by omega), rfl, rfl⟩, by rw [ht]; exact hP.sub [0, 1, 2, 3, 4] rfl, hD.sub [0, 1, 2, 3, 4] (by decide) rfl⟩, hS.F ht⟩) hS.2.2 dX4_readTest_98
          ·
            obtain ⟨hP, hD⟩ := va_join (wr := [(a_nm, (arI G 401 f_nm)), (a_rc, (arI G 400 k_rc))]) hP hD [2, 3, 4] [0, 1] rfl rfl (by decide) (by decide) hk1 hFc hP1 hD1
            generalize H1 = H at hP hS ⊢
            refine g5_rs [(a_nm, (arI G 401 f_nm)), (a_rc, (arI G 400 k_rc)), (a_r, (oc4 a_tk a_rh a_rs a_rc k_ln k_pa k_at e_fp)), (a_tk, (oc8 a_kd a_nm a_pl)), (a_kd, (arI G 401 f_kd))] hP hD (fun hP hD => ?_)
            refine lv_istore (lv' := [(4, .int 0), (2, .int k_w), (3, .int k_i), (0, .ref a_r), (1, .int p_d)]) hx hb dX4_readTest_48 hl (by decide) rfl (fun ls hl => ?_)
            refine lv_aload_n hx hb dX4_readTest_50 rfl (lv_at hl 3 rfl) ?_
            refine lv_dup hx hb dX4_readTest_51 rfl ?_
            refine va_get (D := G.1) (ci := 4) (v := .int k_at) (C := RX4) (T := TX4) (N := 8) hx hb hts inG_X4 hown hK hP 2 rfl rfl 6 (by decide) (hts _ fl_X4_42) (fun _ h9 => h9) rfl dX4_readTest_52 ?_
            refine lv_iconst (v := 1) hx hb dX4_readTest_55 (by decide) ?_
            refine lv_iadd hx hb dX4_readTest_56 ?_
            have t_63 : (k_at + 1).toInt = k_at.toInt + 1 := g5_iadd (a := k_at.toInt) (b := 1) (by rfl) (by decide) (by omega) (by omega)
            refine va_put (D := G.1) (ci := 4) (v := .int (k_at + 1)) (ty := .int) (C := RX4) (T := TX4) (N := 8) hx hb hts inG_X4 tyX4 tyX4_ok nmX4 hown hK hP hD hS 2 rfl rfl 6 (by decide) (hts _ fl_X4_42) (fun _ h9 => h9) rfl (by decide +kernel) rfl rfl (Nat.le_of_ble_eq_true rfl) dX4_readTest_57 (fun H locs hP hD hS => ?_)
            refine g5_rs [(a_nm, (arI G 401 f_nm)), (a_rc, (arI G 400 k_rc)), (a_r, (oc4 a_tk a_rh a_rs a_rc k_ln k_pa (k_at + 1) e_fp)), (a_tk, (oc8 a_kd a_nm a_pl)), (a_kd, (arI G 401 f_kd))] hP hD (fun hP hD => ?_)
            refine lv_iload hx hb dX4_readTest_60 (lv_at hl 0 rfl) ?_
            refine lv_if_eq (tgt := 70) hx hb dX4_readTest_62 (by decide) (fun c_64 => ?_) (fun c_64 => ?_)
            ·
              refine lv_aload_n hx hb dX4_readTest_70 rfl (lv_at hl 3 rfl) ?_
              refine lv_iload hx hb dX4_readTest_71 (lv_at hl 0 rfl) ?_
              refine lv_if_eq (tgt := 81) hx hb dX4_readTest_73 (by decide) (fun c_65 => ?_) (fun c_65 => ?_)
              ·
                refine lv_bipush (v := 12) hx hb dX4_readTest_81 (by decide) ?_
                refine lv_iconst (v := 0) hx hb dX4_readTest_83 (by decide) ?_
                obtain ⟨hPc, hDc, hFc⟩ := g5_sub3 (wc := [(a_r, (oc4 a_tk a_rh a_rs a_rc k_ln k_pa (k_at + 1) e_fp)), (a_rc, (arI G 400 k_rc))]) hP hD hS hA [2, 1] (by decide) rfl
                refine va_calli (va_runV (As := [.int 12, .int 0]) (rest := []) ⟨hx, hb, hml, hown, hts⟩ (r_emit l G a_r a_rc a_tk a_rh a_rs H.size k_ln k_pa (k_at + 1) e_fp 12 0 k_rc i_16 i_17 ⟨by omega, by omega⟩ (i_20) (by unfold wOK; decide)) (cwV 2 hts gV_X4_79 rfl rfl rfl hv_X4_emit ⟨by simp only [headSpec]; omega, by simp only [headSpec]; omega⟩) (g5_preV hPc hK hDc hN hT hS hFc (ci := 4) (q0 := 0) rfl rfl) rfl rfl hl.1 rfl (lv_room (Nat.le_of_ble_eq_true rfl)) dX4_readTest_84 ⟨Nat.le_of_ble_eq_true rfl, Nat.le_of_ble_eq_true rfl⟩) hS (fun q _ h => hFc q h) hFc (fun r u t H1 locs ht hvm hw hB hz1 hk1 hS => ?_)
                obtain ⟨hP1, hD1⟩ := hB
                rw [ht] at hP1
                obtain ⟨z71, z72, z73, i_66, i_67, i_68, i_69, i_70, y74, rfl⟩ := hw
                have i_66 : -1 ≤ z71.toInt ∧ z71.toInt ≤ 399 := i_66
                have i_67 : k_ln.toInt ≤ z72.toInt ∧ z72.toInt ≤ 400 := i_67
                have i_68 : CDI z73 z72.toInt := i_68
                have i_69 : OPK k_rc z73 k_ln.toInt := i_69
                have i_70 : 0 ≤ z71.toInt → z71.toInt < z72.toInt ∧ z73 z71.toNatClampNeg = (((12 : Int32) <<< (12 &&& 31)) ||| (0 : Int32)) := i_70
                obtain ⟨hP, hD⟩ := va_join (wr := [(a_nm, (arI G 401 f_nm)), (a_tk, (oc8 a_kd a_nm a_pl)), (a_kd, (arI G 401 f_kd))]) hP hD [2, 1] [0, 3, 4] rfl rfl (by decide) (by decide) hk1 hFc hP1 hD1
                generalize H1 = H at hP hS ⊢
                refine g5_rs [(a_nm, (arI G 401 f_nm)), (a_tk, (oc8 a_kd a_nm a_pl)), (a_kd, (arI G 401 f_kd)), (a_r, (oc4 a_tk a_rh a_rs a_rc z72 k_pa (k_at + 1) e_fp)), (a_rc, (arI G 400 z73))] hP hD (fun hP hD => ?_)
                refine g5_ti (v := z71) y74 ?_
                refine lv_istore (lv' := [(5, .int z71), (4, .int 0), (2, .int k_w), (3, .int k_i), (0, .ref a_r), (1, .int p_d)]) hx hb dX4_readTest_87 hl (by decide) rfl (fun ls hl => ?_)
                refine lv_aload_n hx hb dX4_readTest_89 rfl (lv_at hl 4 rfl) ?_
                refine lv_iload_n hx hb dX4_readTest_90 rfl (lv_at hl 5 rfl) ?_
                obtain ⟨hPc, hDc, hFc⟩ := g5_sub3 (wc := [(a_r, (oc4 a_tk a_rh a_rs a_rc z72 k_pa (k_at + 1) e_fp)), (a_tk, (oc8 a_kd a_nm a_pl)), (a_kd, (arI G 401 f_kd)), (a_nm, (arI G 401 f_nm)), (a_rc, (arI G 400 z73))]) hP hD hS hA [3, 1, 2, 0, 4] (by decide) rfl
                refine va_calli (va_runV (As := [.int p_d]) (rest := []) ⟨hx, hb, hml, hown, hts⟩ ((r_plain fr lo f2 l2 p_d h_p_d h_sum h_test) l G a_r a_tk a_kd a_nm a_rc a_rh a_rs a_pl H.size z72 k_pa (k_at + 1) e_fp f_kd f_nm z73 ⟨by omega, by omega⟩ i_17 ⟨by omega, by omega⟩ (e_tk) (i_68)) (cwV 1 hts gV_X4_83 rfl rfl rfl hv_X4_readPlain ⟨by simp only [headSpec]; omega, by simp only [headSpec]; omega⟩) (g5_preV hPc hK hDc hN hT hS hFc (ci := 4) (q0 := 0) rfl rfl) rfl rfl hl.1 rfl (lv_room (Nat.le_of_ble_eq_true rfl)) dX4_readTest_91 ⟨Nat.le_of_ble_eq_true rfl, Nat.le_of_ble_eq_true rfl⟩) hS (fun q _ h => hFc q h) hFc (fun r u t H1 locs ht hvm hw hB hz1 hk1 hS => ?_)
                obtain ⟨hP1, hD1⟩ := hB
                rw [ht] at hP1
                obtain ⟨z81, z82, z83, z84, z85, i_75, i_76, i_77, i_78, i_79, i_80, y86, rfl⟩ := hw
                have i_75 : 0 ≤ z81.toInt ∧ z81.toInt ≤ 1 := i_75
                have i_76 : z72.toInt ≤ z82.toInt ∧ z82.toInt ≤ 400 := i_76
                have i_77 : 0 ≤ z84.toInt ∧ z84.toInt ≤ 401 := i_77
                have i_78 : 0 ≤ z83.toInt ∧ z83.toInt ≤ 50 := i_78
                have i_79 : CDI z85 z82.toInt := i_79
                have i_80 : OPK z73 z85 z72.toInt := i_80
                obtain ⟨hP, hD⟩ := va_join (wr := []) hP hD [3, 1, 2, 0, 4] [] rfl rfl (by decide) (by decide) hk1 hFc hP1 hD1
                generalize H1 = H at hP hS ⊢
                refine g5_rs [(a_r, (oc4 a_tk a_rh a_rs a_rc z82 z83 z84 e_fp)), (a_tk, (oc8 a_kd a_nm a_pl)), (a_kd, (arI G 401 f_kd)), (a_nm, (arI G 401 f_nm)), (a_rc, (arI G 400 z85))] hP hD (fun hP hD => ?_)
                refine g5_ti (v := z81) y86 ?_
                refine lv_if_ne (tgt := 99) hx hb dX4_readTest_94 (by decide) (fun c_87 => ?_) (fun c_87 => ?_)
                ·
                  have n_87 : gNe (z81.toInt) (0) := by have z := g5_ne (a := z81.toInt) (b := 0) (by rfl) (by decide) c_87; unfold gNe; omega
                  have i_87 : z81.toInt ≥ 1 := by have z := g5_ne (a := z81.toInt) (b := 0) (by rfl) (by decide) c_87; omega
                  refine lv_iload hx hb dX4_readTest_99 (lv_at hl 1 rfl) ?_
                  refine lv_if_eq (tgt := 110) hx hb dX4_readTest_101 (by decide) (fun c_88 => ?_) (fun c_88 => ?_)
                  ·
                    refine lv_aload_n hx hb dX4_readTest_110 rfl (lv_at hl 4 rfl) ?_
                    refine lv_iload hx hb dX4_readTest_111 (lv_at hl 0 rfl) ?_
                    obtain ⟨hPc, hDc, hFc⟩ := g5_sub3 (wc := [(a_r, (oc4 a_tk a_rh a_rs a_rc z82 z83 z84 e_fp)), (a_rc, (arI G 400 z85))]) hP hD hS hA [0, 4] (by decide) rfl
                    refine va_callv (va_runV (As := [.int z71]) (rest := []) ⟨hx, hb, hml, hown, hts⟩ (r_jump l G a_r a_rc a_tk a_rh a_rs H.size z82 z83 z84 e_fp z71 z85 ⟨by omega, by omega⟩ i_78 i_77 (i_79) (jok_opk (jok_emit i_70 (by decide)) (i_80) (by omega))) (cwV 1 hts gV_X4_86 rfl rfl rfl hv_X4_jumpHere ⟨by simp only [headSpec]; omega, by simp only [headSpec]; omega⟩) (g5_preV hPc hK hDc hN hT hS hFc (ci := 4) (q0 := 0) rfl rfl) rfl rfl hl.1 rfl (lv_room (Nat.le_of_ble_eq_true rfl)) dX4_readTest_113 ⟨Nat.le_of_ble_eq_true rfl, Nat.le_of_ble_eq_true rfl⟩) hS (fun q _ h => hFc q h) hFc (fun u t H1 locs ht hvm hw hB hz1 hk1 hS => ?_)
                    obtain ⟨hP1, hD1⟩ := hB
                    rw [ht] at hP1
                    obtain ⟨z91, i_89, i_90, rfl⟩ := hw
                    have i_89 : CDI z91 z82.toInt := i_89
                    have i_90 : OPK z85 z91 z82.toInt := i_90
                    obtain ⟨hP, hD⟩ := va_join (wr := [(a_tk, (oc8 a_kd a_nm a_pl)), (a_kd, (arI G 401 f_kd)), (a_nm, (arI G 401 f_nm))]) hP hD [0, 4] [1, 2, 3] rfl rfl (by decide) (by decide) hk1 hFc hP1 hD1
                    generalize H1 = H at hP hS ⊢
                    refine g5_rs [(a_tk, (oc8 a_kd a_nm a_pl)), (a_kd, (arI G 401 f_kd)), (a_nm, (arI G 401 f_nm)), (a_r, (oc4 a_tk a_rh a_rs a_rc z82 z83 z84 e_fp)), (a_rc, (arI G 400 z91))] hP hD (fun hP hD => ?_)
                    refine lv_iinc (v := (k_i + 1)) (lv' := [(3, .int (k_i + 1)), (5, .int z71), (4, .int 0), (2, .int k_w), (0, .ref a_r), (1, .int p_d)]) hx hb dX4_readTest_116 hl (k := 3) rfl rfl (by decide) rfl (fun ls hl => ?_)
                    have t_92 : (k_i + 1).toInt = k_i.toInt + 1 := g5_iadd (a := k_i.toInt) (b := 1) rfl (by decide) (by omega) (by omega)
                    refine lv_goto (tgt := 14) hx hb dX4_readTest_119 (by decide) ?_
                    exact ih_14_23 (k_w, (k_i + 1), z82, z83, z84, z91) ls H locs (show Int.toNat (400 - (k_i + 1).toInt) < Int.toNat (400 - k_i.toInt) from g_up (show k_i.toInt < (k_i + 1).toInt by omega) (show k_i.toInt < 400 by omega)) ⟨lv_sub hl [3, 0, 4, 5] rfl, hP.sub [3, 0, 1, 2, 4] rfl, hD.sub [3, 0, 1, 2, 4] (by decide) rfl, hS, i_14, ⟨by omega, by omega⟩, ⟨by omega, by omega⟩, i_78, i_77, by omega, i_89, opk_trans i_21 (opk_trans i_69 (opk_trans i_80 (i_90) (by omega)) (by omega)) (by omega), jok_opk i_22 (opk_trans i_69 (opk_trans i_80 (i_90) (by omega)) (by omega)) (by omega)⟩
                  ·
                    exact absurd c_88 (by decide)
                ·
                  have i_87 : z81.toInt = 0 := by have z := g5_neN (a := z81.toInt) (b := 0) (by rfl) (by decide) c_87; omega
                  refine lv_iconst (v := 0) hx hb dX4_readTest_97 (by decide) ?_
                  exact W.zret (v := 0) hx hb hr rfl (fun t ht hW => ⟨⟨0, [(a_r, (oc4 a_tk a_rh a_rs a_rc z82 z83 z84 e_fp)), (a_tk, (oc8 a_kd a_nm a_pl)), (a_kd, (arI G 401 f_kd)), (a_nm, (arI G 401 f_nm)), (a_rc, (arI G 400 z85))], rfl, ⟨0, z82, z83, z84, z85, ⟨by have zc_o_r : (0 : Int32).toInt = 0 := (by decide); omega, by have zc_o_r : (0 : Int32).toInt = 0 := (by decide); omega⟩, ⟨by omega, by omega⟩, i_77, i_78, i_79, opk_trans i_21 (opk_trans i_69 (i_80) (by omega)) (by omega), rfl, rfl⟩, by rw [ht]; exact hP.sub [0, 1, 2, 3, 4] rfl, hD.sub [0, 1, 2, 3, 4] (by decide) rfl⟩, hS.F ht⟩) hS.2.2 dX4_readTest_98
              ·
                exact absurd c_65 (by decide)
            ·
              exact absurd c_64 (by decide)
        ·
          exact absurd c_30 (by decide)
      ·
        obtain ⟨hP, hD⟩ := va_join (wr := [(a_nm, (arI G 401 f_nm)), (a_rc, (arI G 400 k_rc))]) hP hD [0, 1, 2] [3, 4] rfl rfl (by decide) (by decide) hk1 hFc hP1 hD1
        generalize H1 = H at hP hS ⊢
        refine g5_rs [(a_nm, (arI G 401 f_nm)), (a_rc, (arI G 400 k_rc)), (a_r, (oc4 a_tk a_rh a_rs a_rc k_ln k_pa k_at e_fp)), (a_tk, (oc8 a_kd a_nm a_pl)), (a_kd, (arI G 401 f_kd))] hP hD (fun hP hD => ?_)
        refine lv_if_ne (tgt := 41) hx hb dX4_readTest_28 (by decide) (fun c_93 => ?_) (fun c_93 => ?_)
        ·
          exact absurd c_93 (by decide)
        ·
          refine lv_aload_n hx hb dX4_readTest_31 rfl (lv_at hl 2 rfl) ?_
          refine lv_sipush (v := 262) hx hb dX4_readTest_32 (by decide) ?_
          obtain ⟨hPc, hDc, hFc⟩ := g5_sub3 (wc := [(a_r, (oc4 a_tk a_rh a_rs a_rc k_ln k_pa k_at e_fp)), (a_tk, (oc8 a_kd a_nm a_pl)), (a_kd, (arI G 401 f_kd))]) hP hD hS hA [2, 3, 4] (by decide) rfl
          refine va_calli (va_runV (As := [.int 262]) (rest := []) ⟨hx, hb, hml, hown, hts⟩ (r_isNext l G a_r a_tk a_kd a_rh a_rs a_rc a_nm a_pl H.size k_ln k_pa k_at e_fp 262 f_kd i_16 i_17 i_18) (cwV 1 hts gV_X4_49 rfl rfl rfl hv_X4_isNext ⟨by simp only [headSpec]; omega, by simp only [headSpec]; omega⟩) (g5_preV hPc hK hDc hN hT hS hFc (ci := 4) (q0 := 0) rfl rfl) rfl rfl hl.1 rfl (lv_room (Nat.le_of_ble_eq_true rfl)) dX4_readTest_35 ⟨Nat.le_of_ble_eq_true rfl, Nat.le_of_ble_eq_true rfl⟩) hS (fun q _ h => hFc q h) hFc (fun r u t H1 locs ht hvm hw hB hz1 hk1 hS => ?_)
          obtain ⟨hP1, hD1⟩ := hB
          rw [ht] at hP1
          rcases hw with ⟨i_94, i_95, rfl, rfl⟩ | ⟨rfl, rfl⟩
          ·
            have i_94 : k_at.toInt ≤ 400 := i_94
            have i_95 : f_kd k_at.toNatClampNeg = (262 : Int32) := i_95
            obtain ⟨hP, hD⟩ := va_join (wr := [(a_nm, (arI G 401 f_nm)), (a_rc, (arI G 400 k_rc))]) hP hD [2, 3, 4] [0, 1] rfl rfl (by decide) (by decide) hk1 hFc hP1 hD1
            generalize H1 = H at hP hS ⊢
            refine g5_rs [(a_nm, (arI G 401 f_nm)), (a_rc, (arI G 400 k_rc)), (a_r, (oc4 a_tk a_rh a_rs a_rc k_ln k_pa k_at e_fp)), (a_tk, (oc8 a_kd a_nm a_pl)), (a_kd, (arI G 401 f_kd))] hP hD (fun hP hD => ?_)
            refine lv_if_eq (tgt := 122) hx hb dX4_readTest_38 (by decide) (fun c_96 => ?_) (fun c_96 => ?_)
            ·
              exact absurd c_96 (by decide)
            ·
              refine lv_aload_n hx hb dX4_readTest_41 rfl (lv_at hl 2 rfl) ?_
              refine lv_sipush (v := 261) hx hb dX4_readTest_42 (by decide) ?_
              obtain ⟨hPc, hDc, hFc⟩ := g5_sub3 (wc := [(a_r, (oc4 a_tk a_rh a_rs a_rc k_ln k_pa k_at e_fp)), (a_tk, (oc8 a_kd a_nm a_pl)), (a_kd, (arI G 401 f_kd))]) hP hD hS hA [2, 3, 4] (by decide) rfl
              refine va_calli (va_runV (As := [.int 261]) (rest := []) ⟨hx, hb, hml, hown, hts⟩ (r_isNext l G a_r a_tk a_kd a_rh a_rs a_rc a_nm a_pl H.size k_ln k_pa k_at e_fp 261 f_kd i_16 i_17 i_18) (cwV 1 hts gV_X4_49 rfl rfl rfl hv_X4_isNext ⟨by simp only [headSpec]; omega, by simp only [headSpec]; omega⟩) (g5_preV hPc hK hDc hN hT hS hFc (ci := 4) (q0 := 0) rfl rfl) rfl rfl hl.1 rfl (lv_room (Nat.le_of_ble_eq_true rfl)) dX4_readTest_45 ⟨Nat.le_of_ble_eq_true rfl, Nat.le_of_ble_eq_true rfl⟩) hS (fun q _ h => hFc q h) hFc (fun r u t H1 locs ht hvm hw hB hz1 hk1 hS => ?_)
              obtain ⟨hP1, hD1⟩ := hB
              rw [ht] at hP1
              rcases hw with ⟨i_97, i_98, rfl, rfl⟩ | ⟨rfl, rfl⟩
              ·
                have i_97 : k_at.toInt ≤ 400 := i_97
                have i_98 : f_kd k_at.toNatClampNeg = (261 : Int32) := i_98
                obtain ⟨hP, hD⟩ := va_join (wr := [(a_nm, (arI G 401 f_nm)), (a_rc, (arI G 400 k_rc))]) hP hD [2, 3, 4] [0, 1] rfl rfl (by decide) (by decide) hk1 hFc hP1 hD1
                generalize H1 = H at hP hS ⊢
                refine g5_rs [(a_nm, (arI G 401 f_nm)), (a_rc, (arI G 400 k_rc)), (a_r, (oc4 a_tk a_rh a_rs a_rc k_ln k_pa k_at e_fp)), (a_tk, (oc8 a_kd a_nm a_pl)), (a_kd, (arI G 401 f_kd))] hP hD (fun hP hD => ?_)
                refine lv_istore (lv' := [(4, .int 1), (2, .int k_w), (3, .int k_i), (0, .ref a_r), (1, .int p_d)]) hx hb dX4_readTest_48 hl (by decide) rfl (fun ls hl => ?_)
                refine lv_aload_n hx hb dX4_readTest_50 rfl (lv_at hl 3 rfl) ?_
                refine lv_dup hx hb dX4_readTest_51 rfl ?_
                refine va_get (D := G.1) (ci := 4) (v := .int k_at) (C := RX4) (T := TX4) (N := 8) hx hb hts inG_X4 hown hK hP 2 rfl rfl 6 (by decide) (hts _ fl_X4_42) (fun _ h9 => h9) rfl dX4_readTest_52 ?_
                refine lv_iconst (v := 1) hx hb dX4_readTest_55 (by decide) ?_
                refine lv_iadd hx hb dX4_readTest_56 ?_
                have t_99 : (k_at + 1).toInt = k_at.toInt + 1 := g5_iadd (a := k_at.toInt) (b := 1) (by rfl) (by decide) (by omega) (by omega)
                refine va_put (D := G.1) (ci := 4) (v := .int (k_at + 1)) (ty := .int) (C := RX4) (T := TX4) (N := 8) hx hb hts inG_X4 tyX4 tyX4_ok nmX4 hown hK hP hD hS 2 rfl rfl 6 (by decide) (hts _ fl_X4_42) (fun _ h9 => h9) rfl (by decide +kernel) rfl rfl (Nat.le_of_ble_eq_true rfl) dX4_readTest_57 (fun H locs hP hD hS => ?_)
                refine g5_rs [(a_nm, (arI G 401 f_nm)), (a_rc, (arI G 400 k_rc)), (a_r, (oc4 a_tk a_rh a_rs a_rc k_ln k_pa (k_at + 1) e_fp)), (a_tk, (oc8 a_kd a_nm a_pl)), (a_kd, (arI G 401 f_kd))] hP hD (fun hP hD => ?_)
                refine lv_iload hx hb dX4_readTest_60 (lv_at hl 0 rfl) ?_
                refine lv_if_eq (tgt := 70) hx hb dX4_readTest_62 (by decide) (fun c_100 => ?_) (fun c_100 => ?_)
                ·
                  exact absurd c_100 (by decide)
                ·
                  refine lv_aload_n hx hb dX4_readTest_65 rfl (lv_at hl 3 rfl) ?_
                  refine lv_iload_n hx hb dX4_readTest_66 rfl (lv_at hl 1 rfl) ?_
                  obtain ⟨hPc, hDc, hFc⟩ := g5_sub3 (wc := [(a_r, (oc4 a_tk a_rh a_rs a_rc k_ln k_pa (k_at + 1) e_fp)), (a_rc, (arI G 400 k_rc))]) hP hD hS hA [2, 1] (by decide) rfl
                  refine va_callv (va_runV (As := [.int k_w]) (rest := []) ⟨hx, hb, hml, hown, hts⟩ (r_jump l G a_r a_rc a_tk a_rh a_rs H.size k_ln k_pa (k_at + 1) e_fp k_w k_rc i_16 i_17 ⟨by omega, by omega⟩ (i_20) (i_22)) (cwV 1 hts gV_X4_86 rfl rfl rfl hv_X4_jumpHere ⟨by simp only [headSpec]; omega, by simp only [headSpec]; omega⟩) (g5_preV hPc hK hDc hN hT hS hFc (ci := 4) (q0 := 0) rfl rfl) rfl rfl hl.1 rfl (lv_room (Nat.le_of_ble_eq_true rfl)) dX4_readTest_67 ⟨Nat.le_of_ble_eq_true rfl, Nat.le_of_ble_eq_true rfl⟩) hS (fun q _ h => hFc q h) hFc (fun u t H1 locs ht hvm hw hB hz1 hk1 hS => ?_)
                  obtain ⟨hP1, hD1⟩ := hB
                  rw [ht] at hP1
                  obtain ⟨z103, i_101, i_102, rfl⟩ := hw
                  have i_101 : CDI z103 k_ln.toInt := i_101
                  have i_102 : OPK k_rc z103 k_ln.toInt := i_102
                  obtain ⟨hP, hD⟩ := va_join (wr := [(a_nm, (arI G 401 f_nm)), (a_tk, (oc8 a_kd a_nm a_pl)), (a_kd, (arI G 401 f_kd))]) hP hD [2, 1] [0, 3, 4] rfl rfl (by decide) (by decide) hk1 hFc hP1 hD1
                  generalize H1 = H at hP hS ⊢
                  refine g5_rs [(a_nm, (arI G 401 f_nm)), (a_tk, (oc8 a_kd a_nm a_pl)), (a_kd, (arI G 401 f_kd)), (a_r, (oc4 a_tk a_rh a_rs a_rc k_ln k_pa (k_at + 1) e_fp)), (a_rc, (arI G 400 z103))] hP hD (fun hP hD => ?_)
                  refine lv_aload_n hx hb dX4_readTest_70 rfl (lv_at hl 3 rfl) ?_
                  refine lv_iload hx hb dX4_readTest_71 (lv_at hl 0 rfl) ?_
                  refine lv_if_eq (tgt := 81) hx hb dX4_readTest_73 (by decide) (fun c_104 => ?_) (fun c_104 => ?_)
                  ·
                    exact absurd c_104 (by decide)
                  ·
                    refine lv_bipush (v := 11) hx hb dX4_readTest_76 (by decide) ?_
                    refine lv_goto (tgt := 83) hx hb dX4_readTest_78 (by decide) ?_
                    refine lv_iconst (v := 0) hx hb dX4_readTest_83 (by decide) ?_
                    obtain ⟨hPc, hDc, hFc⟩ := g5_sub3 (wc := [(a_r, (oc4 a_tk a_rh a_rs a_rc k_ln k_pa (k_at + 1) e_fp)), (a_rc, (arI G 400 z103))]) hP hD hS hA [3, 4] (by decide) rfl
                    refine va_calli (va_runV (As := [.int 11, .int 0]) (rest := []) ⟨hx, hb, hml, hown, hts⟩ (r_emit l G a_r a_rc a_tk a_rh a_rs H.size k_ln k_pa (k_at + 1) e_fp 11 0 z103 i_16 i_17 ⟨by omega, by omega⟩ (i_101) (by unfold wOK; decide)) (cwV 2 hts gV_X4_79 rfl rfl rfl hv_X4_emit ⟨by simp only [headSpec]; omega, by simp only [headSpec]; omega⟩) (g5_preV hPc hK hDc hN hT hS hFc (ci := 4) (q0 := 0) rfl rfl) rfl rfl hl.1 rfl (lv_room (Nat.le_of_ble_eq_true rfl)) dX4_readTest_84 ⟨Nat.le_of_ble_eq_true rfl, Nat.le_of_ble_eq_true rfl⟩) hS (fun q _ h => hFc q h) hFc (fun r u t H1 locs ht hvm hw hB hz1 hk1 hS => ?_)
                    obtain ⟨hP1, hD1⟩ := hB
                    rw [ht] at hP1
                    obtain ⟨z110, z111, z112, i_105, i_106, i_107, i_108, i_109, y113, rfl⟩ := hw
                    have i_105 : -1 ≤ z110.toInt ∧ z110.toInt ≤ 399 := i_105
                    have i_106 : k_ln.toInt ≤ z111.toInt ∧ z111.toInt ≤ 400 := i_106
                    have i_107 : CDI z112 z111.toInt := i_107
                    have i_108 : OPK z103 z112 k_ln.toInt := i_108
                    have i_109 : 0 ≤ z110.toInt → z110.toInt < z111.toInt ∧ z112 z110.toNatClampNeg = (((11 : Int32) <<< (12 &&& 31)) ||| (0 : Int32)) := i_109
                    obtain ⟨hP, hD⟩ := va_join (wr := [(a_nm, (arI G 401 f_nm)), (a_tk, (oc8 a_kd a_nm a_pl)), (a_kd, (arI G 401 f_kd))]) hP hD [3, 4] [0, 1, 2] rfl rfl (by decide) (by decide) hk1 hFc hP1 hD1
                    generalize H1 = H at hP hS ⊢
                    refine g5_rs [(a_nm, (arI G 401 f_nm)), (a_tk, (oc8 a_kd a_nm a_pl)), (a_kd, (arI G 401 f_kd)), (a_r, (oc4 a_tk a_rh a_rs a_rc z111 k_pa (k_at + 1) e_fp)), (a_rc, (arI G 400 z112))] hP hD (fun hP hD => ?_)
                    refine g5_ti (v := z110) y113 ?_
                    refine lv_istore (lv' := [(5, .int z110), (4, .int 1), (2, .int k_w), (3, .int k_i), (0, .ref a_r), (1, .int p_d)]) hx hb dX4_readTest_87 hl (by decide) rfl (fun ls hl => ?_)
                    refine lv_aload_n hx hb dX4_readTest_89 rfl (lv_at hl 4 rfl) ?_
                    refine lv_iload_n hx hb dX4_readTest_90 rfl (lv_at hl 5 rfl) ?_
                    obtain ⟨hPc, hDc, hFc⟩ := g5_sub3 (wc := [(a_r, (oc4 a_tk a_rh a_rs a_rc z111 k_pa (k_at + 1) e_fp)), (a_tk, (oc8 a_kd a_nm a_pl)), (a_kd, (arI G 401 f_kd)), (a_nm, (arI G 401 f_nm)), (a_rc, (arI G 400 z112))]) hP hD hS hA [3, 1, 2, 0, 4] (by decide) rfl
                    refine va_calli (va_runV (As := [.int p_d]) (rest := []) ⟨hx, hb, hml, hown, hts⟩ ((r_plain fr lo f2 l2 p_d h_p_d h_sum h_test) l G a_r a_tk a_kd a_nm a_rc a_rh a_rs a_pl H.size z111 k_pa (k_at + 1) e_fp f_kd f_nm z112 ⟨by omega, by omega⟩ i_17 ⟨by omega, by omega⟩ (e_tk) (i_107)) (cwV 1 hts gV_X4_83 rfl rfl rfl hv_X4_readPlain ⟨by simp only [headSpec]; omega, by simp only [headSpec]; omega⟩) (g5_preV hPc hK hDc hN hT hS hFc (ci := 4) (q0 := 0) rfl rfl) rfl rfl hl.1 rfl (lv_room (Nat.le_of_ble_eq_true rfl)) dX4_readTest_91 ⟨Nat.le_of_ble_eq_true rfl, Nat.le_of_ble_eq_true rfl⟩) hS (fun q _ h => hFc q h) hFc (fun r u t H1 locs ht hvm hw hB hz1 hk1 hS => ?_)
                    obtain ⟨hP1, hD1⟩ := hB
                    rw [ht] at hP1
                    obtain ⟨z120, z121, z122, z123, z124, i_114, i_115, i_116, i_117, i_118, i_119, y125, rfl⟩ := hw
                    have i_114 : 0 ≤ z120.toInt ∧ z120.toInt ≤ 1 := i_114
                    have i_115 : z111.toInt ≤ z121.toInt ∧ z121.toInt ≤ 400 := i_115
                    have i_116 : 0 ≤ z123.toInt ∧ z123.toInt ≤ 401 := i_116
                    have i_117 : 0 ≤ z122.toInt ∧ z122.toInt ≤ 50 := i_117
                    have i_118 : CDI z124 z121.toInt := i_118
                    have i_119 : OPK z112 z124 z111.toInt := i_119
                    obtain ⟨hP, hD⟩ := va_join (wr := []) hP hD [3, 1, 2, 0, 4] [] rfl rfl (by decide) (by decide) hk1 hFc hP1 hD1
                    generalize H1 = H at hP hS ⊢
                    refine g5_rs [(a_r, (oc4 a_tk a_rh a_rs a_rc z121 z122 z123 e_fp)), (a_tk, (oc8 a_kd a_nm a_pl)), (a_kd, (arI G 401 f_kd)), (a_nm, (arI G 401 f_nm)), (a_rc, (arI G 400 z124))] hP hD (fun hP hD => ?_)
                    refine g5_ti (v := z120) y125 ?_
                    refine lv_if_ne (tgt := 99) hx hb dX4_readTest_94 (by decide) (fun c_126 => ?_) (fun c_126 => ?_)
                    ·
                      have n_126 : gNe (z120.toInt) (0) := by have z := g5_ne (a := z120.toInt) (b := 0) (by rfl) (by decide) c_126; unfold gNe; omega
                      have i_126 : z120.toInt ≥ 1 := by have z := g5_ne (a := z120.toInt) (b := 0) (by rfl) (by decide) c_126; omega
                      refine lv_iload hx hb dX4_readTest_99 (lv_at hl 1 rfl) ?_
                      refine lv_if_eq (tgt := 110) hx hb dX4_readTest_101 (by decide) (fun c_127 => ?_) (fun c_127 => ?_)
                      ·
                        exact absurd c_127 (by decide)
                      ·
                        refine lv_iload hx hb dX4_readTest_104 (lv_at hl 0 rfl) ?_
                        refine lv_istore_n (lv' := [(2, .int z110), (5, .int z110), (4, .int 1), (3, .int k_i), (0, .ref a_r), (1, .int p_d)]) hx hb dX4_readTest_106 rfl hl (by decide) rfl (fun ls hl => ?_)
                        refine lv_goto (tgt := 116) hx hb dX4_readTest_107 (by decide) ?_
                        refine lv_iinc (v := (k_i + 1)) (lv' := [(3, .int (k_i + 1)), (2, .int z110), (5, .int z110), (4, .int 1), (0, .ref a_r), (1, .int p_d)]) hx hb dX4_readTest_116 hl (k := 3) rfl rfl (by decide) rfl (fun ls hl => ?_)
                        have t_128 : (k_i + 1).toInt = k_i.toInt + 1 := g5_iadd (a := k_i.toInt) (b := 1) rfl (by decide) (by omega) (by omega)
                        refine lv_goto (tgt := 14) hx hb dX4_readTest_119 (by decide) ?_
                        exact ih_14_23 (z110, (k_i + 1), z121, z122, z123, z124) ls H locs (show Int.toNat (400 - (k_i + 1).toInt) < Int.toNat (400 - k_i.toInt) from g_up (show k_i.toInt < (k_i + 1).toInt by omega) (show k_i.toInt < 400 by omega)) ⟨lv_sub hl [1, 0, 4, 5] rfl, hP, hD, hS, ⟨by omega, by omega⟩, ⟨by omega, by omega⟩, ⟨by omega, by omega⟩, i_117, i_116, by omega, i_118, opk_trans i_21 (opk_trans i_102 (opk_trans i_108 (i_119) (by omega)) (by omega)) (by omega), jok_opk (jok_emit i_109 (by decide)) (i_119) (by omega)⟩
                    ·
                      have i_126 : z120.toInt = 0 := by have z := g5_neN (a := z120.toInt) (b := 0) (by rfl) (by decide) c_126; omega
                      refine lv_iconst (v := 0) hx hb dX4_readTest_97 (by decide) ?_
                      exact W.zret (v := 0) hx hb hr rfl (fun t ht hW => ⟨⟨0, [(a_r, (oc4 a_tk a_rh a_rs a_rc z121 z122 z123 e_fp)), (a_tk, (oc8 a_kd a_nm a_pl)), (a_kd, (arI G 401 f_kd)), (a_nm, (arI G 401 f_nm)), (a_rc, (arI G 400 z124))], rfl, ⟨0, z121, z122, z123, z124, ⟨by have zc_o_r : (0 : Int32).toInt = 0 := (by decide); omega, by have zc_o_r : (0 : Int32).toInt = 0 := (by decide); omega⟩, ⟨by omega, by omega⟩, i_116, i_117, i_118, opk_trans i_21 (opk_trans i_102 (opk_trans i_108 (i_119) (by omega)) (by omega)) (by omega), rfl, rfl⟩, by rw [ht]; exact hP.sub [0, 1, 2, 3, 4] rfl, hD.sub [0, 1, 2, 3, 4] (by decide) rfl⟩, hS.F ht⟩) hS.2.2 dX4_readTest_98
              ·
                obtain ⟨hP, hD⟩ := va_join (wr := [(a_nm, (arI G 401 f_nm)), (a_rc, (arI G 400 k_rc))]) hP hD [2, 3, 4] [0, 1] rfl rfl (by decide) (by decide) hk1 hFc hP1 hD1
                generalize H1 = H at hP hS ⊢
                refine g5_rs [(a_nm, (arI G 401 f_nm)), (a_rc, (arI G 400 k_rc)), (a_r, (oc4 a_tk a_rh a_rs a_rc k_ln k_pa k_at e_fp)), (a_tk, (oc8 a_kd a_nm a_pl)), (a_kd, (arI G 401 f_kd))] hP hD (fun hP hD => ?_)
                refine lv_istore (lv' := [(4, .int 0), (2, .int k_w), (3, .int k_i), (0, .ref a_r), (1, .int p_d)]) hx hb dX4_readTest_48 hl (by decide) rfl (fun ls hl => ?_)
                refine lv_aload_n hx hb dX4_readTest_50 rfl (lv_at hl 3 rfl) ?_
                refine lv_dup hx hb dX4_readTest_51 rfl ?_
                refine va_get (D := G.1) (ci := 4) (v := .int k_at) (C := RX4) (T := TX4) (N := 8) hx hb hts inG_X4 hown hK hP 2 rfl rfl 6 (by decide) (hts _ fl_X4_42) (fun _ h9 => h9) rfl dX4_readTest_52 ?_
                refine lv_iconst (v := 1) hx hb dX4_readTest_55 (by decide) ?_
                refine lv_iadd hx hb dX4_readTest_56 ?_
                have t_129 : (k_at + 1).toInt = k_at.toInt + 1 := g5_iadd (a := k_at.toInt) (b := 1) (by rfl) (by decide) (by omega) (by omega)
                refine va_put (D := G.1) (ci := 4) (v := .int (k_at + 1)) (ty := .int) (C := RX4) (T := TX4) (N := 8) hx hb hts inG_X4 tyX4 tyX4_ok nmX4 hown hK hP hD hS 2 rfl rfl 6 (by decide) (hts _ fl_X4_42) (fun _ h9 => h9) rfl (by decide +kernel) rfl rfl (Nat.le_of_ble_eq_true rfl) dX4_readTest_57 (fun H locs hP hD hS => ?_)
                refine g5_rs [(a_nm, (arI G 401 f_nm)), (a_rc, (arI G 400 k_rc)), (a_r, (oc4 a_tk a_rh a_rs a_rc k_ln k_pa (k_at + 1) e_fp)), (a_tk, (oc8 a_kd a_nm a_pl)), (a_kd, (arI G 401 f_kd))] hP hD (fun hP hD => ?_)
                refine lv_iload hx hb dX4_readTest_60 (lv_at hl 0 rfl) ?_
                refine lv_if_eq (tgt := 70) hx hb dX4_readTest_62 (by decide) (fun c_130 => ?_) (fun c_130 => ?_)
                ·
                  refine lv_aload_n hx hb dX4_readTest_70 rfl (lv_at hl 3 rfl) ?_
                  refine lv_iload hx hb dX4_readTest_71 (lv_at hl 0 rfl) ?_
                  refine lv_if_eq (tgt := 81) hx hb dX4_readTest_73 (by decide) (fun c_131 => ?_) (fun c_131 => ?_)
                  ·
                    refine lv_bipush (v := 12) hx hb dX4_readTest_81 (by decide) ?_
                    refine lv_iconst (v := 0) hx hb dX4_readTest_83 (by decide) ?_
                    obtain ⟨hPc, hDc, hFc⟩ := g5_sub3 (wc := [(a_r, (oc4 a_tk a_rh a_rs a_rc k_ln k_pa (k_at + 1) e_fp)), (a_rc, (arI G 400 k_rc))]) hP hD hS hA [2, 1] (by decide) rfl
                    refine va_calli (va_runV (As := [.int 12, .int 0]) (rest := []) ⟨hx, hb, hml, hown, hts⟩ (r_emit l G a_r a_rc a_tk a_rh a_rs H.size k_ln k_pa (k_at + 1) e_fp 12 0 k_rc i_16 i_17 ⟨by omega, by omega⟩ (i_20) (by unfold wOK; decide)) (cwV 2 hts gV_X4_79 rfl rfl rfl hv_X4_emit ⟨by simp only [headSpec]; omega, by simp only [headSpec]; omega⟩) (g5_preV hPc hK hDc hN hT hS hFc (ci := 4) (q0 := 0) rfl rfl) rfl rfl hl.1 rfl (lv_room (Nat.le_of_ble_eq_true rfl)) dX4_readTest_84 ⟨Nat.le_of_ble_eq_true rfl, Nat.le_of_ble_eq_true rfl⟩) hS (fun q _ h => hFc q h) hFc (fun r u t H1 locs ht hvm hw hB hz1 hk1 hS => ?_)
                    obtain ⟨hP1, hD1⟩ := hB
                    rw [ht] at hP1
                    obtain ⟨z137, z138, z139, i_132, i_133, i_134, i_135, i_136, y140, rfl⟩ := hw
                    have i_132 : -1 ≤ z137.toInt ∧ z137.toInt ≤ 399 := i_132
                    have i_133 : k_ln.toInt ≤ z138.toInt ∧ z138.toInt ≤ 400 := i_133
                    have i_134 : CDI z139 z138.toInt := i_134
                    have i_135 : OPK k_rc z139 k_ln.toInt := i_135
                    have i_136 : 0 ≤ z137.toInt → z137.toInt < z138.toInt ∧ z139 z137.toNatClampNeg = (((12 : Int32) <<< (12 &&& 31)) ||| (0 : Int32)) := i_136
                    obtain ⟨hP, hD⟩ := va_join (wr := [(a_nm, (arI G 401 f_nm)), (a_tk, (oc8 a_kd a_nm a_pl)), (a_kd, (arI G 401 f_kd))]) hP hD [2, 1] [0, 3, 4] rfl rfl (by decide) (by decide) hk1 hFc hP1 hD1
                    generalize H1 = H at hP hS ⊢
                    refine g5_rs [(a_nm, (arI G 401 f_nm)), (a_tk, (oc8 a_kd a_nm a_pl)), (a_kd, (arI G 401 f_kd)), (a_r, (oc4 a_tk a_rh a_rs a_rc z138 k_pa (k_at + 1) e_fp)), (a_rc, (arI G 400 z139))] hP hD (fun hP hD => ?_)
                    refine g5_ti (v := z137) y140 ?_
                    refine lv_istore (lv' := [(5, .int z137), (4, .int 0), (2, .int k_w), (3, .int k_i), (0, .ref a_r), (1, .int p_d)]) hx hb dX4_readTest_87 hl (by decide) rfl (fun ls hl => ?_)
                    refine lv_aload_n hx hb dX4_readTest_89 rfl (lv_at hl 4 rfl) ?_
                    refine lv_iload_n hx hb dX4_readTest_90 rfl (lv_at hl 5 rfl) ?_
                    obtain ⟨hPc, hDc, hFc⟩ := g5_sub3 (wc := [(a_r, (oc4 a_tk a_rh a_rs a_rc z138 k_pa (k_at + 1) e_fp)), (a_tk, (oc8 a_kd a_nm a_pl)), (a_kd, (arI G 401 f_kd)), (a_nm, (arI G 401 f_nm)), (a_rc, (arI G 400 z139))]) hP hD hS hA [3, 1, 2, 0, 4] (by decide) rfl
                    refine va_calli (va_runV (As := [.int p_d]) (rest := []) ⟨hx, hb, hml, hown, hts⟩ ((r_plain fr lo f2 l2 p_d h_p_d h_sum h_test) l G a_r a_tk a_kd a_nm a_rc a_rh a_rs a_pl H.size z138 k_pa (k_at + 1) e_fp f_kd f_nm z139 ⟨by omega, by omega⟩ i_17 ⟨by omega, by omega⟩ (e_tk) (i_134)) (cwV 1 hts gV_X4_83 rfl rfl rfl hv_X4_readPlain ⟨by simp only [headSpec]; omega, by simp only [headSpec]; omega⟩) (g5_preV hPc hK hDc hN hT hS hFc (ci := 4) (q0 := 0) rfl rfl) rfl rfl hl.1 rfl (lv_room (Nat.le_of_ble_eq_true rfl)) dX4_readTest_91 ⟨Nat.le_of_ble_eq_true rfl, Nat.le_of_ble_eq_true rfl⟩) hS (fun q _ h => hFc q h) hFc (fun r u t H1 locs ht hvm hw hB hz1 hk1 hS => ?_)
                    obtain ⟨hP1, hD1⟩ := hB
                    rw [ht] at hP1
                    obtain ⟨z147, z148, z149, z150, z151, i_141, i_142, i_143, i_144, i_145, i_146, y152, rfl⟩ := hw
                    have i_141 : 0 ≤ z147.toInt ∧ z147.toInt ≤ 1 := i_141
                    have i_142 : z138.toInt ≤ z148.toInt ∧ z148.toInt ≤ 400 := i_142
                    have i_143 : 0 ≤ z150.toInt ∧ z150.toInt ≤ 401 := i_143
                    have i_144 : 0 ≤ z149.toInt ∧ z149.toInt ≤ 50 := i_144
                    have i_145 : CDI z151 z148.toInt := i_145
                    have i_146 : OPK z139 z151 z138.toInt := i_146
                    obtain ⟨hP, hD⟩ := va_join (wr := []) hP hD [3, 1, 2, 0, 4] [] rfl rfl (by decide) (by decide) hk1 hFc hP1 hD1
                    generalize H1 = H at hP hS ⊢
                    refine g5_rs [(a_r, (oc4 a_tk a_rh a_rs a_rc z148 z149 z150 e_fp)), (a_tk, (oc8 a_kd a_nm a_pl)), (a_kd, (arI G 401 f_kd)), (a_nm, (arI G 401 f_nm)), (a_rc, (arI G 400 z151))] hP hD (fun hP hD => ?_)
                    refine g5_ti (v := z147) y152 ?_
                    refine lv_if_ne (tgt := 99) hx hb dX4_readTest_94 (by decide) (fun c_153 => ?_) (fun c_153 => ?_)
                    ·
                      have n_153 : gNe (z147.toInt) (0) := by have z := g5_ne (a := z147.toInt) (b := 0) (by rfl) (by decide) c_153; unfold gNe; omega
                      have i_153 : z147.toInt ≥ 1 := by have z := g5_ne (a := z147.toInt) (b := 0) (by rfl) (by decide) c_153; omega
                      refine lv_iload hx hb dX4_readTest_99 (lv_at hl 1 rfl) ?_
                      refine lv_if_eq (tgt := 110) hx hb dX4_readTest_101 (by decide) (fun c_154 => ?_) (fun c_154 => ?_)
                      ·
                        refine lv_aload_n hx hb dX4_readTest_110 rfl (lv_at hl 4 rfl) ?_
                        refine lv_iload hx hb dX4_readTest_111 (lv_at hl 0 rfl) ?_
                        obtain ⟨hPc, hDc, hFc⟩ := g5_sub3 (wc := [(a_r, (oc4 a_tk a_rh a_rs a_rc z148 z149 z150 e_fp)), (a_rc, (arI G 400 z151))]) hP hD hS hA [0, 4] (by decide) rfl
                        refine va_callv (va_runV (As := [.int z137]) (rest := []) ⟨hx, hb, hml, hown, hts⟩ (r_jump l G a_r a_rc a_tk a_rh a_rs H.size z148 z149 z150 e_fp z137 z151 ⟨by omega, by omega⟩ i_144 i_143 (i_145) (jok_opk (jok_emit i_136 (by decide)) (i_146) (by omega))) (cwV 1 hts gV_X4_86 rfl rfl rfl hv_X4_jumpHere ⟨by simp only [headSpec]; omega, by simp only [headSpec]; omega⟩) (g5_preV hPc hK hDc hN hT hS hFc (ci := 4) (q0 := 0) rfl rfl) rfl rfl hl.1 rfl (lv_room (Nat.le_of_ble_eq_true rfl)) dX4_readTest_113 ⟨Nat.le_of_ble_eq_true rfl, Nat.le_of_ble_eq_true rfl⟩) hS (fun q _ h => hFc q h) hFc (fun u t H1 locs ht hvm hw hB hz1 hk1 hS => ?_)
                        obtain ⟨hP1, hD1⟩ := hB
                        rw [ht] at hP1
                        obtain ⟨z157, i_155, i_156, rfl⟩ := hw
                        have i_155 : CDI z157 z148.toInt := i_155
                        have i_156 : OPK z151 z157 z148.toInt := i_156
                        obtain ⟨hP, hD⟩ := va_join (wr := [(a_tk, (oc8 a_kd a_nm a_pl)), (a_kd, (arI G 401 f_kd)), (a_nm, (arI G 401 f_nm))]) hP hD [0, 4] [1, 2, 3] rfl rfl (by decide) (by decide) hk1 hFc hP1 hD1
                        generalize H1 = H at hP hS ⊢
                        refine g5_rs [(a_tk, (oc8 a_kd a_nm a_pl)), (a_kd, (arI G 401 f_kd)), (a_nm, (arI G 401 f_nm)), (a_r, (oc4 a_tk a_rh a_rs a_rc z148 z149 z150 e_fp)), (a_rc, (arI G 400 z157))] hP hD (fun hP hD => ?_)
                        refine lv_iinc (v := (k_i + 1)) (lv' := [(3, .int (k_i + 1)), (5, .int z137), (4, .int 0), (2, .int k_w), (0, .ref a_r), (1, .int p_d)]) hx hb dX4_readTest_116 hl (k := 3) rfl rfl (by decide) rfl (fun ls hl => ?_)
                        have t_158 : (k_i + 1).toInt = k_i.toInt + 1 := g5_iadd (a := k_i.toInt) (b := 1) rfl (by decide) (by omega) (by omega)
                        refine lv_goto (tgt := 14) hx hb dX4_readTest_119 (by decide) ?_
                        exact ih_14_23 (k_w, (k_i + 1), z148, z149, z150, z157) ls H locs (show Int.toNat (400 - (k_i + 1).toInt) < Int.toNat (400 - k_i.toInt) from g_up (show k_i.toInt < (k_i + 1).toInt by omega) (show k_i.toInt < 400 by omega)) ⟨lv_sub hl [3, 0, 4, 5] rfl, hP.sub [3, 0, 1, 2, 4] rfl, hD.sub [3, 0, 1, 2, 4] (by decide) rfl, hS, i_14, ⟨by omega, by omega⟩, ⟨by omega, by omega⟩, i_144, i_143, by omega, i_155, opk_trans i_21 (opk_trans i_135 (opk_trans i_146 (i_156) (by omega)) (by omega)) (by omega), jok_opk i_22 (opk_trans i_135 (opk_trans i_146 (i_156) (by omega)) (by omega)) (by omega)⟩
                      ·
                        exact absurd c_154 (by decide)
                    ·
                      have i_153 : z147.toInt = 0 := by have z := g5_neN (a := z147.toInt) (b := 0) (by rfl) (by decide) c_153; omega
                      refine lv_iconst (v := 0) hx hb dX4_readTest_97 (by decide) ?_
                      exact W.zret (v := 0) hx hb hr rfl (fun t ht hW => ⟨⟨0, [(a_r, (oc4 a_tk a_rh a_rs a_rc z148 z149 z150 e_fp)), (a_tk, (oc8 a_kd a_nm a_pl)), (a_kd, (arI G 401 f_kd)), (a_nm, (arI G 401 f_nm)), (a_rc, (arI G 400 z151))], rfl, ⟨0, z148, z149, z150, z151, ⟨by have zc_o_r : (0 : Int32).toInt = 0 := (by decide); omega, by have zc_o_r : (0 : Int32).toInt = 0 := (by decide); omega⟩, ⟨by omega, by omega⟩, i_143, i_144, i_145, opk_trans i_21 (opk_trans i_135 (i_146) (by omega)) (by omega), rfl, rfl⟩, by rw [ht]; exact hP.sub [0, 1, 2, 3, 4] rfl, hD.sub [0, 1, 2, 3, 4] (by decide) rfl⟩, hS.F ht⟩) hS.2.2 dX4_readTest_98
                  ·
                    exact absurd c_131 (by decide)
                ·
                  exact absurd c_130 (by decide)
          ·
            obtain ⟨hP, hD⟩ := va_join (wr := [(a_nm, (arI G 401 f_nm)), (a_rc, (arI G 400 k_rc))]) hP hD [2, 3, 4] [0, 1] rfl rfl (by decide) (by decide) hk1 hFc hP1 hD1
            generalize H1 = H at hP hS ⊢
            refine g5_rs [(a_nm, (arI G 401 f_nm)), (a_rc, (arI G 400 k_rc)), (a_r, (oc4 a_tk a_rh a_rs a_rc k_ln k_pa k_at e_fp)), (a_tk, (oc8 a_kd a_nm a_pl)), (a_kd, (arI G 401 f_kd))] hP hD (fun hP hD => ?_)
            refine lv_if_eq (tgt := 122) hx hb dX4_readTest_38 (by decide) (fun c_159 => ?_) (fun c_159 => ?_)
            ·
              refine lv_aload_n hx hb dX4_readTest_122 rfl (lv_at hl 2 rfl) ?_
              refine lv_iload_n hx hb dX4_readTest_123 rfl (lv_at hl 0 rfl) ?_
              obtain ⟨hPc, hDc, hFc⟩ := g5_sub3 (wc := [(a_r, (oc4 a_tk a_rh a_rs a_rc k_ln k_pa k_at e_fp)), (a_rc, (arI G 400 k_rc))]) hP hD hS hA [2, 1] (by decide) rfl
              refine va_callv (va_runV (As := [.int k_w]) (rest := []) ⟨hx, hb, hml, hown, hts⟩ (r_jump l G a_r a_rc a_tk a_rh a_rs H.size k_ln k_pa k_at e_fp k_w k_rc i_16 i_17 i_18 (i_20) (i_22)) (cwV 1 hts gV_X4_86 rfl rfl rfl hv_X4_jumpHere ⟨by simp only [headSpec]; omega, by simp only [headSpec]; omega⟩) (g5_preV hPc hK hDc hN hT hS hFc (ci := 4) (q0 := 0) rfl rfl) rfl rfl hl.1 rfl (lv_room (Nat.le_of_ble_eq_true rfl)) dX4_readTest_124 ⟨Nat.le_of_ble_eq_true rfl, Nat.le_of_ble_eq_true rfl⟩) hS (fun q _ h => hFc q h) hFc (fun u t H1 locs ht hvm hw hB hz1 hk1 hS => ?_)
              obtain ⟨hP1, hD1⟩ := hB
              rw [ht] at hP1
              obtain ⟨z162, i_160, i_161, rfl⟩ := hw
              have i_160 : CDI z162 k_ln.toInt := i_160
              have i_161 : OPK k_rc z162 k_ln.toInt := i_161
              obtain ⟨hP, hD⟩ := va_join (wr := [(a_nm, (arI G 401 f_nm)), (a_tk, (oc8 a_kd a_nm a_pl)), (a_kd, (arI G 401 f_kd))]) hP hD [2, 1] [0, 3, 4] rfl rfl (by decide) (by decide) hk1 hFc hP1 hD1
              generalize H1 = H at hP hS ⊢
              refine g5_rs [(a_nm, (arI G 401 f_nm)), (a_tk, (oc8 a_kd a_nm a_pl)), (a_kd, (arI G 401 f_kd)), (a_r, (oc4 a_tk a_rh a_rs a_rc k_ln k_pa k_at e_fp)), (a_rc, (arI G 400 z162))] hP hD (fun hP hD => ?_)
              refine lv_iconst (v := 1) hx hb dX4_readTest_127 (by decide) ?_
              exact W.zret (v := 1) hx hb hr rfl (fun t ht hW => ⟨⟨1, [(a_r, (oc4 a_tk a_rh a_rs a_rc k_ln k_pa k_at e_fp)), (a_tk, (oc8 a_kd a_nm a_pl)), (a_kd, (arI G 401 f_kd)), (a_nm, (arI G 401 f_nm)), (a_rc, (arI G 400 z162))], rfl, ⟨1, k_ln, k_pa, k_at, z162, ⟨by have zc_o_r : (1 : Int32).toInt = 1 := (by decide); omega, by have zc_o_r : (1 : Int32).toInt = 1 := (by decide); omega⟩, ⟨by omega, by omega⟩, i_18, i_17, i_160, opk_trans i_21 (i_161) (by omega), rfl, rfl⟩, by rw [ht]; exact hP.sub [3, 1, 2, 0, 4] rfl, hD.sub [3, 1, 2, 0, 4] (by decide) rfl⟩, hS.F ht⟩) hS.2.2 dX4_readTest_128
            ·
              exact absurd c_159 (by decide)
  ·
    have i_13 : z7.toInt = 0 := by have z := g5_neN (a := z7.toInt) (b := 0) (by rfl) (by decide) c_13; omega
    refine lv_iconst (v := 0) hx hb dX4_readTest_8 (by decide) ?_
    exact W.zret (v := 0) hx hb hr rfl (fun t ht hW => ⟨⟨0, [(a_r, (oc4 a_tk a_rh a_rs a_rc z8 z9 z10 e_fp)), (a_tk, (oc8 a_kd a_nm a_pl)), (a_kd, (arI G 401 f_kd)), (a_nm, (arI G 401 f_nm)), (a_rc, (arI G 400 z11))], rfl, ⟨0, z8, z9, z10, z11, ⟨by have zc_o_r : (0 : Int32).toInt = 0 := (by decide); omega, by have zc_o_r : (0 : Int32).toInt = 0 := (by decide); omega⟩, ⟨by omega, by omega⟩, i_3, i_4, i_5, i_6, rfl, rfl⟩, by rw [ht]; exact hP.sub [0, 1, 2, 3, 4] rfl, hD.sub [0, 1, 2, 3, 4] (by decide) rfl⟩, hS.F ht⟩) hS.2.2 dX4_readTest_9
theorem r_sum8 (l : Launch) (G : g5_G) (a_r a_tk a_kd a_nm a_rc a_rh a_rs a_pl : Nat) (sz : Nat) (e_ln : Int32) (e_pa : Int32) (e_at : Int32) (e_fp : Int32) (f_kd : Nat → Int32) (f_nm : Nat → Int32) (f_rc : Nat → Int32) (h_e_ln : 0 ≤ e_ln.toInt ∧ e_ln.toInt ≤ 400) (h_e_pa : 0 ≤ e_pa.toInt ∧ e_pa.toInt ≤ 50) (h_e_at : 0 ≤ e_at.toInt ∧ e_at.toInt ≤ 401) (e_tk : TOKI f_kd f_nm) (e_cd : CDI f_rc e_ln.toInt) : Met l yX4_readSum (wsG yX4_readSum cX4_readSum 6 (some .boolean)) ({ frames := 0 + 2, cells := 0, slots := 0, locals := 0 + 48 }) (va_Pc [.ref a_r, .int 8] (g5_P G [(a_r, (oc4 a_tk a_rh a_rs a_rc e_ln e_pa e_at e_fp)), (a_tk, (oc8 a_kd a_nm a_pl)), (a_kd, (arI G 401 f_kd)), (a_nm, (arI G 401 f_nm)), (a_rc, (arI G 400 f_rc))] sz)) (va_Qi (fun (r : Int32) (u : va_W) => (∃ (o_r : Int32) (o_ln : Int32) (o_pa : Int32) (o_at : Int32) (o_rc : Nat → Int32), (0 ≤ o_r.toInt ∧ o_r.toInt ≤ 1) ∧ (e_ln.toInt ≤ o_ln.toInt ∧ o_ln.toInt ≤ 400) ∧ (0 ≤ o_at.toInt ∧ o_at.toInt ≤ 401) ∧ (0 ≤ o_pa.toInt ∧ o_pa.toInt ≤ 50) ∧ (CDI o_rc o_ln.toInt) ∧ (OPK f_rc o_rc e_ln.toInt) ∧ (r = o_r) ∧ (u = [(a_r, (oc4 a_tk a_rh a_rs a_rc o_ln o_pa o_at e_fp)), (a_tk, (oc8 a_kd a_nm a_pl)), (a_kd, (arI G 401 f_kd)), (a_nm, (arI G 401 f_nm)), (a_rc, (arI G 400 o_rc))]))) (g5_B G (va_A [(a_r, (oc4 a_tk a_rh a_rs a_rc e_ln e_pa e_at e_fp)), (a_tk, (oc8 a_kd a_nm a_pl)), (a_kd, (arI G 401 f_kd)), (a_nm, (arI G 401 f_nm)), (a_rc, (arI G 400 f_rc))] sz)) (va_A [(a_r, (oc4 a_tk a_rh a_rs a_rc e_ln e_pa e_at e_fp)), (a_tk, (oc8 a_kd a_nm a_pl)), (a_kd, (arI G 401 f_kd)), (a_nm, (arI G 401 f_nm)), (a_rc, (arI G 400 f_rc))] sz)) 0 0 (va_A [(a_r, (oc4 a_tk a_rh a_rs a_rc e_ln e_pa e_at e_fp)), (a_tk, (oc8 a_kd a_nm a_pl)), (a_kd, (arI G 401 f_kd)), (a_nm, (arI G 401 f_nm)), (a_rc, (arI G 400 f_rc))] sz) := r_sum 0 0 8 ⟨by decide, by decide⟩ (fun _ _ h => absurd h (by decide)) l G a_r a_tk a_kd a_nm a_rc a_rh a_rs a_pl sz e_ln e_pa e_at e_fp f_kd f_nm f_rc h_e_ln h_e_pa h_e_at e_tk e_cd
theorem r_test8 (l : Launch) (G : g5_G) (a_r a_tk a_kd a_nm a_rc a_rh a_rs a_pl : Nat) (sz : Nat) (e_ln : Int32) (e_pa : Int32) (e_at : Int32) (e_fp : Int32) (f_kd : Nat → Int32) (f_nm : Nat → Int32) (f_rc : Nat → Int32) (h_e_ln : 0 ≤ e_ln.toInt ∧ e_ln.toInt ≤ 400) (h_e_pa : 0 ≤ e_pa.toInt ∧ e_pa.toInt ≤ 50) (h_e_at : 0 ≤ e_at.toInt ∧ e_at.toInt ≤ 401) (e_tk : TOKI f_kd f_nm) (e_cd : CDI f_rc e_ln.toInt) : Met l yX4_readTest (wsG yX4_readTest cX4_readTest 6 (some .boolean)) ({ frames := 0 + 0 + 4, cells := 0, slots := 0, locals := 0 + 0 + 96 }) (va_Pc [.ref a_r, .int 8] (g5_P G [(a_r, (oc4 a_tk a_rh a_rs a_rc e_ln e_pa e_at e_fp)), (a_tk, (oc8 a_kd a_nm a_pl)), (a_kd, (arI G 401 f_kd)), (a_nm, (arI G 401 f_nm)), (a_rc, (arI G 400 f_rc))] sz)) (va_Qi (fun (r : Int32) (u : va_W) => (∃ (o_r : Int32) (o_ln : Int32) (o_pa : Int32) (o_at : Int32) (o_rc : Nat → Int32), (0 ≤ o_r.toInt ∧ o_r.toInt ≤ 1) ∧ (e_ln.toInt ≤ o_ln.toInt ∧ o_ln.toInt ≤ 400) ∧ (0 ≤ o_at.toInt ∧ o_at.toInt ≤ 401) ∧ (0 ≤ o_pa.toInt ∧ o_pa.toInt ≤ 50) ∧ (CDI o_rc o_ln.toInt) ∧ (OPK f_rc o_rc e_ln.toInt) ∧ (r = o_r) ∧ (u = [(a_r, (oc4 a_tk a_rh a_rs a_rc o_ln o_pa o_at e_fp)), (a_tk, (oc8 a_kd a_nm a_pl)), (a_kd, (arI G 401 f_kd)), (a_nm, (arI G 401 f_nm)), (a_rc, (arI G 400 o_rc))]))) (g5_B G (va_A [(a_r, (oc4 a_tk a_rh a_rs a_rc e_ln e_pa e_at e_fp)), (a_tk, (oc8 a_kd a_nm a_pl)), (a_kd, (arI G 401 f_kd)), (a_nm, (arI G 401 f_nm)), (a_rc, (arI G 400 f_rc))] sz)) (va_A [(a_r, (oc4 a_tk a_rh a_rs a_rc e_ln e_pa e_at e_fp)), (a_tk, (oc8 a_kd a_nm a_pl)), (a_kd, (arI G 401 f_kd)), (a_nm, (arI G 401 f_nm)), (a_rc, (arI G 400 f_rc))] sz)) 0 0 (va_A [(a_r, (oc4 a_tk a_rh a_rs a_rc e_ln e_pa e_at e_fp)), (a_tk, (oc8 a_kd a_nm a_pl)), (a_kd, (arI G 401 f_kd)), (a_nm, (arI G 401 f_nm)), (a_rc, (arI G 400 f_rc))] sz) := r_test 0 0 0 0 8 ⟨by decide, by decide⟩ (fun _ _ h => absurd h (by decide)) (fun _ _ h => absurd h (by decide)) l G a_r a_tk a_kd a_nm a_rc a_rh a_rs a_pl sz e_ln e_pa e_at e_fp f_kd f_nm f_rc h_e_ln h_e_pa h_e_at e_tk e_cd
theorem r_sum7 (l : Launch) (G : g5_G) (a_r a_tk a_kd a_nm a_rc a_rh a_rs a_pl : Nat) (sz : Nat) (e_ln : Int32) (e_pa : Int32) (e_at : Int32) (e_fp : Int32) (f_kd : Nat → Int32) (f_nm : Nat → Int32) (f_rc : Nat → Int32) (h_e_ln : 0 ≤ e_ln.toInt ∧ e_ln.toInt ≤ 400) (h_e_pa : 0 ≤ e_pa.toInt ∧ e_pa.toInt ≤ 50) (h_e_at : 0 ≤ e_at.toInt ∧ e_at.toInt ≤ 401) (e_tk : TOKI f_kd f_nm) (e_cd : CDI f_rc e_ln.toInt) : Met l yX4_readSum (wsG yX4_readSum cX4_readSum 6 (some .boolean)) ({ frames := 2 + 2, cells := 0, slots := 0, locals := 48 + 48 }) (va_Pc [.ref a_r, .int 7] (g5_P G [(a_r, (oc4 a_tk a_rh a_rs a_rc e_ln e_pa e_at e_fp)), (a_tk, (oc8 a_kd a_nm a_pl)), (a_kd, (arI G 401 f_kd)), (a_nm, (arI G 401 f_nm)), (a_rc, (arI G 400 f_rc))] sz)) (va_Qi (fun (r : Int32) (u : va_W) => (∃ (o_r : Int32) (o_ln : Int32) (o_pa : Int32) (o_at : Int32) (o_rc : Nat → Int32), (0 ≤ o_r.toInt ∧ o_r.toInt ≤ 1) ∧ (e_ln.toInt ≤ o_ln.toInt ∧ o_ln.toInt ≤ 400) ∧ (0 ≤ o_at.toInt ∧ o_at.toInt ≤ 401) ∧ (0 ≤ o_pa.toInt ∧ o_pa.toInt ≤ 50) ∧ (CDI o_rc o_ln.toInt) ∧ (OPK f_rc o_rc e_ln.toInt) ∧ (r = o_r) ∧ (u = [(a_r, (oc4 a_tk a_rh a_rs a_rc o_ln o_pa o_at e_fp)), (a_tk, (oc8 a_kd a_nm a_pl)), (a_kd, (arI G 401 f_kd)), (a_nm, (arI G 401 f_nm)), (a_rc, (arI G 400 o_rc))]))) (g5_B G (va_A [(a_r, (oc4 a_tk a_rh a_rs a_rc e_ln e_pa e_at e_fp)), (a_tk, (oc8 a_kd a_nm a_pl)), (a_kd, (arI G 401 f_kd)), (a_nm, (arI G 401 f_nm)), (a_rc, (arI G 400 f_rc))] sz)) (va_A [(a_r, (oc4 a_tk a_rh a_rs a_rc e_ln e_pa e_at e_fp)), (a_tk, (oc8 a_kd a_nm a_pl)), (a_kd, (arI G 401 f_kd)), (a_nm, (arI G 401 f_nm)), (a_rc, (arI G 400 f_rc))] sz)) 0 0 (va_A [(a_r, (oc4 a_tk a_rh a_rs a_rc e_ln e_pa e_at e_fp)), (a_tk, (oc8 a_kd a_nm a_pl)), (a_kd, (arI G 401 f_kd)), (a_nm, (arI G 401 f_nm)), (a_rc, (arI G 400 f_rc))] sz) := r_sum 2 48 7 ⟨by decide, by decide⟩ (fun x hx _ l G a_r a_tk a_kd a_nm a_rc a_rh a_rs a_pl sz e_ln e_pa e_at e_fp f_kd f_nm f_rc h_e_ln h_e_pa h_e_at e_tk e_cd => by have e : x = 8 := g5_toc (n := 8) (by decide) (hx.trans (by decide)); subst e; exact r_sum8 l G a_r a_tk a_kd a_nm a_rc a_rh a_rs a_pl sz e_ln e_pa e_at e_fp f_kd f_nm f_rc h_e_ln h_e_pa h_e_at e_tk e_cd) l G a_r a_tk a_kd a_nm a_rc a_rh a_rs a_pl sz e_ln e_pa e_at e_fp f_kd f_nm f_rc h_e_ln h_e_pa h_e_at e_tk e_cd
theorem r_test7 (l : Launch) (G : g5_G) (a_r a_tk a_kd a_nm a_rc a_rh a_rs a_pl : Nat) (sz : Nat) (e_ln : Int32) (e_pa : Int32) (e_at : Int32) (e_fp : Int32) (f_kd : Nat → Int32) (f_nm : Nat → Int32) (f_rc : Nat → Int32) (h_e_ln : 0 ≤ e_ln.toInt ∧ e_ln.toInt ≤ 400) (h_e_pa : 0 ≤ e_pa.toInt ∧ e_pa.toInt ≤ 50) (h_e_at : 0 ≤ e_at.toInt ∧ e_at.toInt ≤ 401) (e_tk : TOKI f_kd f_nm) (e_cd : CDI f_rc e_ln.toInt) : Met l yX4_readTest (wsG yX4_readTest cX4_readTest 6 (some .boolean)) ({ frames := 2 + 4 + 4, cells := 0, slots := 0, locals := 48 + 96 + 96 }) (va_Pc [.ref a_r, .int 7] (g5_P G [(a_r, (oc4 a_tk a_rh a_rs a_rc e_ln e_pa e_at e_fp)), (a_tk, (oc8 a_kd a_nm a_pl)), (a_kd, (arI G 401 f_kd)), (a_nm, (arI G 401 f_nm)), (a_rc, (arI G 400 f_rc))] sz)) (va_Qi (fun (r : Int32) (u : va_W) => (∃ (o_r : Int32) (o_ln : Int32) (o_pa : Int32) (o_at : Int32) (o_rc : Nat → Int32), (0 ≤ o_r.toInt ∧ o_r.toInt ≤ 1) ∧ (e_ln.toInt ≤ o_ln.toInt ∧ o_ln.toInt ≤ 400) ∧ (0 ≤ o_at.toInt ∧ o_at.toInt ≤ 401) ∧ (0 ≤ o_pa.toInt ∧ o_pa.toInt ≤ 50) ∧ (CDI o_rc o_ln.toInt) ∧ (OPK f_rc o_rc e_ln.toInt) ∧ (r = o_r) ∧ (u = [(a_r, (oc4 a_tk a_rh a_rs a_rc o_ln o_pa o_at e_fp)), (a_tk, (oc8 a_kd a_nm a_pl)), (a_kd, (arI G 401 f_kd)), (a_nm, (arI G 401 f_nm)), (a_rc, (arI G 400 o_rc))]))) (g5_B G (va_A [(a_r, (oc4 a_tk a_rh a_rs a_rc e_ln e_pa e_at e_fp)), (a_tk, (oc8 a_kd a_nm a_pl)), (a_kd, (arI G 401 f_kd)), (a_nm, (arI G 401 f_nm)), (a_rc, (arI G 400 f_rc))] sz)) (va_A [(a_r, (oc4 a_tk a_rh a_rs a_rc e_ln e_pa e_at e_fp)), (a_tk, (oc8 a_kd a_nm a_pl)), (a_kd, (arI G 401 f_kd)), (a_nm, (arI G 401 f_nm)), (a_rc, (arI G 400 f_rc))] sz)) 0 0 (va_A [(a_r, (oc4 a_tk a_rh a_rs a_rc e_ln e_pa e_at e_fp)), (a_tk, (oc8 a_kd a_nm a_pl)), (a_kd, (arI G 401 f_kd)), (a_nm, (arI G 401 f_nm)), (a_rc, (arI G 400 f_rc))] sz) := r_test 2 48 4 96 7 ⟨by decide, by decide⟩ (fun x hx _ l G a_r a_tk a_kd a_nm a_rc a_rh a_rs a_pl sz e_ln e_pa e_at e_fp f_kd f_nm f_rc h_e_ln h_e_pa h_e_at e_tk e_cd => by have e : x = 8 := g5_toc (n := 8) (by decide) (hx.trans (by decide)); subst e; exact r_sum8 l G a_r a_tk a_kd a_nm a_rc a_rh a_rs a_pl sz e_ln e_pa e_at e_fp f_kd f_nm f_rc h_e_ln h_e_pa h_e_at e_tk e_cd) (fun x hx _ l G a_r a_tk a_kd a_nm a_rc a_rh a_rs a_pl sz e_ln e_pa e_at e_fp f_kd f_nm f_rc h_e_ln h_e_pa h_e_at e_tk e_cd => by have e : x = 8 := g5_toc (n := 8) (by decide) (hx.trans (by decide)); subst e; exact r_test8 l G a_r a_tk a_kd a_nm a_rc a_rh a_rs a_pl sz e_ln e_pa e_at e_fp f_kd f_nm f_rc h_e_ln h_e_pa h_e_at e_tk e_cd) l G a_r a_tk a_kd a_nm a_rc a_rh a_rs a_pl sz e_ln e_pa e_at e_fp f_kd f_nm f_rc h_e_ln h_e_pa h_e_at e_tk e_cd
theorem r_sum6 (l : Launch) (G : g5_G) (a_r a_tk a_kd a_nm a_rc a_rh a_rs a_pl : Nat) (sz : Nat) (e_ln : Int32) (e_pa : Int32) (e_at : Int32) (e_fp : Int32) (f_kd : Nat → Int32) (f_nm : Nat → Int32) (f_rc : Nat → Int32) (h_e_ln : 0 ≤ e_ln.toInt ∧ e_ln.toInt ≤ 400) (h_e_pa : 0 ≤ e_pa.toInt ∧ e_pa.toInt ≤ 50) (h_e_at : 0 ≤ e_at.toInt ∧ e_at.toInt ≤ 401) (e_tk : TOKI f_kd f_nm) (e_cd : CDI f_rc e_ln.toInt) : Met l yX4_readSum (wsG yX4_readSum cX4_readSum 6 (some .boolean)) ({ frames := 4 + 2, cells := 0, slots := 0, locals := 96 + 48 }) (va_Pc [.ref a_r, .int 6] (g5_P G [(a_r, (oc4 a_tk a_rh a_rs a_rc e_ln e_pa e_at e_fp)), (a_tk, (oc8 a_kd a_nm a_pl)), (a_kd, (arI G 401 f_kd)), (a_nm, (arI G 401 f_nm)), (a_rc, (arI G 400 f_rc))] sz)) (va_Qi (fun (r : Int32) (u : va_W) => (∃ (o_r : Int32) (o_ln : Int32) (o_pa : Int32) (o_at : Int32) (o_rc : Nat → Int32), (0 ≤ o_r.toInt ∧ o_r.toInt ≤ 1) ∧ (e_ln.toInt ≤ o_ln.toInt ∧ o_ln.toInt ≤ 400) ∧ (0 ≤ o_at.toInt ∧ o_at.toInt ≤ 401) ∧ (0 ≤ o_pa.toInt ∧ o_pa.toInt ≤ 50) ∧ (CDI o_rc o_ln.toInt) ∧ (OPK f_rc o_rc e_ln.toInt) ∧ (r = o_r) ∧ (u = [(a_r, (oc4 a_tk a_rh a_rs a_rc o_ln o_pa o_at e_fp)), (a_tk, (oc8 a_kd a_nm a_pl)), (a_kd, (arI G 401 f_kd)), (a_nm, (arI G 401 f_nm)), (a_rc, (arI G 400 o_rc))]))) (g5_B G (va_A [(a_r, (oc4 a_tk a_rh a_rs a_rc e_ln e_pa e_at e_fp)), (a_tk, (oc8 a_kd a_nm a_pl)), (a_kd, (arI G 401 f_kd)), (a_nm, (arI G 401 f_nm)), (a_rc, (arI G 400 f_rc))] sz)) (va_A [(a_r, (oc4 a_tk a_rh a_rs a_rc e_ln e_pa e_at e_fp)), (a_tk, (oc8 a_kd a_nm a_pl)), (a_kd, (arI G 401 f_kd)), (a_nm, (arI G 401 f_nm)), (a_rc, (arI G 400 f_rc))] sz)) 0 0 (va_A [(a_r, (oc4 a_tk a_rh a_rs a_rc e_ln e_pa e_at e_fp)), (a_tk, (oc8 a_kd a_nm a_pl)), (a_kd, (arI G 401 f_kd)), (a_nm, (arI G 401 f_nm)), (a_rc, (arI G 400 f_rc))] sz) := r_sum 4 96 6 ⟨by decide, by decide⟩ (fun x hx _ l G a_r a_tk a_kd a_nm a_rc a_rh a_rs a_pl sz e_ln e_pa e_at e_fp f_kd f_nm f_rc h_e_ln h_e_pa h_e_at e_tk e_cd => by have e : x = 7 := g5_toc (n := 7) (by decide) (hx.trans (by decide)); subst e; exact r_sum7 l G a_r a_tk a_kd a_nm a_rc a_rh a_rs a_pl sz e_ln e_pa e_at e_fp f_kd f_nm f_rc h_e_ln h_e_pa h_e_at e_tk e_cd) l G a_r a_tk a_kd a_nm a_rc a_rh a_rs a_pl sz e_ln e_pa e_at e_fp f_kd f_nm f_rc h_e_ln h_e_pa h_e_at e_tk e_cd
theorem r_test6 (l : Launch) (G : g5_G) (a_r a_tk a_kd a_nm a_rc a_rh a_rs a_pl : Nat) (sz : Nat) (e_ln : Int32) (e_pa : Int32) (e_at : Int32) (e_fp : Int32) (f_kd : Nat → Int32) (f_nm : Nat → Int32) (f_rc : Nat → Int32) (h_e_ln : 0 ≤ e_ln.toInt ∧ e_ln.toInt ≤ 400) (h_e_pa : 0 ≤ e_pa.toInt ∧ e_pa.toInt ≤ 50) (h_e_at : 0 ≤ e_at.toInt ∧ e_at.toInt ≤ 401) (e_tk : TOKI f_kd f_nm) (e_cd : CDI f_rc e_ln.toInt) : Met l yX4_readTest (wsG yX4_readTest cX4_readTest 6 (some .boolean)) ({ frames := 4 + 10 + 4, cells := 0, slots := 0, locals := 96 + 240 + 96 }) (va_Pc [.ref a_r, .int 6] (g5_P G [(a_r, (oc4 a_tk a_rh a_rs a_rc e_ln e_pa e_at e_fp)), (a_tk, (oc8 a_kd a_nm a_pl)), (a_kd, (arI G 401 f_kd)), (a_nm, (arI G 401 f_nm)), (a_rc, (arI G 400 f_rc))] sz)) (va_Qi (fun (r : Int32) (u : va_W) => (∃ (o_r : Int32) (o_ln : Int32) (o_pa : Int32) (o_at : Int32) (o_rc : Nat → Int32), (0 ≤ o_r.toInt ∧ o_r.toInt ≤ 1) ∧ (e_ln.toInt ≤ o_ln.toInt ∧ o_ln.toInt ≤ 400) ∧ (0 ≤ o_at.toInt ∧ o_at.toInt ≤ 401) ∧ (0 ≤ o_pa.toInt ∧ o_pa.toInt ≤ 50) ∧ (CDI o_rc o_ln.toInt) ∧ (OPK f_rc o_rc e_ln.toInt) ∧ (r = o_r) ∧ (u = [(a_r, (oc4 a_tk a_rh a_rs a_rc o_ln o_pa o_at e_fp)), (a_tk, (oc8 a_kd a_nm a_pl)), (a_kd, (arI G 401 f_kd)), (a_nm, (arI G 401 f_nm)), (a_rc, (arI G 400 o_rc))]))) (g5_B G (va_A [(a_r, (oc4 a_tk a_rh a_rs a_rc e_ln e_pa e_at e_fp)), (a_tk, (oc8 a_kd a_nm a_pl)), (a_kd, (arI G 401 f_kd)), (a_nm, (arI G 401 f_nm)), (a_rc, (arI G 400 f_rc))] sz)) (va_A [(a_r, (oc4 a_tk a_rh a_rs a_rc e_ln e_pa e_at e_fp)), (a_tk, (oc8 a_kd a_nm a_pl)), (a_kd, (arI G 401 f_kd)), (a_nm, (arI G 401 f_nm)), (a_rc, (arI G 400 f_rc))] sz)) 0 0 (va_A [(a_r, (oc4 a_tk a_rh a_rs a_rc e_ln e_pa e_at e_fp)), (a_tk, (oc8 a_kd a_nm a_pl)), (a_kd, (arI G 401 f_kd)), (a_nm, (arI G 401 f_nm)), (a_rc, (arI G 400 f_rc))] sz) := r_test 4 96 10 240 6 ⟨by decide, by decide⟩ (fun x hx _ l G a_r a_tk a_kd a_nm a_rc a_rh a_rs a_pl sz e_ln e_pa e_at e_fp f_kd f_nm f_rc h_e_ln h_e_pa h_e_at e_tk e_cd => by have e : x = 7 := g5_toc (n := 7) (by decide) (hx.trans (by decide)); subst e; exact r_sum7 l G a_r a_tk a_kd a_nm a_rc a_rh a_rs a_pl sz e_ln e_pa e_at e_fp f_kd f_nm f_rc h_e_ln h_e_pa h_e_at e_tk e_cd) (fun x hx _ l G a_r a_tk a_kd a_nm a_rc a_rh a_rs a_pl sz e_ln e_pa e_at e_fp f_kd f_nm f_rc h_e_ln h_e_pa h_e_at e_tk e_cd => by have e : x = 7 := g5_toc (n := 7) (by decide) (hx.trans (by decide)); subst e; exact r_test7 l G a_r a_tk a_kd a_nm a_rc a_rh a_rs a_pl sz e_ln e_pa e_at e_fp f_kd f_nm f_rc h_e_ln h_e_pa h_e_at e_tk e_cd) l G a_r a_tk a_kd a_nm a_rc a_rh a_rs a_pl sz e_ln e_pa e_at e_fp f_kd f_nm f_rc h_e_ln h_e_pa h_e_at e_tk e_cd
theorem r_sum5 (l : Launch) (G : g5_G) (a_r a_tk a_kd a_nm a_rc a_rh a_rs a_pl : Nat) (sz : Nat) (e_ln : Int32) (e_pa : Int32) (e_at : Int32) (e_fp : Int32) (f_kd : Nat → Int32) (f_nm : Nat → Int32) (f_rc : Nat → Int32) (h_e_ln : 0 ≤ e_ln.toInt ∧ e_ln.toInt ≤ 400) (h_e_pa : 0 ≤ e_pa.toInt ∧ e_pa.toInt ≤ 50) (h_e_at : 0 ≤ e_at.toInt ∧ e_at.toInt ≤ 401) (e_tk : TOKI f_kd f_nm) (e_cd : CDI f_rc e_ln.toInt) : Met l yX4_readSum (wsG yX4_readSum cX4_readSum 6 (some .boolean)) ({ frames := 6 + 2, cells := 0, slots := 0, locals := 144 + 48 }) (va_Pc [.ref a_r, .int 5] (g5_P G [(a_r, (oc4 a_tk a_rh a_rs a_rc e_ln e_pa e_at e_fp)), (a_tk, (oc8 a_kd a_nm a_pl)), (a_kd, (arI G 401 f_kd)), (a_nm, (arI G 401 f_nm)), (a_rc, (arI G 400 f_rc))] sz)) (va_Qi (fun (r : Int32) (u : va_W) => (∃ (o_r : Int32) (o_ln : Int32) (o_pa : Int32) (o_at : Int32) (o_rc : Nat → Int32), (0 ≤ o_r.toInt ∧ o_r.toInt ≤ 1) ∧ (e_ln.toInt ≤ o_ln.toInt ∧ o_ln.toInt ≤ 400) ∧ (0 ≤ o_at.toInt ∧ o_at.toInt ≤ 401) ∧ (0 ≤ o_pa.toInt ∧ o_pa.toInt ≤ 50) ∧ (CDI o_rc o_ln.toInt) ∧ (OPK f_rc o_rc e_ln.toInt) ∧ (r = o_r) ∧ (u = [(a_r, (oc4 a_tk a_rh a_rs a_rc o_ln o_pa o_at e_fp)), (a_tk, (oc8 a_kd a_nm a_pl)), (a_kd, (arI G 401 f_kd)), (a_nm, (arI G 401 f_nm)), (a_rc, (arI G 400 o_rc))]))) (g5_B G (va_A [(a_r, (oc4 a_tk a_rh a_rs a_rc e_ln e_pa e_at e_fp)), (a_tk, (oc8 a_kd a_nm a_pl)), (a_kd, (arI G 401 f_kd)), (a_nm, (arI G 401 f_nm)), (a_rc, (arI G 400 f_rc))] sz)) (va_A [(a_r, (oc4 a_tk a_rh a_rs a_rc e_ln e_pa e_at e_fp)), (a_tk, (oc8 a_kd a_nm a_pl)), (a_kd, (arI G 401 f_kd)), (a_nm, (arI G 401 f_nm)), (a_rc, (arI G 400 f_rc))] sz)) 0 0 (va_A [(a_r, (oc4 a_tk a_rh a_rs a_rc e_ln e_pa e_at e_fp)), (a_tk, (oc8 a_kd a_nm a_pl)), (a_kd, (arI G 401 f_kd)), (a_nm, (arI G 401 f_nm)), (a_rc, (arI G 400 f_rc))] sz) := r_sum 6 144 5 ⟨by decide, by decide⟩ (fun x hx _ l G a_r a_tk a_kd a_nm a_rc a_rh a_rs a_pl sz e_ln e_pa e_at e_fp f_kd f_nm f_rc h_e_ln h_e_pa h_e_at e_tk e_cd => by have e : x = 6 := g5_toc (n := 6) (by decide) (hx.trans (by decide)); subst e; exact r_sum6 l G a_r a_tk a_kd a_nm a_rc a_rh a_rs a_pl sz e_ln e_pa e_at e_fp f_kd f_nm f_rc h_e_ln h_e_pa h_e_at e_tk e_cd) l G a_r a_tk a_kd a_nm a_rc a_rh a_rs a_pl sz e_ln e_pa e_at e_fp f_kd f_nm f_rc h_e_ln h_e_pa h_e_at e_tk e_cd
theorem r_test5 (l : Launch) (G : g5_G) (a_r a_tk a_kd a_nm a_rc a_rh a_rs a_pl : Nat) (sz : Nat) (e_ln : Int32) (e_pa : Int32) (e_at : Int32) (e_fp : Int32) (f_kd : Nat → Int32) (f_nm : Nat → Int32) (f_rc : Nat → Int32) (h_e_ln : 0 ≤ e_ln.toInt ∧ e_ln.toInt ≤ 400) (h_e_pa : 0 ≤ e_pa.toInt ∧ e_pa.toInt ≤ 50) (h_e_at : 0 ≤ e_at.toInt ∧ e_at.toInt ≤ 401) (e_tk : TOKI f_kd f_nm) (e_cd : CDI f_rc e_ln.toInt) : Met l yX4_readTest (wsG yX4_readTest cX4_readTest 6 (some .boolean)) ({ frames := 6 + 18 + 4, cells := 0, slots := 0, locals := 144 + 432 + 96 }) (va_Pc [.ref a_r, .int 5] (g5_P G [(a_r, (oc4 a_tk a_rh a_rs a_rc e_ln e_pa e_at e_fp)), (a_tk, (oc8 a_kd a_nm a_pl)), (a_kd, (arI G 401 f_kd)), (a_nm, (arI G 401 f_nm)), (a_rc, (arI G 400 f_rc))] sz)) (va_Qi (fun (r : Int32) (u : va_W) => (∃ (o_r : Int32) (o_ln : Int32) (o_pa : Int32) (o_at : Int32) (o_rc : Nat → Int32), (0 ≤ o_r.toInt ∧ o_r.toInt ≤ 1) ∧ (e_ln.toInt ≤ o_ln.toInt ∧ o_ln.toInt ≤ 400) ∧ (0 ≤ o_at.toInt ∧ o_at.toInt ≤ 401) ∧ (0 ≤ o_pa.toInt ∧ o_pa.toInt ≤ 50) ∧ (CDI o_rc o_ln.toInt) ∧ (OPK f_rc o_rc e_ln.toInt) ∧ (r = o_r) ∧ (u = [(a_r, (oc4 a_tk a_rh a_rs a_rc o_ln o_pa o_at e_fp)), (a_tk, (oc8 a_kd a_nm a_pl)), (a_kd, (arI G 401 f_kd)), (a_nm, (arI G 401 f_nm)), (a_rc, (arI G 400 o_rc))]))) (g5_B G (va_A [(a_r, (oc4 a_tk a_rh a_rs a_rc e_ln e_pa e_at e_fp)), (a_tk, (oc8 a_kd a_nm a_pl)), (a_kd, (arI G 401 f_kd)), (a_nm, (arI G 401 f_nm)), (a_rc, (arI G 400 f_rc))] sz)) (va_A [(a_r, (oc4 a_tk a_rh a_rs a_rc e_ln e_pa e_at e_fp)), (a_tk, (oc8 a_kd a_nm a_pl)), (a_kd, (arI G 401 f_kd)), (a_nm, (arI G 401 f_nm)), (a_rc, (arI G 400 f_rc))] sz)) 0 0 (va_A [(a_r, (oc4 a_tk a_rh a_rs a_rc e_ln e_pa e_at e_fp)), (a_tk, (oc8 a_kd a_nm a_pl)), (a_kd, (arI G 401 f_kd)), (a_nm, (arI G 401 f_nm)), (a_rc, (arI G 400 f_rc))] sz) := r_test 6 144 18 432 5 ⟨by decide, by decide⟩ (fun x hx _ l G a_r a_tk a_kd a_nm a_rc a_rh a_rs a_pl sz e_ln e_pa e_at e_fp f_kd f_nm f_rc h_e_ln h_e_pa h_e_at e_tk e_cd => by have e : x = 6 := g5_toc (n := 6) (by decide) (hx.trans (by decide)); subst e; exact r_sum6 l G a_r a_tk a_kd a_nm a_rc a_rh a_rs a_pl sz e_ln e_pa e_at e_fp f_kd f_nm f_rc h_e_ln h_e_pa h_e_at e_tk e_cd) (fun x hx _ l G a_r a_tk a_kd a_nm a_rc a_rh a_rs a_pl sz e_ln e_pa e_at e_fp f_kd f_nm f_rc h_e_ln h_e_pa h_e_at e_tk e_cd => by have e : x = 6 := g5_toc (n := 6) (by decide) (hx.trans (by decide)); subst e; exact r_test6 l G a_r a_tk a_kd a_nm a_rc a_rh a_rs a_pl sz e_ln e_pa e_at e_fp f_kd f_nm f_rc h_e_ln h_e_pa h_e_at e_tk e_cd) l G a_r a_tk a_kd a_nm a_rc a_rh a_rs a_pl sz e_ln e_pa e_at e_fp f_kd f_nm f_rc h_e_ln h_e_pa h_e_at e_tk e_cd
theorem r_sum4 (l : Launch) (G : g5_G) (a_r a_tk a_kd a_nm a_rc a_rh a_rs a_pl : Nat) (sz : Nat) (e_ln : Int32) (e_pa : Int32) (e_at : Int32) (e_fp : Int32) (f_kd : Nat → Int32) (f_nm : Nat → Int32) (f_rc : Nat → Int32) (h_e_ln : 0 ≤ e_ln.toInt ∧ e_ln.toInt ≤ 400) (h_e_pa : 0 ≤ e_pa.toInt ∧ e_pa.toInt ≤ 50) (h_e_at : 0 ≤ e_at.toInt ∧ e_at.toInt ≤ 401) (e_tk : TOKI f_kd f_nm) (e_cd : CDI f_rc e_ln.toInt) : Met l yX4_readSum (wsG yX4_readSum cX4_readSum 6 (some .boolean)) ({ frames := 8 + 2, cells := 0, slots := 0, locals := 192 + 48 }) (va_Pc [.ref a_r, .int 4] (g5_P G [(a_r, (oc4 a_tk a_rh a_rs a_rc e_ln e_pa e_at e_fp)), (a_tk, (oc8 a_kd a_nm a_pl)), (a_kd, (arI G 401 f_kd)), (a_nm, (arI G 401 f_nm)), (a_rc, (arI G 400 f_rc))] sz)) (va_Qi (fun (r : Int32) (u : va_W) => (∃ (o_r : Int32) (o_ln : Int32) (o_pa : Int32) (o_at : Int32) (o_rc : Nat → Int32), (0 ≤ o_r.toInt ∧ o_r.toInt ≤ 1) ∧ (e_ln.toInt ≤ o_ln.toInt ∧ o_ln.toInt ≤ 400) ∧ (0 ≤ o_at.toInt ∧ o_at.toInt ≤ 401) ∧ (0 ≤ o_pa.toInt ∧ o_pa.toInt ≤ 50) ∧ (CDI o_rc o_ln.toInt) ∧ (OPK f_rc o_rc e_ln.toInt) ∧ (r = o_r) ∧ (u = [(a_r, (oc4 a_tk a_rh a_rs a_rc o_ln o_pa o_at e_fp)), (a_tk, (oc8 a_kd a_nm a_pl)), (a_kd, (arI G 401 f_kd)), (a_nm, (arI G 401 f_nm)), (a_rc, (arI G 400 o_rc))]))) (g5_B G (va_A [(a_r, (oc4 a_tk a_rh a_rs a_rc e_ln e_pa e_at e_fp)), (a_tk, (oc8 a_kd a_nm a_pl)), (a_kd, (arI G 401 f_kd)), (a_nm, (arI G 401 f_nm)), (a_rc, (arI G 400 f_rc))] sz)) (va_A [(a_r, (oc4 a_tk a_rh a_rs a_rc e_ln e_pa e_at e_fp)), (a_tk, (oc8 a_kd a_nm a_pl)), (a_kd, (arI G 401 f_kd)), (a_nm, (arI G 401 f_nm)), (a_rc, (arI G 400 f_rc))] sz)) 0 0 (va_A [(a_r, (oc4 a_tk a_rh a_rs a_rc e_ln e_pa e_at e_fp)), (a_tk, (oc8 a_kd a_nm a_pl)), (a_kd, (arI G 401 f_kd)), (a_nm, (arI G 401 f_nm)), (a_rc, (arI G 400 f_rc))] sz) := r_sum 8 192 4 ⟨by decide, by decide⟩ (fun x hx _ l G a_r a_tk a_kd a_nm a_rc a_rh a_rs a_pl sz e_ln e_pa e_at e_fp f_kd f_nm f_rc h_e_ln h_e_pa h_e_at e_tk e_cd => by have e : x = 5 := g5_toc (n := 5) (by decide) (hx.trans (by decide)); subst e; exact r_sum5 l G a_r a_tk a_kd a_nm a_rc a_rh a_rs a_pl sz e_ln e_pa e_at e_fp f_kd f_nm f_rc h_e_ln h_e_pa h_e_at e_tk e_cd) l G a_r a_tk a_kd a_nm a_rc a_rh a_rs a_pl sz e_ln e_pa e_at e_fp f_kd f_nm f_rc h_e_ln h_e_pa h_e_at e_tk e_cd
theorem r_test4 (l : Launch) (G : g5_G) (a_r a_tk a_kd a_nm a_rc a_rh a_rs a_pl : Nat) (sz : Nat) (e_ln : Int32) (e_pa : Int32) (e_at : Int32) (e_fp : Int32) (f_kd : Nat → Int32) (f_nm : Nat → Int32) (f_rc : Nat → Int32) (h_e_ln : 0 ≤ e_ln.toInt ∧ e_ln.toInt ≤ 400) (h_e_pa : 0 ≤ e_pa.toInt ∧ e_pa.toInt ≤ 50) (h_e_at : 0 ≤ e_at.toInt ∧ e_at.toInt ≤ 401) (e_tk : TOKI f_kd f_nm) (e_cd : CDI f_rc e_ln.toInt) : Met l yX4_readTest (wsG yX4_readTest cX4_readTest 6 (some .boolean)) ({ frames := 8 + 28 + 4, cells := 0, slots := 0, locals := 192 + 672 + 96 }) (va_Pc [.ref a_r, .int 4] (g5_P G [(a_r, (oc4 a_tk a_rh a_rs a_rc e_ln e_pa e_at e_fp)), (a_tk, (oc8 a_kd a_nm a_pl)), (a_kd, (arI G 401 f_kd)), (a_nm, (arI G 401 f_nm)), (a_rc, (arI G 400 f_rc))] sz)) (va_Qi (fun (r : Int32) (u : va_W) => (∃ (o_r : Int32) (o_ln : Int32) (o_pa : Int32) (o_at : Int32) (o_rc : Nat → Int32), (0 ≤ o_r.toInt ∧ o_r.toInt ≤ 1) ∧ (e_ln.toInt ≤ o_ln.toInt ∧ o_ln.toInt ≤ 400) ∧ (0 ≤ o_at.toInt ∧ o_at.toInt ≤ 401) ∧ (0 ≤ o_pa.toInt ∧ o_pa.toInt ≤ 50) ∧ (CDI o_rc o_ln.toInt) ∧ (OPK f_rc o_rc e_ln.toInt) ∧ (r = o_r) ∧ (u = [(a_r, (oc4 a_tk a_rh a_rs a_rc o_ln o_pa o_at e_fp)), (a_tk, (oc8 a_kd a_nm a_pl)), (a_kd, (arI G 401 f_kd)), (a_nm, (arI G 401 f_nm)), (a_rc, (arI G 400 o_rc))]))) (g5_B G (va_A [(a_r, (oc4 a_tk a_rh a_rs a_rc e_ln e_pa e_at e_fp)), (a_tk, (oc8 a_kd a_nm a_pl)), (a_kd, (arI G 401 f_kd)), (a_nm, (arI G 401 f_nm)), (a_rc, (arI G 400 f_rc))] sz)) (va_A [(a_r, (oc4 a_tk a_rh a_rs a_rc e_ln e_pa e_at e_fp)), (a_tk, (oc8 a_kd a_nm a_pl)), (a_kd, (arI G 401 f_kd)), (a_nm, (arI G 401 f_nm)), (a_rc, (arI G 400 f_rc))] sz)) 0 0 (va_A [(a_r, (oc4 a_tk a_rh a_rs a_rc e_ln e_pa e_at e_fp)), (a_tk, (oc8 a_kd a_nm a_pl)), (a_kd, (arI G 401 f_kd)), (a_nm, (arI G 401 f_nm)), (a_rc, (arI G 400 f_rc))] sz) := r_test 8 192 28 672 4 ⟨by decide, by decide⟩ (fun x hx _ l G a_r a_tk a_kd a_nm a_rc a_rh a_rs a_pl sz e_ln e_pa e_at e_fp f_kd f_nm f_rc h_e_ln h_e_pa h_e_at e_tk e_cd => by have e : x = 5 := g5_toc (n := 5) (by decide) (hx.trans (by decide)); subst e; exact r_sum5 l G a_r a_tk a_kd a_nm a_rc a_rh a_rs a_pl sz e_ln e_pa e_at e_fp f_kd f_nm f_rc h_e_ln h_e_pa h_e_at e_tk e_cd) (fun x hx _ l G a_r a_tk a_kd a_nm a_rc a_rh a_rs a_pl sz e_ln e_pa e_at e_fp f_kd f_nm f_rc h_e_ln h_e_pa h_e_at e_tk e_cd => by have e : x = 5 := g5_toc (n := 5) (by decide) (hx.trans (by decide)); subst e; exact r_test5 l G a_r a_tk a_kd a_nm a_rc a_rh a_rs a_pl sz e_ln e_pa e_at e_fp f_kd f_nm f_rc h_e_ln h_e_pa h_e_at e_tk e_cd) l G a_r a_tk a_kd a_nm a_rc a_rh a_rs a_pl sz e_ln e_pa e_at e_fp f_kd f_nm f_rc h_e_ln h_e_pa h_e_at e_tk e_cd
theorem r_sum3 (l : Launch) (G : g5_G) (a_r a_tk a_kd a_nm a_rc a_rh a_rs a_pl : Nat) (sz : Nat) (e_ln : Int32) (e_pa : Int32) (e_at : Int32) (e_fp : Int32) (f_kd : Nat → Int32) (f_nm : Nat → Int32) (f_rc : Nat → Int32) (h_e_ln : 0 ≤ e_ln.toInt ∧ e_ln.toInt ≤ 400) (h_e_pa : 0 ≤ e_pa.toInt ∧ e_pa.toInt ≤ 50) (h_e_at : 0 ≤ e_at.toInt ∧ e_at.toInt ≤ 401) (e_tk : TOKI f_kd f_nm) (e_cd : CDI f_rc e_ln.toInt) : Met l yX4_readSum (wsG yX4_readSum cX4_readSum 6 (some .boolean)) ({ frames := 10 + 2, cells := 0, slots := 0, locals := 240 + 48 }) (va_Pc [.ref a_r, .int 3] (g5_P G [(a_r, (oc4 a_tk a_rh a_rs a_rc e_ln e_pa e_at e_fp)), (a_tk, (oc8 a_kd a_nm a_pl)), (a_kd, (arI G 401 f_kd)), (a_nm, (arI G 401 f_nm)), (a_rc, (arI G 400 f_rc))] sz)) (va_Qi (fun (r : Int32) (u : va_W) => (∃ (o_r : Int32) (o_ln : Int32) (o_pa : Int32) (o_at : Int32) (o_rc : Nat → Int32), (0 ≤ o_r.toInt ∧ o_r.toInt ≤ 1) ∧ (e_ln.toInt ≤ o_ln.toInt ∧ o_ln.toInt ≤ 400) ∧ (0 ≤ o_at.toInt ∧ o_at.toInt ≤ 401) ∧ (0 ≤ o_pa.toInt ∧ o_pa.toInt ≤ 50) ∧ (CDI o_rc o_ln.toInt) ∧ (OPK f_rc o_rc e_ln.toInt) ∧ (r = o_r) ∧ (u = [(a_r, (oc4 a_tk a_rh a_rs a_rc o_ln o_pa o_at e_fp)), (a_tk, (oc8 a_kd a_nm a_pl)), (a_kd, (arI G 401 f_kd)), (a_nm, (arI G 401 f_nm)), (a_rc, (arI G 400 o_rc))]))) (g5_B G (va_A [(a_r, (oc4 a_tk a_rh a_rs a_rc e_ln e_pa e_at e_fp)), (a_tk, (oc8 a_kd a_nm a_pl)), (a_kd, (arI G 401 f_kd)), (a_nm, (arI G 401 f_nm)), (a_rc, (arI G 400 f_rc))] sz)) (va_A [(a_r, (oc4 a_tk a_rh a_rs a_rc e_ln e_pa e_at e_fp)), (a_tk, (oc8 a_kd a_nm a_pl)), (a_kd, (arI G 401 f_kd)), (a_nm, (arI G 401 f_nm)), (a_rc, (arI G 400 f_rc))] sz)) 0 0 (va_A [(a_r, (oc4 a_tk a_rh a_rs a_rc e_ln e_pa e_at e_fp)), (a_tk, (oc8 a_kd a_nm a_pl)), (a_kd, (arI G 401 f_kd)), (a_nm, (arI G 401 f_nm)), (a_rc, (arI G 400 f_rc))] sz) := r_sum 10 240 3 ⟨by decide, by decide⟩ (fun x hx _ l G a_r a_tk a_kd a_nm a_rc a_rh a_rs a_pl sz e_ln e_pa e_at e_fp f_kd f_nm f_rc h_e_ln h_e_pa h_e_at e_tk e_cd => by have e : x = 4 := g5_toc (n := 4) (by decide) (hx.trans (by decide)); subst e; exact r_sum4 l G a_r a_tk a_kd a_nm a_rc a_rh a_rs a_pl sz e_ln e_pa e_at e_fp f_kd f_nm f_rc h_e_ln h_e_pa h_e_at e_tk e_cd) l G a_r a_tk a_kd a_nm a_rc a_rh a_rs a_pl sz e_ln e_pa e_at e_fp f_kd f_nm f_rc h_e_ln h_e_pa h_e_at e_tk e_cd
theorem r_test3 (l : Launch) (G : g5_G) (a_r a_tk a_kd a_nm a_rc a_rh a_rs a_pl : Nat) (sz : Nat) (e_ln : Int32) (e_pa : Int32) (e_at : Int32) (e_fp : Int32) (f_kd : Nat → Int32) (f_nm : Nat → Int32) (f_rc : Nat → Int32) (h_e_ln : 0 ≤ e_ln.toInt ∧ e_ln.toInt ≤ 400) (h_e_pa : 0 ≤ e_pa.toInt ∧ e_pa.toInt ≤ 50) (h_e_at : 0 ≤ e_at.toInt ∧ e_at.toInt ≤ 401) (e_tk : TOKI f_kd f_nm) (e_cd : CDI f_rc e_ln.toInt) : Met l yX4_readTest (wsG yX4_readTest cX4_readTest 6 (some .boolean)) ({ frames := 10 + 40 + 4, cells := 0, slots := 0, locals := 240 + 960 + 96 }) (va_Pc [.ref a_r, .int 3] (g5_P G [(a_r, (oc4 a_tk a_rh a_rs a_rc e_ln e_pa e_at e_fp)), (a_tk, (oc8 a_kd a_nm a_pl)), (a_kd, (arI G 401 f_kd)), (a_nm, (arI G 401 f_nm)), (a_rc, (arI G 400 f_rc))] sz)) (va_Qi (fun (r : Int32) (u : va_W) => (∃ (o_r : Int32) (o_ln : Int32) (o_pa : Int32) (o_at : Int32) (o_rc : Nat → Int32), (0 ≤ o_r.toInt ∧ o_r.toInt ≤ 1) ∧ (e_ln.toInt ≤ o_ln.toInt ∧ o_ln.toInt ≤ 400) ∧ (0 ≤ o_at.toInt ∧ o_at.toInt ≤ 401) ∧ (0 ≤ o_pa.toInt ∧ o_pa.toInt ≤ 50) ∧ (CDI o_rc o_ln.toInt) ∧ (OPK f_rc o_rc e_ln.toInt) ∧ (r = o_r) ∧ (u = [(a_r, (oc4 a_tk a_rh a_rs a_rc o_ln o_pa o_at e_fp)), (a_tk, (oc8 a_kd a_nm a_pl)), (a_kd, (arI G 401 f_kd)), (a_nm, (arI G 401 f_nm)), (a_rc, (arI G 400 o_rc))]))) (g5_B G (va_A [(a_r, (oc4 a_tk a_rh a_rs a_rc e_ln e_pa e_at e_fp)), (a_tk, (oc8 a_kd a_nm a_pl)), (a_kd, (arI G 401 f_kd)), (a_nm, (arI G 401 f_nm)), (a_rc, (arI G 400 f_rc))] sz)) (va_A [(a_r, (oc4 a_tk a_rh a_rs a_rc e_ln e_pa e_at e_fp)), (a_tk, (oc8 a_kd a_nm a_pl)), (a_kd, (arI G 401 f_kd)), (a_nm, (arI G 401 f_nm)), (a_rc, (arI G 400 f_rc))] sz)) 0 0 (va_A [(a_r, (oc4 a_tk a_rh a_rs a_rc e_ln e_pa e_at e_fp)), (a_tk, (oc8 a_kd a_nm a_pl)), (a_kd, (arI G 401 f_kd)), (a_nm, (arI G 401 f_nm)), (a_rc, (arI G 400 f_rc))] sz) := r_test 10 240 40 960 3 ⟨by decide, by decide⟩ (fun x hx _ l G a_r a_tk a_kd a_nm a_rc a_rh a_rs a_pl sz e_ln e_pa e_at e_fp f_kd f_nm f_rc h_e_ln h_e_pa h_e_at e_tk e_cd => by have e : x = 4 := g5_toc (n := 4) (by decide) (hx.trans (by decide)); subst e; exact r_sum4 l G a_r a_tk a_kd a_nm a_rc a_rh a_rs a_pl sz e_ln e_pa e_at e_fp f_kd f_nm f_rc h_e_ln h_e_pa h_e_at e_tk e_cd) (fun x hx _ l G a_r a_tk a_kd a_nm a_rc a_rh a_rs a_pl sz e_ln e_pa e_at e_fp f_kd f_nm f_rc h_e_ln h_e_pa h_e_at e_tk e_cd => by have e : x = 4 := g5_toc (n := 4) (by decide) (hx.trans (by decide)); subst e; exact r_test4 l G a_r a_tk a_kd a_nm a_rc a_rh a_rs a_pl sz e_ln e_pa e_at e_fp f_kd f_nm f_rc h_e_ln h_e_pa h_e_at e_tk e_cd) l G a_r a_tk a_kd a_nm a_rc a_rh a_rs a_pl sz e_ln e_pa e_at e_fp f_kd f_nm f_rc h_e_ln h_e_pa h_e_at e_tk e_cd
theorem r_sum2 (l : Launch) (G : g5_G) (a_r a_tk a_kd a_nm a_rc a_rh a_rs a_pl : Nat) (sz : Nat) (e_ln : Int32) (e_pa : Int32) (e_at : Int32) (e_fp : Int32) (f_kd : Nat → Int32) (f_nm : Nat → Int32) (f_rc : Nat → Int32) (h_e_ln : 0 ≤ e_ln.toInt ∧ e_ln.toInt ≤ 400) (h_e_pa : 0 ≤ e_pa.toInt ∧ e_pa.toInt ≤ 50) (h_e_at : 0 ≤ e_at.toInt ∧ e_at.toInt ≤ 401) (e_tk : TOKI f_kd f_nm) (e_cd : CDI f_rc e_ln.toInt) : Met l yX4_readSum (wsG yX4_readSum cX4_readSum 6 (some .boolean)) ({ frames := 12 + 2, cells := 0, slots := 0, locals := 288 + 48 }) (va_Pc [.ref a_r, .int 2] (g5_P G [(a_r, (oc4 a_tk a_rh a_rs a_rc e_ln e_pa e_at e_fp)), (a_tk, (oc8 a_kd a_nm a_pl)), (a_kd, (arI G 401 f_kd)), (a_nm, (arI G 401 f_nm)), (a_rc, (arI G 400 f_rc))] sz)) (va_Qi (fun (r : Int32) (u : va_W) => (∃ (o_r : Int32) (o_ln : Int32) (o_pa : Int32) (o_at : Int32) (o_rc : Nat → Int32), (0 ≤ o_r.toInt ∧ o_r.toInt ≤ 1) ∧ (e_ln.toInt ≤ o_ln.toInt ∧ o_ln.toInt ≤ 400) ∧ (0 ≤ o_at.toInt ∧ o_at.toInt ≤ 401) ∧ (0 ≤ o_pa.toInt ∧ o_pa.toInt ≤ 50) ∧ (CDI o_rc o_ln.toInt) ∧ (OPK f_rc o_rc e_ln.toInt) ∧ (r = o_r) ∧ (u = [(a_r, (oc4 a_tk a_rh a_rs a_rc o_ln o_pa o_at e_fp)), (a_tk, (oc8 a_kd a_nm a_pl)), (a_kd, (arI G 401 f_kd)), (a_nm, (arI G 401 f_nm)), (a_rc, (arI G 400 o_rc))]))) (g5_B G (va_A [(a_r, (oc4 a_tk a_rh a_rs a_rc e_ln e_pa e_at e_fp)), (a_tk, (oc8 a_kd a_nm a_pl)), (a_kd, (arI G 401 f_kd)), (a_nm, (arI G 401 f_nm)), (a_rc, (arI G 400 f_rc))] sz)) (va_A [(a_r, (oc4 a_tk a_rh a_rs a_rc e_ln e_pa e_at e_fp)), (a_tk, (oc8 a_kd a_nm a_pl)), (a_kd, (arI G 401 f_kd)), (a_nm, (arI G 401 f_nm)), (a_rc, (arI G 400 f_rc))] sz)) 0 0 (va_A [(a_r, (oc4 a_tk a_rh a_rs a_rc e_ln e_pa e_at e_fp)), (a_tk, (oc8 a_kd a_nm a_pl)), (a_kd, (arI G 401 f_kd)), (a_nm, (arI G 401 f_nm)), (a_rc, (arI G 400 f_rc))] sz) := r_sum 12 288 2 ⟨by decide, by decide⟩ (fun x hx _ l G a_r a_tk a_kd a_nm a_rc a_rh a_rs a_pl sz e_ln e_pa e_at e_fp f_kd f_nm f_rc h_e_ln h_e_pa h_e_at e_tk e_cd => by have e : x = 3 := g5_toc (n := 3) (by decide) (hx.trans (by decide)); subst e; exact r_sum3 l G a_r a_tk a_kd a_nm a_rc a_rh a_rs a_pl sz e_ln e_pa e_at e_fp f_kd f_nm f_rc h_e_ln h_e_pa h_e_at e_tk e_cd) l G a_r a_tk a_kd a_nm a_rc a_rh a_rs a_pl sz e_ln e_pa e_at e_fp f_kd f_nm f_rc h_e_ln h_e_pa h_e_at e_tk e_cd
theorem r_test2 (l : Launch) (G : g5_G) (a_r a_tk a_kd a_nm a_rc a_rh a_rs a_pl : Nat) (sz : Nat) (e_ln : Int32) (e_pa : Int32) (e_at : Int32) (e_fp : Int32) (f_kd : Nat → Int32) (f_nm : Nat → Int32) (f_rc : Nat → Int32) (h_e_ln : 0 ≤ e_ln.toInt ∧ e_ln.toInt ≤ 400) (h_e_pa : 0 ≤ e_pa.toInt ∧ e_pa.toInt ≤ 50) (h_e_at : 0 ≤ e_at.toInt ∧ e_at.toInt ≤ 401) (e_tk : TOKI f_kd f_nm) (e_cd : CDI f_rc e_ln.toInt) : Met l yX4_readTest (wsG yX4_readTest cX4_readTest 6 (some .boolean)) ({ frames := 12 + 54 + 4, cells := 0, slots := 0, locals := 288 + 1296 + 96 }) (va_Pc [.ref a_r, .int 2] (g5_P G [(a_r, (oc4 a_tk a_rh a_rs a_rc e_ln e_pa e_at e_fp)), (a_tk, (oc8 a_kd a_nm a_pl)), (a_kd, (arI G 401 f_kd)), (a_nm, (arI G 401 f_nm)), (a_rc, (arI G 400 f_rc))] sz)) (va_Qi (fun (r : Int32) (u : va_W) => (∃ (o_r : Int32) (o_ln : Int32) (o_pa : Int32) (o_at : Int32) (o_rc : Nat → Int32), (0 ≤ o_r.toInt ∧ o_r.toInt ≤ 1) ∧ (e_ln.toInt ≤ o_ln.toInt ∧ o_ln.toInt ≤ 400) ∧ (0 ≤ o_at.toInt ∧ o_at.toInt ≤ 401) ∧ (0 ≤ o_pa.toInt ∧ o_pa.toInt ≤ 50) ∧ (CDI o_rc o_ln.toInt) ∧ (OPK f_rc o_rc e_ln.toInt) ∧ (r = o_r) ∧ (u = [(a_r, (oc4 a_tk a_rh a_rs a_rc o_ln o_pa o_at e_fp)), (a_tk, (oc8 a_kd a_nm a_pl)), (a_kd, (arI G 401 f_kd)), (a_nm, (arI G 401 f_nm)), (a_rc, (arI G 400 o_rc))]))) (g5_B G (va_A [(a_r, (oc4 a_tk a_rh a_rs a_rc e_ln e_pa e_at e_fp)), (a_tk, (oc8 a_kd a_nm a_pl)), (a_kd, (arI G 401 f_kd)), (a_nm, (arI G 401 f_nm)), (a_rc, (arI G 400 f_rc))] sz)) (va_A [(a_r, (oc4 a_tk a_rh a_rs a_rc e_ln e_pa e_at e_fp)), (a_tk, (oc8 a_kd a_nm a_pl)), (a_kd, (arI G 401 f_kd)), (a_nm, (arI G 401 f_nm)), (a_rc, (arI G 400 f_rc))] sz)) 0 0 (va_A [(a_r, (oc4 a_tk a_rh a_rs a_rc e_ln e_pa e_at e_fp)), (a_tk, (oc8 a_kd a_nm a_pl)), (a_kd, (arI G 401 f_kd)), (a_nm, (arI G 401 f_nm)), (a_rc, (arI G 400 f_rc))] sz) := r_test 12 288 54 1296 2 ⟨by decide, by decide⟩ (fun x hx _ l G a_r a_tk a_kd a_nm a_rc a_rh a_rs a_pl sz e_ln e_pa e_at e_fp f_kd f_nm f_rc h_e_ln h_e_pa h_e_at e_tk e_cd => by have e : x = 3 := g5_toc (n := 3) (by decide) (hx.trans (by decide)); subst e; exact r_sum3 l G a_r a_tk a_kd a_nm a_rc a_rh a_rs a_pl sz e_ln e_pa e_at e_fp f_kd f_nm f_rc h_e_ln h_e_pa h_e_at e_tk e_cd) (fun x hx _ l G a_r a_tk a_kd a_nm a_rc a_rh a_rs a_pl sz e_ln e_pa e_at e_fp f_kd f_nm f_rc h_e_ln h_e_pa h_e_at e_tk e_cd => by have e : x = 3 := g5_toc (n := 3) (by decide) (hx.trans (by decide)); subst e; exact r_test3 l G a_r a_tk a_kd a_nm a_rc a_rh a_rs a_pl sz e_ln e_pa e_at e_fp f_kd f_nm f_rc h_e_ln h_e_pa h_e_at e_tk e_cd) l G a_r a_tk a_kd a_nm a_rc a_rh a_rs a_pl sz e_ln e_pa e_at e_fp f_kd f_nm f_rc h_e_ln h_e_pa h_e_at e_tk e_cd
theorem r_sum1 (l : Launch) (G : g5_G) (a_r a_tk a_kd a_nm a_rc a_rh a_rs a_pl : Nat) (sz : Nat) (e_ln : Int32) (e_pa : Int32) (e_at : Int32) (e_fp : Int32) (f_kd : Nat → Int32) (f_nm : Nat → Int32) (f_rc : Nat → Int32) (h_e_ln : 0 ≤ e_ln.toInt ∧ e_ln.toInt ≤ 400) (h_e_pa : 0 ≤ e_pa.toInt ∧ e_pa.toInt ≤ 50) (h_e_at : 0 ≤ e_at.toInt ∧ e_at.toInt ≤ 401) (e_tk : TOKI f_kd f_nm) (e_cd : CDI f_rc e_ln.toInt) : Met l yX4_readSum (wsG yX4_readSum cX4_readSum 6 (some .boolean)) ({ frames := 14 + 2, cells := 0, slots := 0, locals := 336 + 48 }) (va_Pc [.ref a_r, .int 1] (g5_P G [(a_r, (oc4 a_tk a_rh a_rs a_rc e_ln e_pa e_at e_fp)), (a_tk, (oc8 a_kd a_nm a_pl)), (a_kd, (arI G 401 f_kd)), (a_nm, (arI G 401 f_nm)), (a_rc, (arI G 400 f_rc))] sz)) (va_Qi (fun (r : Int32) (u : va_W) => (∃ (o_r : Int32) (o_ln : Int32) (o_pa : Int32) (o_at : Int32) (o_rc : Nat → Int32), (0 ≤ o_r.toInt ∧ o_r.toInt ≤ 1) ∧ (e_ln.toInt ≤ o_ln.toInt ∧ o_ln.toInt ≤ 400) ∧ (0 ≤ o_at.toInt ∧ o_at.toInt ≤ 401) ∧ (0 ≤ o_pa.toInt ∧ o_pa.toInt ≤ 50) ∧ (CDI o_rc o_ln.toInt) ∧ (OPK f_rc o_rc e_ln.toInt) ∧ (r = o_r) ∧ (u = [(a_r, (oc4 a_tk a_rh a_rs a_rc o_ln o_pa o_at e_fp)), (a_tk, (oc8 a_kd a_nm a_pl)), (a_kd, (arI G 401 f_kd)), (a_nm, (arI G 401 f_nm)), (a_rc, (arI G 400 o_rc))]))) (g5_B G (va_A [(a_r, (oc4 a_tk a_rh a_rs a_rc e_ln e_pa e_at e_fp)), (a_tk, (oc8 a_kd a_nm a_pl)), (a_kd, (arI G 401 f_kd)), (a_nm, (arI G 401 f_nm)), (a_rc, (arI G 400 f_rc))] sz)) (va_A [(a_r, (oc4 a_tk a_rh a_rs a_rc e_ln e_pa e_at e_fp)), (a_tk, (oc8 a_kd a_nm a_pl)), (a_kd, (arI G 401 f_kd)), (a_nm, (arI G 401 f_nm)), (a_rc, (arI G 400 f_rc))] sz)) 0 0 (va_A [(a_r, (oc4 a_tk a_rh a_rs a_rc e_ln e_pa e_at e_fp)), (a_tk, (oc8 a_kd a_nm a_pl)), (a_kd, (arI G 401 f_kd)), (a_nm, (arI G 401 f_nm)), (a_rc, (arI G 400 f_rc))] sz) := r_sum 14 336 1 ⟨by decide, by decide⟩ (fun x hx _ l G a_r a_tk a_kd a_nm a_rc a_rh a_rs a_pl sz e_ln e_pa e_at e_fp f_kd f_nm f_rc h_e_ln h_e_pa h_e_at e_tk e_cd => by have e : x = 2 := g5_toc (n := 2) (by decide) (hx.trans (by decide)); subst e; exact r_sum2 l G a_r a_tk a_kd a_nm a_rc a_rh a_rs a_pl sz e_ln e_pa e_at e_fp f_kd f_nm f_rc h_e_ln h_e_pa h_e_at e_tk e_cd) l G a_r a_tk a_kd a_nm a_rc a_rh a_rs a_pl sz e_ln e_pa e_at e_fp f_kd f_nm f_rc h_e_ln h_e_pa h_e_at e_tk e_cd
theorem r_test1 (l : Launch) (G : g5_G) (a_r a_tk a_kd a_nm a_rc a_rh a_rs a_pl : Nat) (sz : Nat) (e_ln : Int32) (e_pa : Int32) (e_at : Int32) (e_fp : Int32) (f_kd : Nat → Int32) (f_nm : Nat → Int32) (f_rc : Nat → Int32) (h_e_ln : 0 ≤ e_ln.toInt ∧ e_ln.toInt ≤ 400) (h_e_pa : 0 ≤ e_pa.toInt ∧ e_pa.toInt ≤ 50) (h_e_at : 0 ≤ e_at.toInt ∧ e_at.toInt ≤ 401) (e_tk : TOKI f_kd f_nm) (e_cd : CDI f_rc e_ln.toInt) : Met l yX4_readTest (wsG yX4_readTest cX4_readTest 6 (some .boolean)) ({ frames := 14 + 70 + 4, cells := 0, slots := 0, locals := 336 + 1680 + 96 }) (va_Pc [.ref a_r, .int 1] (g5_P G [(a_r, (oc4 a_tk a_rh a_rs a_rc e_ln e_pa e_at e_fp)), (a_tk, (oc8 a_kd a_nm a_pl)), (a_kd, (arI G 401 f_kd)), (a_nm, (arI G 401 f_nm)), (a_rc, (arI G 400 f_rc))] sz)) (va_Qi (fun (r : Int32) (u : va_W) => (∃ (o_r : Int32) (o_ln : Int32) (o_pa : Int32) (o_at : Int32) (o_rc : Nat → Int32), (0 ≤ o_r.toInt ∧ o_r.toInt ≤ 1) ∧ (e_ln.toInt ≤ o_ln.toInt ∧ o_ln.toInt ≤ 400) ∧ (0 ≤ o_at.toInt ∧ o_at.toInt ≤ 401) ∧ (0 ≤ o_pa.toInt ∧ o_pa.toInt ≤ 50) ∧ (CDI o_rc o_ln.toInt) ∧ (OPK f_rc o_rc e_ln.toInt) ∧ (r = o_r) ∧ (u = [(a_r, (oc4 a_tk a_rh a_rs a_rc o_ln o_pa o_at e_fp)), (a_tk, (oc8 a_kd a_nm a_pl)), (a_kd, (arI G 401 f_kd)), (a_nm, (arI G 401 f_nm)), (a_rc, (arI G 400 o_rc))]))) (g5_B G (va_A [(a_r, (oc4 a_tk a_rh a_rs a_rc e_ln e_pa e_at e_fp)), (a_tk, (oc8 a_kd a_nm a_pl)), (a_kd, (arI G 401 f_kd)), (a_nm, (arI G 401 f_nm)), (a_rc, (arI G 400 f_rc))] sz)) (va_A [(a_r, (oc4 a_tk a_rh a_rs a_rc e_ln e_pa e_at e_fp)), (a_tk, (oc8 a_kd a_nm a_pl)), (a_kd, (arI G 401 f_kd)), (a_nm, (arI G 401 f_nm)), (a_rc, (arI G 400 f_rc))] sz)) 0 0 (va_A [(a_r, (oc4 a_tk a_rh a_rs a_rc e_ln e_pa e_at e_fp)), (a_tk, (oc8 a_kd a_nm a_pl)), (a_kd, (arI G 401 f_kd)), (a_nm, (arI G 401 f_nm)), (a_rc, (arI G 400 f_rc))] sz) := r_test 14 336 70 1680 1 ⟨by decide, by decide⟩ (fun x hx _ l G a_r a_tk a_kd a_nm a_rc a_rh a_rs a_pl sz e_ln e_pa e_at e_fp f_kd f_nm f_rc h_e_ln h_e_pa h_e_at e_tk e_cd => by have e : x = 2 := g5_toc (n := 2) (by decide) (hx.trans (by decide)); subst e; exact r_sum2 l G a_r a_tk a_kd a_nm a_rc a_rh a_rs a_pl sz e_ln e_pa e_at e_fp f_kd f_nm f_rc h_e_ln h_e_pa h_e_at e_tk e_cd) (fun x hx _ l G a_r a_tk a_kd a_nm a_rc a_rh a_rs a_pl sz e_ln e_pa e_at e_fp f_kd f_nm f_rc h_e_ln h_e_pa h_e_at e_tk e_cd => by have e : x = 2 := g5_toc (n := 2) (by decide) (hx.trans (by decide)); subst e; exact r_test2 l G a_r a_tk a_kd a_nm a_rc a_rh a_rs a_pl sz e_ln e_pa e_at e_fp f_kd f_nm f_rc h_e_ln h_e_pa h_e_at e_tk e_cd) l G a_r a_tk a_kd a_nm a_rc a_rh a_rs a_pl sz e_ln e_pa e_at e_fp f_kd f_nm f_rc h_e_ln h_e_pa h_e_at e_tk e_cd
theorem r_sum0 (l : Launch) (G : g5_G) (a_r a_tk a_kd a_nm a_rc a_rh a_rs a_pl : Nat) (sz : Nat) (e_ln : Int32) (e_pa : Int32) (e_at : Int32) (e_fp : Int32) (f_kd : Nat → Int32) (f_nm : Nat → Int32) (f_rc : Nat → Int32) (h_e_ln : 0 ≤ e_ln.toInt ∧ e_ln.toInt ≤ 400) (h_e_pa : 0 ≤ e_pa.toInt ∧ e_pa.toInt ≤ 50) (h_e_at : 0 ≤ e_at.toInt ∧ e_at.toInt ≤ 401) (e_tk : TOKI f_kd f_nm) (e_cd : CDI f_rc e_ln.toInt) : Met l yX4_readSum (wsG yX4_readSum cX4_readSum 6 (some .boolean)) ({ frames := 16 + 2, cells := 0, slots := 0, locals := 384 + 48 }) (va_Pc [.ref a_r, .int 0] (g5_P G [(a_r, (oc4 a_tk a_rh a_rs a_rc e_ln e_pa e_at e_fp)), (a_tk, (oc8 a_kd a_nm a_pl)), (a_kd, (arI G 401 f_kd)), (a_nm, (arI G 401 f_nm)), (a_rc, (arI G 400 f_rc))] sz)) (va_Qi (fun (r : Int32) (u : va_W) => (∃ (o_r : Int32) (o_ln : Int32) (o_pa : Int32) (o_at : Int32) (o_rc : Nat → Int32), (0 ≤ o_r.toInt ∧ o_r.toInt ≤ 1) ∧ (e_ln.toInt ≤ o_ln.toInt ∧ o_ln.toInt ≤ 400) ∧ (0 ≤ o_at.toInt ∧ o_at.toInt ≤ 401) ∧ (0 ≤ o_pa.toInt ∧ o_pa.toInt ≤ 50) ∧ (CDI o_rc o_ln.toInt) ∧ (OPK f_rc o_rc e_ln.toInt) ∧ (r = o_r) ∧ (u = [(a_r, (oc4 a_tk a_rh a_rs a_rc o_ln o_pa o_at e_fp)), (a_tk, (oc8 a_kd a_nm a_pl)), (a_kd, (arI G 401 f_kd)), (a_nm, (arI G 401 f_nm)), (a_rc, (arI G 400 o_rc))]))) (g5_B G (va_A [(a_r, (oc4 a_tk a_rh a_rs a_rc e_ln e_pa e_at e_fp)), (a_tk, (oc8 a_kd a_nm a_pl)), (a_kd, (arI G 401 f_kd)), (a_nm, (arI G 401 f_nm)), (a_rc, (arI G 400 f_rc))] sz)) (va_A [(a_r, (oc4 a_tk a_rh a_rs a_rc e_ln e_pa e_at e_fp)), (a_tk, (oc8 a_kd a_nm a_pl)), (a_kd, (arI G 401 f_kd)), (a_nm, (arI G 401 f_nm)), (a_rc, (arI G 400 f_rc))] sz)) 0 0 (va_A [(a_r, (oc4 a_tk a_rh a_rs a_rc e_ln e_pa e_at e_fp)), (a_tk, (oc8 a_kd a_nm a_pl)), (a_kd, (arI G 401 f_kd)), (a_nm, (arI G 401 f_nm)), (a_rc, (arI G 400 f_rc))] sz) := r_sum 16 384 0 ⟨by decide, by decide⟩ (fun x hx _ l G a_r a_tk a_kd a_nm a_rc a_rh a_rs a_pl sz e_ln e_pa e_at e_fp f_kd f_nm f_rc h_e_ln h_e_pa h_e_at e_tk e_cd => by have e : x = 1 := g5_toc (n := 1) (by decide) (hx.trans (by decide)); subst e; exact r_sum1 l G a_r a_tk a_kd a_nm a_rc a_rh a_rs a_pl sz e_ln e_pa e_at e_fp f_kd f_nm f_rc h_e_ln h_e_pa h_e_at e_tk e_cd) l G a_r a_tk a_kd a_nm a_rc a_rh a_rs a_pl sz e_ln e_pa e_at e_fp f_kd f_nm f_rc h_e_ln h_e_pa h_e_at e_tk e_cd
theorem r_test0 (l : Launch) (G : g5_G) (a_r a_tk a_kd a_nm a_rc a_rh a_rs a_pl : Nat) (sz : Nat) (e_ln : Int32) (e_pa : Int32) (e_at : Int32) (e_fp : Int32) (f_kd : Nat → Int32) (f_nm : Nat → Int32) (f_rc : Nat → Int32) (h_e_ln : 0 ≤ e_ln.toInt ∧ e_ln.toInt ≤ 400) (h_e_pa : 0 ≤ e_pa.toInt ∧ e_pa.toInt ≤ 50) (h_e_at : 0 ≤ e_at.toInt ∧ e_at.toInt ≤ 401) (e_tk : TOKI f_kd f_nm) (e_cd : CDI f_rc e_ln.toInt) : Met l yX4_readTest (wsG yX4_readTest cX4_readTest 6 (some .boolean)) ({ frames := 16 + 88 + 4, cells := 0, slots := 0, locals := 384 + 2112 + 96 }) (va_Pc [.ref a_r, .int 0] (g5_P G [(a_r, (oc4 a_tk a_rh a_rs a_rc e_ln e_pa e_at e_fp)), (a_tk, (oc8 a_kd a_nm a_pl)), (a_kd, (arI G 401 f_kd)), (a_nm, (arI G 401 f_nm)), (a_rc, (arI G 400 f_rc))] sz)) (va_Qi (fun (r : Int32) (u : va_W) => (∃ (o_r : Int32) (o_ln : Int32) (o_pa : Int32) (o_at : Int32) (o_rc : Nat → Int32), (0 ≤ o_r.toInt ∧ o_r.toInt ≤ 1) ∧ (e_ln.toInt ≤ o_ln.toInt ∧ o_ln.toInt ≤ 400) ∧ (0 ≤ o_at.toInt ∧ o_at.toInt ≤ 401) ∧ (0 ≤ o_pa.toInt ∧ o_pa.toInt ≤ 50) ∧ (CDI o_rc o_ln.toInt) ∧ (OPK f_rc o_rc e_ln.toInt) ∧ (r = o_r) ∧ (u = [(a_r, (oc4 a_tk a_rh a_rs a_rc o_ln o_pa o_at e_fp)), (a_tk, (oc8 a_kd a_nm a_pl)), (a_kd, (arI G 401 f_kd)), (a_nm, (arI G 401 f_nm)), (a_rc, (arI G 400 o_rc))]))) (g5_B G (va_A [(a_r, (oc4 a_tk a_rh a_rs a_rc e_ln e_pa e_at e_fp)), (a_tk, (oc8 a_kd a_nm a_pl)), (a_kd, (arI G 401 f_kd)), (a_nm, (arI G 401 f_nm)), (a_rc, (arI G 400 f_rc))] sz)) (va_A [(a_r, (oc4 a_tk a_rh a_rs a_rc e_ln e_pa e_at e_fp)), (a_tk, (oc8 a_kd a_nm a_pl)), (a_kd, (arI G 401 f_kd)), (a_nm, (arI G 401 f_nm)), (a_rc, (arI G 400 f_rc))] sz)) 0 0 (va_A [(a_r, (oc4 a_tk a_rh a_rs a_rc e_ln e_pa e_at e_fp)), (a_tk, (oc8 a_kd a_nm a_pl)), (a_kd, (arI G 401 f_kd)), (a_nm, (arI G 401 f_nm)), (a_rc, (arI G 400 f_rc))] sz) := r_test 16 384 88 2112 0 ⟨by decide, by decide⟩ (fun x hx _ l G a_r a_tk a_kd a_nm a_rc a_rh a_rs a_pl sz e_ln e_pa e_at e_fp f_kd f_nm f_rc h_e_ln h_e_pa h_e_at e_tk e_cd => by have e : x = 1 := g5_toc (n := 1) (by decide) (hx.trans (by decide)); subst e; exact r_sum1 l G a_r a_tk a_kd a_nm a_rc a_rh a_rs a_pl sz e_ln e_pa e_at e_fp f_kd f_nm f_rc h_e_ln h_e_pa h_e_at e_tk e_cd) (fun x hx _ l G a_r a_tk a_kd a_nm a_rc a_rh a_rs a_pl sz e_ln e_pa e_at e_fp f_kd f_nm f_rc h_e_ln h_e_pa h_e_at e_tk e_cd => by have e : x = 1 := g5_toc (n := 1) (by decide) (hx.trans (by decide)); subst e; exact r_test1 l G a_r a_tk a_kd a_nm a_rc a_rh a_rs a_pl sz e_ln e_pa e_at e_fp f_kd f_nm f_rc h_e_ln h_e_pa h_e_at e_tk e_cd) l G a_r a_tk a_kd a_nm a_rc a_rh a_rs a_pl sz e_ln e_pa e_at e_fp f_kd f_nm f_rc h_e_ln h_e_pa h_e_at e_tk e_cd
theorem dgJ7_copyOf_59c91_0 : ∀ r ∈ ([(0, (.iload_n 1, 1)), (1, (.aload_n 0, 1)), (2, (.arraylength, 1)), (3, (.if_icmp .ne 11, 3)), (6, (.aload_n 0, 1)), (7, (.invokevirtual 316, 3)), (10, (.checkcast 317, 3)), (13, (.areturn, 1)), (14, (.iload_n 1, 1)), (15, (.newarray .int, 2)), (17, (.astore_n 2, 1)), (18, (.aload_n 0, 1)), (19, (.iconst 0, 1)), (20, (.aload_n 2, 1)), (21, (.iconst 0, 1)), (22, (.aload_n 0, 1)), (23, (.arraylength, 1)), (24, (.iload_n 1, 1)), (25, (.invokestatic 304, 3)), (28, (.invokestatic 150, 3)), (31, (.aload_n 2, 1)), (32, (.areturn, 1))] : List (Nat × (Instr × Nat))), decode cJ7_copyOf_59c91 r.1 = .ok r.2 := by decide +kernel
theorem dJ7_copyOf_59c91_0 : decode cJ7_copyOf_59c91 0 = .ok (.iload_n 1, 1) := dgJ7_copyOf_59c91_0 (0, (.iload_n 1, 1)) (List.mem_of_getElem? (i := 0) rfl)
theorem dJ7_copyOf_59c91_1 : decode cJ7_copyOf_59c91 1 = .ok (.aload_n 0, 1) := dgJ7_copyOf_59c91_0 (1, (.aload_n 0, 1)) (List.mem_of_getElem? (i := 1) rfl)
theorem dJ7_copyOf_59c91_2 : decode cJ7_copyOf_59c91 2 = .ok (.arraylength, 1) := dgJ7_copyOf_59c91_0 (2, (.arraylength, 1)) (List.mem_of_getElem? (i := 2) rfl)
theorem dJ7_copyOf_59c91_3 : decode cJ7_copyOf_59c91 3 = .ok (.if_icmp .ne 11, 3) := dgJ7_copyOf_59c91_0 (3, (.if_icmp .ne 11, 3)) (List.mem_of_getElem? (i := 3) rfl)
theorem dJ7_copyOf_59c91_6 : decode cJ7_copyOf_59c91 6 = .ok (.aload_n 0, 1) := dgJ7_copyOf_59c91_0 (6, (.aload_n 0, 1)) (List.mem_of_getElem? (i := 4) rfl)
theorem dJ7_copyOf_59c91_7 : decode cJ7_copyOf_59c91 7 = .ok (.invokevirtual 316, 3) := dgJ7_copyOf_59c91_0 (7, (.invokevirtual 316, 3)) (List.mem_of_getElem? (i := 5) rfl)
theorem dJ7_copyOf_59c91_10 : decode cJ7_copyOf_59c91 10 = .ok (.checkcast 317, 3) := dgJ7_copyOf_59c91_0 (10, (.checkcast 317, 3)) (List.mem_of_getElem? (i := 6) rfl)
theorem dJ7_copyOf_59c91_13 : decode cJ7_copyOf_59c91 13 = .ok (.areturn, 1) := dgJ7_copyOf_59c91_0 (13, (.areturn, 1)) (List.mem_of_getElem? (i := 7) rfl)
theorem dJ7_copyOf_59c91_14 : decode cJ7_copyOf_59c91 14 = .ok (.iload_n 1, 1) := dgJ7_copyOf_59c91_0 (14, (.iload_n 1, 1)) (List.mem_of_getElem? (i := 8) rfl)
theorem dJ7_copyOf_59c91_15 : decode cJ7_copyOf_59c91 15 = .ok (.newarray .int, 2) := dgJ7_copyOf_59c91_0 (15, (.newarray .int, 2)) (List.mem_of_getElem? (i := 9) rfl)
theorem dJ7_copyOf_59c91_17 : decode cJ7_copyOf_59c91 17 = .ok (.astore_n 2, 1) := dgJ7_copyOf_59c91_0 (17, (.astore_n 2, 1)) (List.mem_of_getElem? (i := 10) rfl)
theorem dJ7_copyOf_59c91_18 : decode cJ7_copyOf_59c91 18 = .ok (.aload_n 0, 1) := dgJ7_copyOf_59c91_0 (18, (.aload_n 0, 1)) (List.mem_of_getElem? (i := 11) rfl)
theorem dJ7_copyOf_59c91_19 : decode cJ7_copyOf_59c91 19 = .ok (.iconst 0, 1) := dgJ7_copyOf_59c91_0 (19, (.iconst 0, 1)) (List.mem_of_getElem? (i := 12) rfl)
theorem dJ7_copyOf_59c91_20 : decode cJ7_copyOf_59c91 20 = .ok (.aload_n 2, 1) := dgJ7_copyOf_59c91_0 (20, (.aload_n 2, 1)) (List.mem_of_getElem? (i := 13) rfl)
theorem dJ7_copyOf_59c91_21 : decode cJ7_copyOf_59c91 21 = .ok (.iconst 0, 1) := dgJ7_copyOf_59c91_0 (21, (.iconst 0, 1)) (List.mem_of_getElem? (i := 14) rfl)
theorem dJ7_copyOf_59c91_22 : decode cJ7_copyOf_59c91 22 = .ok (.aload_n 0, 1) := dgJ7_copyOf_59c91_0 (22, (.aload_n 0, 1)) (List.mem_of_getElem? (i := 15) rfl)
theorem dJ7_copyOf_59c91_23 : decode cJ7_copyOf_59c91 23 = .ok (.arraylength, 1) := dgJ7_copyOf_59c91_0 (23, (.arraylength, 1)) (List.mem_of_getElem? (i := 16) rfl)
theorem dJ7_copyOf_59c91_24 : decode cJ7_copyOf_59c91 24 = .ok (.iload_n 1, 1) := dgJ7_copyOf_59c91_0 (24, (.iload_n 1, 1)) (List.mem_of_getElem? (i := 17) rfl)
theorem dJ7_copyOf_59c91_25 : decode cJ7_copyOf_59c91 25 = .ok (.invokestatic 304, 3) := dgJ7_copyOf_59c91_0 (25, (.invokestatic 304, 3)) (List.mem_of_getElem? (i := 18) rfl)
theorem dJ7_copyOf_59c91_28 : decode cJ7_copyOf_59c91 28 = .ok (.invokestatic 150, 3) := dgJ7_copyOf_59c91_0 (28, (.invokestatic 150, 3)) (List.mem_of_getElem? (i := 19) rfl)
theorem dJ7_copyOf_59c91_31 : decode cJ7_copyOf_59c91 31 = .ok (.aload_n 2, 1) := dgJ7_copyOf_59c91_0 (31, (.aload_n 2, 1)) (List.mem_of_getElem? (i := 20) rfl)
theorem dJ7_copyOf_59c91_32 : decode cJ7_copyOf_59c91 32 = .ok (.areturn, 1) := dgJ7_copyOf_59c91_0 (32, (.areturn, 1)) (List.mem_of_getElem? (i := 21) rfl)
theorem acl_I : Cond.arrayClass .int ∈ tblG := tg 152 (by decide +kernel) (by decide +kernel)
theorem ml_J7_304 : Cond.methodLink RJ7 304 Lib.Math.min.name ∈ tblG := tg 768 (by decide +kernel) (by decide +kernel)
theorem st_Math_minI : Cond.static Lib.Math.min.name ∈ tblG := tg 769 (by decide +kernel) (by decide +kernel)
theorem cd_Math_minI : Cond.code Lib.Math.min.name Lib.Math.min.code 2 (some .int) ∈ tblG := tg 770 (by decide +kernel) (by decide +kernel)
theorem ml_J7_150 : Cond.methodLink RJ7 150 arraycopyName ∈ tblG := tg 771 (by decide +kernel) (by decide +kernel)
theorem ml_clone : Cond.methodLink RJ7 316 ⟨"[I", "clone", "()Ljava/lang/Object;"⟩ ∈ tblG := tg 761 (by decide +kernel) (by decide +kernel)
theorem sm_clone : Cond.sameMethod "[I" "java/lang/Object" "clone" "()Ljava/lang/Object;" ∈ tblG := tg 762 (by decide +kernel) (by decide +kernel)
theorem na_clone : Cond.native ⟨"java/lang/Object", "clone", "()Ljava/lang/Object;"⟩ ∈ tblG := tg 763 (by decide +kernel) (by decide +kernel)
theorem im_clone : Cond.instanceMethod ⟨"java/lang/Object", "clone", "()Ljava/lang/Object;"⟩ ∈ tblG := tg 764 (by decide +kernel) (by decide +kernel)
theorem se_clone : Cond.selects "[I" ⟨"[I", "clone", "()Ljava/lang/Object;"⟩ ⟨"java/lang/Object", "clone", "()Ljava/lang/Object;"⟩ ∈ tblG := tg 765 (by decide +kernel) (by decide +kernel)
theorem cl_J7_317 : Cond.classLink RJ7 317 "[I" ∈ tblG := tg 767 (by decide +kernel) (by decide +kernel)
set_option maxHeartbeats 4000000 in
set_option maxRecDepth 100000 in
theorem k_copyOf12 (l : Launch) (G : g5_G) (a_0 : Nat) (sz : Nat) (p_n : Int32) (f_a : Nat → Int32) (h_p_n : 0 ≤ p_n.toInt ∧ p_n.toInt ≤ 12) : Met l yJ7_copyOf_59c91 (wsG yJ7_copyOf_59c91 cJ7_copyOf_59c91 3 (some (.array .int))) ({ frames := 1, cells := 1, slots := 12, locals := 60 }) (va_Pc [.ref a_0, .int p_n] (g5_P G [(a_0, (arI G 12 f_a))] sz)) (va_Qq (fun (r : Option Nat) (u : va_W) => (∃ (o_q : Nat) (o_n : Nat) (o_f : Nat → Int32), ((o_n : Int) = p_n.toInt) ∧ (∀ j : Nat, j < o_n → o_f j = f_a j) ∧ (r = some o_q) ∧ (u = [(a_0, (arI G 12 f_a)), (o_q, (arI G o_n o_f))]))) (g5_B G (va_A [(a_0, (arI G 12 f_a))] sz)) (va_A [(a_0, (arI G 12 f_a))] sz)) 1 12 (va_A [(a_0, (arI G 12 f_a))] sz) := by
  refine Met.ofW (cc := cJ7_copyOf_59c91) (maxL := 3) (ret := (some (.array .int))) (by decide) rfl ?_
  intro p e s m args below meth c s₁ B hml hv
  obtain ⟨rfl, hsz, hP, hK, hD0, hN, hT⟩ := hv
  have hx := B.exec
  have hb := B.bytes
  have hr := B.returns
  have hts : ∀ w ∈ tblG, w.before _ s = true := fun w h => atoms_spec (ws := (wsG yJ7_copyOf_59c91 cJ7_copyOf_59c91 3 (some (.array .int)))) B.pre w (List.mem_cons_of_mem _ h)
  have hown : s.vm.findClass RJ7 = some m.cls := findClass_of_methodNamed B.named
  have hlocks := B.notSynchronized
  subst hsz
  have hD := hD0.self (sz := s.heap.size)
  generalize hAe : va_A [(a_0, (arI G 12 f_a))] s.heap.size = A at hD hT ⊢
  have hA : ∀ q : Nat, s.heap.size ≤ q → A q := fun q h => by rw [← hAe]; exact Or.inr h
  have hS : va_S A s.heap s.heap [] := va_S.rf
  have hP : va_P G.1 vwCl [(a_0, (arI G 12 f_a))] s.heap := hP
  have hl := lv_entry ([.ref a_0, .int p_n]) (n := 3) (Nat.le_of_ble_eq_true rfl)
  rw [lg_entry_eq]
  generalize (lg_sl ([.ref a_0, .int p_n]) ++ List.replicate (3 - (lg_sl ([.ref a_0, .int p_n])).length) Slot.unset).toArray = ls at hl ⊢
  have hl : lv_has ls 3 [(0, .ref a_0), (1, .int p_n)] := hl
  refine lv_iload_n hx hb dJ7_copyOf_59c91_0 rfl (lv_at hl 1 rfl) ?_
  refine lv_aload_n hx hb dJ7_copyOf_59c91_1 rfl (lv_at hl 0 rfl) ?_
  refine va_alen hx hb hK hP 0 0 rfl rfl (v := 12) (by show Int32.ofNat 12 = 12; decide) dJ7_copyOf_59c91_2 ?_
  refine lv_icmp_ne (tgt := 14) hx hb dJ7_copyOf_59c91_3 (by decide) (fun c_1 => ?_) (fun c_1 => ?_)
  ·
    have n_1 : gNe (p_n.toInt) (12) := by have z := g5_ne (a := p_n.toInt) (b := 12) (by rfl) (by decide) c_1; unfold gNe; omega
    have i_1 : p_n.toInt ≤ 11 := by have z := g5_ne (a := p_n.toInt) (b := 12) (by rfl) (by decide) c_1; omega
    refine lv_iload_n hx hb dJ7_copyOf_59c91_14 rfl (lv_at hl 1 rfl) ?_
    refine va_newa (D := G.1) (atype := .int) (ty := .int) hx hb (hts _ acl_I) rfl hK hP hD hS hA (n := p_n) (N' := p_n.toNatClampNeg) (a0 := (p_n.toNatClampNeg, .inl (fun _ => 0))) (fun _ => rfl) (g_nlt0 (by omega)) rfl (by have zz := g5_clamp p_n; show p_n.toNatClampNeg * 4 ≤ _; omega) (Nat.le_of_ble_eq_true rfl) (by have zz := g5_clamp p_n; show 0 + p_n.toNatClampNeg ≤ 12; omega) dJ7_copyOf_59c91_15 (fun q2 cA H hKn hP hD hS => ?_)
    obtain rfl : cA = G.2 0 := g5_cI hKn
    refine g5_rs [(a_0, (arI G 12 f_a)), (q2, (arI G p_n.toNatClampNeg (fun _ => 0)))] hP hD (fun hP hD => ?_)
    refine W.widen (k := 1) (n := 11) (Nat.le_of_ble_eq_true rfl) (by have zz := g5_clamp p_n; omega) ?_
    refine lv_astore_n (lv' := [(2, .ref q2), (0, .ref a_0), (1, .int p_n)]) hx hb dJ7_copyOf_59c91_17 rfl hl (by decide) rfl (fun ls hl => ?_)
    refine lv_aload_n hx hb dJ7_copyOf_59c91_18 rfl (lv_at hl 1 rfl) ?_
    refine lv_iconst (v := 0) hx hb dJ7_copyOf_59c91_19 (by decide) ?_
    refine lv_aload_n hx hb dJ7_copyOf_59c91_20 rfl (lv_at hl 0 rfl) ?_
    refine lv_iconst (v := 0) hx hb dJ7_copyOf_59c91_21 (by decide) ?_
    refine lv_aload_n hx hb dJ7_copyOf_59c91_22 rfl (lv_at hl 1 rfl) ?_
    refine va_alen hx hb hK hP 0 0 rfl rfl (v := 12) (by show Int32.ofNat 12 = 12; decide) dJ7_copyOf_59c91_23 ?_
    refine lv_iload_n hx hb dJ7_copyOf_59c91_24 rfl (lv_at hl 2 rfl) ?_
    refine va_mmin hx hb (hml.trans hl.1.symm) hown (hts _ ml_J7_304) (hts _ st_Math_minI) (hts _ ini_Math) (hts _ cd_Math_minI) (Nat.le_of_ble_eq_true rfl) (Nat.le_of_ble_eq_true rfl) (Nat.le_of_ble_eq_true rfl) (Nat.le_of_ble_eq_true rfl) dJ7_copyOf_59c91_25 ?_
    have zk_3 : (12 : Int32).toInt = 12 := (by decide)
    have hm_4 := g_minI 12 p_n
    refine va_copyi hx hb (hml.trans hl.1.symm) hown (hts _ ml_J7_150) (hts _ ac_nat) (hts _ ac_st) (hts _ ac_ini) hK hP hD hS 0 1 0 0 rfl rfl rfl rfl rfl (sp := 0) (dp := 0) (n := (if p_n < 12 then p_n else 12)) (by decide) (by decide) (g_nlt0 (by omega)) (by have z5 : (0 : Int32).toNatClampNeg = 0 := (by decide); have z6 := g5_clamp (if p_n < 12 then p_n else 12); have z7 := g5_clamp p_n; omega) (by have z8 : (0 : Int32).toNatClampNeg = 0 := (by decide); have z9 := g5_clamp (if p_n < 12 then p_n else 12); have z10 := g5_clamp p_n; omega) (fun _ _ => rfl) (Nat.le_of_ble_eq_true rfl) (by decide) dJ7_copyOf_59c91_28 (fun H locs hP hD hS => ?_)
    refine g5_rs [(a_0, (arI G 12 f_a)), (q2, (arI G p_n.toNatClampNeg (va_cpy f_a (fun _ => 0) 0 0 (if p_n < 12 then p_n else 12).toNatClampNeg)))] hP hD (fun hP hD => ?_)
    refine lv_aload_n hx hb dJ7_copyOf_59c91_31 rfl (lv_at hl 0 rfl) ?_
    refine W.widen (k := 1) (n := 12) (by decide) (by decide) ?_
    exact W.aret (v := .ref q2) hx hb hr (Or.inr ⟨_, rfl⟩) (Or.inr ⟨_, rfl⟩) (fun t ht hW => ⟨⟨some q2, [(a_0, (arI G 12 f_a)), (q2, (arI G p_n.toNatClampNeg (va_cpy f_a (fun _ => 0) 0 0 (if p_n < 12 then p_n else 12).toNatClampNeg)))], rfl, ⟨q2, p_n.toNatClampNeg, (va_cpy f_a (fun _ => 0) 0 0 (if p_n < 12 then p_n else 12).toNatClampNeg), by have zz := g5_clamp p_n; omega, cpy_ok (by have zz := g5_clamp p_n; omega), rfl, rfl⟩, by rw [ht]; exact hP.sub [0, 1] rfl, hD.sub [0, 1] (by decide) rfl⟩, hS.F ht⟩) hS.2.2 dJ7_copyOf_59c91_32
  ·
    have i_1 : p_n.toInt = 12 := by have z := g5_neN (a := p_n.toInt) (b := 12) (by rfl) (by decide) c_1; omega
    refine lv_aload_n hx hb dJ7_copyOf_59c91_6 rfl (lv_at hl 0 rfl) ?_
    refine va_clone hx hb (hml.trans hl.1.symm) hown (hts _ ml_clone) (hts _ sm_clone) (hts _ na_clone) (hts _ im_clone) (hts _ se_clone) hN.2.2.2 hK hP hD hS hA 0 0 rfl rfl (g_find hK) g_fitI (Nat.le_of_ble_eq_true rfl) (by decide) (Nat.le_of_ble_eq_true rfl) (Nat.le_of_ble_eq_true rfl) dJ7_copyOf_59c91_7 (fun q11 H hKn hP hD hS => ?_)
    refine g5_rs [(a_0, (arI G 12 f_a)), (q11, (arI G 12 f_a))] hP hD (fun hP hD => ?_)
    refine W.widen (k := 1) (n := 12) (Nat.le_of_ble_eq_true rfl) (Nat.le_of_ble_eq_true rfl) ?_
    refine va_castA hx hb hown (hts _ cl_J7_317) hP 1 rfl (g_find hK) dJ7_copyOf_59c91_10 ?_
    exact W.aret (v := .ref q11) hx hb hr (Or.inr ⟨_, rfl⟩) (Or.inr ⟨_, rfl⟩) (fun t ht hW => ⟨⟨some q11, [(a_0, (arI G 12 f_a)), (q11, (arI G 12 f_a))], rfl, ⟨q11, 12, f_a, by have zz := g5_clamp p_n; omega, fun _ _ => rfl, rfl, rfl⟩, by rw [ht]; exact hP.sub [0, 1] rfl, hD.sub [0, 1] (by decide) rfl⟩, hS.F ht⟩) hS.2.2 dJ7_copyOf_59c91_13
set_option maxHeartbeats 4000000 in
set_option maxRecDepth 100000 in
theorem k_copyOf13 (l : Launch) (G : g5_G) (a_0 : Nat) (sz : Nat) (p_n : Int32) (f_a : Nat → Int32) (h_p_n : 0 ≤ p_n.toInt ∧ p_n.toInt ≤ 13) : Met l yJ7_copyOf_59c91 (wsG yJ7_copyOf_59c91 cJ7_copyOf_59c91 3 (some (.array .int))) ({ frames := 1, cells := 1, slots := 13, locals := 60 }) (va_Pc [.ref a_0, .int p_n] (g5_P G [(a_0, (arI G 13 f_a))] sz)) (va_Qq (fun (r : Option Nat) (u : va_W) => (∃ (o_q : Nat) (o_n : Nat) (o_f : Nat → Int32), ((o_n : Int) = p_n.toInt) ∧ (∀ j : Nat, j < o_n → o_f j = f_a j) ∧ (r = some o_q) ∧ (u = [(a_0, (arI G 13 f_a)), (o_q, (arI G o_n o_f))]))) (g5_B G (va_A [(a_0, (arI G 13 f_a))] sz)) (va_A [(a_0, (arI G 13 f_a))] sz)) 1 13 (va_A [(a_0, (arI G 13 f_a))] sz) := by
  refine Met.ofW (cc := cJ7_copyOf_59c91) (maxL := 3) (ret := (some (.array .int))) (by decide) rfl ?_
  intro p e s m args below meth c s₁ B hml hv
  obtain ⟨rfl, hsz, hP, hK, hD0, hN, hT⟩ := hv
  have hx := B.exec
  have hb := B.bytes
  have hr := B.returns
  have hts : ∀ w ∈ tblG, w.before _ s = true := fun w h => atoms_spec (ws := (wsG yJ7_copyOf_59c91 cJ7_copyOf_59c91 3 (some (.array .int)))) B.pre w (List.mem_cons_of_mem _ h)
  have hown : s.vm.findClass RJ7 = some m.cls := findClass_of_methodNamed B.named
  have hlocks := B.notSynchronized
  subst hsz
  have hD := hD0.self (sz := s.heap.size)
  generalize hAe : va_A [(a_0, (arI G 13 f_a))] s.heap.size = A at hD hT ⊢
  have hA : ∀ q : Nat, s.heap.size ≤ q → A q := fun q h => by rw [← hAe]; exact Or.inr h
  have hS : va_S A s.heap s.heap [] := va_S.rf
  have hP : va_P G.1 vwCl [(a_0, (arI G 13 f_a))] s.heap := hP
  have hl := lv_entry ([.ref a_0, .int p_n]) (n := 3) (Nat.le_of_ble_eq_true rfl)
  rw [lg_entry_eq]
  generalize (lg_sl ([.ref a_0, .int p_n]) ++ List.replicate (3 - (lg_sl ([.ref a_0, .int p_n])).length) Slot.unset).toArray = ls at hl ⊢
  have hl : lv_has ls 3 [(0, .ref a_0), (1, .int p_n)] := hl
  refine lv_iload_n hx hb dJ7_copyOf_59c91_0 rfl (lv_at hl 1 rfl) ?_
  refine lv_aload_n hx hb dJ7_copyOf_59c91_1 rfl (lv_at hl 0 rfl) ?_
  refine va_alen hx hb hK hP 0 0 rfl rfl (v := 13) (by show Int32.ofNat 13 = 13; decide) dJ7_copyOf_59c91_2 ?_
  refine lv_icmp_ne (tgt := 14) hx hb dJ7_copyOf_59c91_3 (by decide) (fun c_1 => ?_) (fun c_1 => ?_)
  ·
    have n_1 : gNe (p_n.toInt) (13) := by have z := g5_ne (a := p_n.toInt) (b := 13) (by rfl) (by decide) c_1; unfold gNe; omega
    have i_1 : p_n.toInt ≤ 12 := by have z := g5_ne (a := p_n.toInt) (b := 13) (by rfl) (by decide) c_1; omega
    refine lv_iload_n hx hb dJ7_copyOf_59c91_14 rfl (lv_at hl 1 rfl) ?_
    refine va_newa (D := G.1) (atype := .int) (ty := .int) hx hb (hts _ acl_I) rfl hK hP hD hS hA (n := p_n) (N' := p_n.toNatClampNeg) (a0 := (p_n.toNatClampNeg, .inl (fun _ => 0))) (fun _ => rfl) (g_nlt0 (by omega)) rfl (by have zz := g5_clamp p_n; show p_n.toNatClampNeg * 4 ≤ _; omega) (Nat.le_of_ble_eq_true rfl) (by have zz := g5_clamp p_n; show 0 + p_n.toNatClampNeg ≤ 13; omega) dJ7_copyOf_59c91_15 (fun q2 cA H hKn hP hD hS => ?_)
    obtain rfl : cA = G.2 0 := g5_cI hKn
    refine g5_rs [(a_0, (arI G 13 f_a)), (q2, (arI G p_n.toNatClampNeg (fun _ => 0)))] hP hD (fun hP hD => ?_)
    refine W.widen (k := 1) (n := 12) (Nat.le_of_ble_eq_true rfl) (by have zz := g5_clamp p_n; omega) ?_
    refine lv_astore_n (lv' := [(2, .ref q2), (0, .ref a_0), (1, .int p_n)]) hx hb dJ7_copyOf_59c91_17 rfl hl (by decide) rfl (fun ls hl => ?_)
    refine lv_aload_n hx hb dJ7_copyOf_59c91_18 rfl (lv_at hl 1 rfl) ?_
    refine lv_iconst (v := 0) hx hb dJ7_copyOf_59c91_19 (by decide) ?_
    refine lv_aload_n hx hb dJ7_copyOf_59c91_20 rfl (lv_at hl 0 rfl) ?_
    refine lv_iconst (v := 0) hx hb dJ7_copyOf_59c91_21 (by decide) ?_
    refine lv_aload_n hx hb dJ7_copyOf_59c91_22 rfl (lv_at hl 1 rfl) ?_
    refine va_alen hx hb hK hP 0 0 rfl rfl (v := 13) (by show Int32.ofNat 13 = 13; decide) dJ7_copyOf_59c91_23 ?_
    refine lv_iload_n hx hb dJ7_copyOf_59c91_24 rfl (lv_at hl 2 rfl) ?_
    refine va_mmin hx hb (hml.trans hl.1.symm) hown (hts _ ml_J7_304) (hts _ st_Math_minI) (hts _ ini_Math) (hts _ cd_Math_minI) (Nat.le_of_ble_eq_true rfl) (Nat.le_of_ble_eq_true rfl) (Nat.le_of_ble_eq_true rfl) (Nat.le_of_ble_eq_true rfl) dJ7_copyOf_59c91_25 ?_
    have zk_3 : (13 : Int32).toInt = 13 := (by decide)
    have hm_4 := g_minI 13 p_n
    refine va_copyi hx hb (hml.trans hl.1.symm) hown (hts _ ml_J7_150) (hts _ ac_nat) (hts _ ac_st) (hts _ ac_ini) hK hP hD hS 0 1 0 0 rfl rfl rfl rfl rfl (sp := 0) (dp := 0) (n := (if p_n < 13 then p_n else 13)) (by decide) (by decide) (g_nlt0 (by omega)) (by have z5 : (0 : Int32).toNatClampNeg = 0 := (by decide); have z6 := g5_clamp (if p_n < 13 then p_n else 13); have z7 := g5_clamp p_n; omega) (by have z8 : (0 : Int32).toNatClampNeg = 0 := (by decide); have z9 := g5_clamp (if p_n < 13 then p_n else 13); have z10 := g5_clamp p_n; omega) (fun _ _ => rfl) (Nat.le_of_ble_eq_true rfl) (by decide) dJ7_copyOf_59c91_28 (fun H locs hP hD hS => ?_)
    refine g5_rs [(a_0, (arI G 13 f_a)), (q2, (arI G p_n.toNatClampNeg (va_cpy f_a (fun _ => 0) 0 0 (if p_n < 13 then p_n else 13).toNatClampNeg)))] hP hD (fun hP hD => ?_)
    refine lv_aload_n hx hb dJ7_copyOf_59c91_31 rfl (lv_at hl 0 rfl) ?_
    refine W.widen (k := 1) (n := 13) (by decide) (by decide) ?_
    exact W.aret (v := .ref q2) hx hb hr (Or.inr ⟨_, rfl⟩) (Or.inr ⟨_, rfl⟩) (fun t ht hW => ⟨⟨some q2, [(a_0, (arI G 13 f_a)), (q2, (arI G p_n.toNatClampNeg (va_cpy f_a (fun _ => 0) 0 0 (if p_n < 13 then p_n else 13).toNatClampNeg)))], rfl, ⟨q2, p_n.toNatClampNeg, (va_cpy f_a (fun _ => 0) 0 0 (if p_n < 13 then p_n else 13).toNatClampNeg), by have zz := g5_clamp p_n; omega, cpy_ok (by have zz := g5_clamp p_n; omega), rfl, rfl⟩, by rw [ht]; exact hP.sub [0, 1] rfl, hD.sub [0, 1] (by decide) rfl⟩, hS.F ht⟩) hS.2.2 dJ7_copyOf_59c91_32
  ·
    have i_1 : p_n.toInt = 13 := by have z := g5_neN (a := p_n.toInt) (b := 13) (by rfl) (by decide) c_1; omega
    refine lv_aload_n hx hb dJ7_copyOf_59c91_6 rfl (lv_at hl 0 rfl) ?_
    refine va_clone hx hb (hml.trans hl.1.symm) hown (hts _ ml_clone) (hts _ sm_clone) (hts _ na_clone) (hts _ im_clone) (hts _ se_clone) hN.2.2.2 hK hP hD hS hA 0 0 rfl rfl (g_find hK) g_fitI (Nat.le_of_ble_eq_true rfl) (by decide) (Nat.le_of_ble_eq_true rfl) (Nat.le_of_ble_eq_true rfl) dJ7_copyOf_59c91_7 (fun q11 H hKn hP hD hS => ?_)
    refine g5_rs [(a_0, (arI G 13 f_a)), (q11, (arI G 13 f_a))] hP hD (fun hP hD => ?_)
    refine W.widen (k := 1) (n := 13) (Nat.le_of_ble_eq_true rfl) (Nat.le_of_ble_eq_true rfl) ?_
    refine va_castA hx hb hown (hts _ cl_J7_317) hP 1 rfl (g_find hK) dJ7_copyOf_59c91_10 ?_
    exact W.aret (v := .ref q11) hx hb hr (Or.inr ⟨_, rfl⟩) (Or.inr ⟨_, rfl⟩) (fun t ht hW => ⟨⟨some q11, [(a_0, (arI G 13 f_a)), (q11, (arI G 13 f_a))], rfl, ⟨q11, 13, f_a, by have zz := g5_clamp p_n; omega, fun _ _ => rfl, rfl, rfl⟩, by rw [ht]; exact hP.sub [0, 1] rfl, hD.sub [0, 1] (by decide) rfl⟩, hS.F ht⟩) hS.2.2 dJ7_copyOf_59c91_13
set_option maxHeartbeats 4000000 in
set_option maxRecDepth 100000 in
theorem k_copyOf400 (l : Launch) (G : g5_G) (a_0 : Nat) (sz : Nat) (p_n : Int32) (f_a : Nat → Int32) (h_p_n : 0 ≤ p_n.toInt ∧ p_n.toInt ≤ 400) : Met l yJ7_copyOf_59c91 (wsG yJ7_copyOf_59c91 cJ7_copyOf_59c91 3 (some (.array .int))) ({ frames := 1, cells := 1, slots := 400, locals := 60 }) (va_Pc [.ref a_0, .int p_n] (g5_P G [(a_0, (arI G 400 f_a))] sz)) (va_Qq (fun (r : Option Nat) (u : va_W) => (∃ (o_q : Nat) (o_n : Nat) (o_f : Nat → Int32), ((o_n : Int) = p_n.toInt) ∧ (∀ j : Nat, j < o_n → o_f j = f_a j) ∧ (r = some o_q) ∧ (u = [(a_0, (arI G 400 f_a)), (o_q, (arI G o_n o_f))]))) (g5_B G (va_A [(a_0, (arI G 400 f_a))] sz)) (va_A [(a_0, (arI G 400 f_a))] sz)) 1 400 (va_A [(a_0, (arI G 400 f_a))] sz) := by
  refine Met.ofW (cc := cJ7_copyOf_59c91) (maxL := 3) (ret := (some (.array .int))) (by decide) rfl ?_
  intro p e s m args below meth c s₁ B hml hv
  obtain ⟨rfl, hsz, hP, hK, hD0, hN, hT⟩ := hv
  have hx := B.exec
  have hb := B.bytes
  have hr := B.returns
  have hts : ∀ w ∈ tblG, w.before _ s = true := fun w h => atoms_spec (ws := (wsG yJ7_copyOf_59c91 cJ7_copyOf_59c91 3 (some (.array .int)))) B.pre w (List.mem_cons_of_mem _ h)
  have hown : s.vm.findClass RJ7 = some m.cls := findClass_of_methodNamed B.named
  have hlocks := B.notSynchronized
  subst hsz
  have hD := hD0.self (sz := s.heap.size)
  generalize hAe : va_A [(a_0, (arI G 400 f_a))] s.heap.size = A at hD hT ⊢
  have hA : ∀ q : Nat, s.heap.size ≤ q → A q := fun q h => by rw [← hAe]; exact Or.inr h
  have hS : va_S A s.heap s.heap [] := va_S.rf
  have hP : va_P G.1 vwCl [(a_0, (arI G 400 f_a))] s.heap := hP
  have hl := lv_entry ([.ref a_0, .int p_n]) (n := 3) (Nat.le_of_ble_eq_true rfl)
  rw [lg_entry_eq]
  generalize (lg_sl ([.ref a_0, .int p_n]) ++ List.replicate (3 - (lg_sl ([.ref a_0, .int p_n])).length) Slot.unset).toArray = ls at hl ⊢
  have hl : lv_has ls 3 [(0, .ref a_0), (1, .int p_n)] := hl
  refine lv_iload_n hx hb dJ7_copyOf_59c91_0 rfl (lv_at hl 1 rfl) ?_
  refine lv_aload_n hx hb dJ7_copyOf_59c91_1 rfl (lv_at hl 0 rfl) ?_
  refine va_alen hx hb hK hP 0 0 rfl rfl (v := 400) (by show Int32.ofNat 400 = 400; decide) dJ7_copyOf_59c91_2 ?_
  refine lv_icmp_ne (tgt := 14) hx hb dJ7_copyOf_59c91_3 (by decide) (fun c_1 => ?_) (fun c_1 => ?_)
  ·
    have n_1 : gNe (p_n.toInt) (400) := by have z := g5_ne (a := p_n.toInt) (b := 400) (by rfl) (by decide) c_1; unfold gNe; omega
    have i_1 : p_n.toInt ≤ 399 := by have z := g5_ne (a := p_n.toInt) (b := 400) (by rfl) (by decide) c_1; omega
    refine lv_iload_n hx hb dJ7_copyOf_59c91_14 rfl (lv_at hl 1 rfl) ?_
    refine va_newa (D := G.1) (atype := .int) (ty := .int) hx hb (hts _ acl_I) rfl hK hP hD hS hA (n := p_n) (N' := p_n.toNatClampNeg) (a0 := (p_n.toNatClampNeg, .inl (fun _ => 0))) (fun _ => rfl) (g_nlt0 (by omega)) rfl (by have zz := g5_clamp p_n; show p_n.toNatClampNeg * 4 ≤ _; omega) (Nat.le_of_ble_eq_true rfl) (by have zz := g5_clamp p_n; show 0 + p_n.toNatClampNeg ≤ 400; omega) dJ7_copyOf_59c91_15 (fun q2 cA H hKn hP hD hS => ?_)
    obtain rfl : cA = G.2 0 := g5_cI hKn
    refine g5_rs [(a_0, (arI G 400 f_a)), (q2, (arI G p_n.toNatClampNeg (fun _ => 0)))] hP hD (fun hP hD => ?_)
    refine W.widen (k := 1) (n := 399) (Nat.le_of_ble_eq_true rfl) (by have zz := g5_clamp p_n; omega) ?_
    refine lv_astore_n (lv' := [(2, .ref q2), (0, .ref a_0), (1, .int p_n)]) hx hb dJ7_copyOf_59c91_17 rfl hl (by decide) rfl (fun ls hl => ?_)
    refine lv_aload_n hx hb dJ7_copyOf_59c91_18 rfl (lv_at hl 1 rfl) ?_
    refine lv_iconst (v := 0) hx hb dJ7_copyOf_59c91_19 (by decide) ?_
    refine lv_aload_n hx hb dJ7_copyOf_59c91_20 rfl (lv_at hl 0 rfl) ?_
    refine lv_iconst (v := 0) hx hb dJ7_copyOf_59c91_21 (by decide) ?_
    refine lv_aload_n hx hb dJ7_copyOf_59c91_22 rfl (lv_at hl 1 rfl) ?_
    refine va_alen hx hb hK hP 0 0 rfl rfl (v := 400) (by show Int32.ofNat 400 = 400; decide) dJ7_copyOf_59c91_23 ?_
    refine lv_iload_n hx hb dJ7_copyOf_59c91_24 rfl (lv_at hl 2 rfl) ?_
    refine va_mmin hx hb (hml.trans hl.1.symm) hown (hts _ ml_J7_304) (hts _ st_Math_minI) (hts _ ini_Math) (hts _ cd_Math_minI) (Nat.le_of_ble_eq_true rfl) (Nat.le_of_ble_eq_true rfl) (Nat.le_of_ble_eq_true rfl) (Nat.le_of_ble_eq_true rfl) dJ7_copyOf_59c91_25 ?_
    have zk_3 : (400 : Int32).toInt = 400 := (by decide)
    have hm_4 := g_minI 400 p_n
    refine va_copyi hx hb (hml.trans hl.1.symm) hown (hts _ ml_J7_150) (hts _ ac_nat) (hts _ ac_st) (hts _ ac_ini) hK hP hD hS 0 1 0 0 rfl rfl rfl rfl rfl (sp := 0) (dp := 0) (n := (if p_n < 400 then p_n else 400)) (by decide) (by decide) (g_nlt0 (by omega)) (by have z5 : (0 : Int32).toNatClampNeg = 0 := (by decide); have z6 := g5_clamp (if p_n < 400 then p_n else 400); have z7 := g5_clamp p_n; omega) (by have z8 : (0 : Int32).toNatClampNeg = 0 := (by decide); have z9 := g5_clamp (if p_n < 400 then p_n else 400); have z10 := g5_clamp p_n; omega) (fun _ _ => rfl) (Nat.le_of_ble_eq_true rfl) (by decide) dJ7_copyOf_59c91_28 (fun H locs hP hD hS => ?_)
    refine g5_rs [(a_0, (arI G 400 f_a)), (q2, (arI G p_n.toNatClampNeg (va_cpy f_a (fun _ => 0) 0 0 (if p_n < 400 then p_n else 400).toNatClampNeg)))] hP hD (fun hP hD => ?_)
    refine lv_aload_n hx hb dJ7_copyOf_59c91_31 rfl (lv_at hl 0 rfl) ?_
    refine W.widen (k := 1) (n := 400) (by decide) (by decide) ?_
    exact W.aret (v := .ref q2) hx hb hr (Or.inr ⟨_, rfl⟩) (Or.inr ⟨_, rfl⟩) (fun t ht hW => ⟨⟨some q2, [(a_0, (arI G 400 f_a)), (q2, (arI G p_n.toNatClampNeg (va_cpy f_a (fun _ => 0) 0 0 (if p_n < 400 then p_n else 400).toNatClampNeg)))], rfl, ⟨q2, p_n.toNatClampNeg, (va_cpy f_a (fun _ => 0) 0 0 (if p_n < 400 then p_n else 400).toNatClampNeg), by have zz := g5_clamp p_n; omega, cpy_ok (by have zz := g5_clamp p_n; omega), rfl, rfl⟩, by rw [ht]; exact hP.sub [0, 1] rfl, hD.sub [0, 1] (by decide) rfl⟩, hS.F ht⟩) hS.2.2 dJ7_copyOf_59c91_32
  ·
    have i_1 : p_n.toInt = 400 := by have z := g5_neN (a := p_n.toInt) (b := 400) (by rfl) (by decide) c_1; omega
    refine lv_aload_n hx hb dJ7_copyOf_59c91_6 rfl (lv_at hl 0 rfl) ?_
    refine va_clone hx hb (hml.trans hl.1.symm) hown (hts _ ml_clone) (hts _ sm_clone) (hts _ na_clone) (hts _ im_clone) (hts _ se_clone) hN.2.2.2 hK hP hD hS hA 0 0 rfl rfl (g_find hK) g_fitI (Nat.le_of_ble_eq_true rfl) (by decide) (Nat.le_of_ble_eq_true rfl) (Nat.le_of_ble_eq_true rfl) dJ7_copyOf_59c91_7 (fun q11 H hKn hP hD hS => ?_)
    refine g5_rs [(a_0, (arI G 400 f_a)), (q11, (arI G 400 f_a))] hP hD (fun hP hD => ?_)
    refine W.widen (k := 1) (n := 400) (Nat.le_of_ble_eq_true rfl) (Nat.le_of_ble_eq_true rfl) ?_
    refine va_castA hx hb hown (hts _ cl_J7_317) hP 1 rfl (g_find hK) dJ7_copyOf_59c91_10 ?_
    exact W.aret (v := .ref q11) hx hb hr (Or.inr ⟨_, rfl⟩) (Or.inr ⟨_, rfl⟩) (fun t ht hW => ⟨⟨some q11, [(a_0, (arI G 400 f_a)), (q11, (arI G 400 f_a))], rfl, ⟨q11, 400, f_a, by have zz := g5_clamp p_n; omega, fun _ _ => rfl, rfl, rfl⟩, by rw [ht]; exact hP.sub [0, 1] rfl, hD.sub [0, 1] (by decide) rfl⟩, hS.F ht⟩) hS.2.2 dJ7_copyOf_59c91_13
theorem dgX4_readClause_0 : ∀ r ∈ ([(0, (.aload_n 0, 1)), (1, (.getfield 12, 3)), (4, (.aload_n 0, 1)), (5, (.getfield 42, 3)), (8, (.invokevirtual 69, 3)), (11, (.sipush 256, 3)), (14, (.isub, 1)), (15, (.istore_n 2, 1)), (16, (.iload_n 2, 1)), (17, (.ifCond .lt 8, 3)), (20, (.iload_n 2, 1)), (21, (.iconst 4, 1)), (22, (.if_icmp .lt 5, 3)), (25, (.iconst 0, 1)), (26, (.ireturn, 1)), (27, (.aload_n 0, 1)), (28, (.dup, 1)), (29, (.getfield 42, 3)), (32, (.iconst 1, 1)), (33, (.iadd, 1)), (34, (.putfield 42, 3)), (37, (.aload_n 0, 1)), (38, (.getfield 18, 3)), (41, (.iload_n 1, 1)), (42, (.iload_n 2, 1)), (43, (.iastore, 1)), (44, (.aload_n 0, 1)), (45, (.getfield 22, 3)), (48, (.iload_n 1, 1)), (49, (.aload_n 0, 1)), (50, (.getfield 36, 3)), (53, (.iastore, 1)), (54, (.iload_n 2, 1)), (55, (.ifCond .eq 8, 3)), (58, (.iload_n 2, 1)), (59, (.iconst 1, 1)), (60, (.if_icmp .ne 13, 3)), (63, (.aload_n 0, 1)), (64, (.iconst 0, 1)), (65, (.invokevirtual 73, 3))] : List (Nat × (Instr × Nat))), decode cX4_readClause r.1 = .ok r.2 := by decide +kernel
theorem dX4_readClause_0 : decode cX4_readClause 0 = .ok (.aload_n 0, 1) := dgX4_readClause_0 (0, (.aload_n 0, 1)) (List.mem_of_getElem? (i := 0) rfl)
theorem dX4_readClause_1 : decode cX4_readClause 1 = .ok (.getfield 12, 3) := dgX4_readClause_0 (1, (.getfield 12, 3)) (List.mem_of_getElem? (i := 1) rfl)
theorem dX4_readClause_4 : decode cX4_readClause 4 = .ok (.aload_n 0, 1) := dgX4_readClause_0 (4, (.aload_n 0, 1)) (List.mem_of_getElem? (i := 2) rfl)
theorem dX4_readClause_5 : decode cX4_readClause 5 = .ok (.getfield 42, 3) := dgX4_readClause_0 (5, (.getfield 42, 3)) (List.mem_of_getElem? (i := 3) rfl)
theorem dX4_readClause_8 : decode cX4_readClause 8 = .ok (.invokevirtual 69, 3) := dgX4_readClause_0 (8, (.invokevirtual 69, 3)) (List.mem_of_getElem? (i := 4) rfl)
theorem dX4_readClause_11 : decode cX4_readClause 11 = .ok (.sipush 256, 3) := dgX4_readClause_0 (11, (.sipush 256, 3)) (List.mem_of_getElem? (i := 5) rfl)
theorem dX4_readClause_14 : decode cX4_readClause 14 = .ok (.isub, 1) := dgX4_readClause_0 (14, (.isub, 1)) (List.mem_of_getElem? (i := 6) rfl)
theorem dX4_readClause_15 : decode cX4_readClause 15 = .ok (.istore_n 2, 1) := dgX4_readClause_0 (15, (.istore_n 2, 1)) (List.mem_of_getElem? (i := 7) rfl)
theorem dX4_readClause_16 : decode cX4_readClause 16 = .ok (.iload_n 2, 1) := dgX4_readClause_0 (16, (.iload_n 2, 1)) (List.mem_of_getElem? (i := 8) rfl)
theorem dX4_readClause_17 : decode cX4_readClause 17 = .ok (.ifCond .lt 8, 3) := dgX4_readClause_0 (17, (.ifCond .lt 8, 3)) (List.mem_of_getElem? (i := 9) rfl)
theorem dX4_readClause_20 : decode cX4_readClause 20 = .ok (.iload_n 2, 1) := dgX4_readClause_0 (20, (.iload_n 2, 1)) (List.mem_of_getElem? (i := 10) rfl)
theorem dX4_readClause_21 : decode cX4_readClause 21 = .ok (.iconst 4, 1) := dgX4_readClause_0 (21, (.iconst 4, 1)) (List.mem_of_getElem? (i := 11) rfl)
theorem dX4_readClause_22 : decode cX4_readClause 22 = .ok (.if_icmp .lt 5, 3) := dgX4_readClause_0 (22, (.if_icmp .lt 5, 3)) (List.mem_of_getElem? (i := 12) rfl)
theorem dX4_readClause_25 : decode cX4_readClause 25 = .ok (.iconst 0, 1) := dgX4_readClause_0 (25, (.iconst 0, 1)) (List.mem_of_getElem? (i := 13) rfl)
theorem dX4_readClause_26 : decode cX4_readClause 26 = .ok (.ireturn, 1) := dgX4_readClause_0 (26, (.ireturn, 1)) (List.mem_of_getElem? (i := 14) rfl)
theorem dX4_readClause_27 : decode cX4_readClause 27 = .ok (.aload_n 0, 1) := dgX4_readClause_0 (27, (.aload_n 0, 1)) (List.mem_of_getElem? (i := 15) rfl)
theorem dX4_readClause_28 : decode cX4_readClause 28 = .ok (.dup, 1) := dgX4_readClause_0 (28, (.dup, 1)) (List.mem_of_getElem? (i := 16) rfl)
theorem dX4_readClause_29 : decode cX4_readClause 29 = .ok (.getfield 42, 3) := dgX4_readClause_0 (29, (.getfield 42, 3)) (List.mem_of_getElem? (i := 17) rfl)
theorem dX4_readClause_32 : decode cX4_readClause 32 = .ok (.iconst 1, 1) := dgX4_readClause_0 (32, (.iconst 1, 1)) (List.mem_of_getElem? (i := 18) rfl)
theorem dX4_readClause_33 : decode cX4_readClause 33 = .ok (.iadd, 1) := dgX4_readClause_0 (33, (.iadd, 1)) (List.mem_of_getElem? (i := 19) rfl)
theorem dX4_readClause_34 : decode cX4_readClause 34 = .ok (.putfield 42, 3) := dgX4_readClause_0 (34, (.putfield 42, 3)) (List.mem_of_getElem? (i := 20) rfl)
theorem dX4_readClause_37 : decode cX4_readClause 37 = .ok (.aload_n 0, 1) := dgX4_readClause_0 (37, (.aload_n 0, 1)) (List.mem_of_getElem? (i := 21) rfl)
theorem dX4_readClause_38 : decode cX4_readClause 38 = .ok (.getfield 18, 3) := dgX4_readClause_0 (38, (.getfield 18, 3)) (List.mem_of_getElem? (i := 22) rfl)
theorem dX4_readClause_41 : decode cX4_readClause 41 = .ok (.iload_n 1, 1) := dgX4_readClause_0 (41, (.iload_n 1, 1)) (List.mem_of_getElem? (i := 23) rfl)
theorem dX4_readClause_42 : decode cX4_readClause 42 = .ok (.iload_n 2, 1) := dgX4_readClause_0 (42, (.iload_n 2, 1)) (List.mem_of_getElem? (i := 24) rfl)
theorem dX4_readClause_43 : decode cX4_readClause 43 = .ok (.iastore, 1) := dgX4_readClause_0 (43, (.iastore, 1)) (List.mem_of_getElem? (i := 25) rfl)
theorem dX4_readClause_44 : decode cX4_readClause 44 = .ok (.aload_n 0, 1) := dgX4_readClause_0 (44, (.aload_n 0, 1)) (List.mem_of_getElem? (i := 26) rfl)
theorem dX4_readClause_45 : decode cX4_readClause 45 = .ok (.getfield 22, 3) := dgX4_readClause_0 (45, (.getfield 22, 3)) (List.mem_of_getElem? (i := 27) rfl)
theorem dX4_readClause_48 : decode cX4_readClause 48 = .ok (.iload_n 1, 1) := dgX4_readClause_0 (48, (.iload_n 1, 1)) (List.mem_of_getElem? (i := 28) rfl)
theorem dX4_readClause_49 : decode cX4_readClause 49 = .ok (.aload_n 0, 1) := dgX4_readClause_0 (49, (.aload_n 0, 1)) (List.mem_of_getElem? (i := 29) rfl)
theorem dX4_readClause_50 : decode cX4_readClause 50 = .ok (.getfield 36, 3) := dgX4_readClause_0 (50, (.getfield 36, 3)) (List.mem_of_getElem? (i := 30) rfl)
theorem dX4_readClause_53 : decode cX4_readClause 53 = .ok (.iastore, 1) := dgX4_readClause_0 (53, (.iastore, 1)) (List.mem_of_getElem? (i := 31) rfl)
theorem dX4_readClause_54 : decode cX4_readClause 54 = .ok (.iload_n 2, 1) := dgX4_readClause_0 (54, (.iload_n 2, 1)) (List.mem_of_getElem? (i := 32) rfl)
theorem dX4_readClause_55 : decode cX4_readClause 55 = .ok (.ifCond .eq 8, 3) := dgX4_readClause_0 (55, (.ifCond .eq 8, 3)) (List.mem_of_getElem? (i := 33) rfl)
theorem dX4_readClause_58 : decode cX4_readClause 58 = .ok (.iload_n 2, 1) := dgX4_readClause_0 (58, (.iload_n 2, 1)) (List.mem_of_getElem? (i := 34) rfl)
theorem dX4_readClause_59 : decode cX4_readClause 59 = .ok (.iconst 1, 1) := dgX4_readClause_0 (59, (.iconst 1, 1)) (List.mem_of_getElem? (i := 35) rfl)
theorem dX4_readClause_60 : decode cX4_readClause 60 = .ok (.if_icmp .ne 13, 3) := dgX4_readClause_0 (60, (.if_icmp .ne 13, 3)) (List.mem_of_getElem? (i := 36) rfl)
theorem dX4_readClause_63 : decode cX4_readClause 63 = .ok (.aload_n 0, 1) := dgX4_readClause_0 (63, (.aload_n 0, 1)) (List.mem_of_getElem? (i := 37) rfl)
theorem dX4_readClause_64 : decode cX4_readClause 64 = .ok (.iconst 0, 1) := dgX4_readClause_0 (64, (.iconst 0, 1)) (List.mem_of_getElem? (i := 38) rfl)
theorem dX4_readClause_65 : decode cX4_readClause 65 = .ok (.invokevirtual 73, 3) := dgX4_readClause_0 (65, (.invokevirtual 73, 3)) (List.mem_of_getElem? (i := 39) rfl)
theorem dgX4_readClause_1 : ∀ r ∈ ([(68, (.ifCond .ne 5, 3)), (71, (.iconst 0, 1)), (72, (.ireturn, 1)), (73, (.aload_n 0, 1)), (74, (.sipush 260, 3)), (77, (.invokevirtual 63, 3)), (80, (.ifCond .ne 5, 3)), (83, (.iconst 1, 1)), (84, (.ireturn, 1)), (85, (.aload_n 0, 1)), (86, (.iconst 0, 1)), (87, (.invokevirtual 76, 3)), (90, (.ifCond .ne 5, 3)), (93, (.iconst 0, 1)), (94, (.ireturn, 1)), (95, (.aload_n 0, 1)), (96, (.bipush 10, 2)), (98, (.iconst 0, 1)), (99, (.invokevirtual 79, 3)), (102, (.pop, 1)), (103, (.iconst 1, 1)), (104, (.ireturn, 1))] : List (Nat × (Instr × Nat))), decode cX4_readClause r.1 = .ok r.2 := by decide +kernel
theorem dX4_readClause_68 : decode cX4_readClause 68 = .ok (.ifCond .ne 5, 3) := dgX4_readClause_1 (68, (.ifCond .ne 5, 3)) (List.mem_of_getElem? (i := 0) rfl)
theorem dX4_readClause_71 : decode cX4_readClause 71 = .ok (.iconst 0, 1) := dgX4_readClause_1 (71, (.iconst 0, 1)) (List.mem_of_getElem? (i := 1) rfl)
theorem dX4_readClause_72 : decode cX4_readClause 72 = .ok (.ireturn, 1) := dgX4_readClause_1 (72, (.ireturn, 1)) (List.mem_of_getElem? (i := 2) rfl)
theorem dX4_readClause_73 : decode cX4_readClause 73 = .ok (.aload_n 0, 1) := dgX4_readClause_1 (73, (.aload_n 0, 1)) (List.mem_of_getElem? (i := 3) rfl)
theorem dX4_readClause_74 : decode cX4_readClause 74 = .ok (.sipush 260, 3) := dgX4_readClause_1 (74, (.sipush 260, 3)) (List.mem_of_getElem? (i := 4) rfl)
theorem dX4_readClause_77 : decode cX4_readClause 77 = .ok (.invokevirtual 63, 3) := dgX4_readClause_1 (77, (.invokevirtual 63, 3)) (List.mem_of_getElem? (i := 5) rfl)
theorem dX4_readClause_80 : decode cX4_readClause 80 = .ok (.ifCond .ne 5, 3) := dgX4_readClause_1 (80, (.ifCond .ne 5, 3)) (List.mem_of_getElem? (i := 6) rfl)
theorem dX4_readClause_83 : decode cX4_readClause 83 = .ok (.iconst 1, 1) := dgX4_readClause_1 (83, (.iconst 1, 1)) (List.mem_of_getElem? (i := 7) rfl)
theorem dX4_readClause_84 : decode cX4_readClause 84 = .ok (.ireturn, 1) := dgX4_readClause_1 (84, (.ireturn, 1)) (List.mem_of_getElem? (i := 8) rfl)
theorem dX4_readClause_85 : decode cX4_readClause 85 = .ok (.aload_n 0, 1) := dgX4_readClause_1 (85, (.aload_n 0, 1)) (List.mem_of_getElem? (i := 9) rfl)
theorem dX4_readClause_86 : decode cX4_readClause 86 = .ok (.iconst 0, 1) := dgX4_readClause_1 (86, (.iconst 0, 1)) (List.mem_of_getElem? (i := 10) rfl)
theorem dX4_readClause_87 : decode cX4_readClause 87 = .ok (.invokevirtual 76, 3) := dgX4_readClause_1 (87, (.invokevirtual 76, 3)) (List.mem_of_getElem? (i := 11) rfl)
theorem dX4_readClause_90 : decode cX4_readClause 90 = .ok (.ifCond .ne 5, 3) := dgX4_readClause_1 (90, (.ifCond .ne 5, 3)) (List.mem_of_getElem? (i := 12) rfl)
theorem dX4_readClause_93 : decode cX4_readClause 93 = .ok (.iconst 0, 1) := dgX4_readClause_1 (93, (.iconst 0, 1)) (List.mem_of_getElem? (i := 13) rfl)
theorem dX4_readClause_94 : decode cX4_readClause 94 = .ok (.ireturn, 1) := dgX4_readClause_1 (94, (.ireturn, 1)) (List.mem_of_getElem? (i := 14) rfl)
theorem dX4_readClause_95 : decode cX4_readClause 95 = .ok (.aload_n 0, 1) := dgX4_readClause_1 (95, (.aload_n 0, 1)) (List.mem_of_getElem? (i := 15) rfl)
theorem dX4_readClause_96 : decode cX4_readClause 96 = .ok (.bipush 10, 2) := dgX4_readClause_1 (96, (.bipush 10, 2)) (List.mem_of_getElem? (i := 16) rfl)
theorem dX4_readClause_98 : decode cX4_readClause 98 = .ok (.iconst 0, 1) := dgX4_readClause_1 (98, (.iconst 0, 1)) (List.mem_of_getElem? (i := 17) rfl)
theorem dX4_readClause_99 : decode cX4_readClause 99 = .ok (.invokevirtual 79, 3) := dgX4_readClause_1 (99, (.invokevirtual 79, 3)) (List.mem_of_getElem? (i := 18) rfl)
theorem dX4_readClause_102 : decode cX4_readClause 102 = .ok (.pop, 1) := dgX4_readClause_1 (102, (.pop, 1)) (List.mem_of_getElem? (i := 19) rfl)
theorem dX4_readClause_103 : decode cX4_readClause 103 = .ok (.iconst 1, 1) := dgX4_readClause_1 (103, (.iconst 1, 1)) (List.mem_of_getElem? (i := 20) rfl)
theorem dX4_readClause_104 : decode cX4_readClause 104 = .ok (.ireturn, 1) := dgX4_readClause_1 (104, (.ireturn, 1)) (List.mem_of_getElem? (i := 21) rfl)
theorem fl_X4_18 : Cond.fieldLink RX4 18 "LateGlass$LawReader" "heads" "[I" ∈ tblG := tg 419 (by decide +kernel) (by decide +kernel)
theorem fl_X4_22 : Cond.fieldLink RX4 22 "LateGlass$LawReader" "starts" "[I" ∈ tblG := tg 420 (by decide +kernel) (by decide +kernel)
set_option maxHeartbeats 4000000 in
set_option maxRecDepth 100000 in
theorem r_clause (l : Launch) (G : g5_G) (a_r a_tk a_kd a_nm a_rc a_rh a_rs a_pl : Nat) (sz : Nat) (e_ln : Int32) (e_pa : Int32) (e_at : Int32) (e_fp : Int32) (p_c : Int32) (f_kd : Nat → Int32) (f_nm : Nat → Int32) (f_rc : Nat → Int32) (f_rh : Nat → Int32) (f_rs : Nat → Int32) (h_e_ln : 0 ≤ e_ln.toInt ∧ e_ln.toInt ≤ 400) (h_e_pa : 0 ≤ e_pa.toInt ∧ e_pa.toInt ≤ 50) (h_e_at : 0 ≤ e_at.toInt ∧ e_at.toInt ≤ 401) (h_p_c : 0 ≤ p_c.toInt ∧ p_c.toInt ≤ 11) (e_tk : TOKI f_kd f_nm) (e_cd : CDI f_rc e_ln.toInt) (e_si : STI f_rs p_c.toInt e_ln.toInt) : Met l yX4_readClause (wsG yX4_readClause cX4_readClause 3 (some .boolean)) ({ frames := 109, cells := 0, slots := 0, locals := 2617 }) (va_Pc [.ref a_r, .int p_c] (g5_P G [(a_r, (oc4 a_tk a_rh a_rs a_rc e_ln e_pa e_at e_fp)), (a_tk, (oc8 a_kd a_nm a_pl)), (a_kd, (arI G 401 f_kd)), (a_nm, (arI G 401 f_nm)), (a_rc, (arI G 400 f_rc)), (a_rh, (arI G 12 f_rh)), (a_rs, (arI G 13 f_rs))] sz)) (va_Qi (fun (r : Int32) (u : va_W) => (∃ (o_r : Int32) (o_ln : Int32) (o_pa : Int32) (o_at : Int32) (o_rc : Nat → Int32) (o_rh : Nat → Int32) (o_rs : Nat → Int32), (0 ≤ o_r.toInt ∧ o_r.toInt ≤ 1) ∧ (e_ln.toInt ≤ o_ln.toInt ∧ o_ln.toInt ≤ 400) ∧ (0 ≤ o_at.toInt ∧ o_at.toInt ≤ 401) ∧ (0 ≤ o_pa.toInt ∧ o_pa.toInt ≤ 50) ∧ (CDI o_rc o_ln.toInt) ∧ (o_r.toInt = 1 → STI o_rs (p_c.toInt + 1) o_ln.toInt) ∧ (r = o_r) ∧ (u = [(a_r, (oc4 a_tk a_rh a_rs a_rc o_ln o_pa o_at e_fp)), (a_tk, (oc8 a_kd a_nm a_pl)), (a_kd, (arI G 401 f_kd)), (a_nm, (arI G 401 f_nm)), (a_rc, (arI G 400 o_rc)), (a_rh, (arI G 12 o_rh)), (a_rs, (arI G 13 o_rs))]))) (g5_B G (va_A [(a_r, (oc4 a_tk a_rh a_rs a_rc e_ln e_pa e_at e_fp)), (a_tk, (oc8 a_kd a_nm a_pl)), (a_kd, (arI G 401 f_kd)), (a_nm, (arI G 401 f_nm)), (a_rc, (arI G 400 f_rc)), (a_rh, (arI G 12 f_rh)), (a_rs, (arI G 13 f_rs))] sz)) (va_A [(a_r, (oc4 a_tk a_rh a_rs a_rc e_ln e_pa e_at e_fp)), (a_tk, (oc8 a_kd a_nm a_pl)), (a_kd, (arI G 401 f_kd)), (a_nm, (arI G 401 f_nm)), (a_rc, (arI G 400 f_rc)), (a_rh, (arI G 12 f_rh)), (a_rs, (arI G 13 f_rs))] sz)) 0 0 (va_A [(a_r, (oc4 a_tk a_rh a_rs a_rc e_ln e_pa e_at e_fp)), (a_tk, (oc8 a_kd a_nm a_pl)), (a_kd, (arI G 401 f_kd)), (a_nm, (arI G 401 f_nm)), (a_rc, (arI G 400 f_rc)), (a_rh, (arI G 12 f_rh)), (a_rs, (arI G 13 f_rs))] sz) := by
  refine Met.ofW (cc := cX4_readClause) (maxL := 3) (ret := (some .boolean)) (by decide) rfl ?_
  intro p e s m args below meth c s₁ B hml hv
  obtain ⟨rfl, hsz, hP, hK, hD0, hN, hT⟩ := hv
  have hx := B.exec
  have hb := B.bytes
  have hr := B.returns
  have hts : ∀ w ∈ tblG, w.before _ s = true := fun w h => atoms_spec (ws := (wsG yX4_readClause cX4_readClause 3 (some .boolean))) B.pre w (List.mem_cons_of_mem _ h)
  have hown : s.vm.findClass RX4 = some m.cls := findClass_of_methodNamed B.named
  have hlocks := B.notSynchronized
  subst hsz
  have hD := hD0.self (sz := s.heap.size)
  generalize hAe : va_A [(a_r, (oc4 a_tk a_rh a_rs a_rc e_ln e_pa e_at e_fp)), (a_tk, (oc8 a_kd a_nm a_pl)), (a_kd, (arI G 401 f_kd)), (a_nm, (arI G 401 f_nm)), (a_rc, (arI G 400 f_rc)), (a_rh, (arI G 12 f_rh)), (a_rs, (arI G 13 f_rs))] s.heap.size = A at hD hT ⊢
  have hA : ∀ q : Nat, s.heap.size ≤ q → A q := fun q h => by rw [← hAe]; exact Or.inr h
  have hS : va_S A s.heap s.heap [] := va_S.rf
  have hP : va_P G.1 vwCl [(a_r, (oc4 a_tk a_rh a_rs a_rc e_ln e_pa e_at e_fp)), (a_tk, (oc8 a_kd a_nm a_pl)), (a_kd, (arI G 401 f_kd)), (a_nm, (arI G 401 f_nm)), (a_rc, (arI G 400 f_rc)), (a_rh, (arI G 12 f_rh)), (a_rs, (arI G 13 f_rs))] s.heap := hP
  have hl := lv_entry ([.ref a_r, .int p_c]) (n := 3) (Nat.le_of_ble_eq_true rfl)
  rw [lg_entry_eq]
  generalize (lg_sl ([.ref a_r, .int p_c]) ++ List.replicate (3 - (lg_sl ([.ref a_r, .int p_c])).length) Slot.unset).toArray = ls at hl ⊢
  have hl : lv_has ls 3 [(0, .ref a_r), (1, .int p_c)] := hl
  refine lv_aload_n hx hb dX4_readClause_0 rfl (lv_at hl 0 rfl) ?_
  refine va_get (D := G.1) (ci := 4) (v := .ref a_tk) (C := RX4) (T := TX4) (N := 8) hx hb hts inG_X4 hown hK hP 0 rfl rfl 0 (by decide) (hts _ fl_X4_12) (fun _ h9 => h9) rfl dX4_readClause_1 ?_
  refine lv_aload_n hx hb dX4_readClause_4 rfl (lv_at hl 0 rfl) ?_
  refine va_get (D := G.1) (ci := 4) (v := .int e_at) (C := RX4) (T := TX4) (N := 8) hx hb hts inG_X4 hown hK hP 0 rfl rfl 6 (by decide) (hts _ fl_X4_42) (fun _ h9 => h9) rfl dX4_readClause_5 ?_
  obtain ⟨hPc, hDc, hFc⟩ := g5_sub3 (wc := [(a_tk, (oc8 a_kd a_nm a_pl)), (a_kd, (arI G 401 f_kd))]) hP hD hS hA [1, 2] (by decide) rfl
  refine va_calli (va_runV (As := [.int e_at]) (rest := []) ⟨hx, hb, hml, hown, hts⟩ (k_kindAt l G a_tk a_kd a_nm a_pl s.heap.size e_at f_kd h_e_at) (cwV 1 hts gV_X4_69 rfl rfl rfl hv_X8_kindAt ⟨Nat.le_of_ble_eq_true rfl, Nat.le_of_ble_eq_true rfl⟩) (g5_preV hPc hK hDc hN hT hS hFc (ci := 8) (q0 := 0) rfl rfl) rfl rfl hl.1 rfl (lv_room (Nat.le_of_ble_eq_true rfl)) dX4_readClause_8 ⟨Nat.le_of_ble_eq_true rfl, Nat.le_of_ble_eq_true rfl⟩) hS (fun q _ h => hFc q h) hFc (fun r u t H1 locs ht hvm hw hB hz1 hk1 hS => ?_)
  obtain ⟨hP1, hD1⟩ := hB
  rw [ht] at hP1
  rcases hw with ⟨z2, i_1, y3, rfl⟩ | ⟨rfl, rfl⟩
  ·
    have i_1 : e_at.toInt ≤ 400 := i_1
    obtain ⟨hP, hD⟩ := va_join (wr := [(a_r, (oc4 a_tk a_rh a_rs a_rc e_ln e_pa e_at e_fp)), (a_nm, (arI G 401 f_nm)), (a_rc, (arI G 400 f_rc)), (a_rh, (arI G 12 f_rh)), (a_rs, (arI G 13 f_rs))]) hP hD [1, 2] [0, 3, 4, 5, 6] rfl rfl (by decide) (by decide) hk1 hFc hP1 hD1
    generalize H1 = H at hP hS ⊢
    refine g5_rs [(a_r, (oc4 a_tk a_rh a_rs a_rc e_ln e_pa e_at e_fp)), (a_nm, (arI G 401 f_nm)), (a_rc, (arI G 400 f_rc)), (a_rh, (arI G 12 f_rh)), (a_rs, (arI G 13 f_rs)), (a_tk, (oc8 a_kd a_nm a_pl)), (a_kd, (arI G 401 f_kd))] hP hD (fun hP hD => ?_)
    refine g5_ti (v := z2) y3 ?_
    refine lv_sipush (v := 256) hx hb dX4_readClause_11 (by decide) ?_
    refine lv_isub hx hb dX4_readClause_14 ?_
    refine lv_istore_n (lv' := [(2, .int (z2 - 256)), (0, .ref a_r), (1, .int p_c)]) hx hb dX4_readClause_15 rfl hl (by decide) rfl (fun ls hl => ?_)
    refine lv_iload_n hx hb dX4_readClause_16 rfl (lv_at hl 0 rfl) ?_
    refine lv_if_lt (tgt := 25) hx hb dX4_readClause_17 (by decide) (fun c_4 => ?_) (fun c_4 => ?_)
    ·
      have i_4 : (z2 - 256).toInt < 0 := by have z := g5_lt (a := (z2 - 256).toInt) (b := 0) (by rfl) (by decide) c_4; omega
      refine lv_iconst (v := 0) hx hb dX4_readClause_25 (by decide) ?_
      exact W.zret (v := 0) hx hb hr rfl (fun t ht hW => ⟨⟨0, [(a_r, (oc4 a_tk a_rh a_rs a_rc e_ln e_pa e_at e_fp)), (a_tk, (oc8 a_kd a_nm a_pl)), (a_kd, (arI G 401 f_kd)), (a_nm, (arI G 401 f_nm)), (a_rc, (arI G 400 f_rc)), (a_rh, (arI G 12 f_rh)), (a_rs, (arI G 13 f_rs))], rfl, ⟨0, e_ln, e_pa, e_at, f_rc, f_rh, f_rs, ⟨by have zc_o_r : (0 : Int32).toInt = 0 := (by decide); omega, by have zc_o_r : (0 : Int32).toInt = 0 := (by decide); omega⟩, ⟨by omega, by omega⟩, h_e_at, h_e_pa, e_cd, fun h => absurd h (by decide), rfl, rfl⟩, by rw [ht]; exact hP.sub [0, 5, 6, 1, 2, 3, 4] rfl, hD.sub [0, 5, 6, 1, 2, 3, 4] (by decide) rfl⟩, hS.F ht⟩) hS.2.2 dX4_readClause_26
    ·
      have i_4 : (z2 - 256).toInt ≥ 0 := by have z := g5_ltN (a := (z2 - 256).toInt) (b := 0) (by rfl) (by decide) c_4; omega
      refine lv_iload_n hx hb dX4_readClause_20 rfl (lv_at hl 0 rfl) ?_
      refine lv_iconst (v := 4) hx hb dX4_readClause_21 (by decide) ?_
      refine lv_icmp_lt (tgt := 27) hx hb dX4_readClause_22 (by decide) (fun c_5 => ?_) (fun c_5 => ?_)
      ·
        have i_5 : (z2 - 256).toInt < 4 := by have z := g5_lt (a := (z2 - 256).toInt) (b := 4) (by rfl) (by decide) c_5; omega
        refine lv_aload_n hx hb dX4_readClause_27 rfl (lv_at hl 1 rfl) ?_
        refine lv_dup hx hb dX4_readClause_28 rfl ?_
        refine va_get (D := G.1) (ci := 4) (v := .int e_at) (C := RX4) (T := TX4) (N := 8) hx hb hts inG_X4 hown hK hP 0 rfl rfl 6 (by decide) (hts _ fl_X4_42) (fun _ h9 => h9) rfl dX4_readClause_29 ?_
        refine lv_iconst (v := 1) hx hb dX4_readClause_32 (by decide) ?_
        refine lv_iadd hx hb dX4_readClause_33 ?_
        have t_6 : (e_at + 1).toInt = e_at.toInt + 1 := g5_iadd (a := e_at.toInt) (b := 1) (by rfl) (by decide) (by omega) (by omega)
        refine va_put (D := G.1) (ci := 4) (v := .int (e_at + 1)) (ty := .int) (C := RX4) (T := TX4) (N := 8) hx hb hts inG_X4 tyX4 tyX4_ok nmX4 hown hK hP hD hS 0 rfl rfl 6 (by decide) (hts _ fl_X4_42) (fun _ h9 => h9) rfl (by decide +kernel) rfl rfl (Nat.le_of_ble_eq_true rfl) dX4_readClause_34 (fun H locs hP hD hS => ?_)
        refine g5_rs [(a_r, (oc4 a_tk a_rh a_rs a_rc e_ln e_pa (e_at + 1) e_fp)), (a_nm, (arI G 401 f_nm)), (a_rc, (arI G 400 f_rc)), (a_rh, (arI G 12 f_rh)), (a_rs, (arI G 13 f_rs)), (a_tk, (oc8 a_kd a_nm a_pl)), (a_kd, (arI G 401 f_kd))] hP hD (fun hP hD => ?_)
        refine lv_aload_n hx hb dX4_readClause_37 rfl (lv_at hl 1 rfl) ?_
        refine va_get (D := G.1) (ci := 4) (v := .ref a_rh) (C := RX4) (T := TX4) (N := 8) hx hb hts inG_X4 hown hK hP 0 rfl rfl 1 (by decide) (hts _ fl_X4_18) (fun _ h9 => h9) rfl dX4_readClause_38 ?_
        refine lv_iload_n hx hb dX4_readClause_41 rfl (lv_at hl 2 rfl) ?_
        refine lv_iload_n hx hb dX4_readClause_42 rfl (lv_at hl 0 rfl) ?_
        refine va_iast hx hb hK hP hD hS 3 0 rfl rfl (i := p_c) (x := (z2 - 256)) (vp_in_iff.mpr ⟨by omega, by omega⟩) dX4_readClause_43 (fun H locs hP hD hS => ?_)
        refine g5_rs [(a_r, (oc4 a_tk a_rh a_rs a_rc e_ln e_pa (e_at + 1) e_fp)), (a_nm, (arI G 401 f_nm)), (a_rc, (arI G 400 f_rc)), (a_rh, (arI G 12 (upd f_rh p_c.toNatClampNeg (z2 - 256)))), (a_rs, (arI G 13 f_rs)), (a_tk, (oc8 a_kd a_nm a_pl)), (a_kd, (arI G 401 f_kd))] hP hD (fun hP hD => ?_)
        refine lv_aload_n hx hb dX4_readClause_44 rfl (lv_at hl 1 rfl) ?_
        refine va_get (D := G.1) (ci := 4) (v := .ref a_rs) (C := RX4) (T := TX4) (N := 8) hx hb hts inG_X4 hown hK hP 0 rfl rfl 2 (by decide) (hts _ fl_X4_22) (fun _ h9 => h9) rfl dX4_readClause_45 ?_
        refine lv_iload_n hx hb dX4_readClause_48 rfl (lv_at hl 2 rfl) ?_
        refine lv_aload_n hx hb dX4_readClause_49 rfl (lv_at hl 1 rfl) ?_
        refine va_get (D := G.1) (ci := 4) (v := .int e_ln) (C := RX4) (T := TX4) (N := 8) hx hb hts inG_X4 hown hK hP 0 rfl rfl 4 (by decide) (hts _ fl_X4_36) (fun _ h9 => h9) rfl dX4_readClause_50 ?_
        refine va_iast hx hb hK hP hD hS 4 0 rfl rfl (i := p_c) (x := e_ln) (vp_in_iff.mpr ⟨by omega, by omega⟩) dX4_readClause_53 (fun H locs hP hD hS => ?_)
        refine g5_rs [(a_r, (oc4 a_tk a_rh a_rs a_rc e_ln e_pa (e_at + 1) e_fp)), (a_nm, (arI G 401 f_nm)), (a_rc, (arI G 400 f_rc)), (a_rh, (arI G 12 (upd f_rh p_c.toNatClampNeg (z2 - 256)))), (a_rs, (arI G 13 (upd f_rs p_c.toNatClampNeg e_ln))), (a_tk, (oc8 a_kd a_nm a_pl)), (a_kd, (arI G 401 f_kd))] hP hD (fun hP hD => ?_)
        refine lv_iload_n hx hb dX4_readClause_54 rfl (lv_at hl 0 rfl) ?_
        refine lv_if_eq (tgt := 63) hx hb dX4_readClause_55 (by decide) (fun c_7 => ?_) (fun c_7 => ?_)
        ·
          have i_7 : (z2 - 256).toInt = 0 := by have z := g5_eq (a := (z2 - 256).toInt) (b := 0) (by rfl) (by decide) c_7; omega
          refine lv_aload_n hx hb dX4_readClause_63 rfl (lv_at hl 1 rfl) ?_
          refine lv_iconst (v := 0) hx hb dX4_readClause_64 (by decide) ?_
          obtain ⟨hPc, hDc, hFc⟩ := g5_sub3 (wc := [(a_r, (oc4 a_tk a_rh a_rs a_rc e_ln e_pa (e_at + 1) e_fp)), (a_tk, (oc8 a_kd a_nm a_pl)), (a_kd, (arI G 401 f_kd)), (a_nm, (arI G 401 f_nm)), (a_rc, (arI G 400 f_rc))]) hP hD hS hA [0, 5, 6, 1, 2] (by decide) rfl
          refine va_calli (va_runV (As := [.int 0]) (rest := []) ⟨hx, hb, hml, hown, hts⟩ (r_sum0 l G a_r a_tk a_kd a_nm a_rc a_rh a_rs a_pl H.size e_ln e_pa (e_at + 1) e_fp f_kd f_nm f_rc h_e_ln h_e_pa ⟨by omega, by omega⟩ (e_tk) (e_cd)) (cwV 1 hts gV_X4_73 rfl rfl rfl hv_X4_readSum ⟨Nat.le_of_ble_eq_true rfl, Nat.le_of_ble_eq_true rfl⟩) (g5_preV hPc hK hDc hN hT hS hFc (ci := 4) (q0 := 0) rfl rfl) rfl rfl hl.1 rfl (lv_room (Nat.le_of_ble_eq_true rfl)) dX4_readClause_65 ⟨Nat.le_of_ble_eq_true rfl, Nat.le_of_ble_eq_true rfl⟩) hS (fun q _ h => hFc q h) hFc (fun r u t H1 locs ht hvm hw hB hz1 hk1 hS => ?_)
          obtain ⟨hP1, hD1⟩ := hB
          rw [ht] at hP1
          obtain ⟨z14, z15, z16, z17, z18, i_8, i_9, i_10, i_11, i_12, i_13, y19, rfl⟩ := hw
          have i_8 : 0 ≤ z14.toInt ∧ z14.toInt ≤ 1 := i_8
          have i_9 : e_ln.toInt ≤ z15.toInt ∧ z15.toInt ≤ 400 := i_9
          have i_10 : 0 ≤ z17.toInt ∧ z17.toInt ≤ 401 := i_10
          have i_11 : 0 ≤ z16.toInt ∧ z16.toInt ≤ 50 := i_11
          have i_12 : CDI z18 z15.toInt := i_12
          have i_13 : OPK f_rc z18 e_ln.toInt := i_13
          obtain ⟨hP, hD⟩ := va_join (wr := [(a_rh, (arI G 12 (upd f_rh p_c.toNatClampNeg (z2 - 256)))), (a_rs, (arI G 13 (upd f_rs p_c.toNatClampNeg e_ln)))]) hP hD [0, 5, 6, 1, 2] [3, 4] rfl rfl (by decide) (by decide) hk1 hFc hP1 hD1
          generalize H1 = H at hP hS ⊢
          refine g5_rs [(a_rh, (arI G 12 (upd f_rh p_c.toNatClampNeg (z2 - 256)))), (a_rs, (arI G 13 (upd f_rs p_c.toNatClampNeg e_ln))), (a_r, (oc4 a_tk a_rh a_rs a_rc z15 z16 z17 e_fp)), (a_tk, (oc8 a_kd a_nm a_pl)), (a_kd, (arI G 401 f_kd)), (a_nm, (arI G 401 f_nm)), (a_rc, (arI G 400 z18))] hP hD (fun hP hD => ?_)
          refine g5_ti (v := z14) y19 ?_
          refine lv_if_ne (tgt := 73) hx hb dX4_readClause_68 (by decide) (fun c_20 => ?_) (fun c_20 => ?_)
          ·
            have n_20 : gNe (z14.toInt) (0) := by have z := g5_ne (a := z14.toInt) (b := 0) (by rfl) (by decide) c_20; unfold gNe; omega
            have i_20 : z14.toInt ≥ 1 := by have z := g5_ne (a := z14.toInt) (b := 0) (by rfl) (by decide) c_20; omega
            refine lv_aload_n hx hb dX4_readClause_73 rfl (lv_at hl 1 rfl) ?_
            refine lv_sipush (v := 260) hx hb dX4_readClause_74 (by decide) ?_
            obtain ⟨hPc, hDc, hFc⟩ := g5_sub3 (wc := [(a_r, (oc4 a_tk a_rh a_rs a_rc z15 z16 z17 e_fp)), (a_tk, (oc8 a_kd a_nm a_pl)), (a_kd, (arI G 401 f_kd))]) hP hD hS hA [2, 3, 4] (by decide) rfl
            refine va_calli (va_runV (As := [.int 260]) (rest := []) ⟨hx, hb, hml, hown, hts⟩ (r_passed l G a_r a_tk a_kd a_rh a_rs a_rc a_nm a_pl H.size z15 z16 z17 e_fp 260 f_kd ⟨by omega, by omega⟩ i_11 i_10) (cwV 1 hts gV_X4_63 rfl rfl rfl hv_X4_passed ⟨Nat.le_of_ble_eq_true rfl, Nat.le_of_ble_eq_true rfl⟩) (g5_preV hPc hK hDc hN hT hS hFc (ci := 4) (q0 := 0) rfl rfl) rfl rfl hl.1 rfl (lv_room (Nat.le_of_ble_eq_true rfl)) dX4_readClause_77 ⟨Nat.le_of_ble_eq_true rfl, Nat.le_of_ble_eq_true rfl⟩) hS (fun q _ h => hFc q h) hFc (fun r u t H1 locs ht hvm hw hB hz1 hk1 hS => ?_)
            obtain ⟨hP1, hD1⟩ := hB
            rw [ht] at hP1
            obtain ⟨z23, z24, i_21, i_22, y25, rfl⟩ := hw
            have i_21 : 0 ≤ z23.toInt ∧ z23.toInt ≤ 1 := i_21
            have i_22 : 0 ≤ z24.toInt ∧ z24.toInt ≤ 401 := i_22
            obtain ⟨hP, hD⟩ := va_join (wr := [(a_rh, (arI G 12 (upd f_rh p_c.toNatClampNeg (z2 - 256)))), (a_rs, (arI G 13 (upd f_rs p_c.toNatClampNeg e_ln))), (a_nm, (arI G 401 f_nm)), (a_rc, (arI G 400 z18))]) hP hD [2, 3, 4] [0, 1, 5, 6] rfl rfl (by decide) (by decide) hk1 hFc hP1 hD1
            generalize H1 = H at hP hS ⊢
            refine g5_rs [(a_rh, (arI G 12 (upd f_rh p_c.toNatClampNeg (z2 - 256)))), (a_rs, (arI G 13 (upd f_rs p_c.toNatClampNeg e_ln))), (a_nm, (arI G 401 f_nm)), (a_rc, (arI G 400 z18)), (a_r, (oc4 a_tk a_rh a_rs a_rc z15 z16 z24 e_fp)), (a_tk, (oc8 a_kd a_nm a_pl)), (a_kd, (arI G 401 f_kd))] hP hD (fun hP hD => ?_)
            refine g5_ti (v := z23) y25 ?_
            refine lv_if_ne (tgt := 85) hx hb dX4_readClause_80 (by decide) (fun c_26 => ?_) (fun c_26 => ?_)
            ·
              have n_26 : gNe (z23.toInt) (0) := by have z := g5_ne (a := z23.toInt) (b := 0) (by rfl) (by decide) c_26; unfold gNe; omega
              have i_26 : z23.toInt ≥ 1 := by have z := g5_ne (a := z23.toInt) (b := 0) (by rfl) (by decide) c_26; omega
              refine lv_aload_n hx hb dX4_readClause_85 rfl (lv_at hl 1 rfl) ?_
              refine lv_iconst (v := 0) hx hb dX4_readClause_86 (by decide) ?_
              obtain ⟨hPc, hDc, hFc⟩ := g5_sub3 (wc := [(a_r, (oc4 a_tk a_rh a_rs a_rc z15 z16 z24 e_fp)), (a_tk, (oc8 a_kd a_nm a_pl)), (a_kd, (arI G 401 f_kd)), (a_nm, (arI G 401 f_nm)), (a_rc, (arI G 400 z18))]) hP hD hS hA [4, 5, 6, 2, 3] (by decide) rfl
              refine va_calli (va_runV (As := [.int 0]) (rest := []) ⟨hx, hb, hml, hown, hts⟩ (r_test0 l G a_r a_tk a_kd a_nm a_rc a_rh a_rs a_pl H.size z15 z16 z24 e_fp f_kd f_nm z18 ⟨by omega, by omega⟩ i_11 i_22 (e_tk) (i_12)) (cwV 1 hts gV_X4_76 rfl rfl rfl hv_X4_readTest ⟨Nat.le_of_ble_eq_true rfl, Nat.le_of_ble_eq_true rfl⟩) (g5_preV hPc hK hDc hN hT hS hFc (ci := 4) (q0 := 0) rfl rfl) rfl rfl hl.1 rfl (lv_room (Nat.le_of_ble_eq_true rfl)) dX4_readClause_87 ⟨Nat.le_of_ble_eq_true rfl, Nat.le_of_ble_eq_true rfl⟩) hS (fun q _ h => hFc q h) hFc (fun r u t H1 locs ht hvm hw hB hz1 hk1 hS => ?_)
              obtain ⟨hP1, hD1⟩ := hB
              rw [ht] at hP1
              obtain ⟨z33, z34, z35, z36, z37, i_27, i_28, i_29, i_30, i_31, i_32, y38, rfl⟩ := hw
              have i_27 : 0 ≤ z33.toInt ∧ z33.toInt ≤ 1 := i_27
              have i_28 : z15.toInt ≤ z34.toInt ∧ z34.toInt ≤ 400 := i_28
              have i_29 : 0 ≤ z36.toInt ∧ z36.toInt ≤ 401 := i_29
              have i_30 : 0 ≤ z35.toInt ∧ z35.toInt ≤ 50 := i_30
              have i_31 : CDI z37 z34.toInt := i_31
              have i_32 : OPK z18 z37 z15.toInt := i_32
              obtain ⟨hP, hD⟩ := va_join (wr := [(a_rh, (arI G 12 (upd f_rh p_c.toNatClampNeg (z2 - 256)))), (a_rs, (arI G 13 (upd f_rs p_c.toNatClampNeg e_ln)))]) hP hD [4, 5, 6, 2, 3] [0, 1] rfl rfl (by decide) (by decide) hk1 hFc hP1 hD1
              generalize H1 = H at hP hS ⊢
              refine g5_rs [(a_rh, (arI G 12 (upd f_rh p_c.toNatClampNeg (z2 - 256)))), (a_rs, (arI G 13 (upd f_rs p_c.toNatClampNeg e_ln))), (a_r, (oc4 a_tk a_rh a_rs a_rc z34 z35 z36 e_fp)), (a_tk, (oc8 a_kd a_nm a_pl)), (a_kd, (arI G 401 f_kd)), (a_nm, (arI G 401 f_nm)), (a_rc, (arI G 400 z37))] hP hD (fun hP hD => ?_)
              refine g5_ti (v := z33) y38 ?_
              refine lv_if_ne (tgt := 95) hx hb dX4_readClause_90 (by decide) (fun c_39 => ?_) (fun c_39 => ?_)
              ·
                have n_39 : gNe (z33.toInt) (0) := by have z := g5_ne (a := z33.toInt) (b := 0) (by rfl) (by decide) c_39; unfold gNe; omega
                have i_39 : z33.toInt ≥ 1 := by have z := g5_ne (a := z33.toInt) (b := 0) (by rfl) (by decide) c_39; omega
                refine lv_aload_n hx hb dX4_readClause_95 rfl (lv_at hl 1 rfl) ?_
                refine lv_bipush (v := 10) hx hb dX4_readClause_96 (by decide) ?_
                refine lv_iconst (v := 0) hx hb dX4_readClause_98 (by decide) ?_
                obtain ⟨hPc, hDc, hFc⟩ := g5_sub3 (wc := [(a_r, (oc4 a_tk a_rh a_rs a_rc z34 z35 z36 e_fp)), (a_rc, (arI G 400 z37))]) hP hD hS hA [2, 6] (by decide) rfl
                refine va_calli (va_runV (As := [.int 10, .int 0]) (rest := []) ⟨hx, hb, hml, hown, hts⟩ (r_emit l G a_r a_rc a_tk a_rh a_rs H.size z34 z35 z36 e_fp 10 0 z37 ⟨by omega, by omega⟩ i_30 i_29 (i_31) (by unfold wOK; decide)) (cwV 2 hts gV_X4_79 rfl rfl rfl hv_X4_emit ⟨Nat.le_of_ble_eq_true rfl, Nat.le_of_ble_eq_true rfl⟩) (g5_preV hPc hK hDc hN hT hS hFc (ci := 4) (q0 := 0) rfl rfl) rfl rfl hl.1 rfl (lv_room (Nat.le_of_ble_eq_true rfl)) dX4_readClause_99 ⟨Nat.le_of_ble_eq_true rfl, Nat.le_of_ble_eq_true rfl⟩) hS (fun q _ h => hFc q h) hFc (fun r u t H1 locs ht hvm hw hB hz1 hk1 hS => ?_)
                obtain ⟨hP1, hD1⟩ := hB
                rw [ht] at hP1
                obtain ⟨z45, z46, z47, i_40, i_41, i_42, i_43, i_44, y48, rfl⟩ := hw
                have i_40 : -1 ≤ z45.toInt ∧ z45.toInt ≤ 399 := i_40
                have i_41 : z34.toInt ≤ z46.toInt ∧ z46.toInt ≤ 400 := i_41
                have i_42 : CDI z47 z46.toInt := i_42
                have i_43 : OPK z37 z47 z34.toInt := i_43
                have i_44 : 0 ≤ z45.toInt → z45.toInt < z46.toInt ∧ z47 z45.toNatClampNeg = (((10 : Int32) <<< (12 &&& 31)) ||| (0 : Int32)) := i_44
                obtain ⟨hP, hD⟩ := va_join (wr := [(a_rh, (arI G 12 (upd f_rh p_c.toNatClampNeg (z2 - 256)))), (a_rs, (arI G 13 (upd f_rs p_c.toNatClampNeg e_ln))), (a_tk, (oc8 a_kd a_nm a_pl)), (a_kd, (arI G 401 f_kd)), (a_nm, (arI G 401 f_nm))]) hP hD [2, 6] [0, 1, 3, 4, 5] rfl rfl (by decide) (by decide) hk1 hFc hP1 hD1
                generalize H1 = H at hP hS ⊢
                refine g5_rs [(a_rh, (arI G 12 (upd f_rh p_c.toNatClampNeg (z2 - 256)))), (a_rs, (arI G 13 (upd f_rs p_c.toNatClampNeg e_ln))), (a_tk, (oc8 a_kd a_nm a_pl)), (a_kd, (arI G 401 f_kd)), (a_nm, (arI G 401 f_nm)), (a_r, (oc4 a_tk a_rh a_rs a_rc z46 z35 z36 e_fp)), (a_rc, (arI G 400 z47))] hP hD (fun hP hD => ?_)
                refine g5_ti (v := z45) y48 ?_
                refine lv_pop hx hb dX4_readClause_102 rfl ?_
                refine lv_iconst (v := 1) hx hb dX4_readClause_103 (by decide) ?_
                exact W.zret (v := 1) hx hb hr rfl (fun t ht hW => ⟨⟨1, [(a_r, (oc4 a_tk a_rh a_rs a_rc z46 z35 z36 e_fp)), (a_tk, (oc8 a_kd a_nm a_pl)), (a_kd, (arI G 401 f_kd)), (a_nm, (arI G 401 f_nm)), (a_rc, (arI G 400 z47)), (a_rh, (arI G 12 (upd f_rh p_c.toNatClampNeg (z2 - 256)))), (a_rs, (arI G 13 (upd f_rs p_c.toNatClampNeg e_ln)))], rfl, ⟨1, z46, z35, z36, z47, (upd f_rh p_c.toNatClampNeg (z2 - 256)), (upd f_rs p_c.toNatClampNeg e_ln), ⟨by have zc_o_r : (1 : Int32).toInt = 1 := (by decide); omega, by have zc_o_r : (1 : Int32).toInt = 1 := (by decide); omega⟩, ⟨by omega, by omega⟩, i_29, i_30, i_42, fun _ => sti_set e_si (by omega) (by omega) (by omega), rfl, rfl⟩, by rw [ht]; exact hP.sub [5, 2, 3, 4, 6, 0, 1] rfl, hD.sub [5, 2, 3, 4, 6, 0, 1] (by decide) rfl⟩, hS.F ht⟩) hS.2.2 dX4_readClause_104
              ·
                have i_39 : z33.toInt = 0 := by have z := g5_neN (a := z33.toInt) (b := 0) (by rfl) (by decide) c_39; omega
                refine lv_iconst (v := 0) hx hb dX4_readClause_93 (by decide) ?_
                exact W.zret (v := 0) hx hb hr rfl (fun t ht hW => ⟨⟨0, [(a_r, (oc4 a_tk a_rh a_rs a_rc z34 z35 z36 e_fp)), (a_tk, (oc8 a_kd a_nm a_pl)), (a_kd, (arI G 401 f_kd)), (a_nm, (arI G 401 f_nm)), (a_rc, (arI G 400 z37)), (a_rh, (arI G 12 (upd f_rh p_c.toNatClampNeg (z2 - 256)))), (a_rs, (arI G 13 (upd f_rs p_c.toNatClampNeg e_ln)))], rfl, ⟨0, z34, z35, z36, z37, (upd f_rh p_c.toNatClampNeg (z2 - 256)), (upd f_rs p_c.toNatClampNeg e_ln), ⟨by have zc_o_r : (0 : Int32).toInt = 0 := (by decide); omega, by have zc_o_r : (0 : Int32).toInt = 0 := (by decide); omega⟩, ⟨by omega, by omega⟩, i_29, i_30, i_31, fun h => absurd h (by decide), rfl, rfl⟩, by rw [ht]; exact hP.sub [2, 3, 4, 5, 6, 0, 1] rfl, hD.sub [2, 3, 4, 5, 6, 0, 1] (by decide) rfl⟩, hS.F ht⟩) hS.2.2 dX4_readClause_94
            ·
              have i_26 : z23.toInt = 0 := by have z := g5_neN (a := z23.toInt) (b := 0) (by rfl) (by decide) c_26; omega
              refine lv_iconst (v := 1) hx hb dX4_readClause_83 (by decide) ?_
              exact W.zret (v := 1) hx hb hr rfl (fun t ht hW => ⟨⟨1, [(a_r, (oc4 a_tk a_rh a_rs a_rc z15 z16 z24 e_fp)), (a_tk, (oc8 a_kd a_nm a_pl)), (a_kd, (arI G 401 f_kd)), (a_nm, (arI G 401 f_nm)), (a_rc, (arI G 400 z18)), (a_rh, (arI G 12 (upd f_rh p_c.toNatClampNeg (z2 - 256)))), (a_rs, (arI G 13 (upd f_rs p_c.toNatClampNeg e_ln)))], rfl, ⟨1, z15, z16, z24, z18, (upd f_rh p_c.toNatClampNeg (z2 - 256)), (upd f_rs p_c.toNatClampNeg e_ln), ⟨by have zc_o_r : (1 : Int32).toInt = 1 := (by decide); omega, by have zc_o_r : (1 : Int32).toInt = 1 := (by decide); omega⟩, ⟨by omega, by omega⟩, i_22, i_11, i_12, fun _ => sti_set e_si (by omega) (by omega) (by omega), rfl, rfl⟩, by rw [ht]; exact hP.sub [4, 5, 6, 2, 3, 0, 1] rfl, hD.sub [4, 5, 6, 2, 3, 0, 1] (by decide) rfl⟩, hS.F ht⟩) hS.2.2 dX4_readClause_84
          ·
            have i_20 : z14.toInt = 0 := by have z := g5_neN (a := z14.toInt) (b := 0) (by rfl) (by decide) c_20; omega
            refine lv_iconst (v := 0) hx hb dX4_readClause_71 (by decide) ?_
            exact W.zret (v := 0) hx hb hr rfl (fun t ht hW => ⟨⟨0, [(a_r, (oc4 a_tk a_rh a_rs a_rc z15 z16 z17 e_fp)), (a_tk, (oc8 a_kd a_nm a_pl)), (a_kd, (arI G 401 f_kd)), (a_nm, (arI G 401 f_nm)), (a_rc, (arI G 400 z18)), (a_rh, (arI G 12 (upd f_rh p_c.toNatClampNeg (z2 - 256)))), (a_rs, (arI G 13 (upd f_rs p_c.toNatClampNeg e_ln)))], rfl, ⟨0, z15, z16, z17, z18, (upd f_rh p_c.toNatClampNeg (z2 - 256)), (upd f_rs p_c.toNatClampNeg e_ln), ⟨by have zc_o_r : (0 : Int32).toInt = 0 := (by decide); omega, by have zc_o_r : (0 : Int32).toInt = 0 := (by decide); omega⟩, ⟨by omega, by omega⟩, i_10, i_11, i_12, fun h => absurd h (by decide), rfl, rfl⟩, by rw [ht]; exact hP.sub [2, 3, 4, 5, 6, 0, 1] rfl, hD.sub [2, 3, 4, 5, 6, 0, 1] (by decide) rfl⟩, hS.F ht⟩) hS.2.2 dX4_readClause_72
        ·
          have n_7 : gNe ((z2 - 256).toInt) (0) := by have z := g5_eqN (a := (z2 - 256).toInt) (b := 0) (by rfl) (by decide) c_7; unfold gNe; omega
          have i_7 : (z2 - 256).toInt ≥ 1 := by have z := g5_eqN (a := (z2 - 256).toInt) (b := 0) (by rfl) (by decide) c_7; omega
          refine lv_iload_n hx hb dX4_readClause_58 rfl (lv_at hl 0 rfl) ?_
          refine lv_iconst (v := 1) hx hb dX4_readClause_59 (by decide) ?_
          refine lv_icmp_ne (tgt := 73) hx hb dX4_readClause_60 (by decide) (fun c_49 => ?_) (fun c_49 => ?_)
          ·
            have n_49 : gNe ((z2 - 256).toInt) (1) := by have z := g5_ne (a := (z2 - 256).toInt) (b := 1) (by rfl) (by decide) c_49; unfold gNe; omega
            have i_49 : (z2 - 256).toInt ≥ 2 := by have z := g5_ne (a := (z2 - 256).toInt) (b := 1) (by rfl) (by decide) c_49; omega
            refine lv_aload_n hx hb dX4_readClause_73 rfl (lv_at hl 1 rfl) ?_
            refine lv_sipush (v := 260) hx hb dX4_readClause_74 (by decide) ?_
            obtain ⟨hPc, hDc, hFc⟩ := g5_sub3 (wc := [(a_r, (oc4 a_tk a_rh a_rs a_rc e_ln e_pa (e_at + 1) e_fp)), (a_tk, (oc8 a_kd a_nm a_pl)), (a_kd, (arI G 401 f_kd))]) hP hD hS hA [0, 5, 6] (by decide) rfl
            refine va_calli (va_runV (As := [.int 260]) (rest := []) ⟨hx, hb, hml, hown, hts⟩ (r_passed l G a_r a_tk a_kd a_rh a_rs a_rc a_nm a_pl H.size e_ln e_pa (e_at + 1) e_fp 260 f_kd h_e_ln h_e_pa ⟨by omega, by omega⟩) (cwV 1 hts gV_X4_63 rfl rfl rfl hv_X4_passed ⟨Nat.le_of_ble_eq_true rfl, Nat.le_of_ble_eq_true rfl⟩) (g5_preV hPc hK hDc hN hT hS hFc (ci := 4) (q0 := 0) rfl rfl) rfl rfl hl.1 rfl (lv_room (Nat.le_of_ble_eq_true rfl)) dX4_readClause_77 ⟨Nat.le_of_ble_eq_true rfl, Nat.le_of_ble_eq_true rfl⟩) hS (fun q _ h => hFc q h) hFc (fun r u t H1 locs ht hvm hw hB hz1 hk1 hS => ?_)
            obtain ⟨hP1, hD1⟩ := hB
            rw [ht] at hP1
            obtain ⟨z52, z53, i_50, i_51, y54, rfl⟩ := hw
            have i_50 : 0 ≤ z52.toInt ∧ z52.toInt ≤ 1 := i_50
            have i_51 : 0 ≤ z53.toInt ∧ z53.toInt ≤ 401 := i_51
            obtain ⟨hP, hD⟩ := va_join (wr := [(a_nm, (arI G 401 f_nm)), (a_rc, (arI G 400 f_rc)), (a_rh, (arI G 12 (upd f_rh p_c.toNatClampNeg (z2 - 256)))), (a_rs, (arI G 13 (upd f_rs p_c.toNatClampNeg e_ln)))]) hP hD [0, 5, 6] [1, 2, 3, 4] rfl rfl (by decide) (by decide) hk1 hFc hP1 hD1
            generalize H1 = H at hP hS ⊢
            refine g5_rs [(a_nm, (arI G 401 f_nm)), (a_rc, (arI G 400 f_rc)), (a_rh, (arI G 12 (upd f_rh p_c.toNatClampNeg (z2 - 256)))), (a_rs, (arI G 13 (upd f_rs p_c.toNatClampNeg e_ln))), (a_r, (oc4 a_tk a_rh a_rs a_rc e_ln e_pa z53 e_fp)), (a_tk, (oc8 a_kd a_nm a_pl)), (a_kd, (arI G 401 f_kd))] hP hD (fun hP hD => ?_)
            refine g5_ti (v := z52) y54 ?_
            refine lv_if_ne (tgt := 85) hx hb dX4_readClause_80 (by decide) (fun c_55 => ?_) (fun c_55 => ?_)
            ·
              have n_55 : gNe (z52.toInt) (0) := by have z := g5_ne (a := z52.toInt) (b := 0) (by rfl) (by decide) c_55; unfold gNe; omega
              have i_55 : z52.toInt ≥ 1 := by have z := g5_ne (a := z52.toInt) (b := 0) (by rfl) (by decide) c_55; omega
              refine lv_aload_n hx hb dX4_readClause_85 rfl (lv_at hl 1 rfl) ?_
              refine lv_iconst (v := 0) hx hb dX4_readClause_86 (by decide) ?_
              obtain ⟨hPc, hDc, hFc⟩ := g5_sub3 (wc := [(a_r, (oc4 a_tk a_rh a_rs a_rc e_ln e_pa z53 e_fp)), (a_tk, (oc8 a_kd a_nm a_pl)), (a_kd, (arI G 401 f_kd)), (a_nm, (arI G 401 f_nm)), (a_rc, (arI G 400 f_rc))]) hP hD hS hA [4, 5, 6, 0, 1] (by decide) rfl
              refine va_calli (va_runV (As := [.int 0]) (rest := []) ⟨hx, hb, hml, hown, hts⟩ (r_test0 l G a_r a_tk a_kd a_nm a_rc a_rh a_rs a_pl H.size e_ln e_pa z53 e_fp f_kd f_nm f_rc h_e_ln h_e_pa i_51 (e_tk) (e_cd)) (cwV 1 hts gV_X4_76 rfl rfl rfl hv_X4_readTest ⟨Nat.le_of_ble_eq_true rfl, Nat.le_of_ble_eq_true rfl⟩) (g5_preV hPc hK hDc hN hT hS hFc (ci := 4) (q0 := 0) rfl rfl) rfl rfl hl.1 rfl (lv_room (Nat.le_of_ble_eq_true rfl)) dX4_readClause_87 ⟨Nat.le_of_ble_eq_true rfl, Nat.le_of_ble_eq_true rfl⟩) hS (fun q _ h => hFc q h) hFc (fun r u t H1 locs ht hvm hw hB hz1 hk1 hS => ?_)
              obtain ⟨hP1, hD1⟩ := hB
              rw [ht] at hP1
              obtain ⟨z62, z63, z64, z65, z66, i_56, i_57, i_58, i_59, i_60, i_61, y67, rfl⟩ := hw
              have i_56 : 0 ≤ z62.toInt ∧ z62.toInt ≤ 1 := i_56
              have i_57 : e_ln.toInt ≤ z63.toInt ∧ z63.toInt ≤ 400 := i_57
              have i_58 : 0 ≤ z65.toInt ∧ z65.toInt ≤ 401 := i_58
              have i_59 : 0 ≤ z64.toInt ∧ z64.toInt ≤ 50 := i_59
              have i_60 : CDI z66 z63.toInt := i_60
              have i_61 : OPK f_rc z66 e_ln.toInt := i_61
              obtain ⟨hP, hD⟩ := va_join (wr := [(a_rh, (arI G 12 (upd f_rh p_c.toNatClampNeg (z2 - 256)))), (a_rs, (arI G 13 (upd f_rs p_c.toNatClampNeg e_ln)))]) hP hD [4, 5, 6, 0, 1] [2, 3] rfl rfl (by decide) (by decide) hk1 hFc hP1 hD1
              generalize H1 = H at hP hS ⊢
              refine g5_rs [(a_rh, (arI G 12 (upd f_rh p_c.toNatClampNeg (z2 - 256)))), (a_rs, (arI G 13 (upd f_rs p_c.toNatClampNeg e_ln))), (a_r, (oc4 a_tk a_rh a_rs a_rc z63 z64 z65 e_fp)), (a_tk, (oc8 a_kd a_nm a_pl)), (a_kd, (arI G 401 f_kd)), (a_nm, (arI G 401 f_nm)), (a_rc, (arI G 400 z66))] hP hD (fun hP hD => ?_)
              refine g5_ti (v := z62) y67 ?_
              refine lv_if_ne (tgt := 95) hx hb dX4_readClause_90 (by decide) (fun c_68 => ?_) (fun c_68 => ?_)
              ·
                have n_68 : gNe (z62.toInt) (0) := by have z := g5_ne (a := z62.toInt) (b := 0) (by rfl) (by decide) c_68; unfold gNe; omega
                have i_68 : z62.toInt ≥ 1 := by have z := g5_ne (a := z62.toInt) (b := 0) (by rfl) (by decide) c_68; omega
                refine lv_aload_n hx hb dX4_readClause_95 rfl (lv_at hl 1 rfl) ?_
                refine lv_bipush (v := 10) hx hb dX4_readClause_96 (by decide) ?_
                refine lv_iconst (v := 0) hx hb dX4_readClause_98 (by decide) ?_
                obtain ⟨hPc, hDc, hFc⟩ := g5_sub3 (wc := [(a_r, (oc4 a_tk a_rh a_rs a_rc z63 z64 z65 e_fp)), (a_rc, (arI G 400 z66))]) hP hD hS hA [2, 6] (by decide) rfl
                refine va_calli (va_runV (As := [.int 10, .int 0]) (rest := []) ⟨hx, hb, hml, hown, hts⟩ (r_emit l G a_r a_rc a_tk a_rh a_rs H.size z63 z64 z65 e_fp 10 0 z66 ⟨by omega, by omega⟩ i_59 i_58 (i_60) (by unfold wOK; decide)) (cwV 2 hts gV_X4_79 rfl rfl rfl hv_X4_emit ⟨Nat.le_of_ble_eq_true rfl, Nat.le_of_ble_eq_true rfl⟩) (g5_preV hPc hK hDc hN hT hS hFc (ci := 4) (q0 := 0) rfl rfl) rfl rfl hl.1 rfl (lv_room (Nat.le_of_ble_eq_true rfl)) dX4_readClause_99 ⟨Nat.le_of_ble_eq_true rfl, Nat.le_of_ble_eq_true rfl⟩) hS (fun q _ h => hFc q h) hFc (fun r u t H1 locs ht hvm hw hB hz1 hk1 hS => ?_)
                obtain ⟨hP1, hD1⟩ := hB
                rw [ht] at hP1
                obtain ⟨z74, z75, z76, i_69, i_70, i_71, i_72, i_73, y77, rfl⟩ := hw
                have i_69 : -1 ≤ z74.toInt ∧ z74.toInt ≤ 399 := i_69
                have i_70 : z63.toInt ≤ z75.toInt ∧ z75.toInt ≤ 400 := i_70
                have i_71 : CDI z76 z75.toInt := i_71
                have i_72 : OPK z66 z76 z63.toInt := i_72
                have i_73 : 0 ≤ z74.toInt → z74.toInt < z75.toInt ∧ z76 z74.toNatClampNeg = (((10 : Int32) <<< (12 &&& 31)) ||| (0 : Int32)) := i_73
                obtain ⟨hP, hD⟩ := va_join (wr := [(a_rh, (arI G 12 (upd f_rh p_c.toNatClampNeg (z2 - 256)))), (a_rs, (arI G 13 (upd f_rs p_c.toNatClampNeg e_ln))), (a_tk, (oc8 a_kd a_nm a_pl)), (a_kd, (arI G 401 f_kd)), (a_nm, (arI G 401 f_nm))]) hP hD [2, 6] [0, 1, 3, 4, 5] rfl rfl (by decide) (by decide) hk1 hFc hP1 hD1
                generalize H1 = H at hP hS ⊢
                refine g5_rs [(a_rh, (arI G 12 (upd f_rh p_c.toNatClampNeg (z2 - 256)))), (a_rs, (arI G 13 (upd f_rs p_c.toNatClampNeg e_ln))), (a_tk, (oc8 a_kd a_nm a_pl)), (a_kd, (arI G 401 f_kd)), (a_nm, (arI G 401 f_nm)), (a_r, (oc4 a_tk a_rh a_rs a_rc z75 z64 z65 e_fp)), (a_rc, (arI G 400 z76))] hP hD (fun hP hD => ?_)
                refine g5_ti (v := z74) y77 ?_
                refine lv_pop hx hb dX4_readClause_102 rfl ?_
                refine lv_iconst (v := 1) hx hb dX4_readClause_103 (by decide) ?_
                exact W.zret (v := 1) hx hb hr rfl (fun t ht hW => ⟨⟨1, [(a_r, (oc4 a_tk a_rh a_rs a_rc z75 z64 z65 e_fp)), (a_tk, (oc8 a_kd a_nm a_pl)), (a_kd, (arI G 401 f_kd)), (a_nm, (arI G 401 f_nm)), (a_rc, (arI G 400 z76)), (a_rh, (arI G 12 (upd f_rh p_c.toNatClampNeg (z2 - 256)))), (a_rs, (arI G 13 (upd f_rs p_c.toNatClampNeg e_ln)))], rfl, ⟨1, z75, z64, z65, z76, (upd f_rh p_c.toNatClampNeg (z2 - 256)), (upd f_rs p_c.toNatClampNeg e_ln), ⟨by have zc_o_r : (1 : Int32).toInt = 1 := (by decide); omega, by have zc_o_r : (1 : Int32).toInt = 1 := (by decide); omega⟩, ⟨by omega, by omega⟩, i_58, i_59, i_71, fun _ => sti_set e_si (by omega) (by omega) (by omega), rfl, rfl⟩, by rw [ht]; exact hP.sub [5, 2, 3, 4, 6, 0, 1] rfl, hD.sub [5, 2, 3, 4, 6, 0, 1] (by decide) rfl⟩, hS.F ht⟩) hS.2.2 dX4_readClause_104
              ·
                have i_68 : z62.toInt = 0 := by have z := g5_neN (a := z62.toInt) (b := 0) (by rfl) (by decide) c_68; omega
                refine lv_iconst (v := 0) hx hb dX4_readClause_93 (by decide) ?_
                exact W.zret (v := 0) hx hb hr rfl (fun t ht hW => ⟨⟨0, [(a_r, (oc4 a_tk a_rh a_rs a_rc z63 z64 z65 e_fp)), (a_tk, (oc8 a_kd a_nm a_pl)), (a_kd, (arI G 401 f_kd)), (a_nm, (arI G 401 f_nm)), (a_rc, (arI G 400 z66)), (a_rh, (arI G 12 (upd f_rh p_c.toNatClampNeg (z2 - 256)))), (a_rs, (arI G 13 (upd f_rs p_c.toNatClampNeg e_ln)))], rfl, ⟨0, z63, z64, z65, z66, (upd f_rh p_c.toNatClampNeg (z2 - 256)), (upd f_rs p_c.toNatClampNeg e_ln), ⟨by have zc_o_r : (0 : Int32).toInt = 0 := (by decide); omega, by have zc_o_r : (0 : Int32).toInt = 0 := (by decide); omega⟩, ⟨by omega, by omega⟩, i_58, i_59, i_60, fun h => absurd h (by decide), rfl, rfl⟩, by rw [ht]; exact hP.sub [2, 3, 4, 5, 6, 0, 1] rfl, hD.sub [2, 3, 4, 5, 6, 0, 1] (by decide) rfl⟩, hS.F ht⟩) hS.2.2 dX4_readClause_94
            ·
              have i_55 : z52.toInt = 0 := by have z := g5_neN (a := z52.toInt) (b := 0) (by rfl) (by decide) c_55; omega
              refine lv_iconst (v := 1) hx hb dX4_readClause_83 (by decide) ?_
              exact W.zret (v := 1) hx hb hr rfl (fun t ht hW => ⟨⟨1, [(a_r, (oc4 a_tk a_rh a_rs a_rc e_ln e_pa z53 e_fp)), (a_tk, (oc8 a_kd a_nm a_pl)), (a_kd, (arI G 401 f_kd)), (a_nm, (arI G 401 f_nm)), (a_rc, (arI G 400 f_rc)), (a_rh, (arI G 12 (upd f_rh p_c.toNatClampNeg (z2 - 256)))), (a_rs, (arI G 13 (upd f_rs p_c.toNatClampNeg e_ln)))], rfl, ⟨1, e_ln, e_pa, z53, f_rc, (upd f_rh p_c.toNatClampNeg (z2 - 256)), (upd f_rs p_c.toNatClampNeg e_ln), ⟨by have zc_o_r : (1 : Int32).toInt = 1 := (by decide); omega, by have zc_o_r : (1 : Int32).toInt = 1 := (by decide); omega⟩, ⟨by omega, by omega⟩, i_51, h_e_pa, e_cd, fun _ => sti_set e_si (by omega) (by omega) (by omega), rfl, rfl⟩, by rw [ht]; exact hP.sub [4, 5, 6, 0, 1, 2, 3] rfl, hD.sub [4, 5, 6, 0, 1, 2, 3] (by decide) rfl⟩, hS.F ht⟩) hS.2.2 dX4_readClause_84
          ·
            have i_49 : (z2 - 256).toInt = 1 := by have z := g5_neN (a := (z2 - 256).toInt) (b := 1) (by rfl) (by decide) c_49; omega
            refine lv_aload_n hx hb dX4_readClause_63 rfl (lv_at hl 1 rfl) ?_
            refine lv_iconst (v := 0) hx hb dX4_readClause_64 (by decide) ?_
            obtain ⟨hPc, hDc, hFc⟩ := g5_sub3 (wc := [(a_r, (oc4 a_tk a_rh a_rs a_rc e_ln e_pa (e_at + 1) e_fp)), (a_tk, (oc8 a_kd a_nm a_pl)), (a_kd, (arI G 401 f_kd)), (a_nm, (arI G 401 f_nm)), (a_rc, (arI G 400 f_rc))]) hP hD hS hA [0, 5, 6, 1, 2] (by decide) rfl
            refine va_calli (va_runV (As := [.int 0]) (rest := []) ⟨hx, hb, hml, hown, hts⟩ (r_sum0 l G a_r a_tk a_kd a_nm a_rc a_rh a_rs a_pl H.size e_ln e_pa (e_at + 1) e_fp f_kd f_nm f_rc h_e_ln h_e_pa ⟨by omega, by omega⟩ (e_tk) (e_cd)) (cwV 1 hts gV_X4_73 rfl rfl rfl hv_X4_readSum ⟨Nat.le_of_ble_eq_true rfl, Nat.le_of_ble_eq_true rfl⟩) (g5_preV hPc hK hDc hN hT hS hFc (ci := 4) (q0 := 0) rfl rfl) rfl rfl hl.1 rfl (lv_room (Nat.le_of_ble_eq_true rfl)) dX4_readClause_65 ⟨Nat.le_of_ble_eq_true rfl, Nat.le_of_ble_eq_true rfl⟩) hS (fun q _ h => hFc q h) hFc (fun r u t H1 locs ht hvm hw hB hz1 hk1 hS => ?_)
            obtain ⟨hP1, hD1⟩ := hB
            rw [ht] at hP1
            obtain ⟨z84, z85, z86, z87, z88, i_78, i_79, i_80, i_81, i_82, i_83, y89, rfl⟩ := hw
            have i_78 : 0 ≤ z84.toInt ∧ z84.toInt ≤ 1 := i_78
            have i_79 : e_ln.toInt ≤ z85.toInt ∧ z85.toInt ≤ 400 := i_79
            have i_80 : 0 ≤ z87.toInt ∧ z87.toInt ≤ 401 := i_80
            have i_81 : 0 ≤ z86.toInt ∧ z86.toInt ≤ 50 := i_81
            have i_82 : CDI z88 z85.toInt := i_82
            have i_83 : OPK f_rc z88 e_ln.toInt := i_83
            obtain ⟨hP, hD⟩ := va_join (wr := [(a_rh, (arI G 12 (upd f_rh p_c.toNatClampNeg (z2 - 256)))), (a_rs, (arI G 13 (upd f_rs p_c.toNatClampNeg e_ln)))]) hP hD [0, 5, 6, 1, 2] [3, 4] rfl rfl (by decide) (by decide) hk1 hFc hP1 hD1
            generalize H1 = H at hP hS ⊢
            refine g5_rs [(a_rh, (arI G 12 (upd f_rh p_c.toNatClampNeg (z2 - 256)))), (a_rs, (arI G 13 (upd f_rs p_c.toNatClampNeg e_ln))), (a_r, (oc4 a_tk a_rh a_rs a_rc z85 z86 z87 e_fp)), (a_tk, (oc8 a_kd a_nm a_pl)), (a_kd, (arI G 401 f_kd)), (a_nm, (arI G 401 f_nm)), (a_rc, (arI G 400 z88))] hP hD (fun hP hD => ?_)
            refine g5_ti (v := z84) y89 ?_
            refine lv_if_ne (tgt := 73) hx hb dX4_readClause_68 (by decide) (fun c_90 => ?_) (fun c_90 => ?_)
            ·
              have n_90 : gNe (z84.toInt) (0) := by have z := g5_ne (a := z84.toInt) (b := 0) (by rfl) (by decide) c_90; unfold gNe; omega
              have i_90 : z84.toInt ≥ 1 := by have z := g5_ne (a := z84.toInt) (b := 0) (by rfl) (by decide) c_90; omega
              refine lv_aload_n hx hb dX4_readClause_73 rfl (lv_at hl 1 rfl) ?_
              refine lv_sipush (v := 260) hx hb dX4_readClause_74 (by decide) ?_
              obtain ⟨hPc, hDc, hFc⟩ := g5_sub3 (wc := [(a_r, (oc4 a_tk a_rh a_rs a_rc z85 z86 z87 e_fp)), (a_tk, (oc8 a_kd a_nm a_pl)), (a_kd, (arI G 401 f_kd))]) hP hD hS hA [2, 3, 4] (by decide) rfl
              refine va_calli (va_runV (As := [.int 260]) (rest := []) ⟨hx, hb, hml, hown, hts⟩ (r_passed l G a_r a_tk a_kd a_rh a_rs a_rc a_nm a_pl H.size z85 z86 z87 e_fp 260 f_kd ⟨by omega, by omega⟩ i_81 i_80) (cwV 1 hts gV_X4_63 rfl rfl rfl hv_X4_passed ⟨Nat.le_of_ble_eq_true rfl, Nat.le_of_ble_eq_true rfl⟩) (g5_preV hPc hK hDc hN hT hS hFc (ci := 4) (q0 := 0) rfl rfl) rfl rfl hl.1 rfl (lv_room (Nat.le_of_ble_eq_true rfl)) dX4_readClause_77 ⟨Nat.le_of_ble_eq_true rfl, Nat.le_of_ble_eq_true rfl⟩) hS (fun q _ h => hFc q h) hFc (fun r u t H1 locs ht hvm hw hB hz1 hk1 hS => ?_)
              obtain ⟨hP1, hD1⟩ := hB
              rw [ht] at hP1
              obtain ⟨z93, z94, i_91, i_92, y95, rfl⟩ := hw
              have i_91 : 0 ≤ z93.toInt ∧ z93.toInt ≤ 1 := i_91
              have i_92 : 0 ≤ z94.toInt ∧ z94.toInt ≤ 401 := i_92
              obtain ⟨hP, hD⟩ := va_join (wr := [(a_rh, (arI G 12 (upd f_rh p_c.toNatClampNeg (z2 - 256)))), (a_rs, (arI G 13 (upd f_rs p_c.toNatClampNeg e_ln))), (a_nm, (arI G 401 f_nm)), (a_rc, (arI G 400 z88))]) hP hD [2, 3, 4] [0, 1, 5, 6] rfl rfl (by decide) (by decide) hk1 hFc hP1 hD1
              generalize H1 = H at hP hS ⊢
              refine g5_rs [(a_rh, (arI G 12 (upd f_rh p_c.toNatClampNeg (z2 - 256)))), (a_rs, (arI G 13 (upd f_rs p_c.toNatClampNeg e_ln))), (a_nm, (arI G 401 f_nm)), (a_rc, (arI G 400 z88)), (a_r, (oc4 a_tk a_rh a_rs a_rc z85 z86 z94 e_fp)), (a_tk, (oc8 a_kd a_nm a_pl)), (a_kd, (arI G 401 f_kd))] hP hD (fun hP hD => ?_)
              refine g5_ti (v := z93) y95 ?_
              refine lv_if_ne (tgt := 85) hx hb dX4_readClause_80 (by decide) (fun c_96 => ?_) (fun c_96 => ?_)
              ·
                have n_96 : gNe (z93.toInt) (0) := by have z := g5_ne (a := z93.toInt) (b := 0) (by rfl) (by decide) c_96; unfold gNe; omega
                have i_96 : z93.toInt ≥ 1 := by have z := g5_ne (a := z93.toInt) (b := 0) (by rfl) (by decide) c_96; omega
                refine lv_aload_n hx hb dX4_readClause_85 rfl (lv_at hl 1 rfl) ?_
                refine lv_iconst (v := 0) hx hb dX4_readClause_86 (by decide) ?_
                obtain ⟨hPc, hDc, hFc⟩ := g5_sub3 (wc := [(a_r, (oc4 a_tk a_rh a_rs a_rc z85 z86 z94 e_fp)), (a_tk, (oc8 a_kd a_nm a_pl)), (a_kd, (arI G 401 f_kd)), (a_nm, (arI G 401 f_nm)), (a_rc, (arI G 400 z88))]) hP hD hS hA [4, 5, 6, 2, 3] (by decide) rfl
                refine va_calli (va_runV (As := [.int 0]) (rest := []) ⟨hx, hb, hml, hown, hts⟩ (r_test0 l G a_r a_tk a_kd a_nm a_rc a_rh a_rs a_pl H.size z85 z86 z94 e_fp f_kd f_nm z88 ⟨by omega, by omega⟩ i_81 i_92 (e_tk) (i_82)) (cwV 1 hts gV_X4_76 rfl rfl rfl hv_X4_readTest ⟨Nat.le_of_ble_eq_true rfl, Nat.le_of_ble_eq_true rfl⟩) (g5_preV hPc hK hDc hN hT hS hFc (ci := 4) (q0 := 0) rfl rfl) rfl rfl hl.1 rfl (lv_room (Nat.le_of_ble_eq_true rfl)) dX4_readClause_87 ⟨Nat.le_of_ble_eq_true rfl, Nat.le_of_ble_eq_true rfl⟩) hS (fun q _ h => hFc q h) hFc (fun r u t H1 locs ht hvm hw hB hz1 hk1 hS => ?_)
                obtain ⟨hP1, hD1⟩ := hB
                rw [ht] at hP1
                obtain ⟨z103, z104, z105, z106, z107, i_97, i_98, i_99, i_100, i_101, i_102, y108, rfl⟩ := hw
                have i_97 : 0 ≤ z103.toInt ∧ z103.toInt ≤ 1 := i_97
                have i_98 : z85.toInt ≤ z104.toInt ∧ z104.toInt ≤ 400 := i_98
                have i_99 : 0 ≤ z106.toInt ∧ z106.toInt ≤ 401 := i_99
                have i_100 : 0 ≤ z105.toInt ∧ z105.toInt ≤ 50 := i_100
                have i_101 : CDI z107 z104.toInt := i_101
                have i_102 : OPK z88 z107 z85.toInt := i_102
                obtain ⟨hP, hD⟩ := va_join (wr := [(a_rh, (arI G 12 (upd f_rh p_c.toNatClampNeg (z2 - 256)))), (a_rs, (arI G 13 (upd f_rs p_c.toNatClampNeg e_ln)))]) hP hD [4, 5, 6, 2, 3] [0, 1] rfl rfl (by decide) (by decide) hk1 hFc hP1 hD1
                generalize H1 = H at hP hS ⊢
                refine g5_rs [(a_rh, (arI G 12 (upd f_rh p_c.toNatClampNeg (z2 - 256)))), (a_rs, (arI G 13 (upd f_rs p_c.toNatClampNeg e_ln))), (a_r, (oc4 a_tk a_rh a_rs a_rc z104 z105 z106 e_fp)), (a_tk, (oc8 a_kd a_nm a_pl)), (a_kd, (arI G 401 f_kd)), (a_nm, (arI G 401 f_nm)), (a_rc, (arI G 400 z107))] hP hD (fun hP hD => ?_)
                refine g5_ti (v := z103) y108 ?_
                refine lv_if_ne (tgt := 95) hx hb dX4_readClause_90 (by decide) (fun c_109 => ?_) (fun c_109 => ?_)
                ·
                  have n_109 : gNe (z103.toInt) (0) := by have z := g5_ne (a := z103.toInt) (b := 0) (by rfl) (by decide) c_109; unfold gNe; omega
                  have i_109 : z103.toInt ≥ 1 := by have z := g5_ne (a := z103.toInt) (b := 0) (by rfl) (by decide) c_109; omega
                  refine lv_aload_n hx hb dX4_readClause_95 rfl (lv_at hl 1 rfl) ?_
                  refine lv_bipush (v := 10) hx hb dX4_readClause_96 (by decide) ?_
                  refine lv_iconst (v := 0) hx hb dX4_readClause_98 (by decide) ?_
                  obtain ⟨hPc, hDc, hFc⟩ := g5_sub3 (wc := [(a_r, (oc4 a_tk a_rh a_rs a_rc z104 z105 z106 e_fp)), (a_rc, (arI G 400 z107))]) hP hD hS hA [2, 6] (by decide) rfl
                  refine va_calli (va_runV (As := [.int 10, .int 0]) (rest := []) ⟨hx, hb, hml, hown, hts⟩ (r_emit l G a_r a_rc a_tk a_rh a_rs H.size z104 z105 z106 e_fp 10 0 z107 ⟨by omega, by omega⟩ i_100 i_99 (i_101) (by unfold wOK; decide)) (cwV 2 hts gV_X4_79 rfl rfl rfl hv_X4_emit ⟨Nat.le_of_ble_eq_true rfl, Nat.le_of_ble_eq_true rfl⟩) (g5_preV hPc hK hDc hN hT hS hFc (ci := 4) (q0 := 0) rfl rfl) rfl rfl hl.1 rfl (lv_room (Nat.le_of_ble_eq_true rfl)) dX4_readClause_99 ⟨Nat.le_of_ble_eq_true rfl, Nat.le_of_ble_eq_true rfl⟩) hS (fun q _ h => hFc q h) hFc (fun r u t H1 locs ht hvm hw hB hz1 hk1 hS => ?_)
                  obtain ⟨hP1, hD1⟩ := hB
                  rw [ht] at hP1
                  obtain ⟨z115, z116, z117, i_110, i_111, i_112, i_113, i_114, y118, rfl⟩ := hw
                  have i_110 : -1 ≤ z115.toInt ∧ z115.toInt ≤ 399 := i_110
                  have i_111 : z104.toInt ≤ z116.toInt ∧ z116.toInt ≤ 400 := i_111
                  have i_112 : CDI z117 z116.toInt := i_112
                  have i_113 : OPK z107 z117 z104.toInt := i_113
                  have i_114 : 0 ≤ z115.toInt → z115.toInt < z116.toInt ∧ z117 z115.toNatClampNeg = (((10 : Int32) <<< (12 &&& 31)) ||| (0 : Int32)) := i_114
                  obtain ⟨hP, hD⟩ := va_join (wr := [(a_rh, (arI G 12 (upd f_rh p_c.toNatClampNeg (z2 - 256)))), (a_rs, (arI G 13 (upd f_rs p_c.toNatClampNeg e_ln))), (a_tk, (oc8 a_kd a_nm a_pl)), (a_kd, (arI G 401 f_kd)), (a_nm, (arI G 401 f_nm))]) hP hD [2, 6] [0, 1, 3, 4, 5] rfl rfl (by decide) (by decide) hk1 hFc hP1 hD1
                  generalize H1 = H at hP hS ⊢
                  refine g5_rs [(a_rh, (arI G 12 (upd f_rh p_c.toNatClampNeg (z2 - 256)))), (a_rs, (arI G 13 (upd f_rs p_c.toNatClampNeg e_ln))), (a_tk, (oc8 a_kd a_nm a_pl)), (a_kd, (arI G 401 f_kd)), (a_nm, (arI G 401 f_nm)), (a_r, (oc4 a_tk a_rh a_rs a_rc z116 z105 z106 e_fp)), (a_rc, (arI G 400 z117))] hP hD (fun hP hD => ?_)
                  refine g5_ti (v := z115) y118 ?_
                  refine lv_pop hx hb dX4_readClause_102 rfl ?_
                  refine lv_iconst (v := 1) hx hb dX4_readClause_103 (by decide) ?_
                  exact W.zret (v := 1) hx hb hr rfl (fun t ht hW => ⟨⟨1, [(a_r, (oc4 a_tk a_rh a_rs a_rc z116 z105 z106 e_fp)), (a_tk, (oc8 a_kd a_nm a_pl)), (a_kd, (arI G 401 f_kd)), (a_nm, (arI G 401 f_nm)), (a_rc, (arI G 400 z117)), (a_rh, (arI G 12 (upd f_rh p_c.toNatClampNeg (z2 - 256)))), (a_rs, (arI G 13 (upd f_rs p_c.toNatClampNeg e_ln)))], rfl, ⟨1, z116, z105, z106, z117, (upd f_rh p_c.toNatClampNeg (z2 - 256)), (upd f_rs p_c.toNatClampNeg e_ln), ⟨by have zc_o_r : (1 : Int32).toInt = 1 := (by decide); omega, by have zc_o_r : (1 : Int32).toInt = 1 := (by decide); omega⟩, ⟨by omega, by omega⟩, i_99, i_100, i_112, fun _ => sti_set e_si (by omega) (by omega) (by omega), rfl, rfl⟩, by rw [ht]; exact hP.sub [5, 2, 3, 4, 6, 0, 1] rfl, hD.sub [5, 2, 3, 4, 6, 0, 1] (by decide) rfl⟩, hS.F ht⟩) hS.2.2 dX4_readClause_104
                ·
                  have i_109 : z103.toInt = 0 := by have z := g5_neN (a := z103.toInt) (b := 0) (by rfl) (by decide) c_109; omega
                  refine lv_iconst (v := 0) hx hb dX4_readClause_93 (by decide) ?_
                  exact W.zret (v := 0) hx hb hr rfl (fun t ht hW => ⟨⟨0, [(a_r, (oc4 a_tk a_rh a_rs a_rc z104 z105 z106 e_fp)), (a_tk, (oc8 a_kd a_nm a_pl)), (a_kd, (arI G 401 f_kd)), (a_nm, (arI G 401 f_nm)), (a_rc, (arI G 400 z107)), (a_rh, (arI G 12 (upd f_rh p_c.toNatClampNeg (z2 - 256)))), (a_rs, (arI G 13 (upd f_rs p_c.toNatClampNeg e_ln)))], rfl, ⟨0, z104, z105, z106, z107, (upd f_rh p_c.toNatClampNeg (z2 - 256)), (upd f_rs p_c.toNatClampNeg e_ln), ⟨by have zc_o_r : (0 : Int32).toInt = 0 := (by decide); omega, by have zc_o_r : (0 : Int32).toInt = 0 := (by decide); omega⟩, ⟨by omega, by omega⟩, i_99, i_100, i_101, fun h => absurd h (by decide), rfl, rfl⟩, by rw [ht]; exact hP.sub [2, 3, 4, 5, 6, 0, 1] rfl, hD.sub [2, 3, 4, 5, 6, 0, 1] (by decide) rfl⟩, hS.F ht⟩) hS.2.2 dX4_readClause_94
              ·
                have i_96 : z93.toInt = 0 := by have z := g5_neN (a := z93.toInt) (b := 0) (by rfl) (by decide) c_96; omega
                refine lv_iconst (v := 1) hx hb dX4_readClause_83 (by decide) ?_
                exact W.zret (v := 1) hx hb hr rfl (fun t ht hW => ⟨⟨1, [(a_r, (oc4 a_tk a_rh a_rs a_rc z85 z86 z94 e_fp)), (a_tk, (oc8 a_kd a_nm a_pl)), (a_kd, (arI G 401 f_kd)), (a_nm, (arI G 401 f_nm)), (a_rc, (arI G 400 z88)), (a_rh, (arI G 12 (upd f_rh p_c.toNatClampNeg (z2 - 256)))), (a_rs, (arI G 13 (upd f_rs p_c.toNatClampNeg e_ln)))], rfl, ⟨1, z85, z86, z94, z88, (upd f_rh p_c.toNatClampNeg (z2 - 256)), (upd f_rs p_c.toNatClampNeg e_ln), ⟨by have zc_o_r : (1 : Int32).toInt = 1 := (by decide); omega, by have zc_o_r : (1 : Int32).toInt = 1 := (by decide); omega⟩, ⟨by omega, by omega⟩, i_92, i_81, i_82, fun _ => sti_set e_si (by omega) (by omega) (by omega), rfl, rfl⟩, by rw [ht]; exact hP.sub [4, 5, 6, 2, 3, 0, 1] rfl, hD.sub [4, 5, 6, 2, 3, 0, 1] (by decide) rfl⟩, hS.F ht⟩) hS.2.2 dX4_readClause_84
            ·
              have i_90 : z84.toInt = 0 := by have z := g5_neN (a := z84.toInt) (b := 0) (by rfl) (by decide) c_90; omega
              refine lv_iconst (v := 0) hx hb dX4_readClause_71 (by decide) ?_
              exact W.zret (v := 0) hx hb hr rfl (fun t ht hW => ⟨⟨0, [(a_r, (oc4 a_tk a_rh a_rs a_rc z85 z86 z87 e_fp)), (a_tk, (oc8 a_kd a_nm a_pl)), (a_kd, (arI G 401 f_kd)), (a_nm, (arI G 401 f_nm)), (a_rc, (arI G 400 z88)), (a_rh, (arI G 12 (upd f_rh p_c.toNatClampNeg (z2 - 256)))), (a_rs, (arI G 13 (upd f_rs p_c.toNatClampNeg e_ln)))], rfl, ⟨0, z85, z86, z87, z88, (upd f_rh p_c.toNatClampNeg (z2 - 256)), (upd f_rs p_c.toNatClampNeg e_ln), ⟨by have zc_o_r : (0 : Int32).toInt = 0 := (by decide); omega, by have zc_o_r : (0 : Int32).toInt = 0 := (by decide); omega⟩, ⟨by omega, by omega⟩, i_80, i_81, i_82, fun h => absurd h (by decide), rfl, rfl⟩, by rw [ht]; exact hP.sub [2, 3, 4, 5, 6, 0, 1] rfl, hD.sub [2, 3, 4, 5, 6, 0, 1] (by decide) rfl⟩, hS.F ht⟩) hS.2.2 dX4_readClause_72
      ·
        have i_5 : (z2 - 256).toInt ≥ 4 := by have z := g5_ltN (a := (z2 - 256).toInt) (b := 4) (by rfl) (by decide) c_5; omega
        refine lv_iconst (v := 0) hx hb dX4_readClause_25 (by decide) ?_
        exact W.zret (v := 0) hx hb hr rfl (fun t ht hW => ⟨⟨0, [(a_r, (oc4 a_tk a_rh a_rs a_rc e_ln e_pa e_at e_fp)), (a_tk, (oc8 a_kd a_nm a_pl)), (a_kd, (arI G 401 f_kd)), (a_nm, (arI G 401 f_nm)), (a_rc, (arI G 400 f_rc)), (a_rh, (arI G 12 f_rh)), (a_rs, (arI G 13 f_rs))], rfl, ⟨0, e_ln, e_pa, e_at, f_rc, f_rh, f_rs, ⟨by have zc_o_r : (0 : Int32).toInt = 0 := (by decide); omega, by have zc_o_r : (0 : Int32).toInt = 0 := (by decide); omega⟩, ⟨by omega, by omega⟩, h_e_at, h_e_pa, e_cd, fun h => absurd h (by decide), rfl, rfl⟩, by rw [ht]; exact hP.sub [0, 5, 6, 1, 2, 3, 4] rfl, hD.sub [0, 5, 6, 1, 2, 3, 4] (by decide) rfl⟩, hS.F ht⟩) hS.2.2 dX4_readClause_26
  ·
    obtain ⟨hP, hD⟩ := va_join (wr := [(a_r, (oc4 a_tk a_rh a_rs a_rc e_ln e_pa e_at e_fp)), (a_nm, (arI G 401 f_nm)), (a_rc, (arI G 400 f_rc)), (a_rh, (arI G 12 f_rh)), (a_rs, (arI G 13 f_rs))]) hP hD [1, 2] [0, 3, 4, 5, 6] rfl rfl (by decide) (by decide) hk1 hFc hP1 hD1
    generalize H1 = H at hP hS ⊢
    refine g5_rs [(a_r, (oc4 a_tk a_rh a_rs a_rc e_ln e_pa e_at e_fp)), (a_nm, (arI G 401 f_nm)), (a_rc, (arI G 400 f_rc)), (a_rh, (arI G 12 f_rh)), (a_rs, (arI G 13 f_rs)), (a_tk, (oc8 a_kd a_nm a_pl)), (a_kd, (arI G 401 f_kd))] hP hD (fun hP hD => ?_)
    refine lv_sipush (v := 256) hx hb dX4_readClause_11 (by decide) ?_
    refine lv_isub hx hb dX4_readClause_14 ?_
    refine g5_ti (v := 46) (by decide) ?_
    refine lv_istore_n (lv' := [(2, .int 46), (0, .ref a_r), (1, .int p_c)]) hx hb dX4_readClause_15 rfl hl (by decide) rfl (fun ls hl => ?_)
    refine lv_iload_n hx hb dX4_readClause_16 rfl (lv_at hl 0 rfl) ?_
    refine lv_if_lt (tgt := 25) hx hb dX4_readClause_17 (by decide) (fun c_119 => ?_) (fun c_119 => ?_)
    ·
      exact absurd c_119 (by decide)
    ·
      refine lv_iload_n hx hb dX4_readClause_20 rfl (lv_at hl 0 rfl) ?_
      refine lv_iconst (v := 4) hx hb dX4_readClause_21 (by decide) ?_
      refine lv_icmp_lt (tgt := 27) hx hb dX4_readClause_22 (by decide) (fun c_120 => ?_) (fun c_120 => ?_)
      ·
        exact absurd c_120 (by decide)
      ·
        refine lv_iconst (v := 0) hx hb dX4_readClause_25 (by decide) ?_
        exact W.zret (v := 0) hx hb hr rfl (fun t ht hW => ⟨⟨0, [(a_r, (oc4 a_tk a_rh a_rs a_rc e_ln e_pa e_at e_fp)), (a_tk, (oc8 a_kd a_nm a_pl)), (a_kd, (arI G 401 f_kd)), (a_nm, (arI G 401 f_nm)), (a_rc, (arI G 400 f_rc)), (a_rh, (arI G 12 f_rh)), (a_rs, (arI G 13 f_rs))], rfl, ⟨0, e_ln, e_pa, e_at, f_rc, f_rh, f_rs, ⟨by have zc_o_r : (0 : Int32).toInt = 0 := (by decide); omega, by have zc_o_r : (0 : Int32).toInt = 0 := (by decide); omega⟩, ⟨by omega, by omega⟩, h_e_at, h_e_pa, e_cd, fun h => absurd h (by decide), rfl, rfl⟩, by rw [ht]; exact hP.sub [0, 5, 6, 1, 2, 3, 4] rfl, hD.sub [0, 5, 6, 1, 2, 3, 4] (by decide) rfl⟩, hS.F ht⟩) hS.2.2 dX4_readClause_26
theorem g_stiN {f : Nat → Int32} {k k' : Int32} {l : Int} (h : STI f (k.toInt + 1) l) (hk : k'.toInt = k.toInt + 1) : STI f k'.toInt l := by rw [hk]; exact h
theorem g_sti {f g : Nat → Int32} {k k' x : Int32} {n m : Nat} (h : STI f (k.toInt + 1) x.toInt) (h0 : 0 ≤ k.toInt) (hk : k'.toInt = k.toInt + 1) (hx : 0 ≤ x.toInt) (hm : (m : Int) = x.toInt) (hn : (n : Int) = k.toInt + 2) (e : ∀ j : Nat, j < n → g j = upd f k'.toNatClampNeg x j) : ∀ j : Nat, j < n → 0 ≤ (g j).toInt ∧ (g j).toInt ≤ (m : Int) := by
  have z : STI (upd f k'.toNatClampNeg x) (k'.toInt + 1) x.toInt := sti_set (by rw [hk]; exact h) (by omega) ⟨hx, Int.le_refl _⟩ (Int.le_refl _)
  rw [hm]
  exact sti_at z (by omega) e
theorem dgX4_read_0 : ∀ r ∈ ([(0, (.aload_n 0, 1)), (1, (.getfield 12, 3)), (4, (.aload_n 1, 1)), (5, (.iload_n 2, 1)), (6, (.invokevirtual 32, 3)), (9, (.aload_n 0, 1)), (10, (.iconst 0, 1)), (11, (.putfield 36, 3)), (14, (.aload_n 0, 1)), (15, (.iconst 0, 1)), (16, (.putfield 39, 3)), (19, (.aload_n 0, 1)), (20, (.iconst 0, 1)), (21, (.putfield 42, 3)), (24, (.iconst 0, 1)), (25, (.istore_n 3, 1)), (26, (.iload_n 3, 1)), (27, (.bipush 12, 2)), (29, (.if_icmp .ge 98, 3)), (32, (.aload_n 0, 1)), (33, (.iload_n 3, 1)), (34, (.invokevirtual 45, 3)), (37, (.ifCond .eq 90, 3)), (40, (.aload_n 0, 1)), (41, (.sipush 302, 3)), (44, (.invokevirtual 49, 3)), (47, (.ifCond .eq 62, 3)), (50, (.aload_n 0, 1)), (51, (.iconst (-1), 1)), (52, (.putfield 28, 3)), (55, (.aload_n 0, 1)), (56, (.getfield 22, 3)), (59, (.iload_n 3, 1)), (60, (.iconst 1, 1)), (61, (.iadd, 1)), (62, (.aload_n 0, 1)), (63, (.getfield 36, 3)), (66, (.iastore, 1)), (67, (.new 52, 3)), (70, (.dup, 1))] : List (Nat × (Instr × Nat))), decode cX4_read r.1 = .ok r.2 := by decide +kernel
theorem dX4_read_0 : decode cX4_read 0 = .ok (.aload_n 0, 1) := dgX4_read_0 (0, (.aload_n 0, 1)) (List.mem_of_getElem? (i := 0) rfl)
theorem dX4_read_1 : decode cX4_read 1 = .ok (.getfield 12, 3) := dgX4_read_0 (1, (.getfield 12, 3)) (List.mem_of_getElem? (i := 1) rfl)
theorem dX4_read_4 : decode cX4_read 4 = .ok (.aload_n 1, 1) := dgX4_read_0 (4, (.aload_n 1, 1)) (List.mem_of_getElem? (i := 2) rfl)
theorem dX4_read_5 : decode cX4_read 5 = .ok (.iload_n 2, 1) := dgX4_read_0 (5, (.iload_n 2, 1)) (List.mem_of_getElem? (i := 3) rfl)
theorem dX4_read_6 : decode cX4_read 6 = .ok (.invokevirtual 32, 3) := dgX4_read_0 (6, (.invokevirtual 32, 3)) (List.mem_of_getElem? (i := 4) rfl)
theorem dX4_read_9 : decode cX4_read 9 = .ok (.aload_n 0, 1) := dgX4_read_0 (9, (.aload_n 0, 1)) (List.mem_of_getElem? (i := 5) rfl)
theorem dX4_read_10 : decode cX4_read 10 = .ok (.iconst 0, 1) := dgX4_read_0 (10, (.iconst 0, 1)) (List.mem_of_getElem? (i := 6) rfl)
theorem dX4_read_11 : decode cX4_read 11 = .ok (.putfield 36, 3) := dgX4_read_0 (11, (.putfield 36, 3)) (List.mem_of_getElem? (i := 7) rfl)
theorem dX4_read_14 : decode cX4_read 14 = .ok (.aload_n 0, 1) := dgX4_read_0 (14, (.aload_n 0, 1)) (List.mem_of_getElem? (i := 8) rfl)
theorem dX4_read_15 : decode cX4_read 15 = .ok (.iconst 0, 1) := dgX4_read_0 (15, (.iconst 0, 1)) (List.mem_of_getElem? (i := 9) rfl)
theorem dX4_read_16 : decode cX4_read 16 = .ok (.putfield 39, 3) := dgX4_read_0 (16, (.putfield 39, 3)) (List.mem_of_getElem? (i := 10) rfl)
theorem dX4_read_19 : decode cX4_read 19 = .ok (.aload_n 0, 1) := dgX4_read_0 (19, (.aload_n 0, 1)) (List.mem_of_getElem? (i := 11) rfl)
theorem dX4_read_20 : decode cX4_read 20 = .ok (.iconst 0, 1) := dgX4_read_0 (20, (.iconst 0, 1)) (List.mem_of_getElem? (i := 12) rfl)
theorem dX4_read_21 : decode cX4_read 21 = .ok (.putfield 42, 3) := dgX4_read_0 (21, (.putfield 42, 3)) (List.mem_of_getElem? (i := 13) rfl)
theorem dX4_read_24 : decode cX4_read 24 = .ok (.iconst 0, 1) := dgX4_read_0 (24, (.iconst 0, 1)) (List.mem_of_getElem? (i := 14) rfl)
theorem dX4_read_25 : decode cX4_read 25 = .ok (.istore_n 3, 1) := dgX4_read_0 (25, (.istore_n 3, 1)) (List.mem_of_getElem? (i := 15) rfl)
theorem dX4_read_26 : decode cX4_read 26 = .ok (.iload_n 3, 1) := dgX4_read_0 (26, (.iload_n 3, 1)) (List.mem_of_getElem? (i := 16) rfl)
theorem dX4_read_27 : decode cX4_read 27 = .ok (.bipush 12, 2) := dgX4_read_0 (27, (.bipush 12, 2)) (List.mem_of_getElem? (i := 17) rfl)
theorem dX4_read_29 : decode cX4_read 29 = .ok (.if_icmp .ge 98, 3) := dgX4_read_0 (29, (.if_icmp .ge 98, 3)) (List.mem_of_getElem? (i := 18) rfl)
theorem dX4_read_32 : decode cX4_read 32 = .ok (.aload_n 0, 1) := dgX4_read_0 (32, (.aload_n 0, 1)) (List.mem_of_getElem? (i := 19) rfl)
theorem dX4_read_33 : decode cX4_read 33 = .ok (.iload_n 3, 1) := dgX4_read_0 (33, (.iload_n 3, 1)) (List.mem_of_getElem? (i := 20) rfl)
theorem dX4_read_34 : decode cX4_read 34 = .ok (.invokevirtual 45, 3) := dgX4_read_0 (34, (.invokevirtual 45, 3)) (List.mem_of_getElem? (i := 21) rfl)
theorem dX4_read_37 : decode cX4_read 37 = .ok (.ifCond .eq 90, 3) := dgX4_read_0 (37, (.ifCond .eq 90, 3)) (List.mem_of_getElem? (i := 22) rfl)
theorem dX4_read_40 : decode cX4_read 40 = .ok (.aload_n 0, 1) := dgX4_read_0 (40, (.aload_n 0, 1)) (List.mem_of_getElem? (i := 23) rfl)
theorem dX4_read_41 : decode cX4_read 41 = .ok (.sipush 302, 3) := dgX4_read_0 (41, (.sipush 302, 3)) (List.mem_of_getElem? (i := 24) rfl)
theorem dX4_read_44 : decode cX4_read 44 = .ok (.invokevirtual 49, 3) := dgX4_read_0 (44, (.invokevirtual 49, 3)) (List.mem_of_getElem? (i := 25) rfl)
theorem dX4_read_47 : decode cX4_read 47 = .ok (.ifCond .eq 62, 3) := dgX4_read_0 (47, (.ifCond .eq 62, 3)) (List.mem_of_getElem? (i := 26) rfl)
theorem dX4_read_50 : decode cX4_read 50 = .ok (.aload_n 0, 1) := dgX4_read_0 (50, (.aload_n 0, 1)) (List.mem_of_getElem? (i := 27) rfl)
theorem dX4_read_51 : decode cX4_read 51 = .ok (.iconst (-1), 1) := dgX4_read_0 (51, (.iconst (-1), 1)) (List.mem_of_getElem? (i := 28) rfl)
theorem dX4_read_52 : decode cX4_read 52 = .ok (.putfield 28, 3) := dgX4_read_0 (52, (.putfield 28, 3)) (List.mem_of_getElem? (i := 29) rfl)
theorem dX4_read_55 : decode cX4_read 55 = .ok (.aload_n 0, 1) := dgX4_read_0 (55, (.aload_n 0, 1)) (List.mem_of_getElem? (i := 30) rfl)
theorem dX4_read_56 : decode cX4_read 56 = .ok (.getfield 22, 3) := dgX4_read_0 (56, (.getfield 22, 3)) (List.mem_of_getElem? (i := 31) rfl)
theorem dX4_read_59 : decode cX4_read 59 = .ok (.iload_n 3, 1) := dgX4_read_0 (59, (.iload_n 3, 1)) (List.mem_of_getElem? (i := 32) rfl)
theorem dX4_read_60 : decode cX4_read 60 = .ok (.iconst 1, 1) := dgX4_read_0 (60, (.iconst 1, 1)) (List.mem_of_getElem? (i := 33) rfl)
theorem dX4_read_61 : decode cX4_read 61 = .ok (.iadd, 1) := dgX4_read_0 (61, (.iadd, 1)) (List.mem_of_getElem? (i := 34) rfl)
theorem dX4_read_62 : decode cX4_read 62 = .ok (.aload_n 0, 1) := dgX4_read_0 (62, (.aload_n 0, 1)) (List.mem_of_getElem? (i := 35) rfl)
theorem dX4_read_63 : decode cX4_read 63 = .ok (.getfield 36, 3) := dgX4_read_0 (63, (.getfield 36, 3)) (List.mem_of_getElem? (i := 36) rfl)
theorem dX4_read_66 : decode cX4_read 66 = .ok (.iastore, 1) := dgX4_read_0 (66, (.iastore, 1)) (List.mem_of_getElem? (i := 37) rfl)
theorem dX4_read_67 : decode cX4_read 67 = .ok (.new 52, 3) := dgX4_read_0 (67, (.new 52, 3)) (List.mem_of_getElem? (i := 38) rfl)
theorem dX4_read_70 : decode cX4_read 70 = .ok (.dup, 1) := dgX4_read_0 (70, (.dup, 1)) (List.mem_of_getElem? (i := 39) rfl)
theorem dgX4_read_1 : ∀ r ∈ ([(71, (.iload_n 3, 1)), (72, (.iconst 1, 1)), (73, (.iadd, 1)), (74, (.aload_n 0, 1)), (75, (.getfield 18, 3)), (78, (.iload_n 3, 1)), (79, (.iconst 1, 1)), (80, (.iadd, 1)), (81, (.invokestatic 54, 3)), (84, (.aload_n 0, 1)), (85, (.getfield 22, 3)), (88, (.iload_n 3, 1)), (89, (.iconst 2, 1)), (90, (.iadd, 1)), (91, (.invokestatic 54, 3)), (94, (.aload_n 0, 1)), (95, (.getfield 25, 3)), (98, (.aload_n 0, 1)), (99, (.getfield 36, 3)), (102, (.invokestatic 54, 3)), (105, (.invokespecial 60, 3)), (108, (.areturn, 1)), (109, (.aload_n 0, 1)), (110, (.bipush 59, 2)), (112, (.invokevirtual 63, 3)), (115, (.ifCond .ne 6, 3)), (118, (.goto 9, 3)), (121, (.iinc 3 1, 3)), (124, (.goto (-98), 3)), (127, (.aload_n 0, 1)), (128, (.aload_n 0, 1)), (129, (.getfield 42, 3)), (132, (.aload_n 0, 1)), (133, (.getfield 12, 3)), (136, (.getfield 66, 3)), (139, (.arraylength, 1)), (140, (.if_icmp .ge 18, 3)), (143, (.aload_n 0, 1)), (144, (.getfield 12, 3)), (147, (.getfield 66, 3))] : List (Nat × (Instr × Nat))), decode cX4_read r.1 = .ok r.2 := by decide +kernel
theorem dX4_read_71 : decode cX4_read 71 = .ok (.iload_n 3, 1) := dgX4_read_1 (71, (.iload_n 3, 1)) (List.mem_of_getElem? (i := 0) rfl)
theorem dX4_read_72 : decode cX4_read 72 = .ok (.iconst 1, 1) := dgX4_read_1 (72, (.iconst 1, 1)) (List.mem_of_getElem? (i := 1) rfl)
theorem dX4_read_73 : decode cX4_read 73 = .ok (.iadd, 1) := dgX4_read_1 (73, (.iadd, 1)) (List.mem_of_getElem? (i := 2) rfl)
theorem dX4_read_74 : decode cX4_read 74 = .ok (.aload_n 0, 1) := dgX4_read_1 (74, (.aload_n 0, 1)) (List.mem_of_getElem? (i := 3) rfl)
theorem dX4_read_75 : decode cX4_read 75 = .ok (.getfield 18, 3) := dgX4_read_1 (75, (.getfield 18, 3)) (List.mem_of_getElem? (i := 4) rfl)
theorem dX4_read_78 : decode cX4_read 78 = .ok (.iload_n 3, 1) := dgX4_read_1 (78, (.iload_n 3, 1)) (List.mem_of_getElem? (i := 5) rfl)
theorem dX4_read_79 : decode cX4_read 79 = .ok (.iconst 1, 1) := dgX4_read_1 (79, (.iconst 1, 1)) (List.mem_of_getElem? (i := 6) rfl)
theorem dX4_read_80 : decode cX4_read 80 = .ok (.iadd, 1) := dgX4_read_1 (80, (.iadd, 1)) (List.mem_of_getElem? (i := 7) rfl)
theorem dX4_read_81 : decode cX4_read 81 = .ok (.invokestatic 54, 3) := dgX4_read_1 (81, (.invokestatic 54, 3)) (List.mem_of_getElem? (i := 8) rfl)
theorem dX4_read_84 : decode cX4_read 84 = .ok (.aload_n 0, 1) := dgX4_read_1 (84, (.aload_n 0, 1)) (List.mem_of_getElem? (i := 9) rfl)
theorem dX4_read_85 : decode cX4_read 85 = .ok (.getfield 22, 3) := dgX4_read_1 (85, (.getfield 22, 3)) (List.mem_of_getElem? (i := 10) rfl)
theorem dX4_read_88 : decode cX4_read 88 = .ok (.iload_n 3, 1) := dgX4_read_1 (88, (.iload_n 3, 1)) (List.mem_of_getElem? (i := 11) rfl)
theorem dX4_read_89 : decode cX4_read 89 = .ok (.iconst 2, 1) := dgX4_read_1 (89, (.iconst 2, 1)) (List.mem_of_getElem? (i := 12) rfl)
theorem dX4_read_90 : decode cX4_read 90 = .ok (.iadd, 1) := dgX4_read_1 (90, (.iadd, 1)) (List.mem_of_getElem? (i := 13) rfl)
theorem dX4_read_91 : decode cX4_read 91 = .ok (.invokestatic 54, 3) := dgX4_read_1 (91, (.invokestatic 54, 3)) (List.mem_of_getElem? (i := 14) rfl)
theorem dX4_read_94 : decode cX4_read 94 = .ok (.aload_n 0, 1) := dgX4_read_1 (94, (.aload_n 0, 1)) (List.mem_of_getElem? (i := 15) rfl)
theorem dX4_read_95 : decode cX4_read 95 = .ok (.getfield 25, 3) := dgX4_read_1 (95, (.getfield 25, 3)) (List.mem_of_getElem? (i := 16) rfl)
theorem dX4_read_98 : decode cX4_read 98 = .ok (.aload_n 0, 1) := dgX4_read_1 (98, (.aload_n 0, 1)) (List.mem_of_getElem? (i := 17) rfl)
theorem dX4_read_99 : decode cX4_read 99 = .ok (.getfield 36, 3) := dgX4_read_1 (99, (.getfield 36, 3)) (List.mem_of_getElem? (i := 18) rfl)
theorem dX4_read_102 : decode cX4_read 102 = .ok (.invokestatic 54, 3) := dgX4_read_1 (102, (.invokestatic 54, 3)) (List.mem_of_getElem? (i := 19) rfl)
theorem dX4_read_105 : decode cX4_read 105 = .ok (.invokespecial 60, 3) := dgX4_read_1 (105, (.invokespecial 60, 3)) (List.mem_of_getElem? (i := 20) rfl)
theorem dX4_read_108 : decode cX4_read 108 = .ok (.areturn, 1) := dgX4_read_1 (108, (.areturn, 1)) (List.mem_of_getElem? (i := 21) rfl)
theorem dX4_read_109 : decode cX4_read 109 = .ok (.aload_n 0, 1) := dgX4_read_1 (109, (.aload_n 0, 1)) (List.mem_of_getElem? (i := 22) rfl)
theorem dX4_read_110 : decode cX4_read 110 = .ok (.bipush 59, 2) := dgX4_read_1 (110, (.bipush 59, 2)) (List.mem_of_getElem? (i := 23) rfl)
theorem dX4_read_112 : decode cX4_read 112 = .ok (.invokevirtual 63, 3) := dgX4_read_1 (112, (.invokevirtual 63, 3)) (List.mem_of_getElem? (i := 24) rfl)
theorem dX4_read_115 : decode cX4_read 115 = .ok (.ifCond .ne 6, 3) := dgX4_read_1 (115, (.ifCond .ne 6, 3)) (List.mem_of_getElem? (i := 25) rfl)
theorem dX4_read_118 : decode cX4_read 118 = .ok (.goto 9, 3) := dgX4_read_1 (118, (.goto 9, 3)) (List.mem_of_getElem? (i := 26) rfl)
theorem dX4_read_121 : decode cX4_read 121 = .ok (.iinc 3 1, 3) := dgX4_read_1 (121, (.iinc 3 1, 3)) (List.mem_of_getElem? (i := 27) rfl)
theorem dX4_read_124 : decode cX4_read 124 = .ok (.goto (-98), 3) := dgX4_read_1 (124, (.goto (-98), 3)) (List.mem_of_getElem? (i := 28) rfl)
theorem dX4_read_127 : decode cX4_read 127 = .ok (.aload_n 0, 1) := dgX4_read_1 (127, (.aload_n 0, 1)) (List.mem_of_getElem? (i := 29) rfl)
theorem dX4_read_128 : decode cX4_read 128 = .ok (.aload_n 0, 1) := dgX4_read_1 (128, (.aload_n 0, 1)) (List.mem_of_getElem? (i := 30) rfl)
theorem dX4_read_129 : decode cX4_read 129 = .ok (.getfield 42, 3) := dgX4_read_1 (129, (.getfield 42, 3)) (List.mem_of_getElem? (i := 31) rfl)
theorem dX4_read_132 : decode cX4_read 132 = .ok (.aload_n 0, 1) := dgX4_read_1 (132, (.aload_n 0, 1)) (List.mem_of_getElem? (i := 32) rfl)
theorem dX4_read_133 : decode cX4_read 133 = .ok (.getfield 12, 3) := dgX4_read_1 (133, (.getfield 12, 3)) (List.mem_of_getElem? (i := 33) rfl)
theorem dX4_read_136 : decode cX4_read 136 = .ok (.getfield 66, 3) := dgX4_read_1 (136, (.getfield 66, 3)) (List.mem_of_getElem? (i := 34) rfl)
theorem dX4_read_139 : decode cX4_read 139 = .ok (.arraylength, 1) := dgX4_read_1 (139, (.arraylength, 1)) (List.mem_of_getElem? (i := 35) rfl)
theorem dX4_read_140 : decode cX4_read 140 = .ok (.if_icmp .ge 18, 3) := dgX4_read_1 (140, (.if_icmp .ge 18, 3)) (List.mem_of_getElem? (i := 36) rfl)
theorem dX4_read_143 : decode cX4_read 143 = .ok (.aload_n 0, 1) := dgX4_read_1 (143, (.aload_n 0, 1)) (List.mem_of_getElem? (i := 37) rfl)
theorem dX4_read_144 : decode cX4_read 144 = .ok (.getfield 12, 3) := dgX4_read_1 (144, (.getfield 12, 3)) (List.mem_of_getElem? (i := 38) rfl)
theorem dX4_read_147 : decode cX4_read 147 = .ok (.getfield 66, 3) := dgX4_read_1 (147, (.getfield 66, 3)) (List.mem_of_getElem? (i := 39) rfl)
theorem dgX4_read_2 : ∀ r ∈ ([(150, (.aload_n 0, 1)), (151, (.getfield 42, 3)), (154, (.iaload, 1)), (155, (.goto 4, 3)), (158, (.iload_n 2, 1)), (159, (.putfield 28, 3)), (162, (.aconst_null, 1)), (163, (.areturn, 1))] : List (Nat × (Instr × Nat))), decode cX4_read r.1 = .ok r.2 := by decide +kernel
theorem dX4_read_150 : decode cX4_read 150 = .ok (.aload_n 0, 1) := dgX4_read_2 (150, (.aload_n 0, 1)) (List.mem_of_getElem? (i := 0) rfl)
theorem dX4_read_151 : decode cX4_read 151 = .ok (.getfield 42, 3) := dgX4_read_2 (151, (.getfield 42, 3)) (List.mem_of_getElem? (i := 1) rfl)
theorem dX4_read_154 : decode cX4_read 154 = .ok (.iaload, 1) := dgX4_read_2 (154, (.iaload, 1)) (List.mem_of_getElem? (i := 2) rfl)
theorem dX4_read_155 : decode cX4_read 155 = .ok (.goto 4, 3) := dgX4_read_2 (155, (.goto 4, 3)) (List.mem_of_getElem? (i := 3) rfl)
theorem dX4_read_158 : decode cX4_read 158 = .ok (.iload_n 2, 1) := dgX4_read_2 (158, (.iload_n 2, 1)) (List.mem_of_getElem? (i := 4) rfl)
theorem dX4_read_159 : decode cX4_read 159 = .ok (.putfield 28, 3) := dgX4_read_2 (159, (.putfield 28, 3)) (List.mem_of_getElem? (i := 5) rfl)
theorem dX4_read_162 : decode cX4_read 162 = .ok (.aconst_null, 1) := dgX4_read_2 (162, (.aconst_null, 1)) (List.mem_of_getElem? (i := 6) rfl)
theorem dX4_read_163 : decode cX4_read 163 = .ok (.areturn, 1) := dgX4_read_2 (163, (.areturn, 1)) (List.mem_of_getElem? (i := 7) rfl)
theorem ml_X4_32 : Cond.methodLink RX4 32 yX8_cut ∈ tblG := tg 645 (by decide +kernel) (by decide +kernel)
theorem im_X8_cut : Cond.instanceMethod yX8_cut ∈ tblG := tg 646 (by decide +kernel) (by decide +kernel)
theorem se_X8_cut : Cond.selects RX8 yX8_cut yX8_cut ∈ tblG := tg 647 (by decide +kernel) (by decide +kernel)
theorem cd_X8_cut : Cond.code yX8_cut cX8_cut 7 none ∈ tblG := tg 648 (by decide +kernel) (by decide +kernel)
theorem gW_X8_cut : GoodIn tblG (wsG yX8_cut cX8_cut 7 none) := tgi cd_X8_cut
theorem gV_X4_32 : GoodIn tblG (wsV RX4 32 RX8 yX8_cut (wsG yX8_cut cX8_cut 7 none)) := tgV ml_X4_32 im_X8_cut se_X8_cut ini_X8 gW_X8_cut
theorem hv_X8_cut : yX8_cut.cls = RX8 ∧ yX8_cut.cls ≠ "java/lang/invoke/MethodHandle" ∧ yX8_cut.cls ≠ "java/lang/invoke/VarHandle" ∧ (parseMethodDescriptor yX8_cut.desc).map (fun d => d.parameters.length) = some 2 := by decide +kernel
theorem fl_X4_66 : Cond.fieldLink RX4 66 "LateGlass$Tokens" "places" "[I" ∈ tblG := tg 410 (by decide +kernel) (by decide +kernel)
theorem fl_X4_28 : Cond.fieldLink RX4 28 "LateGlass$LawReader" "faultPlace" "I" ∈ tblG := tg 425 (by decide +kernel) (by decide +kernel)
theorem ml_X4_45 : Cond.methodLink RX4 45 yX4_readClause ∈ tblG := tg 716 (by decide +kernel) (by decide +kernel)
theorem im_X4_readClause : Cond.instanceMethod yX4_readClause ∈ tblG := tg 718 (by decide +kernel) (by decide +kernel)
theorem se_X4_readClause : Cond.selects RX4 yX4_readClause yX4_readClause ∈ tblG := tg 4 (by decide +kernel) (by decide +kernel)
theorem cd_X4_readClause : Cond.code yX4_readClause cX4_readClause 3 (some .boolean) ∈ tblG := tg 719 (by decide +kernel) (by decide +kernel)
theorem gW_X4_readClause : GoodIn tblG (wsG yX4_readClause cX4_readClause 3 (some .boolean)) := tgi cd_X4_readClause
theorem gV_X4_45 : GoodIn tblG (wsV RX4 45 RX4 yX4_readClause (wsG yX4_readClause cX4_readClause 3 (some .boolean))) := tgV ml_X4_45 im_X4_readClause se_X4_readClause ini_X4 gW_X4_readClause
theorem hv_X4_readClause : yX4_readClause.cls = RX4 ∧ yX4_readClause.cls ≠ "java/lang/invoke/MethodHandle" ∧ yX4_readClause.cls ≠ "java/lang/invoke/VarHandle" ∧ (parseMethodDescriptor yX4_readClause.desc).map (fun d => d.parameters.length) = some 1 := by decide +kernel
theorem cl_X4_52 : Cond.classLink RX4 52 RX3 ∈ tblG := tg 756 (by decide +kernel) (by decide +kernel)
theorem isn_X3 : Cond.instantiable RX3 4 ∈ tblG := tg 757 (by decide +kernel) (by decide +kernel)
theorem ini_X3 : Cond.initialized RX3 ∈ tblG := tg 104 (by decide +kernel) (by decide +kernel)
theorem ml_X4_54 : Cond.methodLink RX4 54 yJ7_copyOf_59c91 ∈ tblG := tg 758 (by decide +kernel) (by decide +kernel)
theorem st_J7_copyOf_59c91 : Cond.static yJ7_copyOf_59c91 ∈ tblG := tg 759 (by decide +kernel) (by decide +kernel)
theorem cd_J7_copyOf_59c91 : Cond.code yJ7_copyOf_59c91 cJ7_copyOf_59c91 3 (some (.array .int)) ∈ tblG := tg 760 (by decide +kernel) (by decide +kernel)
theorem gW_J7_copyOf_59c91 : GoodIn tblG (wsG yJ7_copyOf_59c91 cJ7_copyOf_59c91 3 (some (.array .int))) := tgi cd_J7_copyOf_59c91
