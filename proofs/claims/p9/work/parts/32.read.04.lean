set_option maxHeartbeats 4000000 in
set_option maxRecDepth 100000 in
theorem r_plain (fr lo f2 l2 : Nat) (p_d : Int32) (h_p_d : 0 ≤ p_d.toInt ∧ p_d.toInt ≤ 8) (h_sum : ∀ x : Int32, x.toInt = p_d.toInt + 1 → p_d.toInt < 8 → ∀ (l : Launch) (G : g5_G) (a_r a_tk a_kd a_nm a_rc a_rh a_rs a_pl : Nat) (sz : Nat) (e_ln : Int32) (e_pa : Int32) (e_at : Int32) (e_fp : Int32) (f_kd : Nat → Int32) (f_nm : Nat → Int32) (f_rc : Nat → Int32) (h_e_ln : 0 ≤ e_ln.toInt ∧ e_ln.toInt ≤ 400) (h_e_pa : 0 ≤ e_pa.toInt ∧ e_pa.toInt ≤ 50) (h_e_at : 0 ≤ e_at.toInt ∧ e_at.toInt ≤ 401) (e_tk : TOKI f_kd f_nm) (e_cd : CDI f_rc e_ln.toInt), Met l yX4_readSum (wsG yX4_readSum cX4_readSum 6 (some .boolean)) ({ frames := fr + 0, cells := 0, slots := 0, locals := lo + 0 }) (va_Pc [.ref a_r, .int x] (g5_P G [(a_r, (oc4 a_tk a_rh a_rs a_rc e_ln e_pa e_at e_fp)), (a_tk, (oc8 a_kd a_nm a_pl)), (a_kd, (arI G 401 f_kd)), (a_nm, (arI G 401 f_nm)), (a_rc, (arI G 400 f_rc))] sz)) (va_Qi (fun (r : Int32) (u : va_W) => (∃ (o_r : Int32) (o_ln : Int32) (o_pa : Int32) (o_at : Int32) (o_rc : Nat → Int32), (0 ≤ o_r.toInt ∧ o_r.toInt ≤ 1) ∧ (e_ln.toInt ≤ o_ln.toInt ∧ o_ln.toInt ≤ 400) ∧ (0 ≤ o_at.toInt ∧ o_at.toInt ≤ 401) ∧ (0 ≤ o_pa.toInt ∧ o_pa.toInt ≤ 50) ∧ (CDI o_rc o_ln.toInt) ∧ (OPK f_rc o_rc e_ln.toInt) ∧ (r = o_r) ∧ (u = [(a_r, (oc4 a_tk a_rh a_rs a_rc o_ln o_pa o_at e_fp)), (a_tk, (oc8 a_kd a_nm a_pl)), (a_kd, (arI G 401 f_kd)), (a_nm, (arI G 401 f_nm)), (a_rc, (arI G 400 o_rc))]))) (g5_B G (va_A [(a_r, (oc4 a_tk a_rh a_rs a_rc e_ln e_pa e_at e_fp)), (a_tk, (oc8 a_kd a_nm a_pl)), (a_kd, (arI G 401 f_kd)), (a_nm, (arI G 401 f_nm)), (a_rc, (arI G 400 f_rc))] sz)) (va_A [(a_r, (oc4 a_tk a_rh a_rs a_rc e_ln e_pa e_at e_fp)), (a_tk, (oc8 a_kd a_nm a_pl)), (a_kd, (arI G 401 f_kd)), (a_nm, (arI G 401 f_nm)), (a_rc, (arI G 400 f_rc))] sz)) 0 0 (va_A [(a_r, (oc4 a_tk a_rh a_rs a_rc e_ln e_pa e_at e_fp)), (a_tk, (oc8 a_kd a_nm a_pl)), (a_kd, (arI G 401 f_kd)), (a_nm, (arI G 401 f_nm)), (a_rc, (arI G 400 f_rc))] sz)) (h_test : ∀ x : Int32, x.toInt = p_d.toInt + 1 → p_d.toInt < 8 → ∀ (l : Launch) (G : g5_G) (a_r a_tk a_kd a_nm a_rc a_rh a_rs a_pl : Nat) (sz : Nat) (e_ln : Int32) (e_pa : Int32) (e_at : Int32) (e_fp : Int32) (f_kd : Nat → Int32) (f_nm : Nat → Int32) (f_rc : Nat → Int32) (h_e_ln : 0 ≤ e_ln.toInt ∧ e_ln.toInt ≤ 400) (h_e_pa : 0 ≤ e_pa.toInt ∧ e_pa.toInt ≤ 50) (h_e_at : 0 ≤ e_at.toInt ∧ e_at.toInt ≤ 401) (e_tk : TOKI f_kd f_nm) (e_cd : CDI f_rc e_ln.toInt), Met l yX4_readTest (wsG yX4_readTest cX4_readTest 6 (some .boolean)) ({ frames := f2 + 0, cells := 0, slots := 0, locals := l2 + 0 }) (va_Pc [.ref a_r, .int x] (g5_P G [(a_r, (oc4 a_tk a_rh a_rs a_rc e_ln e_pa e_at e_fp)), (a_tk, (oc8 a_kd a_nm a_pl)), (a_kd, (arI G 401 f_kd)), (a_nm, (arI G 401 f_nm)), (a_rc, (arI G 400 f_rc))] sz)) (va_Qi (fun (r : Int32) (u : va_W) => (∃ (o_r : Int32) (o_ln : Int32) (o_pa : Int32) (o_at : Int32) (o_rc : Nat → Int32), (0 ≤ o_r.toInt ∧ o_r.toInt ≤ 1) ∧ (e_ln.toInt ≤ o_ln.toInt ∧ o_ln.toInt ≤ 400) ∧ (0 ≤ o_at.toInt ∧ o_at.toInt ≤ 401) ∧ (0 ≤ o_pa.toInt ∧ o_pa.toInt ≤ 50) ∧ (CDI o_rc o_ln.toInt) ∧ (OPK f_rc o_rc e_ln.toInt) ∧ (r = o_r) ∧ (u = [(a_r, (oc4 a_tk a_rh a_rs a_rc o_ln o_pa o_at e_fp)), (a_tk, (oc8 a_kd a_nm a_pl)), (a_kd, (arI G 401 f_kd)), (a_nm, (arI G 401 f_nm)), (a_rc, (arI G 400 o_rc))]))) (g5_B G (va_A [(a_r, (oc4 a_tk a_rh a_rs a_rc e_ln e_pa e_at e_fp)), (a_tk, (oc8 a_kd a_nm a_pl)), (a_kd, (arI G 401 f_kd)), (a_nm, (arI G 401 f_nm)), (a_rc, (arI G 400 f_rc))] sz)) (va_A [(a_r, (oc4 a_tk a_rh a_rs a_rc e_ln e_pa e_at e_fp)), (a_tk, (oc8 a_kd a_nm a_pl)), (a_kd, (arI G 401 f_kd)), (a_nm, (arI G 401 f_nm)), (a_rc, (arI G 400 f_rc))] sz)) 0 0 (va_A [(a_r, (oc4 a_tk a_rh a_rs a_rc e_ln e_pa e_at e_fp)), (a_tk, (oc8 a_kd a_nm a_pl)), (a_kd, (arI G 401 f_kd)), (a_nm, (arI G 401 f_nm)), (a_rc, (arI G 400 f_rc))] sz)) (l : Launch) (G : g5_G) (a_r a_tk a_kd a_nm a_rc a_rh a_rs a_pl : Nat) (sz : Nat) (e_ln : Int32) (e_pa : Int32) (e_at : Int32) (e_fp : Int32) (f_kd : Nat → Int32) (f_nm : Nat → Int32) (f_rc : Nat → Int32) (h_e_ln : 0 ≤ e_ln.toInt ∧ e_ln.toInt ≤ 400) (h_e_pa : 0 ≤ e_pa.toInt ∧ e_pa.toInt ≤ 50) (h_e_at : 0 ≤ e_at.toInt ∧ e_at.toInt ≤ 401) (e_tk : TOKI f_kd f_nm) (e_cd : CDI f_rc e_ln.toInt) : Met l yX4_readPlain (wsG yX4_readPlain cX4_readPlain 4 (some .boolean)) ({ frames := fr + f2 + 3, cells := 0, slots := 0, locals := lo + l2 + 73 }) (va_Pc [.ref a_r, .int p_d] (g5_P G [(a_r, (oc4 a_tk a_rh a_rs a_rc e_ln e_pa e_at e_fp)), (a_tk, (oc8 a_kd a_nm a_pl)), (a_kd, (arI G 401 f_kd)), (a_nm, (arI G 401 f_nm)), (a_rc, (arI G 400 f_rc))] sz)) (va_Qi (fun (r : Int32) (u : va_W) => (∃ (o_r : Int32) (o_ln : Int32) (o_pa : Int32) (o_at : Int32) (o_rc : Nat → Int32), (0 ≤ o_r.toInt ∧ o_r.toInt ≤ 1) ∧ (e_ln.toInt ≤ o_ln.toInt ∧ o_ln.toInt ≤ 400) ∧ (0 ≤ o_at.toInt ∧ o_at.toInt ≤ 401) ∧ (0 ≤ o_pa.toInt ∧ o_pa.toInt ≤ 50) ∧ (CDI o_rc o_ln.toInt) ∧ (OPK f_rc o_rc e_ln.toInt) ∧ (r = o_r) ∧ (u = [(a_r, (oc4 a_tk a_rh a_rs a_rc o_ln o_pa o_at e_fp)), (a_tk, (oc8 a_kd a_nm a_pl)), (a_kd, (arI G 401 f_kd)), (a_nm, (arI G 401 f_nm)), (a_rc, (arI G 400 o_rc))]))) (g5_B G (va_A [(a_r, (oc4 a_tk a_rh a_rs a_rc e_ln e_pa e_at e_fp)), (a_tk, (oc8 a_kd a_nm a_pl)), (a_kd, (arI G 401 f_kd)), (a_nm, (arI G 401 f_nm)), (a_rc, (arI G 400 f_rc))] sz)) (va_A [(a_r, (oc4 a_tk a_rh a_rs a_rc e_ln e_pa e_at e_fp)), (a_tk, (oc8 a_kd a_nm a_pl)), (a_kd, (arI G 401 f_kd)), (a_nm, (arI G 401 f_nm)), (a_rc, (arI G 400 f_rc))] sz)) 0 0 (va_A [(a_r, (oc4 a_tk a_rh a_rs a_rc e_ln e_pa e_at e_fp)), (a_tk, (oc8 a_kd a_nm a_pl)), (a_kd, (arI G 401 f_kd)), (a_nm, (arI G 401 f_nm)), (a_rc, (arI G 400 f_rc))] sz) := by
  refine Met.ofW (cc := cX4_readPlain) (maxL := 4) (ret := (some .boolean)) (by decide) rfl ?_
  intro p e s m args below meth c s₁ B hml hv
  obtain ⟨rfl, hsz, hP, hK, hD0, hN, hT⟩ := hv
  have hx := B.exec
  have hb := B.bytes
  have hr := B.returns
  have hts : ∀ w ∈ tblG, w.before _ s = true := fun w h => atoms_spec (ws := (wsG yX4_readPlain cX4_readPlain 4 (some .boolean))) B.pre w (List.mem_cons_of_mem _ h)
  have hown : s.vm.findClass RX4 = some m.cls := findClass_of_methodNamed B.named
  have hlocks := B.notSynchronized
  subst hsz
  have hD := hD0.self (sz := s.heap.size)
  generalize hAe : va_A [(a_r, (oc4 a_tk a_rh a_rs a_rc e_ln e_pa e_at e_fp)), (a_tk, (oc8 a_kd a_nm a_pl)), (a_kd, (arI G 401 f_kd)), (a_nm, (arI G 401 f_nm)), (a_rc, (arI G 400 f_rc))] s.heap.size = A at hD hT ⊢
  have hA : ∀ q : Nat, s.heap.size ≤ q → A q := fun q h => by rw [← hAe]; exact Or.inr h
  have hS : va_S A s.heap s.heap [] := va_S.rf
  have hP : va_P G.1 vwCl [(a_r, (oc4 a_tk a_rh a_rs a_rc e_ln e_pa e_at e_fp)), (a_tk, (oc8 a_kd a_nm a_pl)), (a_kd, (arI G 401 f_kd)), (a_nm, (arI G 401 f_nm)), (a_rc, (arI G 400 f_rc))] s.heap := hP
  have hl := lv_entry ([.ref a_r, .int p_d]) (n := 4) (Nat.le_of_ble_eq_true rfl)
  rw [lg_entry_eq]
  generalize (lg_sl ([.ref a_r, .int p_d]) ++ List.replicate (4 - (lg_sl ([.ref a_r, .int p_d])).length) Slot.unset).toArray = ls at hl ⊢
  have hl : lv_has ls 4 [(0, .ref a_r), (1, .int p_d)] := hl
  refine lv_iconst (v := 0) hx hb dX4_readPlain_0 (by decide) ?_
  refine lv_istore_n (lv' := [(2, .int 0), (0, .ref a_r), (1, .int p_d)]) hx hb dX4_readPlain_1 rfl hl (by decide) rfl (fun ls hl => ?_)
  refine lv_iconst (v := 0) hx hb dX4_readPlain_2 (by decide) ?_
  refine lv_istore_n (lv' := [(3, .int 0), (2, .int 0), (0, .ref a_r), (1, .int p_d)]) hx hb dX4_readPlain_3 rfl hl (by decide) rfl (fun ls hl => ?_)
  refine g5_loop (α := (Int32) × (Int32) × (Int32)) (fun (q : (Int32) × (Int32) × (Int32)) (ls : Array Slot) (H : Heap) (locs : List Loc) => match q with | (k_u, k_i, k_at) => lv_has ls 4 [(2, .int k_u), (3, .int k_i), (0, .ref a_r), (1, .int p_d)] ∧ va_P G.1 vwCl [(a_r, (oc4 a_tk a_rh a_rs a_rc e_ln e_pa k_at e_fp)), (a_tk, (oc8 a_kd a_nm a_pl)), (a_kd, (arI G 401 f_kd)), (a_nm, (arI G 401 f_nm)), (a_rc, (arI G 400 f_rc))] H ∧ va_D A [(a_r, (oc4 a_tk a_rh a_rs a_rc e_ln e_pa k_at e_fp)), (a_tk, (oc8 a_kd a_nm a_pl)), (a_kd, (arI G 401 f_kd)), (a_nm, (arI G 401 f_nm)), (a_rc, (arI G 400 f_rc))] ∧ va_S A s.heap H locs ∧ (0 ≤ k_u.toInt ∧ k_u.toInt ≤ 1) ∧ (0 ≤ k_i.toInt ∧ k_i.toInt ≤ 400) ∧ (0 ≤ k_at.toInt ∧ k_at.toInt ≤ 401)) (fun (q : (Int32) × (Int32) × (Int32)) => match q with | (k_u, k_i, k_at) => Int.toNat (400 - k_i.toInt)) (0, 0, e_at) ⟨lv_sub hl [1, 0, 2, 3] rfl, hP, hD, hS, ⟨by decide, by decide⟩, ⟨by decide, by decide⟩, h_e_at⟩ ?_
  rintro ⟨k_u, k_i, k_at⟩ ls H locs ⟨hl, hP, hD, hS, i_1, i_2, i_3⟩ ih_4_4
  have hl : lv_has ls 4 [(2, .int k_u), (3, .int k_i), (0, .ref a_r), (1, .int p_d)] := hl
  have i_1 : 0 ≤ k_u.toInt ∧ k_u.toInt ≤ 1 := i_1
  have i_2 : 0 ≤ k_i.toInt ∧ k_i.toInt ≤ 400 := i_2
  have i_3 : 0 ≤ k_at.toInt ∧ k_at.toInt ≤ 401 := i_3
  refine g5_rs [(a_r, (oc4 a_tk a_rh a_rs a_rc e_ln e_pa k_at e_fp)), (a_tk, (oc8 a_kd a_nm a_pl)), (a_kd, (arI G 401 f_kd)), (a_nm, (arI G 401 f_nm)), (a_rc, (arI G 400 f_rc))] hP hD (fun hP hD => ?_)
  refine lv_iload_n hx hb dX4_readPlain_4 rfl (lv_at hl 1 rfl) ?_
  refine lv_sipush (v := 400) hx hb dX4_readPlain_5 (by decide) ?_
  refine lv_icmp_ge (tgt := 37) hx hb dX4_readPlain_8 (by decide) (fun c_5 => ?_) (fun c_5 => ?_)
  ·
    have i_5 : k_i.toInt ≥ 400 := by have z := g5_ge (a := k_i.toInt) (b := 400) (by rfl) (by decide) c_5; omega
    refine lv_aload_n hx hb dX4_readPlain_37 rfl (lv_at hl 2 rfl) ?_
    refine lv_bipush (v := 40) hx hb dX4_readPlain_38 (by decide) ?_
    obtain ⟨hPc, hDc, hFc⟩ := g5_sub3 (wc := [(a_r, (oc4 a_tk a_rh a_rs a_rc e_ln e_pa k_at e_fp)), (a_tk, (oc8 a_kd a_nm a_pl)), (a_kd, (arI G 401 f_kd))]) hP hD hS hA [0, 1, 2] (by decide) rfl
    refine va_calli (va_runV (As := [.int 40]) (rest := []) ⟨hx, hb, hml, hown, hts⟩ (r_isNext l G a_r a_tk a_kd a_rh a_rs a_rc a_nm a_pl H.size e_ln e_pa k_at e_fp 40 f_kd h_e_ln h_e_pa i_3) (cwV 1 hts gV_X4_49 rfl rfl rfl hv_X4_isNext ⟨by simp only [headSpec]; omega, by simp only [headSpec]; omega⟩) (g5_preV hPc hK hDc hN hT hS hFc (ci := 4) (q0 := 0) rfl rfl) rfl rfl hl.1 rfl (lv_room (Nat.le_of_ble_eq_true rfl)) dX4_readPlain_40 ⟨Nat.le_of_ble_eq_true rfl, Nat.le_of_ble_eq_true rfl⟩) hS (fun q _ h => hFc q h) hFc (fun r u t H1 locs ht hvm hw hB hz1 hk1 hS => ?_)
    obtain ⟨hP1, hD1⟩ := hB
    rw [ht] at hP1
    rcases hw with ⟨i_6, i_7, rfl, rfl⟩ | ⟨rfl, rfl⟩
    ·
      have i_6 : k_at.toInt ≤ 400 := i_6
      have i_7 : f_kd k_at.toNatClampNeg = (40 : Int32) := i_7
      obtain ⟨hP, hD⟩ := va_join (wr := [(a_nm, (arI G 401 f_nm)), (a_rc, (arI G 400 f_rc))]) hP hD [0, 1, 2] [3, 4] rfl rfl (by decide) (by decide) hk1 hFc hP1 hD1
      generalize H1 = H at hP hS ⊢
      refine g5_rs [(a_nm, (arI G 401 f_nm)), (a_rc, (arI G 400 f_rc)), (a_r, (oc4 a_tk a_rh a_rs a_rc e_ln e_pa k_at e_fp)), (a_tk, (oc8 a_kd a_nm a_pl)), (a_kd, (arI G 401 f_kd))] hP hD (fun hP hD => ?_)
      refine lv_if_eq (tgt := 82) hx hb dX4_readPlain_43 (by decide) (fun c_8 => ?_) (fun c_8 => ?_)
      ·
        exact absurd c_8 (by decide)
      ·
        refine lv_iload_n hx hb dX4_readPlain_46 rfl (lv_at hl 3 rfl) ?_
        refine lv_bipush (v := 8) hx hb dX4_readPlain_47 (by decide) ?_
        refine lv_icmp_ge (tgt := 80) hx hb dX4_readPlain_49 (by decide) (fun c_9 => ?_) (fun c_9 => ?_)
        ·
          have i_9 : p_d.toInt ≥ 8 := by have z := g5_ge (a := p_d.toInt) (b := 8) (by rfl) (by decide) c_9; omega
          refine lv_iconst (v := 0) hx hb dX4_readPlain_80 (by decide) ?_
          exact W.zret (v := 0) hx hb hr rfl (fun t ht hW => ⟨⟨0, [(a_r, (oc4 a_tk a_rh a_rs a_rc e_ln e_pa k_at e_fp)), (a_tk, (oc8 a_kd a_nm a_pl)), (a_kd, (arI G 401 f_kd)), (a_nm, (arI G 401 f_nm)), (a_rc, (arI G 400 f_rc))], rfl, ⟨0, e_ln, e_pa, k_at, f_rc, ⟨by have zc_o_r : (0 : Int32).toInt = 0 := (by decide); omega, by have zc_o_r : (0 : Int32).toInt = 0 := (by decide); omega⟩, ⟨by omega, by omega⟩, i_3, h_e_pa, e_cd, opk_refl, rfl, rfl⟩, by rw [ht]; exact hP.sub [2, 3, 4, 0, 1] rfl, hD.sub [2, 3, 4, 0, 1] (by decide) rfl⟩, hS.F ht⟩) hS.2.2 dX4_readPlain_81
        ·
          have i_9 : p_d.toInt < 8 := by have z := g5_geN (a := p_d.toInt) (b := 8) (by rfl) (by decide) c_9; omega
          refine lv_aload_n hx hb dX4_readPlain_52 rfl (lv_at hl 2 rfl) ?_
          refine lv_bipush (v := 40) hx hb dX4_readPlain_53 (by decide) ?_
          obtain ⟨hPc, hDc, hFc⟩ := g5_sub3 (wc := [(a_r, (oc4 a_tk a_rh a_rs a_rc e_ln e_pa k_at e_fp)), (a_tk, (oc8 a_kd a_nm a_pl)), (a_kd, (arI G 401 f_kd))]) hP hD hS hA [2, 3, 4] (by decide) rfl
          refine va_calli (va_runV (As := [.int 40]) (rest := []) ⟨hx, hb, hml, hown, hts⟩ (r_passed l G a_r a_tk a_kd a_rh a_rs a_rc a_nm a_pl H.size e_ln e_pa k_at e_fp 40 f_kd h_e_ln h_e_pa i_3) (cwV 1 hts gV_X4_63 rfl rfl rfl hv_X4_passed ⟨by simp only [headSpec]; omega, by simp only [headSpec]; omega⟩) (g5_preV hPc hK hDc hN hT hS hFc (ci := 4) (q0 := 0) rfl rfl) rfl rfl hl.1 rfl (lv_room (Nat.le_of_ble_eq_true rfl)) dX4_readPlain_55 ⟨Nat.le_of_ble_eq_true rfl, Nat.le_of_ble_eq_true rfl⟩) hS (fun q _ h => hFc q h) hFc (fun r u t H1 locs ht hvm hw hB hz1 hk1 hS => ?_)
          obtain ⟨hP1, hD1⟩ := hB
          rw [ht] at hP1
          obtain ⟨z12, z13, i_10, i_11, y14, rfl⟩ := hw
          have i_10 : 0 ≤ z12.toInt ∧ z12.toInt ≤ 1 := i_10
          have i_11 : 0 ≤ z13.toInt ∧ z13.toInt ≤ 401 := i_11
          obtain ⟨hP, hD⟩ := va_join (wr := [(a_nm, (arI G 401 f_nm)), (a_rc, (arI G 400 f_rc))]) hP hD [2, 3, 4] [0, 1] rfl rfl (by decide) (by decide) hk1 hFc hP1 hD1
          generalize H1 = H at hP hS ⊢
          refine g5_rs [(a_nm, (arI G 401 f_nm)), (a_rc, (arI G 400 f_rc)), (a_r, (oc4 a_tk a_rh a_rs a_rc e_ln e_pa z13 e_fp)), (a_tk, (oc8 a_kd a_nm a_pl)), (a_kd, (arI G 401 f_kd))] hP hD (fun hP hD => ?_)
          refine g5_ti (v := z12) y14 ?_
          refine lv_if_eq (tgt := 80) hx hb dX4_readPlain_58 (by decide) (fun c_15 => ?_) (fun c_15 => ?_)
          ·
            have i_15 : z12.toInt = 0 := by have z := g5_eq (a := z12.toInt) (b := 0) (by rfl) (by decide) c_15; omega
            refine lv_iconst (v := 0) hx hb dX4_readPlain_80 (by decide) ?_
            exact W.zret (v := 0) hx hb hr rfl (fun t ht hW => ⟨⟨0, [(a_r, (oc4 a_tk a_rh a_rs a_rc e_ln e_pa z13 e_fp)), (a_tk, (oc8 a_kd a_nm a_pl)), (a_kd, (arI G 401 f_kd)), (a_nm, (arI G 401 f_nm)), (a_rc, (arI G 400 f_rc))], rfl, ⟨0, e_ln, e_pa, z13, f_rc, ⟨by have zc_o_r : (0 : Int32).toInt = 0 := (by decide); omega, by have zc_o_r : (0 : Int32).toInt = 0 := (by decide); omega⟩, ⟨by omega, by omega⟩, i_11, h_e_pa, e_cd, opk_refl, rfl, rfl⟩, by rw [ht]; exact hP.sub [2, 3, 4, 0, 1] rfl, hD.sub [2, 3, 4, 0, 1] (by decide) rfl⟩, hS.F ht⟩) hS.2.2 dX4_readPlain_81
          ·
            have n_15 : gNe (z12.toInt) (0) := by have z := g5_eqN (a := z12.toInt) (b := 0) (by rfl) (by decide) c_15; unfold gNe; omega
            have i_15 : z12.toInt ≥ 1 := by have z := g5_eqN (a := z12.toInt) (b := 0) (by rfl) (by decide) c_15; omega
            refine lv_aload_n hx hb dX4_readPlain_61 rfl (lv_at hl 2 rfl) ?_
            refine lv_iload_n hx hb dX4_readPlain_62 rfl (lv_at hl 3 rfl) ?_
            refine lv_iconst (v := 1) hx hb dX4_readPlain_63 (by decide) ?_
            refine lv_iadd hx hb dX4_readPlain_64 ?_
            have t_16 : (p_d + 1).toInt = p_d.toInt + 1 := g5_iadd (a := p_d.toInt) (b := 1) (by rfl) (by decide) (by omega) (by omega)
            obtain ⟨hPc, hDc, hFc⟩ := g5_sub3 (wc := [(a_r, (oc4 a_tk a_rh a_rs a_rc e_ln e_pa z13 e_fp)), (a_tk, (oc8 a_kd a_nm a_pl)), (a_kd, (arI G 401 f_kd)), (a_nm, (arI G 401 f_nm)), (a_rc, (arI G 400 f_rc))]) hP hD hS hA [2, 3, 4, 0, 1] (by decide) rfl
            refine va_calli (va_runV (As := [.int (p_d + 1)]) (rest := []) ⟨hx, hb, hml, hown, hts⟩ ((h_test (p_d + 1) (by omega) (by omega)) l G a_r a_tk a_kd a_nm a_rc a_rh a_rs a_pl H.size e_ln e_pa z13 e_fp f_kd f_nm f_rc h_e_ln h_e_pa i_11 (e_tk) (e_cd)) (cwV 1 hts gV_X4_76 rfl rfl rfl hv_X4_readTest ⟨by simp only [headSpec]; omega, by simp only [headSpec]; omega⟩) (g5_preV hPc hK hDc hN hT hS hFc (ci := 4) (q0 := 0) rfl rfl) rfl rfl hl.1 rfl (lv_room (Nat.le_of_ble_eq_true rfl)) dX4_readPlain_65 ⟨Nat.le_of_ble_eq_true rfl, Nat.le_of_ble_eq_true rfl⟩) hS (fun q _ h => hFc q h) hFc (fun r u t H1 locs ht hvm hw hB hz1 hk1 hS => ?_)
            obtain ⟨hP1, hD1⟩ := hB
            rw [ht] at hP1
            obtain ⟨z23, z24, z25, z26, z27, i_17, i_18, i_19, i_20, i_21, i_22, y28, rfl⟩ := hw
            have i_17 : 0 ≤ z23.toInt ∧ z23.toInt ≤ 1 := i_17
            have i_18 : e_ln.toInt ≤ z24.toInt ∧ z24.toInt ≤ 400 := i_18
            have i_19 : 0 ≤ z26.toInt ∧ z26.toInt ≤ 401 := i_19
            have i_20 : 0 ≤ z25.toInt ∧ z25.toInt ≤ 50 := i_20
            have i_21 : CDI z27 z24.toInt := i_21
            have i_22 : OPK f_rc z27 e_ln.toInt := i_22
            obtain ⟨hP, hD⟩ := va_join (wr := []) hP hD [2, 3, 4, 0, 1] [] rfl rfl (by decide) (by decide) hk1 hFc hP1 hD1
            generalize H1 = H at hP hS ⊢
            refine g5_rs [(a_r, (oc4 a_tk a_rh a_rs a_rc z24 z25 z26 e_fp)), (a_tk, (oc8 a_kd a_nm a_pl)), (a_kd, (arI G 401 f_kd)), (a_nm, (arI G 401 f_nm)), (a_rc, (arI G 400 z27))] hP hD (fun hP hD => ?_)
            refine g5_ti (v := z23) y28 ?_
            refine lv_if_eq (tgt := 80) hx hb dX4_readPlain_68 (by decide) (fun c_29 => ?_) (fun c_29 => ?_)
            ·
              have i_29 : z23.toInt = 0 := by have z := g5_eq (a := z23.toInt) (b := 0) (by rfl) (by decide) c_29; omega
              refine lv_iconst (v := 0) hx hb dX4_readPlain_80 (by decide) ?_
              exact W.zret (v := 0) hx hb hr rfl (fun t ht hW => ⟨⟨0, [(a_r, (oc4 a_tk a_rh a_rs a_rc z24 z25 z26 e_fp)), (a_tk, (oc8 a_kd a_nm a_pl)), (a_kd, (arI G 401 f_kd)), (a_nm, (arI G 401 f_nm)), (a_rc, (arI G 400 z27))], rfl, ⟨0, z24, z25, z26, z27, ⟨by have zc_o_r : (0 : Int32).toInt = 0 := (by decide); omega, by have zc_o_r : (0 : Int32).toInt = 0 := (by decide); omega⟩, ⟨by omega, by omega⟩, i_19, i_20, i_21, i_22, rfl, rfl⟩, by rw [ht]; exact hP.sub [0, 1, 2, 3, 4] rfl, hD.sub [0, 1, 2, 3, 4] (by decide) rfl⟩, hS.F ht⟩) hS.2.2 dX4_readPlain_81
            ·
              have n_29 : gNe (z23.toInt) (0) := by have z := g5_eqN (a := z23.toInt) (b := 0) (by rfl) (by decide) c_29; unfold gNe; omega
              have i_29 : z23.toInt ≥ 1 := by have z := g5_eqN (a := z23.toInt) (b := 0) (by rfl) (by decide) c_29; omega
              refine lv_aload_n hx hb dX4_readPlain_71 rfl (lv_at hl 2 rfl) ?_
              refine lv_bipush (v := 41) hx hb dX4_readPlain_72 (by decide) ?_
              obtain ⟨hPc, hDc, hFc⟩ := g5_sub3 (wc := [(a_r, (oc4 a_tk a_rh a_rs a_rc z24 z25 z26 e_fp)), (a_tk, (oc8 a_kd a_nm a_pl)), (a_kd, (arI G 401 f_kd))]) hP hD hS hA [0, 1, 2] (by decide) rfl
              refine va_calli (va_runV (As := [.int 41]) (rest := []) ⟨hx, hb, hml, hown, hts⟩ (r_passed l G a_r a_tk a_kd a_rh a_rs a_rc a_nm a_pl H.size z24 z25 z26 e_fp 41 f_kd ⟨by omega, by omega⟩ i_20 i_19) (cwV 1 hts gV_X4_63 rfl rfl rfl hv_X4_passed ⟨by simp only [headSpec]; omega, by simp only [headSpec]; omega⟩) (g5_preV hPc hK hDc hN hT hS hFc (ci := 4) (q0 := 0) rfl rfl) rfl rfl hl.1 rfl (lv_room (Nat.le_of_ble_eq_true rfl)) dX4_readPlain_74 ⟨Nat.le_of_ble_eq_true rfl, Nat.le_of_ble_eq_true rfl⟩) hS (fun q _ h => hFc q h) hFc (fun r u t H1 locs ht hvm hw hB hz1 hk1 hS => ?_)
              obtain ⟨hP1, hD1⟩ := hB
              rw [ht] at hP1
              obtain ⟨z32, z33, i_30, i_31, y34, rfl⟩ := hw
              have i_30 : 0 ≤ z32.toInt ∧ z32.toInt ≤ 1 := i_30
              have i_31 : 0 ≤ z33.toInt ∧ z33.toInt ≤ 401 := i_31
              obtain ⟨hP, hD⟩ := va_join (wr := [(a_nm, (arI G 401 f_nm)), (a_rc, (arI G 400 z27))]) hP hD [0, 1, 2] [3, 4] rfl rfl (by decide) (by decide) hk1 hFc hP1 hD1
              generalize H1 = H at hP hS ⊢
              refine g5_rs [(a_nm, (arI G 401 f_nm)), (a_rc, (arI G 400 z27)), (a_r, (oc4 a_tk a_rh a_rs a_rc z24 z25 z33 e_fp)), (a_tk, (oc8 a_kd a_nm a_pl)), (a_kd, (arI G 401 f_kd))] hP hD (fun hP hD => ?_)
              refine g5_ti (v := z32) y34 ?_
              refine lv_if_ne (tgt := 170) hx hb dX4_readPlain_77 (by decide) (fun c_35 => ?_) (fun c_35 => ?_)
              ·
                have n_35 : gNe (z32.toInt) (0) := by have z := g5_ne (a := z32.toInt) (b := 0) (by rfl) (by decide) c_35; unfold gNe; omega
                have i_35 : z32.toInt ≥ 1 := by have z := g5_ne (a := z32.toInt) (b := 0) (by rfl) (by decide) c_35; omega
                refine lv_iload_n hx hb dX4_readPlain_170 rfl (lv_at hl 0 rfl) ?_
                refine lv_if_eq (tgt := 182) hx hb dX4_readPlain_171 (by decide) (fun c_36 => ?_) (fun c_36 => ?_)
                ·
                  have i_36 : k_u.toInt = 0 := by have z := g5_eq (a := k_u.toInt) (b := 0) (by rfl) (by decide) c_36; omega
                  refine lv_iconst (v := 1) hx hb dX4_readPlain_182 (by decide) ?_
                  exact W.zret (v := 1) hx hb hr rfl (fun t ht hW => ⟨⟨1, [(a_r, (oc4 a_tk a_rh a_rs a_rc z24 z25 z33 e_fp)), (a_tk, (oc8 a_kd a_nm a_pl)), (a_kd, (arI G 401 f_kd)), (a_nm, (arI G 401 f_nm)), (a_rc, (arI G 400 z27))], rfl, ⟨1, z24, z25, z33, z27, ⟨by have zc_o_r : (1 : Int32).toInt = 1 := (by decide); omega, by have zc_o_r : (1 : Int32).toInt = 1 := (by decide); omega⟩, ⟨by omega, by omega⟩, i_31, i_20, i_21, i_22, rfl, rfl⟩, by rw [ht]; exact hP.sub [2, 3, 4, 0, 1] rfl, hD.sub [2, 3, 4, 0, 1] (by decide) rfl⟩, hS.F ht⟩) hS.2.2 dX4_readPlain_183
                ·
                  have n_36 : gNe (k_u.toInt) (0) := by have z := g5_eqN (a := k_u.toInt) (b := 0) (by rfl) (by decide) c_36; unfold gNe; omega
                  have i_36 : k_u.toInt ≥ 1 := by have z := g5_eqN (a := k_u.toInt) (b := 0) (by rfl) (by decide) c_36; omega
                  refine lv_aload_n hx hb dX4_readPlain_174 rfl (lv_at hl 2 rfl) ?_
                  refine lv_bipush (v := 9) hx hb dX4_readPlain_175 (by decide) ?_
                  refine lv_iconst (v := 0) hx hb dX4_readPlain_177 (by decide) ?_
                  obtain ⟨hPc, hDc, hFc⟩ := g5_sub3 (wc := [(a_r, (oc4 a_tk a_rh a_rs a_rc z24 z25 z33 e_fp)), (a_rc, (arI G 400 z27))]) hP hD hS hA [2, 1] (by decide) rfl
                  refine va_calli (va_runV (As := [.int 9, .int 0]) (rest := []) ⟨hx, hb, hml, hown, hts⟩ (r_emit l G a_r a_rc a_tk a_rh a_rs H.size z24 z25 z33 e_fp 9 0 z27 ⟨by omega, by omega⟩ i_20 i_31 (i_21) (by unfold wOK; decide)) (cwV 2 hts gV_X4_79 rfl rfl rfl hv_X4_emit ⟨by simp only [headSpec]; omega, by simp only [headSpec]; omega⟩) (g5_preV hPc hK hDc hN hT hS hFc (ci := 4) (q0 := 0) rfl rfl) rfl rfl hl.1 rfl (lv_room (Nat.le_of_ble_eq_true rfl)) dX4_readPlain_178 ⟨Nat.le_of_ble_eq_true rfl, Nat.le_of_ble_eq_true rfl⟩) hS (fun q _ h => hFc q h) hFc (fun r u t H1 locs ht hvm hw hB hz1 hk1 hS => ?_)
                  obtain ⟨hP1, hD1⟩ := hB
                  rw [ht] at hP1
                  obtain ⟨z42, z43, z44, i_37, i_38, i_39, i_40, i_41, y45, rfl⟩ := hw
                  have i_37 : -1 ≤ z42.toInt ∧ z42.toInt ≤ 399 := i_37
                  have i_38 : z24.toInt ≤ z43.toInt ∧ z43.toInt ≤ 400 := i_38
                  have i_39 : CDI z44 z43.toInt := i_39
                  have i_40 : OPK z27 z44 z24.toInt := i_40
                  have i_41 : 0 ≤ z42.toInt → z42.toInt < z43.toInt ∧ z44 z42.toNatClampNeg = (((9 : Int32) <<< (12 &&& 31)) ||| (0 : Int32)) := i_41
                  obtain ⟨hP, hD⟩ := va_join (wr := [(a_nm, (arI G 401 f_nm)), (a_tk, (oc8 a_kd a_nm a_pl)), (a_kd, (arI G 401 f_kd))]) hP hD [2, 1] [0, 3, 4] rfl rfl (by decide) (by decide) hk1 hFc hP1 hD1
                  generalize H1 = H at hP hS ⊢
                  refine g5_rs [(a_nm, (arI G 401 f_nm)), (a_tk, (oc8 a_kd a_nm a_pl)), (a_kd, (arI G 401 f_kd)), (a_r, (oc4 a_tk a_rh a_rs a_rc z43 z25 z33 e_fp)), (a_rc, (arI G 400 z44))] hP hD (fun hP hD => ?_)
                  refine g5_ti (v := z42) y45 ?_
                  refine lv_pop hx hb dX4_readPlain_181 rfl ?_
                  refine lv_iconst (v := 1) hx hb dX4_readPlain_182 (by decide) ?_
                  exact W.zret (v := 1) hx hb hr rfl (fun t ht hW => ⟨⟨1, [(a_r, (oc4 a_tk a_rh a_rs a_rc z43 z25 z33 e_fp)), (a_tk, (oc8 a_kd a_nm a_pl)), (a_kd, (arI G 401 f_kd)), (a_nm, (arI G 401 f_nm)), (a_rc, (arI G 400 z44))], rfl, ⟨1, z43, z25, z33, z44, ⟨by have zc_o_r : (1 : Int32).toInt = 1 := (by decide); omega, by have zc_o_r : (1 : Int32).toInt = 1 := (by decide); omega⟩, ⟨by omega, by omega⟩, i_31, i_20, i_39, opk_trans i_22 (i_40) (by omega), rfl, rfl⟩, by rw [ht]; exact hP.sub [3, 1, 2, 0, 4] rfl, hD.sub [3, 1, 2, 0, 4] (by decide) rfl⟩, hS.F ht⟩) hS.2.2 dX4_readPlain_183
              ·
                have i_35 : z32.toInt = 0 := by have z := g5_neN (a := z32.toInt) (b := 0) (by rfl) (by decide) c_35; omega
                refine lv_iconst (v := 0) hx hb dX4_readPlain_80 (by decide) ?_
                exact W.zret (v := 0) hx hb hr rfl (fun t ht hW => ⟨⟨0, [(a_r, (oc4 a_tk a_rh a_rs a_rc z24 z25 z33 e_fp)), (a_tk, (oc8 a_kd a_nm a_pl)), (a_kd, (arI G 401 f_kd)), (a_nm, (arI G 401 f_nm)), (a_rc, (arI G 400 z27))], rfl, ⟨0, z24, z25, z33, z27, ⟨by have zc_o_r : (0 : Int32).toInt = 0 := (by decide); omega, by have zc_o_r : (0 : Int32).toInt = 0 := (by decide); omega⟩, ⟨by omega, by omega⟩, i_31, i_20, i_21, i_22, rfl, rfl⟩, by rw [ht]; exact hP.sub [2, 3, 4, 0, 1] rfl, hD.sub [2, 3, 4, 0, 1] (by decide) rfl⟩, hS.F ht⟩) hS.2.2 dX4_readPlain_81
    ·
      obtain ⟨hP, hD⟩ := va_join (wr := [(a_nm, (arI G 401 f_nm)), (a_rc, (arI G 400 f_rc))]) hP hD [0, 1, 2] [3, 4] rfl rfl (by decide) (by decide) hk1 hFc hP1 hD1
      generalize H1 = H at hP hS ⊢
      refine g5_rs [(a_nm, (arI G 401 f_nm)), (a_rc, (arI G 400 f_rc)), (a_r, (oc4 a_tk a_rh a_rs a_rc e_ln e_pa k_at e_fp)), (a_tk, (oc8 a_kd a_nm a_pl)), (a_kd, (arI G 401 f_kd))] hP hD (fun hP hD => ?_)
      refine lv_if_eq (tgt := 82) hx hb dX4_readPlain_43 (by decide) (fun c_46 => ?_) (fun c_46 => ?_)
      ·
        refine lv_aload_n hx hb dX4_readPlain_82 rfl (lv_at hl 2 rfl) ?_
        refine lv_iload_n hx hb dX4_readPlain_83 rfl (lv_at hl 3 rfl) ?_
        obtain ⟨hPc, hDc, hFc⟩ := g5_sub3 (wc := [(a_r, (oc4 a_tk a_rh a_rs a_rc e_ln e_pa k_at e_fp)), (a_tk, (oc8 a_kd a_nm a_pl)), (a_kd, (arI G 401 f_kd)), (a_nm, (arI G 401 f_nm)), (a_rc, (arI G 400 f_rc))]) hP hD hS hA [2, 3, 4, 0, 1] (by decide) rfl
        refine va_calli (va_runV (As := [.int p_d]) (rest := []) ⟨hx, hb, hml, hown, hts⟩ ((r_sum fr lo p_d h_p_d h_sum) l G a_r a_tk a_kd a_nm a_rc a_rh a_rs a_pl H.size e_ln e_pa k_at e_fp f_kd f_nm f_rc h_e_ln h_e_pa i_3 (e_tk) (e_cd)) (cwV 1 hts gV_X4_73 rfl rfl rfl hv_X4_readSum ⟨by simp only [headSpec]; omega, by simp only [headSpec]; omega⟩) (g5_preV hPc hK hDc hN hT hS hFc (ci := 4) (q0 := 0) rfl rfl) rfl rfl hl.1 rfl (lv_room (Nat.le_of_ble_eq_true rfl)) dX4_readPlain_84 ⟨Nat.le_of_ble_eq_true rfl, Nat.le_of_ble_eq_true rfl⟩) hS (fun q _ h => hFc q h) hFc (fun r u t H1 locs ht hvm hw hB hz1 hk1 hS => ?_)
        obtain ⟨hP1, hD1⟩ := hB
        rw [ht] at hP1
        obtain ⟨z53, z54, z55, z56, z57, i_47, i_48, i_49, i_50, i_51, i_52, y58, rfl⟩ := hw
        have i_47 : 0 ≤ z53.toInt ∧ z53.toInt ≤ 1 := i_47
        have i_48 : e_ln.toInt ≤ z54.toInt ∧ z54.toInt ≤ 400 := i_48
        have i_49 : 0 ≤ z56.toInt ∧ z56.toInt ≤ 401 := i_49
        have i_50 : 0 ≤ z55.toInt ∧ z55.toInt ≤ 50 := i_50
        have i_51 : CDI z57 z54.toInt := i_51
        have i_52 : OPK f_rc z57 e_ln.toInt := i_52
        obtain ⟨hP, hD⟩ := va_join (wr := []) hP hD [2, 3, 4, 0, 1] [] rfl rfl (by decide) (by decide) hk1 hFc hP1 hD1
        generalize H1 = H at hP hS ⊢
        refine g5_rs [(a_r, (oc4 a_tk a_rh a_rs a_rc z54 z55 z56 e_fp)), (a_tk, (oc8 a_kd a_nm a_pl)), (a_kd, (arI G 401 f_kd)), (a_nm, (arI G 401 f_nm)), (a_rc, (arI G 400 z57))] hP hD (fun hP hD => ?_)
        refine g5_ti (v := z53) y58 ?_
        refine lv_if_ne (tgt := 92) hx hb dX4_readPlain_87 (by decide) (fun c_59 => ?_) (fun c_59 => ?_)
        ·
          have n_59 : gNe (z53.toInt) (0) := by have z := g5_ne (a := z53.toInt) (b := 0) (by rfl) (by decide) c_59; unfold gNe; omega
          have i_59 : z53.toInt ≥ 1 := by have z := g5_ne (a := z53.toInt) (b := 0) (by rfl) (by decide) c_59; omega
          refine lv_aload_n hx hb dX4_readPlain_92 rfl (lv_at hl 2 rfl) ?_
          refine lv_bipush (v := 60) hx hb dX4_readPlain_93 (by decide) ?_
          obtain ⟨hPc, hDc, hFc⟩ := g5_sub3 (wc := [(a_r, (oc4 a_tk a_rh a_rs a_rc z54 z55 z56 e_fp)), (a_tk, (oc8 a_kd a_nm a_pl)), (a_kd, (arI G 401 f_kd))]) hP hD hS hA [0, 1, 2] (by decide) rfl
          refine va_calli (va_runV (As := [.int 60]) (rest := []) ⟨hx, hb, hml, hown, hts⟩ (r_isNext l G a_r a_tk a_kd a_rh a_rs a_rc a_nm a_pl H.size z54 z55 z56 e_fp 60 f_kd ⟨by omega, by omega⟩ i_50 i_49) (cwV 1 hts gV_X4_49 rfl rfl rfl hv_X4_isNext ⟨by simp only [headSpec]; omega, by simp only [headSpec]; omega⟩) (g5_preV hPc hK hDc hN hT hS hFc (ci := 4) (q0 := 0) rfl rfl) rfl rfl hl.1 rfl (lv_room (Nat.le_of_ble_eq_true rfl)) dX4_readPlain_95 ⟨Nat.le_of_ble_eq_true rfl, Nat.le_of_ble_eq_true rfl⟩) hS (fun q _ h => hFc q h) hFc (fun r u t H1 locs ht hvm hw hB hz1 hk1 hS => ?_)
          obtain ⟨hP1, hD1⟩ := hB
          rw [ht] at hP1
          rcases hw with ⟨i_60, i_61, rfl, rfl⟩ | ⟨rfl, rfl⟩
          ·
            have i_60 : z56.toInt ≤ 400 := i_60
            have i_61 : f_kd z56.toNatClampNeg = (60 : Int32) := i_61
            obtain ⟨hP, hD⟩ := va_join (wr := [(a_nm, (arI G 401 f_nm)), (a_rc, (arI G 400 z57))]) hP hD [0, 1, 2] [3, 4] rfl rfl (by decide) (by decide) hk1 hFc hP1 hD1
            generalize H1 = H at hP hS ⊢
            refine g5_rs [(a_nm, (arI G 401 f_nm)), (a_rc, (arI G 400 z57)), (a_r, (oc4 a_tk a_rh a_rs a_rc z54 z55 z56 e_fp)), (a_tk, (oc8 a_kd a_nm a_pl)), (a_kd, (arI G 401 f_kd))] hP hD (fun hP hD => ?_)
            refine lv_if_eq (tgt := 106) hx hb dX4_readPlain_98 (by decide) (fun c_62 => ?_) (fun c_62 => ?_)
            ·
              exact absurd c_62 (by decide)
            ·
              refine lv_bipush (v := 6) hx hb dX4_readPlain_101 (by decide) ?_
              refine lv_goto (tgt := 135) hx hb dX4_readPlain_103 (by decide) ?_
              refine lv_istore_n (lv' := [(3, .int 6), (2, .int k_u), (0, .ref a_r), (1, .int p_d)]) hx hb dX4_readPlain_135 rfl hl (by decide) rfl (fun ls hl => ?_)
              refine lv_iload_n hx hb dX4_readPlain_136 rfl (lv_at hl 0 rfl) ?_
              refine lv_iconst (v := (-1)) hx hb dX4_readPlain_137 (by decide) ?_
              refine lv_icmp_ne (tgt := 143) hx hb dX4_readPlain_138 (by decide) (fun c_63 => ?_) (fun c_63 => ?_)
              ·
                refine lv_aload_n hx hb dX4_readPlain_143 rfl (lv_at hl 2 rfl) ?_
                refine lv_dup hx hb dX4_readPlain_144 rfl ?_
                refine va_get (D := G.1) (ci := 4) (v := .int z56) (C := RX4) (T := TX4) (N := 8) hx hb hts inG_X4 hown hK hP 2 rfl rfl 6 (by decide) (hts _ fl_X4_42) (fun _ h9 => h9) rfl dX4_readPlain_145 ?_
                refine lv_iconst (v := 1) hx hb dX4_readPlain_148 (by decide) ?_
                refine lv_iadd hx hb dX4_readPlain_149 ?_
                have t_64 : (z56 + 1).toInt = z56.toInt + 1 := g5_iadd (a := z56.toInt) (b := 1) (by rfl) (by decide) (by omega) (by omega)
                refine va_put (D := G.1) (ci := 4) (v := .int (z56 + 1)) (ty := .int) (C := RX4) (T := TX4) (N := 8) hx hb hts inG_X4 tyX4 tyX4_ok nmX4 hown hK hP hD hS 2 rfl rfl 6 (by decide) (hts _ fl_X4_42) (fun _ h9 => h9) rfl (by decide +kernel) rfl rfl (Nat.le_of_ble_eq_true rfl) dX4_readPlain_150 (fun H locs hP hD hS => ?_)
                refine g5_rs [(a_nm, (arI G 401 f_nm)), (a_rc, (arI G 400 z57)), (a_r, (oc4 a_tk a_rh a_rs a_rc z54 z55 (z56 + 1) e_fp)), (a_tk, (oc8 a_kd a_nm a_pl)), (a_kd, (arI G 401 f_kd))] hP hD (fun hP hD => ?_)
                refine lv_aload_n hx hb dX4_readPlain_153 rfl (lv_at hl 2 rfl) ?_
                refine lv_iload_n hx hb dX4_readPlain_154 rfl (lv_at hl 3 rfl) ?_
                obtain ⟨hPc, hDc, hFc⟩ := g5_sub3 (wc := [(a_r, (oc4 a_tk a_rh a_rs a_rc z54 z55 (z56 + 1) e_fp)), (a_tk, (oc8 a_kd a_nm a_pl)), (a_kd, (arI G 401 f_kd)), (a_nm, (arI G 401 f_nm)), (a_rc, (arI G 400 z57))]) hP hD hS hA [2, 3, 4, 0, 1] (by decide) rfl
                refine va_calli (va_runV (As := [.int p_d]) (rest := []) ⟨hx, hb, hml, hown, hts⟩ ((r_sum fr lo p_d h_p_d h_sum) l G a_r a_tk a_kd a_nm a_rc a_rh a_rs a_pl H.size z54 z55 (z56 + 1) e_fp f_kd f_nm z57 ⟨by omega, by omega⟩ i_50 ⟨by omega, by omega⟩ (e_tk) (i_51)) (cwV 1 hts gV_X4_73 rfl rfl rfl hv_X4_readSum ⟨by simp only [headSpec]; omega, by simp only [headSpec]; omega⟩) (g5_preV hPc hK hDc hN hT hS hFc (ci := 4) (q0 := 0) rfl rfl) rfl rfl hl.1 rfl (lv_room (Nat.le_of_ble_eq_true rfl)) dX4_readPlain_155 ⟨Nat.le_of_ble_eq_true rfl, Nat.le_of_ble_eq_true rfl⟩) hS (fun q _ h => hFc q h) hFc (fun r u t H1 locs ht hvm hw hB hz1 hk1 hS => ?_)
                obtain ⟨hP1, hD1⟩ := hB
                rw [ht] at hP1
                obtain ⟨z71, z72, z73, z74, z75, i_65, i_66, i_67, i_68, i_69, i_70, y76, rfl⟩ := hw
                have i_65 : 0 ≤ z71.toInt ∧ z71.toInt ≤ 1 := i_65
                have i_66 : z54.toInt ≤ z72.toInt ∧ z72.toInt ≤ 400 := i_66
                have i_67 : 0 ≤ z74.toInt ∧ z74.toInt ≤ 401 := i_67
                have i_68 : 0 ≤ z73.toInt ∧ z73.toInt ≤ 50 := i_68
                have i_69 : CDI z75 z72.toInt := i_69
                have i_70 : OPK z57 z75 z54.toInt := i_70
                obtain ⟨hP, hD⟩ := va_join (wr := []) hP hD [2, 3, 4, 0, 1] [] rfl rfl (by decide) (by decide) hk1 hFc hP1 hD1
                generalize H1 = H at hP hS ⊢
                refine g5_rs [(a_r, (oc4 a_tk a_rh a_rs a_rc z72 z73 z74 e_fp)), (a_tk, (oc8 a_kd a_nm a_pl)), (a_kd, (arI G 401 f_kd)), (a_nm, (arI G 401 f_nm)), (a_rc, (arI G 400 z75))] hP hD (fun hP hD => ?_)
                refine g5_ti (v := z71) y76 ?_
                refine lv_if_ne (tgt := 163) hx hb dX4_readPlain_158 (by decide) (fun c_77 => ?_) (fun c_77 => ?_)
                ·
                  have n_77 : gNe (z71.toInt) (0) := by have z := g5_ne (a := z71.toInt) (b := 0) (by rfl) (by decide) c_77; unfold gNe; omega
                  have i_77 : z71.toInt ≥ 1 := by have z := g5_ne (a := z71.toInt) (b := 0) (by rfl) (by decide) c_77; omega
                  refine lv_aload_n hx hb dX4_readPlain_163 rfl (lv_at hl 2 rfl) ?_
                  refine lv_iload_n hx hb dX4_readPlain_164 rfl (lv_at hl 0 rfl) ?_
                  refine lv_iconst (v := 0) hx hb dX4_readPlain_165 (by decide) ?_
                  obtain ⟨hPc, hDc, hFc⟩ := g5_sub3 (wc := [(a_r, (oc4 a_tk a_rh a_rs a_rc z72 z73 z74 e_fp)), (a_rc, (arI G 400 z75))]) hP hD hS hA [0, 4] (by decide) rfl
                  refine va_calli (va_runV (As := [.int 6, .int 0]) (rest := []) ⟨hx, hb, hml, hown, hts⟩ (r_emit l G a_r a_rc a_tk a_rh a_rs H.size z72 z73 z74 e_fp 6 0 z75 ⟨by omega, by omega⟩ i_68 i_67 (i_69) (by unfold wOK; decide)) (cwV 2 hts gV_X4_79 rfl rfl rfl hv_X4_emit ⟨by simp only [headSpec]; omega, by simp only [headSpec]; omega⟩) (g5_preV hPc hK hDc hN hT hS hFc (ci := 4) (q0 := 0) rfl rfl) rfl rfl hl.1 rfl (lv_room (Nat.le_of_ble_eq_true rfl)) dX4_readPlain_166 ⟨Nat.le_of_ble_eq_true rfl, Nat.le_of_ble_eq_true rfl⟩) hS (fun q _ h => hFc q h) hFc (fun r u t H1 locs ht hvm hw hB hz1 hk1 hS => ?_)
                  obtain ⟨hP1, hD1⟩ := hB
                  rw [ht] at hP1
                  obtain ⟨z83, z84, z85, i_78, i_79, i_80, i_81, i_82, y86, rfl⟩ := hw
                  have i_78 : -1 ≤ z83.toInt ∧ z83.toInt ≤ 399 := i_78
                  have i_79 : z72.toInt ≤ z84.toInt ∧ z84.toInt ≤ 400 := i_79
                  have i_80 : CDI z85 z84.toInt := i_80
                  have i_81 : OPK z75 z85 z72.toInt := i_81
                  have i_82 : 0 ≤ z83.toInt → z83.toInt < z84.toInt ∧ z85 z83.toNatClampNeg = (((6 : Int32) <<< (12 &&& 31)) ||| (0 : Int32)) := i_82
                  obtain ⟨hP, hD⟩ := va_join (wr := [(a_tk, (oc8 a_kd a_nm a_pl)), (a_kd, (arI G 401 f_kd)), (a_nm, (arI G 401 f_nm))]) hP hD [0, 4] [1, 2, 3] rfl rfl (by decide) (by decide) hk1 hFc hP1 hD1
                  generalize H1 = H at hP hS ⊢
                  refine g5_rs [(a_tk, (oc8 a_kd a_nm a_pl)), (a_kd, (arI G 401 f_kd)), (a_nm, (arI G 401 f_nm)), (a_r, (oc4 a_tk a_rh a_rs a_rc z84 z73 z74 e_fp)), (a_rc, (arI G 400 z85))] hP hD (fun hP hD => ?_)
                  refine g5_ti (v := z83) y86 ?_
                  refine lv_pop hx hb dX4_readPlain_169 rfl ?_
                  refine lv_iload_n hx hb dX4_readPlain_170 rfl (lv_at hl 1 rfl) ?_
                  refine lv_if_eq (tgt := 182) hx hb dX4_readPlain_171 (by decide) (fun c_87 => ?_) (fun c_87 => ?_)
                  ·
                    have i_87 : k_u.toInt = 0 := by have z := g5_eq (a := k_u.toInt) (b := 0) (by rfl) (by decide) c_87; omega
                    refine lv_iconst (v := 1) hx hb dX4_readPlain_182 (by decide) ?_
                    exact W.zret (v := 1) hx hb hr rfl (fun t ht hW => ⟨⟨1, [(a_r, (oc4 a_tk a_rh a_rs a_rc z84 z73 z74 e_fp)), (a_tk, (oc8 a_kd a_nm a_pl)), (a_kd, (arI G 401 f_kd)), (a_nm, (arI G 401 f_nm)), (a_rc, (arI G 400 z85))], rfl, ⟨1, z84, z73, z74, z85, ⟨by have zc_o_r : (1 : Int32).toInt = 1 := (by decide); omega, by have zc_o_r : (1 : Int32).toInt = 1 := (by decide); omega⟩, ⟨by omega, by omega⟩, i_67, i_68, i_80, opk_trans i_52 (opk_trans i_70 (i_81) (by omega)) (by omega), rfl, rfl⟩, by rw [ht]; exact hP.sub [3, 0, 1, 2, 4] rfl, hD.sub [3, 0, 1, 2, 4] (by decide) rfl⟩, hS.F ht⟩) hS.2.2 dX4_readPlain_183
                  ·
                    have n_87 : gNe (k_u.toInt) (0) := by have z := g5_eqN (a := k_u.toInt) (b := 0) (by rfl) (by decide) c_87; unfold gNe; omega
                    have i_87 : k_u.toInt ≥ 1 := by have z := g5_eqN (a := k_u.toInt) (b := 0) (by rfl) (by decide) c_87; omega
                    refine lv_aload_n hx hb dX4_readPlain_174 rfl (lv_at hl 2 rfl) ?_
                    refine lv_bipush (v := 9) hx hb dX4_readPlain_175 (by decide) ?_
                    refine lv_iconst (v := 0) hx hb dX4_readPlain_177 (by decide) ?_
                    obtain ⟨hPc, hDc, hFc⟩ := g5_sub3 (wc := [(a_r, (oc4 a_tk a_rh a_rs a_rc z84 z73 z74 e_fp)), (a_rc, (arI G 400 z85))]) hP hD hS hA [3, 4] (by decide) rfl
                    refine va_calli (va_runV (As := [.int 9, .int 0]) (rest := []) ⟨hx, hb, hml, hown, hts⟩ (r_emit l G a_r a_rc a_tk a_rh a_rs H.size z84 z73 z74 e_fp 9 0 z85 ⟨by omega, by omega⟩ i_68 i_67 (i_80) (by unfold wOK; decide)) (cwV 2 hts gV_X4_79 rfl rfl rfl hv_X4_emit ⟨by simp only [headSpec]; omega, by simp only [headSpec]; omega⟩) (g5_preV hPc hK hDc hN hT hS hFc (ci := 4) (q0 := 0) rfl rfl) rfl rfl hl.1 rfl (lv_room (Nat.le_of_ble_eq_true rfl)) dX4_readPlain_178 ⟨Nat.le_of_ble_eq_true rfl, Nat.le_of_ble_eq_true rfl⟩) hS (fun q _ h => hFc q h) hFc (fun r u t H1 locs ht hvm hw hB hz1 hk1 hS => ?_)
                    obtain ⟨hP1, hD1⟩ := hB
                    rw [ht] at hP1
                    obtain ⟨z93, z94, z95, i_88, i_89, i_90, i_91, i_92, y96, rfl⟩ := hw
                    have i_88 : -1 ≤ z93.toInt ∧ z93.toInt ≤ 399 := i_88
                    have i_89 : z84.toInt ≤ z94.toInt ∧ z94.toInt ≤ 400 := i_89
                    have i_90 : CDI z95 z94.toInt := i_90
                    have i_91 : OPK z85 z95 z84.toInt := i_91
                    have i_92 : 0 ≤ z93.toInt → z93.toInt < z94.toInt ∧ z95 z93.toNatClampNeg = (((9 : Int32) <<< (12 &&& 31)) ||| (0 : Int32)) := i_92
                    obtain ⟨hP, hD⟩ := va_join (wr := [(a_tk, (oc8 a_kd a_nm a_pl)), (a_kd, (arI G 401 f_kd)), (a_nm, (arI G 401 f_nm))]) hP hD [3, 4] [0, 1, 2] rfl rfl (by decide) (by decide) hk1 hFc hP1 hD1
                    generalize H1 = H at hP hS ⊢
                    refine g5_rs [(a_tk, (oc8 a_kd a_nm a_pl)), (a_kd, (arI G 401 f_kd)), (a_nm, (arI G 401 f_nm)), (a_r, (oc4 a_tk a_rh a_rs a_rc z94 z73 z74 e_fp)), (a_rc, (arI G 400 z95))] hP hD (fun hP hD => ?_)
                    refine g5_ti (v := z93) y96 ?_
                    refine lv_pop hx hb dX4_readPlain_181 rfl ?_
                    refine lv_iconst (v := 1) hx hb dX4_readPlain_182 (by decide) ?_
                    exact W.zret (v := 1) hx hb hr rfl (fun t ht hW => ⟨⟨1, [(a_r, (oc4 a_tk a_rh a_rs a_rc z94 z73 z74 e_fp)), (a_tk, (oc8 a_kd a_nm a_pl)), (a_kd, (arI G 401 f_kd)), (a_nm, (arI G 401 f_nm)), (a_rc, (arI G 400 z95))], rfl, ⟨1, z94, z73, z74, z95, ⟨by have zc_o_r : (1 : Int32).toInt = 1 := (by decide); omega, by have zc_o_r : (1 : Int32).toInt = 1 := (by decide); omega⟩, ⟨by omega, by omega⟩, i_67, i_68, i_90, opk_trans i_52 (opk_trans i_70 (opk_trans i_81 (i_91) (by omega)) (by omega)) (by omega), rfl, rfl⟩, by rw [ht]; exact hP.sub [3, 0, 1, 2, 4] rfl, hD.sub [3, 0, 1, 2, 4] (by decide) rfl⟩, hS.F ht⟩) hS.2.2 dX4_readPlain_183
                ·
                  have i_77 : z71.toInt = 0 := by have z := g5_neN (a := z71.toInt) (b := 0) (by rfl) (by decide) c_77; omega
                  refine lv_iconst (v := 0) hx hb dX4_readPlain_161 (by decide) ?_
                  exact W.zret (v := 0) hx hb hr rfl (fun t ht hW => ⟨⟨0, [(a_r, (oc4 a_tk a_rh a_rs a_rc z72 z73 z74 e_fp)), (a_tk, (oc8 a_kd a_nm a_pl)), (a_kd, (arI G 401 f_kd)), (a_nm, (arI G 401 f_nm)), (a_rc, (arI G 400 z75))], rfl, ⟨0, z72, z73, z74, z75, ⟨by have zc_o_r : (0 : Int32).toInt = 0 := (by decide); omega, by have zc_o_r : (0 : Int32).toInt = 0 := (by decide); omega⟩, ⟨by omega, by omega⟩, i_67, i_68, i_69, opk_trans i_52 (i_70) (by omega), rfl, rfl⟩, by rw [ht]; exact hP.sub [0, 1, 2, 3, 4] rfl, hD.sub [0, 1, 2, 3, 4] (by decide) rfl⟩, hS.F ht⟩) hS.2.2 dX4_readPlain_162
              ·
                exact absurd c_63 (by decide)
          ·
            obtain ⟨hP, hD⟩ := va_join (wr := [(a_nm, (arI G 401 f_nm)), (a_rc, (arI G 400 z57))]) hP hD [0, 1, 2] [3, 4] rfl rfl (by decide) (by decide) hk1 hFc hP1 hD1
            generalize H1 = H at hP hS ⊢
            refine g5_rs [(a_nm, (arI G 401 f_nm)), (a_rc, (arI G 400 z57)), (a_r, (oc4 a_tk a_rh a_rs a_rc z54 z55 z56 e_fp)), (a_tk, (oc8 a_kd a_nm a_pl)), (a_kd, (arI G 401 f_kd))] hP hD (fun hP hD => ?_)
            refine lv_if_eq (tgt := 106) hx hb dX4_readPlain_98 (by decide) (fun c_97 => ?_) (fun c_97 => ?_)
            ·
              refine lv_aload_n hx hb dX4_readPlain_106 rfl (lv_at hl 2 rfl) ?_
              refine lv_bipush (v := 62) hx hb dX4_readPlain_107 (by decide) ?_
              obtain ⟨hPc, hDc, hFc⟩ := g5_sub3 (wc := [(a_r, (oc4 a_tk a_rh a_rs a_rc z54 z55 z56 e_fp)), (a_tk, (oc8 a_kd a_nm a_pl)), (a_kd, (arI G 401 f_kd))]) hP hD hS hA [2, 3, 4] (by decide) rfl
              refine va_calli (va_runV (As := [.int 62]) (rest := []) ⟨hx, hb, hml, hown, hts⟩ (r_isNext l G a_r a_tk a_kd a_rh a_rs a_rc a_nm a_pl H.size z54 z55 z56 e_fp 62 f_kd ⟨by omega, by omega⟩ i_50 i_49) (cwV 1 hts gV_X4_49 rfl rfl rfl hv_X4_isNext ⟨by simp only [headSpec]; omega, by simp only [headSpec]; omega⟩) (g5_preV hPc hK hDc hN hT hS hFc (ci := 4) (q0 := 0) rfl rfl) rfl rfl hl.1 rfl (lv_room (Nat.le_of_ble_eq_true rfl)) dX4_readPlain_109 ⟨Nat.le_of_ble_eq_true rfl, Nat.le_of_ble_eq_true rfl⟩) hS (fun q _ h => hFc q h) hFc (fun r u t H1 locs ht hvm hw hB hz1 hk1 hS => ?_)
              obtain ⟨hP1, hD1⟩ := hB
              rw [ht] at hP1
              rcases hw with ⟨i_98, i_99, rfl, rfl⟩ | ⟨rfl, rfl⟩
              ·
                have i_98 : z56.toInt ≤ 400 := i_98
                have i_99 : f_kd z56.toNatClampNeg = (62 : Int32) := i_99
                obtain ⟨hP, hD⟩ := va_join (wr := [(a_nm, (arI G 401 f_nm)), (a_rc, (arI G 400 z57))]) hP hD [2, 3, 4] [0, 1] rfl rfl (by decide) (by decide) hk1 hFc hP1 hD1
                generalize H1 = H at hP hS ⊢
                refine g5_rs [(a_nm, (arI G 401 f_nm)), (a_rc, (arI G 400 z57)), (a_r, (oc4 a_tk a_rh a_rs a_rc z54 z55 z56 e_fp)), (a_tk, (oc8 a_kd a_nm a_pl)), (a_kd, (arI G 401 f_kd))] hP hD (fun hP hD => ?_)
                refine lv_if_eq (tgt := 120) hx hb dX4_readPlain_112 (by decide) (fun c_100 => ?_) (fun c_100 => ?_)
                ·
                  exact absurd c_100 (by decide)
                ·
                  refine lv_bipush (v := 7) hx hb dX4_readPlain_115 (by decide) ?_
                  refine lv_goto (tgt := 135) hx hb dX4_readPlain_117 (by decide) ?_
                  refine lv_istore_n (lv' := [(3, .int 7), (2, .int k_u), (0, .ref a_r), (1, .int p_d)]) hx hb dX4_readPlain_135 rfl hl (by decide) rfl (fun ls hl => ?_)
                  refine lv_iload_n hx hb dX4_readPlain_136 rfl (lv_at hl 0 rfl) ?_
                  refine lv_iconst (v := (-1)) hx hb dX4_readPlain_137 (by decide) ?_
                  refine lv_icmp_ne (tgt := 143) hx hb dX4_readPlain_138 (by decide) (fun c_101 => ?_) (fun c_101 => ?_)
                  ·
                    refine lv_aload_n hx hb dX4_readPlain_143 rfl (lv_at hl 2 rfl) ?_
                    refine lv_dup hx hb dX4_readPlain_144 rfl ?_
                    refine va_get (D := G.1) (ci := 4) (v := .int z56) (C := RX4) (T := TX4) (N := 8) hx hb hts inG_X4 hown hK hP 2 rfl rfl 6 (by decide) (hts _ fl_X4_42) (fun _ h9 => h9) rfl dX4_readPlain_145 ?_
                    refine lv_iconst (v := 1) hx hb dX4_readPlain_148 (by decide) ?_
                    refine lv_iadd hx hb dX4_readPlain_149 ?_
                    have t_102 : (z56 + 1).toInt = z56.toInt + 1 := g5_iadd (a := z56.toInt) (b := 1) (by rfl) (by decide) (by omega) (by omega)
                    refine va_put (D := G.1) (ci := 4) (v := .int (z56 + 1)) (ty := .int) (C := RX4) (T := TX4) (N := 8) hx hb hts inG_X4 tyX4 tyX4_ok nmX4 hown hK hP hD hS 2 rfl rfl 6 (by decide) (hts _ fl_X4_42) (fun _ h9 => h9) rfl (by decide +kernel) rfl rfl (Nat.le_of_ble_eq_true rfl) dX4_readPlain_150 (fun H locs hP hD hS => ?_)
                    refine g5_rs [(a_nm, (arI G 401 f_nm)), (a_rc, (arI G 400 z57)), (a_r, (oc4 a_tk a_rh a_rs a_rc z54 z55 (z56 + 1) e_fp)), (a_tk, (oc8 a_kd a_nm a_pl)), (a_kd, (arI G 401 f_kd))] hP hD (fun hP hD => ?_)
                    refine lv_aload_n hx hb dX4_readPlain_153 rfl (lv_at hl 2 rfl) ?_
                    refine lv_iload_n hx hb dX4_readPlain_154 rfl (lv_at hl 3 rfl) ?_
                    obtain ⟨hPc, hDc, hFc⟩ := g5_sub3 (wc := [(a_r, (oc4 a_tk a_rh a_rs a_rc z54 z55 (z56 + 1) e_fp)), (a_tk, (oc8 a_kd a_nm a_pl)), (a_kd, (arI G 401 f_kd)), (a_nm, (arI G 401 f_nm)), (a_rc, (arI G 400 z57))]) hP hD hS hA [2, 3, 4, 0, 1] (by decide) rfl
                    refine va_calli (va_runV (As := [.int p_d]) (rest := []) ⟨hx, hb, hml, hown, hts⟩ ((r_sum fr lo p_d h_p_d h_sum) l G a_r a_tk a_kd a_nm a_rc a_rh a_rs a_pl H.size z54 z55 (z56 + 1) e_fp f_kd f_nm z57 ⟨by omega, by omega⟩ i_50 ⟨by omega, by omega⟩ (e_tk) (i_51)) (cwV 1 hts gV_X4_73 rfl rfl rfl hv_X4_readSum ⟨by simp only [headSpec]; omega, by simp only [headSpec]; omega⟩) (g5_preV hPc hK hDc hN hT hS hFc (ci := 4) (q0 := 0) rfl rfl) rfl rfl hl.1 rfl (lv_room (Nat.le_of_ble_eq_true rfl)) dX4_readPlain_155 ⟨Nat.le_of_ble_eq_true rfl, Nat.le_of_ble_eq_true rfl⟩) hS (fun q _ h => hFc q h) hFc (fun r u t H1 locs ht hvm hw hB hz1 hk1 hS => ?_)
                    obtain ⟨hP1, hD1⟩ := hB
                    rw [ht] at hP1
                    obtain ⟨z109, z110, z111, z112, z113, i_103, i_104, i_105, i_106, i_107, i_108, y114, rfl⟩ := hw
                    have i_103 : 0 ≤ z109.toInt ∧ z109.toInt ≤ 1 := i_103
                    have i_104 : z54.toInt ≤ z110.toInt ∧ z110.toInt ≤ 400 := i_104
                    have i_105 : 0 ≤ z112.toInt ∧ z112.toInt ≤ 401 := i_105
                    have i_106 : 0 ≤ z111.toInt ∧ z111.toInt ≤ 50 := i_106
                    have i_107 : CDI z113 z110.toInt := i_107
                    have i_108 : OPK z57 z113 z54.toInt := i_108
                    obtain ⟨hP, hD⟩ := va_join (wr := []) hP hD [2, 3, 4, 0, 1] [] rfl rfl (by decide) (by decide) hk1 hFc hP1 hD1
                    generalize H1 = H at hP hS ⊢
                    refine g5_rs [(a_r, (oc4 a_tk a_rh a_rs a_rc z110 z111 z112 e_fp)), (a_tk, (oc8 a_kd a_nm a_pl)), (a_kd, (arI G 401 f_kd)), (a_nm, (arI G 401 f_nm)), (a_rc, (arI G 400 z113))] hP hD (fun hP hD => ?_)
                    refine g5_ti (v := z109) y114 ?_
                    refine lv_if_ne (tgt := 163) hx hb dX4_readPlain_158 (by decide) (fun c_115 => ?_) (fun c_115 => ?_)
                    ·
                      have n_115 : gNe (z109.toInt) (0) := by have z := g5_ne (a := z109.toInt) (b := 0) (by rfl) (by decide) c_115; unfold gNe; omega
                      have i_115 : z109.toInt ≥ 1 := by have z := g5_ne (a := z109.toInt) (b := 0) (by rfl) (by decide) c_115; omega
                      refine lv_aload_n hx hb dX4_readPlain_163 rfl (lv_at hl 2 rfl) ?_
                      refine lv_iload_n hx hb dX4_readPlain_164 rfl (lv_at hl 0 rfl) ?_
                      refine lv_iconst (v := 0) hx hb dX4_readPlain_165 (by decide) ?_
                      obtain ⟨hPc, hDc, hFc⟩ := g5_sub3 (wc := [(a_r, (oc4 a_tk a_rh a_rs a_rc z110 z111 z112 e_fp)), (a_rc, (arI G 400 z113))]) hP hD hS hA [0, 4] (by decide) rfl
                      refine va_calli (va_runV (As := [.int 7, .int 0]) (rest := []) ⟨hx, hb, hml, hown, hts⟩ (r_emit l G a_r a_rc a_tk a_rh a_rs H.size z110 z111 z112 e_fp 7 0 z113 ⟨by omega, by omega⟩ i_106 i_105 (i_107) (by unfold wOK; decide)) (cwV 2 hts gV_X4_79 rfl rfl rfl hv_X4_emit ⟨by simp only [headSpec]; omega, by simp only [headSpec]; omega⟩) (g5_preV hPc hK hDc hN hT hS hFc (ci := 4) (q0 := 0) rfl rfl) rfl rfl hl.1 rfl (lv_room (Nat.le_of_ble_eq_true rfl)) dX4_readPlain_166 ⟨Nat.le_of_ble_eq_true rfl, Nat.le_of_ble_eq_true rfl⟩) hS (fun q _ h => hFc q h) hFc (fun r u t H1 locs ht hvm hw hB hz1 hk1 hS => ?_)
                      obtain ⟨hP1, hD1⟩ := hB
                      rw [ht] at hP1
                      obtain ⟨z121, z122, z123, i_116, i_117, i_118, i_119, i_120, y124, rfl⟩ := hw
                      have i_116 : -1 ≤ z121.toInt ∧ z121.toInt ≤ 399 := i_116
                      have i_117 : z110.toInt ≤ z122.toInt ∧ z122.toInt ≤ 400 := i_117
                      have i_118 : CDI z123 z122.toInt := i_118
                      have i_119 : OPK z113 z123 z110.toInt := i_119
                      have i_120 : 0 ≤ z121.toInt → z121.toInt < z122.toInt ∧ z123 z121.toNatClampNeg = (((7 : Int32) <<< (12 &&& 31)) ||| (0 : Int32)) := i_120
                      obtain ⟨hP, hD⟩ := va_join (wr := [(a_tk, (oc8 a_kd a_nm a_pl)), (a_kd, (arI G 401 f_kd)), (a_nm, (arI G 401 f_nm))]) hP hD [0, 4] [1, 2, 3] rfl rfl (by decide) (by decide) hk1 hFc hP1 hD1
                      generalize H1 = H at hP hS ⊢
                      refine g5_rs [(a_tk, (oc8 a_kd a_nm a_pl)), (a_kd, (arI G 401 f_kd)), (a_nm, (arI G 401 f_nm)), (a_r, (oc4 a_tk a_rh a_rs a_rc z122 z111 z112 e_fp)), (a_rc, (arI G 400 z123))] hP hD (fun hP hD => ?_)
                      refine g5_ti (v := z121) y124 ?_
                      refine lv_pop hx hb dX4_readPlain_169 rfl ?_
                      refine lv_iload_n hx hb dX4_readPlain_170 rfl (lv_at hl 1 rfl) ?_
                      refine lv_if_eq (tgt := 182) hx hb dX4_readPlain_171 (by decide) (fun c_125 => ?_) (fun c_125 => ?_)
                      ·
                        have i_125 : k_u.toInt = 0 := by have z := g5_eq (a := k_u.toInt) (b := 0) (by rfl) (by decide) c_125; omega
                        refine lv_iconst (v := 1) hx hb dX4_readPlain_182 (by decide) ?_
                        exact W.zret (v := 1) hx hb hr rfl (fun t ht hW => ⟨⟨1, [(a_r, (oc4 a_tk a_rh a_rs a_rc z122 z111 z112 e_fp)), (a_tk, (oc8 a_kd a_nm a_pl)), (a_kd, (arI G 401 f_kd)), (a_nm, (arI G 401 f_nm)), (a_rc, (arI G 400 z123))], rfl, ⟨1, z122, z111, z112, z123, ⟨by have zc_o_r : (1 : Int32).toInt = 1 := (by decide); omega, by have zc_o_r : (1 : Int32).toInt = 1 := (by decide); omega⟩, ⟨by omega, by omega⟩, i_105, i_106, i_118, opk_trans i_52 (opk_trans i_108 (i_119) (by omega)) (by omega), rfl, rfl⟩, by rw [ht]; exact hP.sub [3, 0, 1, 2, 4] rfl, hD.sub [3, 0, 1, 2, 4] (by decide) rfl⟩, hS.F ht⟩) hS.2.2 dX4_readPlain_183
                      ·
                        have n_125 : gNe (k_u.toInt) (0) := by have z := g5_eqN (a := k_u.toInt) (b := 0) (by rfl) (by decide) c_125; unfold gNe; omega
                        have i_125 : k_u.toInt ≥ 1 := by have z := g5_eqN (a := k_u.toInt) (b := 0) (by rfl) (by decide) c_125; omega
                        refine lv_aload_n hx hb dX4_readPlain_174 rfl (lv_at hl 2 rfl) ?_
                        refine lv_bipush (v := 9) hx hb dX4_readPlain_175 (by decide) ?_
                        refine lv_iconst (v := 0) hx hb dX4_readPlain_177 (by decide) ?_
                        obtain ⟨hPc, hDc, hFc⟩ := g5_sub3 (wc := [(a_r, (oc4 a_tk a_rh a_rs a_rc z122 z111 z112 e_fp)), (a_rc, (arI G 400 z123))]) hP hD hS hA [3, 4] (by decide) rfl
                        refine va_calli (va_runV (As := [.int 9, .int 0]) (rest := []) ⟨hx, hb, hml, hown, hts⟩ (r_emit l G a_r a_rc a_tk a_rh a_rs H.size z122 z111 z112 e_fp 9 0 z123 ⟨by omega, by omega⟩ i_106 i_105 (i_118) (by unfold wOK; decide)) (cwV 2 hts gV_X4_79 rfl rfl rfl hv_X4_emit ⟨by simp only [headSpec]; omega, by simp only [headSpec]; omega⟩) (g5_preV hPc hK hDc hN hT hS hFc (ci := 4) (q0 := 0) rfl rfl) rfl rfl hl.1 rfl (lv_room (Nat.le_of_ble_eq_true rfl)) dX4_readPlain_178 ⟨Nat.le_of_ble_eq_true rfl, Nat.le_of_ble_eq_true rfl⟩) hS (fun q _ h => hFc q h) hFc (fun r u t H1 locs ht hvm hw hB hz1 hk1 hS => ?_)
                        obtain ⟨hP1, hD1⟩ := hB
                        rw [ht] at hP1
                        obtain ⟨z131, z132, z133, i_126, i_127, i_128, i_129, i_130, y134, rfl⟩ := hw
                        have i_126 : -1 ≤ z131.toInt ∧ z131.toInt ≤ 399 := i_126
                        have i_127 : z122.toInt ≤ z132.toInt ∧ z132.toInt ≤ 400 := i_127
                        have i_128 : CDI z133 z132.toInt := i_128
                        have i_129 : OPK z123 z133 z122.toInt := i_129
                        have i_130 : 0 ≤ z131.toInt → z131.toInt < z132.toInt ∧ z133 z131.toNatClampNeg = (((9 : Int32) <<< (12 &&& 31)) ||| (0 : Int32)) := i_130
                        obtain ⟨hP, hD⟩ := va_join (wr := [(a_tk, (oc8 a_kd a_nm a_pl)), (a_kd, (arI G 401 f_kd)), (a_nm, (arI G 401 f_nm))]) hP hD [3, 4] [0, 1, 2] rfl rfl (by decide) (by decide) hk1 hFc hP1 hD1
                        generalize H1 = H at hP hS ⊢
                        refine g5_rs [(a_tk, (oc8 a_kd a_nm a_pl)), (a_kd, (arI G 401 f_kd)), (a_nm, (arI G 401 f_nm)), (a_r, (oc4 a_tk a_rh a_rs a_rc z132 z111 z112 e_fp)), (a_rc, (arI G 400 z133))] hP hD (fun hP hD => ?_)
                        refine g5_ti (v := z131) y134 ?_
                        refine lv_pop hx hb dX4_readPlain_181 rfl ?_
                        refine lv_iconst (v := 1) hx hb dX4_readPlain_182 (by decide) ?_
                        exact W.zret (v := 1) hx hb hr rfl (fun t ht hW => ⟨⟨1, [(a_r, (oc4 a_tk a_rh a_rs a_rc z132 z111 z112 e_fp)), (a_tk, (oc8 a_kd a_nm a_pl)), (a_kd, (arI G 401 f_kd)), (a_nm, (arI G 401 f_nm)), (a_rc, (arI G 400 z133))], rfl, ⟨1, z132, z111, z112, z133, ⟨by have zc_o_r : (1 : Int32).toInt = 1 := (by decide); omega, by have zc_o_r : (1 : Int32).toInt = 1 := (by decide); omega⟩, ⟨by omega, by omega⟩, i_105, i_106, i_128, opk_trans i_52 (opk_trans i_108 (opk_trans i_119 (i_129) (by omega)) (by omega)) (by omega), rfl, rfl⟩, by rw [ht]; exact hP.sub [3, 0, 1, 2, 4] rfl, hD.sub [3, 0, 1, 2, 4] (by decide) rfl⟩, hS.F ht⟩) hS.2.2 dX4_readPlain_183
                    ·
                      have i_115 : z109.toInt = 0 := by have z := g5_neN (a := z109.toInt) (b := 0) (by rfl) (by decide) c_115; omega
                      refine lv_iconst (v := 0) hx hb dX4_readPlain_161 (by decide) ?_
                      exact W.zret (v := 0) hx hb hr rfl (fun t ht hW => ⟨⟨0, [(a_r, (oc4 a_tk a_rh a_rs a_rc z110 z111 z112 e_fp)), (a_tk, (oc8 a_kd a_nm a_pl)), (a_kd, (arI G 401 f_kd)), (a_nm, (arI G 401 f_nm)), (a_rc, (arI G 400 z113))], rfl, ⟨0, z110, z111, z112, z113, ⟨by have zc_o_r : (0 : Int32).toInt = 0 := (by decide); omega, by have zc_o_r : (0 : Int32).toInt = 0 := (by decide); omega⟩, ⟨by omega, by omega⟩, i_105, i_106, i_107, opk_trans i_52 (i_108) (by omega), rfl, rfl⟩, by rw [ht]; exact hP.sub [0, 1, 2, 3, 4] rfl, hD.sub [0, 1, 2, 3, 4] (by decide) rfl⟩, hS.F ht⟩) hS.2.2 dX4_readPlain_162
                  ·
                    exact absurd c_101 (by decide)
              ·
                obtain ⟨hP, hD⟩ := va_join (wr := [(a_nm, (arI G 401 f_nm)), (a_rc, (arI G 400 z57))]) hP hD [2, 3, 4] [0, 1] rfl rfl (by decide) (by decide) hk1 hFc hP1 hD1
                generalize H1 = H at hP hS ⊢
                refine g5_rs [(a_nm, (arI G 401 f_nm)), (a_rc, (arI G 400 z57)), (a_r, (oc4 a_tk a_rh a_rs a_rc z54 z55 z56 e_fp)), (a_tk, (oc8 a_kd a_nm a_pl)), (a_kd, (arI G 401 f_kd))] hP hD (fun hP hD => ?_)
                refine lv_if_eq (tgt := 120) hx hb dX4_readPlain_112 (by decide) (fun c_135 => ?_) (fun c_135 => ?_)
                ·
                  refine lv_aload_n hx hb dX4_readPlain_120 rfl (lv_at hl 2 rfl) ?_
                  refine lv_bipush (v := 61) hx hb dX4_readPlain_121 (by decide) ?_
                  obtain ⟨hPc, hDc, hFc⟩ := g5_sub3 (wc := [(a_r, (oc4 a_tk a_rh a_rs a_rc z54 z55 z56 e_fp)), (a_tk, (oc8 a_kd a_nm a_pl)), (a_kd, (arI G 401 f_kd))]) hP hD hS hA [2, 3, 4] (by decide) rfl
                  refine va_calli (va_runV (As := [.int 61]) (rest := []) ⟨hx, hb, hml, hown, hts⟩ (r_isNext l G a_r a_tk a_kd a_rh a_rs a_rc a_nm a_pl H.size z54 z55 z56 e_fp 61 f_kd ⟨by omega, by omega⟩ i_50 i_49) (cwV 1 hts gV_X4_49 rfl rfl rfl hv_X4_isNext ⟨by simp only [headSpec]; omega, by simp only [headSpec]; omega⟩) (g5_preV hPc hK hDc hN hT hS hFc (ci := 4) (q0 := 0) rfl rfl) rfl rfl hl.1 rfl (lv_room (Nat.le_of_ble_eq_true rfl)) dX4_readPlain_123 ⟨Nat.le_of_ble_eq_true rfl, Nat.le_of_ble_eq_true rfl⟩) hS (fun q _ h => hFc q h) hFc (fun r u t H1 locs ht hvm hw hB hz1 hk1 hS => ?_)
                  obtain ⟨hP1, hD1⟩ := hB
                  rw [ht] at hP1
                  rcases hw with ⟨i_136, i_137, rfl, rfl⟩ | ⟨rfl, rfl⟩
                  ·
                    have i_136 : z56.toInt ≤ 400 := i_136
                    have i_137 : f_kd z56.toNatClampNeg = (61 : Int32) := i_137
                    obtain ⟨hP, hD⟩ := va_join (wr := [(a_nm, (arI G 401 f_nm)), (a_rc, (arI G 400 z57))]) hP hD [2, 3, 4] [0, 1] rfl rfl (by decide) (by decide) hk1 hFc hP1 hD1
                    generalize H1 = H at hP hS ⊢
                    refine g5_rs [(a_nm, (arI G 401 f_nm)), (a_rc, (arI G 400 z57)), (a_r, (oc4 a_tk a_rh a_rs a_rc z54 z55 z56 e_fp)), (a_tk, (oc8 a_kd a_nm a_pl)), (a_kd, (arI G 401 f_kd))] hP hD (fun hP hD => ?_)
                    refine lv_if_eq (tgt := 134) hx hb dX4_readPlain_126 (by decide) (fun c_138 => ?_) (fun c_138 => ?_)
                    ·
                      exact absurd c_138 (by decide)
                    ·
                      refine lv_bipush (v := 8) hx hb dX4_readPlain_129 (by decide) ?_
                      refine lv_goto (tgt := 135) hx hb dX4_readPlain_131 (by decide) ?_
                      refine lv_istore_n (lv' := [(3, .int 8), (2, .int k_u), (0, .ref a_r), (1, .int p_d)]) hx hb dX4_readPlain_135 rfl hl (by decide) rfl (fun ls hl => ?_)
                      refine lv_iload_n hx hb dX4_readPlain_136 rfl (lv_at hl 0 rfl) ?_
                      refine lv_iconst (v := (-1)) hx hb dX4_readPlain_137 (by decide) ?_
                      refine lv_icmp_ne (tgt := 143) hx hb dX4_readPlain_138 (by decide) (fun c_139 => ?_) (fun c_139 => ?_)
                      ·
                        refine lv_aload_n hx hb dX4_readPlain_143 rfl (lv_at hl 2 rfl) ?_
                        refine lv_dup hx hb dX4_readPlain_144 rfl ?_
                        refine va_get (D := G.1) (ci := 4) (v := .int z56) (C := RX4) (T := TX4) (N := 8) hx hb hts inG_X4 hown hK hP 2 rfl rfl 6 (by decide) (hts _ fl_X4_42) (fun _ h9 => h9) rfl dX4_readPlain_145 ?_
                        refine lv_iconst (v := 1) hx hb dX4_readPlain_148 (by decide) ?_
                        refine lv_iadd hx hb dX4_readPlain_149 ?_
                        have t_140 : (z56 + 1).toInt = z56.toInt + 1 := g5_iadd (a := z56.toInt) (b := 1) (by rfl) (by decide) (by omega) (by omega)
                        refine va_put (D := G.1) (ci := 4) (v := .int (z56 + 1)) (ty := .int) (C := RX4) (T := TX4) (N := 8) hx hb hts inG_X4 tyX4 tyX4_ok nmX4 hown hK hP hD hS 2 rfl rfl 6 (by decide) (hts _ fl_X4_42) (fun _ h9 => h9) rfl (by decide +kernel) rfl rfl (Nat.le_of_ble_eq_true rfl) dX4_readPlain_150 (fun H locs hP hD hS => ?_)
                        refine g5_rs [(a_nm, (arI G 401 f_nm)), (a_rc, (arI G 400 z57)), (a_r, (oc4 a_tk a_rh a_rs a_rc z54 z55 (z56 + 1) e_fp)), (a_tk, (oc8 a_kd a_nm a_pl)), (a_kd, (arI G 401 f_kd))] hP hD (fun hP hD => ?_)
                        refine lv_aload_n hx hb dX4_readPlain_153 rfl (lv_at hl 2 rfl) ?_
                        refine lv_iload_n hx hb dX4_readPlain_154 rfl (lv_at hl 3 rfl) ?_
                        obtain ⟨hPc, hDc, hFc⟩ := g5_sub3 (wc := [(a_r, (oc4 a_tk a_rh a_rs a_rc z54 z55 (z56 + 1) e_fp)), (a_tk, (oc8 a_kd a_nm a_pl)), (a_kd, (arI G 401 f_kd)), (a_nm, (arI G 401 f_nm)), (a_rc, (arI G 400 z57))]) hP hD hS hA [2, 3, 4, 0, 1] (by decide) rfl
                        refine va_calli (va_runV (As := [.int p_d]) (rest := []) ⟨hx, hb, hml, hown, hts⟩ ((r_sum fr lo p_d h_p_d h_sum) l G a_r a_tk a_kd a_nm a_rc a_rh a_rs a_pl H.size z54 z55 (z56 + 1) e_fp f_kd f_nm z57 ⟨by omega, by omega⟩ i_50 ⟨by omega, by omega⟩ (e_tk) (i_51)) (cwV 1 hts gV_X4_73 rfl rfl rfl hv_X4_readSum ⟨by simp only [headSpec]; omega, by simp only [headSpec]; omega⟩) (g5_preV hPc hK hDc hN hT hS hFc (ci := 4) (q0 := 0) rfl rfl) rfl rfl hl.1 rfl (lv_room (Nat.le_of_ble_eq_true rfl)) dX4_readPlain_155 ⟨Nat.le_of_ble_eq_true rfl, Nat.le_of_ble_eq_true rfl⟩) hS (fun q _ h => hFc q h) hFc (fun r u t H1 locs ht hvm hw hB hz1 hk1 hS => ?_)
                        obtain ⟨hP1, hD1⟩ := hB
                        rw [ht] at hP1
                        obtain ⟨z147, z148, z149, z150, z151, i_141, i_142, i_143, i_144, i_145, i_146, y152, rfl⟩ := hw
                        have i_141 : 0 ≤ z147.toInt ∧ z147.toInt ≤ 1 := i_141
                        have i_142 : z54.toInt ≤ z148.toInt ∧ z148.toInt ≤ 400 := i_142
                        have i_143 : 0 ≤ z150.toInt ∧ z150.toInt ≤ 401 := i_143
                        have i_144 : 0 ≤ z149.toInt ∧ z149.toInt ≤ 50 := i_144
                        have i_145 : CDI z151 z148.toInt := i_145
                        have i_146 : OPK z57 z151 z54.toInt := i_146
                        obtain ⟨hP, hD⟩ := va_join (wr := []) hP hD [2, 3, 4, 0, 1] [] rfl rfl (by decide) (by decide) hk1 hFc hP1 hD1
                        generalize H1 = H at hP hS ⊢
                        refine g5_rs [(a_r, (oc4 a_tk a_rh a_rs a_rc z148 z149 z150 e_fp)), (a_tk, (oc8 a_kd a_nm a_pl)), (a_kd, (arI G 401 f_kd)), (a_nm, (arI G 401 f_nm)), (a_rc, (arI G 400 z151))] hP hD (fun hP hD => ?_)
                        refine g5_ti (v := z147) y152 ?_
                        refine lv_if_ne (tgt := 163) hx hb dX4_readPlain_158 (by decide) (fun c_153 => ?_) (fun c_153 => ?_)
                        ·
                          have n_153 : gNe (z147.toInt) (0) := by have z := g5_ne (a := z147.toInt) (b := 0) (by rfl) (by decide) c_153; unfold gNe; omega
                          have i_153 : z147.toInt ≥ 1 := by have z := g5_ne (a := z147.toInt) (b := 0) (by rfl) (by decide) c_153; omega
                          refine lv_aload_n hx hb dX4_readPlain_163 rfl (lv_at hl 2 rfl) ?_
                          refine lv_iload_n hx hb dX4_readPlain_164 rfl (lv_at hl 0 rfl) ?_
                          refine lv_iconst (v := 0) hx hb dX4_readPlain_165 (by decide) ?_
                          obtain ⟨hPc, hDc, hFc⟩ := g5_sub3 (wc := [(a_r, (oc4 a_tk a_rh a_rs a_rc z148 z149 z150 e_fp)), (a_rc, (arI G 400 z151))]) hP hD hS hA [0, 4] (by decide) rfl
                          refine va_calli (va_runV (As := [.int 8, .int 0]) (rest := []) ⟨hx, hb, hml, hown, hts⟩ (r_emit l G a_r a_rc a_tk a_rh a_rs H.size z148 z149 z150 e_fp 8 0 z151 ⟨by omega, by omega⟩ i_144 i_143 (i_145) (by unfold wOK; decide)) (cwV 2 hts gV_X4_79 rfl rfl rfl hv_X4_emit ⟨by simp only [headSpec]; omega, by simp only [headSpec]; omega⟩) (g5_preV hPc hK hDc hN hT hS hFc (ci := 4) (q0 := 0) rfl rfl) rfl rfl hl.1 rfl (lv_room (Nat.le_of_ble_eq_true rfl)) dX4_readPlain_166 ⟨Nat.le_of_ble_eq_true rfl, Nat.le_of_ble_eq_true rfl⟩) hS (fun q _ h => hFc q h) hFc (fun r u t H1 locs ht hvm hw hB hz1 hk1 hS => ?_)
                          obtain ⟨hP1, hD1⟩ := hB
                          rw [ht] at hP1
                          obtain ⟨z159, z160, z161, i_154, i_155, i_156, i_157, i_158, y162, rfl⟩ := hw
                          have i_154 : -1 ≤ z159.toInt ∧ z159.toInt ≤ 399 := i_154
                          have i_155 : z148.toInt ≤ z160.toInt ∧ z160.toInt ≤ 400 := i_155
                          have i_156 : CDI z161 z160.toInt := i_156
                          have i_157 : OPK z151 z161 z148.toInt := i_157
                          have i_158 : 0 ≤ z159.toInt → z159.toInt < z160.toInt ∧ z161 z159.toNatClampNeg = (((8 : Int32) <<< (12 &&& 31)) ||| (0 : Int32)) := i_158
                          obtain ⟨hP, hD⟩ := va_join (wr := [(a_tk, (oc8 a_kd a_nm a_pl)), (a_kd, (arI G 401 f_kd)), (a_nm, (arI G 401 f_nm))]) hP hD [0, 4] [1, 2, 3] rfl rfl (by decide) (by decide) hk1 hFc hP1 hD1
                          generalize H1 = H at hP hS ⊢
                          refine g5_rs [(a_tk, (oc8 a_kd a_nm a_pl)), (a_kd, (arI G 401 f_kd)), (a_nm, (arI G 401 f_nm)), (a_r, (oc4 a_tk a_rh a_rs a_rc z160 z149 z150 e_fp)), (a_rc, (arI G 400 z161))] hP hD (fun hP hD => ?_)
                          refine g5_ti (v := z159) y162 ?_
                          refine lv_pop hx hb dX4_readPlain_169 rfl ?_
                          refine lv_iload_n hx hb dX4_readPlain_170 rfl (lv_at hl 1 rfl) ?_
                          refine lv_if_eq (tgt := 182) hx hb dX4_readPlain_171 (by decide) (fun c_163 => ?_) (fun c_163 => ?_)
                          ·
                            have i_163 : k_u.toInt = 0 := by have z := g5_eq (a := k_u.toInt) (b := 0) (by rfl) (by decide) c_163; omega
                            refine lv_iconst (v := 1) hx hb dX4_readPlain_182 (by decide) ?_
                            exact W.zret (v := 1) hx hb hr rfl (fun t ht hW => ⟨⟨1, [(a_r, (oc4 a_tk a_rh a_rs a_rc z160 z149 z150 e_fp)), (a_tk, (oc8 a_kd a_nm a_pl)), (a_kd, (arI G 401 f_kd)), (a_nm, (arI G 401 f_nm)), (a_rc, (arI G 400 z161))], rfl, ⟨1, z160, z149, z150, z161, ⟨by have zc_o_r : (1 : Int32).toInt = 1 := (by decide); omega, by have zc_o_r : (1 : Int32).toInt = 1 := (by decide); omega⟩, ⟨by omega, by omega⟩, i_143, i_144, i_156, opk_trans i_52 (opk_trans i_146 (i_157) (by omega)) (by omega), rfl, rfl⟩, by rw [ht]; exact hP.sub [3, 0, 1, 2, 4] rfl, hD.sub [3, 0, 1, 2, 4] (by decide) rfl⟩, hS.F ht⟩) hS.2.2 dX4_readPlain_183
                          ·
                            have n_163 : gNe (k_u.toInt) (0) := by have z := g5_eqN (a := k_u.toInt) (b := 0) (by rfl) (by decide) c_163; unfold gNe; omega
                            have i_163 : k_u.toInt ≥ 1 := by have z := g5_eqN (a := k_u.toInt) (b := 0) (by rfl) (by decide) c_163; omega
                            refine lv_aload_n hx hb dX4_readPlain_174 rfl (lv_at hl 2 rfl) ?_
                            refine lv_bipush (v := 9) hx hb dX4_readPlain_175 (by decide) ?_
                            refine lv_iconst (v := 0) hx hb dX4_readPlain_177 (by decide) ?_
                            obtain ⟨hPc, hDc, hFc⟩ := g5_sub3 (wc := [(a_r, (oc4 a_tk a_rh a_rs a_rc z160 z149 z150 e_fp)), (a_rc, (arI G 400 z161))]) hP hD hS hA [3, 4] (by decide) rfl
                            refine va_calli (va_runV (As := [.int 9, .int 0]) (rest := []) ⟨hx, hb, hml, hown, hts⟩ (r_emit l G a_r a_rc a_tk a_rh a_rs H.size z160 z149 z150 e_fp 9 0 z161 ⟨by omega, by omega⟩ i_144 i_143 (i_156) (by unfold wOK; decide)) (cwV 2 hts gV_X4_79 rfl rfl rfl hv_X4_emit ⟨by simp only [headSpec]; omega, by simp only [headSpec]; omega⟩) (g5_preV hPc hK hDc hN hT hS hFc (ci := 4) (q0 := 0) rfl rfl) rfl rfl hl.1 rfl (lv_room (Nat.le_of_ble_eq_true rfl)) dX4_readPlain_178 ⟨Nat.le_of_ble_eq_true rfl, Nat.le_of_ble_eq_true rfl⟩) hS (fun q _ h => hFc q h) hFc (fun r u t H1 locs ht hvm hw hB hz1 hk1 hS => ?_)
                            obtain ⟨hP1, hD1⟩ := hB
                            rw [ht] at hP1
                            obtain ⟨z169, z170, z171, i_164, i_165, i_166, i_167, i_168, y172, rfl⟩ := hw
                            have i_164 : -1 ≤ z169.toInt ∧ z169.toInt ≤ 399 := i_164
                            have i_165 : z160.toInt ≤ z170.toInt ∧ z170.toInt ≤ 400 := i_165
                            have i_166 : CDI z171 z170.toInt := i_166
                            have i_167 : OPK z161 z171 z160.toInt := i_167
                            have i_168 : 0 ≤ z169.toInt → z169.toInt < z170.toInt ∧ z171 z169.toNatClampNeg = (((9 : Int32) <<< (12 &&& 31)) ||| (0 : Int32)) := i_168
                            obtain ⟨hP, hD⟩ := va_join (wr := [(a_tk, (oc8 a_kd a_nm a_pl)), (a_kd, (arI G 401 f_kd)), (a_nm, (arI G 401 f_nm))]) hP hD [3, 4] [0, 1, 2] rfl rfl (by decide) (by decide) hk1 hFc hP1 hD1
                            generalize H1 = H at hP hS ⊢
                            refine g5_rs [(a_tk, (oc8 a_kd a_nm a_pl)), (a_kd, (arI G 401 f_kd)), (a_nm, (arI G 401 f_nm)), (a_r, (oc4 a_tk a_rh a_rs a_rc z170 z149 z150 e_fp)), (a_rc, (arI G 400 z171))] hP hD (fun hP hD => ?_)
                            refine g5_ti (v := z169) y172 ?_
                            refine lv_pop hx hb dX4_readPlain_181 rfl ?_
                            refine lv_iconst (v := 1) hx hb dX4_readPlain_182 (by decide) ?_
                            exact W.zret (v := 1) hx hb hr rfl (fun t ht hW => ⟨⟨1, [(a_r, (oc4 a_tk a_rh a_rs a_rc z170 z149 z150 e_fp)), (a_tk, (oc8 a_kd a_nm a_pl)), (a_kd, (arI G 401 f_kd)), (a_nm, (arI G 401 f_nm)), (a_rc, (arI G 400 z171))], rfl, ⟨1, z170, z149, z150, z171, ⟨by have zc_o_r : (1 : Int32).toInt = 1 := (by decide); omega, by have zc_o_r : (1 : Int32).toInt = 1 := (by decide); omega⟩, ⟨by omega, by omega⟩, i_143, i_144, i_166, opk_trans i_52 (opk_trans i_146 (opk_trans i_157 (i_167) (by omega)) (by omega)) (by omega), rfl, rfl⟩, by rw [ht]; exact hP.sub [3, 0, 1, 2, 4] rfl, hD.sub [3, 0, 1, 2, 4] (by decide) rfl⟩, hS.F ht⟩) hS.2.2 dX4_readPlain_183
                        ·
                          have i_153 : z147.toInt = 0 := by have z := g5_neN (a := z147.toInt) (b := 0) (by rfl) (by decide) c_153; omega
                          refine lv_iconst (v := 0) hx hb dX4_readPlain_161 (by decide) ?_
                          exact W.zret (v := 0) hx hb hr rfl (fun t ht hW => ⟨⟨0, [(a_r, (oc4 a_tk a_rh a_rs a_rc z148 z149 z150 e_fp)), (a_tk, (oc8 a_kd a_nm a_pl)), (a_kd, (arI G 401 f_kd)), (a_nm, (arI G 401 f_nm)), (a_rc, (arI G 400 z151))], rfl, ⟨0, z148, z149, z150, z151, ⟨by have zc_o_r : (0 : Int32).toInt = 0 := (by decide); omega, by have zc_o_r : (0 : Int32).toInt = 0 := (by decide); omega⟩, ⟨by omega, by omega⟩, i_143, i_144, i_145, opk_trans i_52 (i_146) (by omega), rfl, rfl⟩, by rw [ht]; exact hP.sub [0, 1, 2, 3, 4] rfl, hD.sub [0, 1, 2, 3, 4] (by decide) rfl⟩, hS.F ht⟩) hS.2.2 dX4_readPlain_162
                      ·
                        exact absurd c_139 (by decide)
                  ·
                    obtain ⟨hP, hD⟩ := va_join (wr := [(a_nm, (arI G 401 f_nm)), (a_rc, (arI G 400 z57))]) hP hD [2, 3, 4] [0, 1] rfl rfl (by decide) (by decide) hk1 hFc hP1 hD1
                    generalize H1 = H at hP hS ⊢
                    refine g5_rs [(a_nm, (arI G 401 f_nm)), (a_rc, (arI G 400 z57)), (a_r, (oc4 a_tk a_rh a_rs a_rc z54 z55 z56 e_fp)), (a_tk, (oc8 a_kd a_nm a_pl)), (a_kd, (arI G 401 f_kd))] hP hD (fun hP hD => ?_)
                    refine lv_if_eq (tgt := 134) hx hb dX4_readPlain_126 (by decide) (fun c_173 => ?_) (fun c_173 => ?_)
                    ·
                      refine lv_iconst (v := (-1)) hx hb dX4_readPlain_134 (by decide) ?_
                      refine lv_istore_n (lv' := [(3, .int (-1)), (2, .int k_u), (0, .ref a_r), (1, .int p_d)]) hx hb dX4_readPlain_135 rfl hl (by decide) rfl (fun ls hl => ?_)
                      refine lv_iload_n hx hb dX4_readPlain_136 rfl (lv_at hl 0 rfl) ?_
                      refine lv_iconst (v := (-1)) hx hb dX4_readPlain_137 (by decide) ?_
                      refine lv_icmp_ne (tgt := 143) hx hb dX4_readPlain_138 (by decide) (fun c_174 => ?_) (fun c_174 => ?_)
                      ·
                        exact absurd c_174 (by decide)
                      ·
                        refine lv_iconst (v := 0) hx hb dX4_readPlain_141 (by decide) ?_
                        exact W.zret (v := 0) hx hb hr rfl (fun t ht hW => ⟨⟨0, [(a_r, (oc4 a_tk a_rh a_rs a_rc z54 z55 z56 e_fp)), (a_tk, (oc8 a_kd a_nm a_pl)), (a_kd, (arI G 401 f_kd)), (a_nm, (arI G 401 f_nm)), (a_rc, (arI G 400 z57))], rfl, ⟨0, z54, z55, z56, z57, ⟨by have zc_o_r : (0 : Int32).toInt = 0 := (by decide); omega, by have zc_o_r : (0 : Int32).toInt = 0 := (by decide); omega⟩, ⟨by omega, by omega⟩, i_49, i_50, i_51, i_52, rfl, rfl⟩, by rw [ht]; exact hP.sub [2, 3, 4, 0, 1] rfl, hD.sub [2, 3, 4, 0, 1] (by decide) rfl⟩, hS.F ht⟩) hS.2.2 dX4_readPlain_142
                    ·
                      exact absurd c_173 (by decide)
                ·
                  exact absurd c_135 (by decide)
            ·
              exact absurd c_97 (by decide)
        ·
          have i_59 : z53.toInt = 0 := by have z := g5_neN (a := z53.toInt) (b := 0) (by rfl) (by decide) c_59; omega
          refine lv_iconst (v := 0) hx hb dX4_readPlain_90 (by decide) ?_
          exact W.zret (v := 0) hx hb hr rfl (fun t ht hW => ⟨⟨0, [(a_r, (oc4 a_tk a_rh a_rs a_rc z54 z55 z56 e_fp)), (a_tk, (oc8 a_kd a_nm a_pl)), (a_kd, (arI G 401 f_kd)), (a_nm, (arI G 401 f_nm)), (a_rc, (arI G 400 z57))], rfl, ⟨0, z54, z55, z56, z57, ⟨by have zc_o_r : (0 : Int32).toInt = 0 := (by decide); omega, by have zc_o_r : (0 : Int32).toInt = 0 := (by decide); omega⟩, ⟨by omega, by omega⟩, i_49, i_50, i_51, i_52, rfl, rfl⟩, by rw [ht]; exact hP.sub [0, 1, 2, 3, 4] rfl, hD.sub [0, 1, 2, 3, 4] (by decide) rfl⟩, hS.F ht⟩) hS.2.2 dX4_readPlain_91
      ·
        exact absurd c_46 (by decide)
  ·
    have i_5 : k_i.toInt < 400 := by have z := g5_geN (a := k_i.toInt) (b := 400) (by rfl) (by decide) c_5; omega
    refine lv_aload_n hx hb dX4_readPlain_11 rfl (lv_at hl 2 rfl) ?_
    refine lv_sipush (v := 263) hx hb dX4_readPlain_12 (by decide) ?_
    obtain ⟨hPc, hDc, hFc⟩ := g5_sub3 (wc := [(a_r, (oc4 a_tk a_rh a_rs a_rc e_ln e_pa k_at e_fp)), (a_tk, (oc8 a_kd a_nm a_pl)), (a_kd, (arI G 401 f_kd))]) hP hD hS hA [0, 1, 2] (by decide) rfl
    refine va_calli (va_runV (As := [.int 263]) (rest := []) ⟨hx, hb, hml, hown, hts⟩ (r_passed l G a_r a_tk a_kd a_rh a_rs a_rc a_nm a_pl H.size e_ln e_pa k_at e_fp 263 f_kd h_e_ln h_e_pa i_3) (cwV 1 hts gV_X4_63 rfl rfl rfl hv_X4_passed ⟨by simp only [headSpec]; omega, by simp only [headSpec]; omega⟩) (g5_preV hPc hK hDc hN hT hS hFc (ci := 4) (q0 := 0) rfl rfl) rfl rfl hl.1 rfl (lv_room (Nat.le_of_ble_eq_true rfl)) dX4_readPlain_15 ⟨Nat.le_of_ble_eq_true rfl, Nat.le_of_ble_eq_true rfl⟩) hS (fun q _ h => hFc q h) hFc (fun r u t H1 locs ht hvm hw hB hz1 hk1 hS => ?_)
    obtain ⟨hP1, hD1⟩ := hB
    rw [ht] at hP1
    obtain ⟨z177, z178, i_175, i_176, y179, rfl⟩ := hw
    have i_175 : 0 ≤ z177.toInt ∧ z177.toInt ≤ 1 := i_175
    have i_176 : 0 ≤ z178.toInt ∧ z178.toInt ≤ 401 := i_176
    obtain ⟨hP, hD⟩ := va_join (wr := [(a_nm, (arI G 401 f_nm)), (a_rc, (arI G 400 f_rc))]) hP hD [0, 1, 2] [3, 4] rfl rfl (by decide) (by decide) hk1 hFc hP1 hD1
    generalize H1 = H at hP hS ⊢
    refine g5_rs [(a_nm, (arI G 401 f_nm)), (a_rc, (arI G 400 f_rc)), (a_r, (oc4 a_tk a_rh a_rs a_rc e_ln e_pa z178 e_fp)), (a_tk, (oc8 a_kd a_nm a_pl)), (a_kd, (arI G 401 f_kd))] hP hD (fun hP hD => ?_)
    refine g5_ti (v := z177) y179 ?_
    refine lv_if_eq (tgt := 37) hx hb dX4_readPlain_18 (by decide) (fun c_180 => ?_) (fun c_180 => ?_)
    ·
      have i_180 : z177.toInt = 0 := by have z := g5_eq (a := z177.toInt) (b := 0) (by rfl) (by decide) c_180; omega
      refine lv_aload_n hx hb dX4_readPlain_37 rfl (lv_at hl 2 rfl) ?_
      refine lv_bipush (v := 40) hx hb dX4_readPlain_38 (by decide) ?_
      obtain ⟨hPc, hDc, hFc⟩ := g5_sub3 (wc := [(a_r, (oc4 a_tk a_rh a_rs a_rc e_ln e_pa z178 e_fp)), (a_tk, (oc8 a_kd a_nm a_pl)), (a_kd, (arI G 401 f_kd))]) hP hD hS hA [2, 3, 4] (by decide) rfl
      refine va_calli (va_runV (As := [.int 40]) (rest := []) ⟨hx, hb, hml, hown, hts⟩ (r_isNext l G a_r a_tk a_kd a_rh a_rs a_rc a_nm a_pl H.size e_ln e_pa z178 e_fp 40 f_kd h_e_ln h_e_pa i_176) (cwV 1 hts gV_X4_49 rfl rfl rfl hv_X4_isNext ⟨by simp only [headSpec]; omega, by simp only [headSpec]; omega⟩) (g5_preV hPc hK hDc hN hT hS hFc (ci := 4) (q0 := 0) rfl rfl) rfl rfl hl.1 rfl (lv_room (Nat.le_of_ble_eq_true rfl)) dX4_readPlain_40 ⟨Nat.le_of_ble_eq_true rfl, Nat.le_of_ble_eq_true rfl⟩) hS (fun q _ h => hFc q h) hFc (fun r u t H1 locs ht hvm hw hB hz1 hk1 hS => ?_)
      obtain ⟨hP1, hD1⟩ := hB
      rw [ht] at hP1
      rcases hw with ⟨i_181, i_182, rfl, rfl⟩ | ⟨rfl, rfl⟩
      ·
        have i_181 : z178.toInt ≤ 400 := i_181
        have i_182 : f_kd z178.toNatClampNeg = (40 : Int32) := i_182
        obtain ⟨hP, hD⟩ := va_join (wr := [(a_nm, (arI G 401 f_nm)), (a_rc, (arI G 400 f_rc))]) hP hD [2, 3, 4] [0, 1] rfl rfl (by decide) (by decide) hk1 hFc hP1 hD1
        generalize H1 = H at hP hS ⊢
        refine g5_rs [(a_nm, (arI G 401 f_nm)), (a_rc, (arI G 400 f_rc)), (a_r, (oc4 a_tk a_rh a_rs a_rc e_ln e_pa z178 e_fp)), (a_tk, (oc8 a_kd a_nm a_pl)), (a_kd, (arI G 401 f_kd))] hP hD (fun hP hD => ?_)
        refine lv_if_eq (tgt := 82) hx hb dX4_readPlain_43 (by decide) (fun c_183 => ?_) (fun c_183 => ?_)
        ·
          exact absurd c_183 (by decide)
        ·
          refine lv_iload_n hx hb dX4_readPlain_46 rfl (lv_at hl 3 rfl) ?_
          refine lv_bipush (v := 8) hx hb dX4_readPlain_47 (by decide) ?_
          refine lv_icmp_ge (tgt := 80) hx hb dX4_readPlain_49 (by decide) (fun c_184 => ?_) (fun c_184 => ?_)
          ·
            have i_184 : p_d.toInt ≥ 8 := by have z := g5_ge (a := p_d.toInt) (b := 8) (by rfl) (by decide) c_184; omega
            refine lv_iconst (v := 0) hx hb dX4_readPlain_80 (by decide) ?_
            exact W.zret (v := 0) hx hb hr rfl (fun t ht hW => ⟨⟨0, [(a_r, (oc4 a_tk a_rh a_rs a_rc e_ln e_pa z178 e_fp)), (a_tk, (oc8 a_kd a_nm a_pl)), (a_kd, (arI G 401 f_kd)), (a_nm, (arI G 401 f_nm)), (a_rc, (arI G 400 f_rc))], rfl, ⟨0, e_ln, e_pa, z178, f_rc, ⟨by have zc_o_r : (0 : Int32).toInt = 0 := (by decide); omega, by have zc_o_r : (0 : Int32).toInt = 0 := (by decide); omega⟩, ⟨by omega, by omega⟩, i_176, h_e_pa, e_cd, opk_refl, rfl, rfl⟩, by rw [ht]; exact hP.sub [2, 3, 4, 0, 1] rfl, hD.sub [2, 3, 4, 0, 1] (by decide) rfl⟩, hS.F ht⟩) hS.2.2 dX4_readPlain_81
          ·
            have i_184 : p_d.toInt < 8 := by have z := g5_geN (a := p_d.toInt) (b := 8) (by rfl) (by decide) c_184; omega
            refine lv_aload_n hx hb dX4_readPlain_52 rfl (lv_at hl 2 rfl) ?_
            refine lv_bipush (v := 40) hx hb dX4_readPlain_53 (by decide) ?_
            obtain ⟨hPc, hDc, hFc⟩ := g5_sub3 (wc := [(a_r, (oc4 a_tk a_rh a_rs a_rc e_ln e_pa z178 e_fp)), (a_tk, (oc8 a_kd a_nm a_pl)), (a_kd, (arI G 401 f_kd))]) hP hD hS hA [2, 3, 4] (by decide) rfl
            refine va_calli (va_runV (As := [.int 40]) (rest := []) ⟨hx, hb, hml, hown, hts⟩ (r_passed l G a_r a_tk a_kd a_rh a_rs a_rc a_nm a_pl H.size e_ln e_pa z178 e_fp 40 f_kd h_e_ln h_e_pa i_176) (cwV 1 hts gV_X4_63 rfl rfl rfl hv_X4_passed ⟨by simp only [headSpec]; omega, by simp only [headSpec]; omega⟩) (g5_preV hPc hK hDc hN hT hS hFc (ci := 4) (q0 := 0) rfl rfl) rfl rfl hl.1 rfl (lv_room (Nat.le_of_ble_eq_true rfl)) dX4_readPlain_55 ⟨Nat.le_of_ble_eq_true rfl, Nat.le_of_ble_eq_true rfl⟩) hS (fun q _ h => hFc q h) hFc (fun r u t H1 locs ht hvm hw hB hz1 hk1 hS => ?_)
            obtain ⟨hP1, hD1⟩ := hB
            rw [ht] at hP1
            obtain ⟨z187, z188, i_185, i_186, y189, rfl⟩ := hw
            have i_185 : 0 ≤ z187.toInt ∧ z187.toInt ≤ 1 := i_185
            have i_186 : 0 ≤ z188.toInt ∧ z188.toInt ≤ 401 := i_186
            obtain ⟨hP, hD⟩ := va_join (wr := [(a_nm, (arI G 401 f_nm)), (a_rc, (arI G 400 f_rc))]) hP hD [2, 3, 4] [0, 1] rfl rfl (by decide) (by decide) hk1 hFc hP1 hD1
            generalize H1 = H at hP hS ⊢
            refine g5_rs [(a_nm, (arI G 401 f_nm)), (a_rc, (arI G 400 f_rc)), (a_r, (oc4 a_tk a_rh a_rs a_rc e_ln e_pa z188 e_fp)), (a_tk, (oc8 a_kd a_nm a_pl)), (a_kd, (arI G 401 f_kd))] hP hD (fun hP hD => ?_)
            refine g5_ti (v := z187) y189 ?_
            refine lv_if_eq (tgt := 80) hx hb dX4_readPlain_58 (by decide) (fun c_190 => ?_) (fun c_190 => ?_)
            ·
              have i_190 : z187.toInt = 0 := by have z := g5_eq (a := z187.toInt) (b := 0) (by rfl) (by decide) c_190; omega
              refine lv_iconst (v := 0) hx hb dX4_readPlain_80 (by decide) ?_
              exact W.zret (v := 0) hx hb hr rfl (fun t ht hW => ⟨⟨0, [(a_r, (oc4 a_tk a_rh a_rs a_rc e_ln e_pa z188 e_fp)), (a_tk, (oc8 a_kd a_nm a_pl)), (a_kd, (arI G 401 f_kd)), (a_nm, (arI G 401 f_nm)), (a_rc, (arI G 400 f_rc))], rfl, ⟨0, e_ln, e_pa, z188, f_rc, ⟨by have zc_o_r : (0 : Int32).toInt = 0 := (by decide); omega, by have zc_o_r : (0 : Int32).toInt = 0 := (by decide); omega⟩, ⟨by omega, by omega⟩, i_186, h_e_pa, e_cd, opk_refl, rfl, rfl⟩, by rw [ht]; exact hP.sub [2, 3, 4, 0, 1] rfl, hD.sub [2, 3, 4, 0, 1] (by decide) rfl⟩, hS.F ht⟩) hS.2.2 dX4_readPlain_81
            ·
              have n_190 : gNe (z187.toInt) (0) := by have z := g5_eqN (a := z187.toInt) (b := 0) (by rfl) (by decide) c_190; unfold gNe; omega
              have i_190 : z187.toInt ≥ 1 := by have z := g5_eqN (a := z187.toInt) (b := 0) (by rfl) (by decide) c_190; omega
              refine lv_aload_n hx hb dX4_readPlain_61 rfl (lv_at hl 2 rfl) ?_
              refine lv_iload_n hx hb dX4_readPlain_62 rfl (lv_at hl 3 rfl) ?_
              refine lv_iconst (v := 1) hx hb dX4_readPlain_63 (by decide) ?_
              refine lv_iadd hx hb dX4_readPlain_64 ?_
              have t_191 : (p_d + 1).toInt = p_d.toInt + 1 := g5_iadd (a := p_d.toInt) (b := 1) (by rfl) (by decide) (by omega) (by omega)
              obtain ⟨hPc, hDc, hFc⟩ := g5_sub3 (wc := [(a_r, (oc4 a_tk a_rh a_rs a_rc e_ln e_pa z188 e_fp)), (a_tk, (oc8 a_kd a_nm a_pl)), (a_kd, (arI G 401 f_kd)), (a_nm, (arI G 401 f_nm)), (a_rc, (arI G 400 f_rc))]) hP hD hS hA [2, 3, 4, 0, 1] (by decide) rfl
              refine va_calli (va_runV (As := [.int (p_d + 1)]) (rest := []) ⟨hx, hb, hml, hown, hts⟩ ((h_test (p_d + 1) (by omega) (by omega)) l G a_r a_tk a_kd a_nm a_rc a_rh a_rs a_pl H.size e_ln e_pa z188 e_fp f_kd f_nm f_rc h_e_ln h_e_pa i_186 (e_tk) (e_cd)) (cwV 1 hts gV_X4_76 rfl rfl rfl hv_X4_readTest ⟨by simp only [headSpec]; omega, by simp only [headSpec]; omega⟩) (g5_preV hPc hK hDc hN hT hS hFc (ci := 4) (q0 := 0) rfl rfl) rfl rfl hl.1 rfl (lv_room (Nat.le_of_ble_eq_true rfl)) dX4_readPlain_65 ⟨Nat.le_of_ble_eq_true rfl, Nat.le_of_ble_eq_true rfl⟩) hS (fun q _ h => hFc q h) hFc (fun r u t H1 locs ht hvm hw hB hz1 hk1 hS => ?_)
              obtain ⟨hP1, hD1⟩ := hB
              rw [ht] at hP1
              obtain ⟨z198, z199, z200, z201, z202, i_192, i_193, i_194, i_195, i_196, i_197, y203, rfl⟩ := hw
              have i_192 : 0 ≤ z198.toInt ∧ z198.toInt ≤ 1 := i_192
              have i_193 : e_ln.toInt ≤ z199.toInt ∧ z199.toInt ≤ 400 := i_193
              have i_194 : 0 ≤ z201.toInt ∧ z201.toInt ≤ 401 := i_194
              have i_195 : 0 ≤ z200.toInt ∧ z200.toInt ≤ 50 := i_195
              have i_196 : CDI z202 z199.toInt := i_196
              have i_197 : OPK f_rc z202 e_ln.toInt := i_197
              obtain ⟨hP, hD⟩ := va_join (wr := []) hP hD [2, 3, 4, 0, 1] [] rfl rfl (by decide) (by decide) hk1 hFc hP1 hD1
              generalize H1 = H at hP hS ⊢
              refine g5_rs [(a_r, (oc4 a_tk a_rh a_rs a_rc z199 z200 z201 e_fp)), (a_tk, (oc8 a_kd a_nm a_pl)), (a_kd, (arI G 401 f_kd)), (a_nm, (arI G 401 f_nm)), (a_rc, (arI G 400 z202))] hP hD (fun hP hD => ?_)
              refine g5_ti (v := z198) y203 ?_
              refine lv_if_eq (tgt := 80) hx hb dX4_readPlain_68 (by decide) (fun c_204 => ?_) (fun c_204 => ?_)
              ·
                have i_204 : z198.toInt = 0 := by have z := g5_eq (a := z198.toInt) (b := 0) (by rfl) (by decide) c_204; omega
                refine lv_iconst (v := 0) hx hb dX4_readPlain_80 (by decide) ?_
                exact W.zret (v := 0) hx hb hr rfl (fun t ht hW => ⟨⟨0, [(a_r, (oc4 a_tk a_rh a_rs a_rc z199 z200 z201 e_fp)), (a_tk, (oc8 a_kd a_nm a_pl)), (a_kd, (arI G 401 f_kd)), (a_nm, (arI G 401 f_nm)), (a_rc, (arI G 400 z202))], rfl, ⟨0, z199, z200, z201, z202, ⟨by have zc_o_r : (0 : Int32).toInt = 0 := (by decide); omega, by have zc_o_r : (0 : Int32).toInt = 0 := (by decide); omega⟩, ⟨by omega, by omega⟩, i_194, i_195, i_196, i_197, rfl, rfl⟩, by rw [ht]; exact hP.sub [0, 1, 2, 3, 4] rfl, hD.sub [0, 1, 2, 3, 4] (by decide) rfl⟩, hS.F ht⟩) hS.2.2 dX4_readPlain_81
              ·
                have n_204 : gNe (z198.toInt) (0) := by have z := g5_eqN (a := z198.toInt) (b := 0) (by rfl) (by decide) c_204; unfold gNe; omega
                have i_204 : z198.toInt ≥ 1 := by have z := g5_eqN (a := z198.toInt) (b := 0) (by rfl) (by decide) c_204; omega
                refine lv_aload_n hx hb dX4_readPlain_71 rfl (lv_at hl 2 rfl) ?_
                refine lv_bipush (v := 41) hx hb dX4_readPlain_72 (by decide) ?_
                obtain ⟨hPc, hDc, hFc⟩ := g5_sub3 (wc := [(a_r, (oc4 a_tk a_rh a_rs a_rc z199 z200 z201 e_fp)), (a_tk, (oc8 a_kd a_nm a_pl)), (a_kd, (arI G 401 f_kd))]) hP hD hS hA [0, 1, 2] (by decide) rfl
                refine va_calli (va_runV (As := [.int 41]) (rest := []) ⟨hx, hb, hml, hown, hts⟩ (r_passed l G a_r a_tk a_kd a_rh a_rs a_rc a_nm a_pl H.size z199 z200 z201 e_fp 41 f_kd ⟨by omega, by omega⟩ i_195 i_194) (cwV 1 hts gV_X4_63 rfl rfl rfl hv_X4_passed ⟨by simp only [headSpec]; omega, by simp only [headSpec]; omega⟩) (g5_preV hPc hK hDc hN hT hS hFc (ci := 4) (q0 := 0) rfl rfl) rfl rfl hl.1 rfl (lv_room (Nat.le_of_ble_eq_true rfl)) dX4_readPlain_74 ⟨Nat.le_of_ble_eq_true rfl, Nat.le_of_ble_eq_true rfl⟩) hS (fun q _ h => hFc q h) hFc (fun r u t H1 locs ht hvm hw hB hz1 hk1 hS => ?_)
                obtain ⟨hP1, hD1⟩ := hB
                rw [ht] at hP1
                obtain ⟨z207, z208, i_205, i_206, y209, rfl⟩ := hw
                have i_205 : 0 ≤ z207.toInt ∧ z207.toInt ≤ 1 := i_205
                have i_206 : 0 ≤ z208.toInt ∧ z208.toInt ≤ 401 := i_206
                obtain ⟨hP, hD⟩ := va_join (wr := [(a_nm, (arI G 401 f_nm)), (a_rc, (arI G 400 z202))]) hP hD [0, 1, 2] [3, 4] rfl rfl (by decide) (by decide) hk1 hFc hP1 hD1
                generalize H1 = H at hP hS ⊢
                refine g5_rs [(a_nm, (arI G 401 f_nm)), (a_rc, (arI G 400 z202)), (a_r, (oc4 a_tk a_rh a_rs a_rc z199 z200 z208 e_fp)), (a_tk, (oc8 a_kd a_nm a_pl)), (a_kd, (arI G 401 f_kd))] hP hD (fun hP hD => ?_)
                refine g5_ti (v := z207) y209 ?_
                refine lv_if_ne (tgt := 170) hx hb dX4_readPlain_77 (by decide) (fun c_210 => ?_) (fun c_210 => ?_)
                ·
                  have n_210 : gNe (z207.toInt) (0) := by have z := g5_ne (a := z207.toInt) (b := 0) (by rfl) (by decide) c_210; unfold gNe; omega
                  have i_210 : z207.toInt ≥ 1 := by have z := g5_ne (a := z207.toInt) (b := 0) (by rfl) (by decide) c_210; omega
                  refine lv_iload_n hx hb dX4_readPlain_170 rfl (lv_at hl 0 rfl) ?_
                  refine lv_if_eq (tgt := 182) hx hb dX4_readPlain_171 (by decide) (fun c_211 => ?_) (fun c_211 => ?_)
                  ·
                    have i_211 : k_u.toInt = 0 := by have z := g5_eq (a := k_u.toInt) (b := 0) (by rfl) (by decide) c_211; omega
                    refine lv_iconst (v := 1) hx hb dX4_readPlain_182 (by decide) ?_
                    exact W.zret (v := 1) hx hb hr rfl (fun t ht hW => ⟨⟨1, [(a_r, (oc4 a_tk a_rh a_rs a_rc z199 z200 z208 e_fp)), (a_tk, (oc8 a_kd a_nm a_pl)), (a_kd, (arI G 401 f_kd)), (a_nm, (arI G 401 f_nm)), (a_rc, (arI G 400 z202))], rfl, ⟨1, z199, z200, z208, z202, ⟨by have zc_o_r : (1 : Int32).toInt = 1 := (by decide); omega, by have zc_o_r : (1 : Int32).toInt = 1 := (by decide); omega⟩, ⟨by omega, by omega⟩, i_206, i_195, i_196, i_197, rfl, rfl⟩, by rw [ht]; exact hP.sub [2, 3, 4, 0, 1] rfl, hD.sub [2, 3, 4, 0, 1] (by decide) rfl⟩, hS.F ht⟩) hS.2.2 dX4_readPlain_183
                  ·
                    have n_211 : gNe (k_u.toInt) (0) := by have z := g5_eqN (a := k_u.toInt) (b := 0) (by rfl) (by decide) c_211; unfold gNe; omega
                    have i_211 : k_u.toInt ≥ 1 := by have z := g5_eqN (a := k_u.toInt) (b := 0) (by rfl) (by decide) c_211; omega
                    refine lv_aload_n hx hb dX4_readPlain_174 rfl (lv_at hl 2 rfl) ?_
                    refine lv_bipush (v := 9) hx hb dX4_readPlain_175 (by decide) ?_
                    refine lv_iconst (v := 0) hx hb dX4_readPlain_177 (by decide) ?_
                    obtain ⟨hPc, hDc, hFc⟩ := g5_sub3 (wc := [(a_r, (oc4 a_tk a_rh a_rs a_rc z199 z200 z208 e_fp)), (a_rc, (arI G 400 z202))]) hP hD hS hA [2, 1] (by decide) rfl
                    refine va_calli (va_runV (As := [.int 9, .int 0]) (rest := []) ⟨hx, hb, hml, hown, hts⟩ (r_emit l G a_r a_rc a_tk a_rh a_rs H.size z199 z200 z208 e_fp 9 0 z202 ⟨by omega, by omega⟩ i_195 i_206 (i_196) (by unfold wOK; decide)) (cwV 2 hts gV_X4_79 rfl rfl rfl hv_X4_emit ⟨by simp only [headSpec]; omega, by simp only [headSpec]; omega⟩) (g5_preV hPc hK hDc hN hT hS hFc (ci := 4) (q0 := 0) rfl rfl) rfl rfl hl.1 rfl (lv_room (Nat.le_of_ble_eq_true rfl)) dX4_readPlain_178 ⟨Nat.le_of_ble_eq_true rfl, Nat.le_of_ble_eq_true rfl⟩) hS (fun q _ h => hFc q h) hFc (fun r u t H1 locs ht hvm hw hB hz1 hk1 hS => ?_)
                    obtain ⟨hP1, hD1⟩ := hB
                    rw [ht] at hP1
                    obtain ⟨z217, z218, z219, i_212, i_213, i_214, i_215, i_216, y220, rfl⟩ := hw
                    have i_212 : -1 ≤ z217.toInt ∧ z217.toInt ≤ 399 := i_212
                    have i_213 : z199.toInt ≤ z218.toInt ∧ z218.toInt ≤ 400 := i_213
                    have i_214 : CDI z219 z218.toInt := i_214
                    have i_215 : OPK z202 z219 z199.toInt := i_215
                    have i_216 : 0 ≤ z217.toInt → z217.toInt < z218.toInt ∧ z219 z217.toNatClampNeg = (((9 : Int32) <<< (12 &&& 31)) ||| (0 : Int32)) := i_216
                    obtain ⟨hP, hD⟩ := va_join (wr := [(a_nm, (arI G 401 f_nm)), (a_tk, (oc8 a_kd a_nm a_pl)), (a_kd, (arI G 401 f_kd))]) hP hD [2, 1] [0, 3, 4] rfl rfl (by decide) (by decide) hk1 hFc hP1 hD1
                    generalize H1 = H at hP hS ⊢
                    refine g5_rs [(a_nm, (arI G 401 f_nm)), (a_tk, (oc8 a_kd a_nm a_pl)), (a_kd, (arI G 401 f_kd)), (a_r, (oc4 a_tk a_rh a_rs a_rc z218 z200 z208 e_fp)), (a_rc, (arI G 400 z219))] hP hD (fun hP hD => ?_)
                    refine g5_ti (v := z217) y220 ?_
                    refine lv_pop hx hb dX4_readPlain_181 rfl ?_
                    refine lv_iconst (v := 1) hx hb dX4_readPlain_182 (by decide) ?_
                    exact W.zret (v := 1) hx hb hr rfl (fun t ht hW => ⟨⟨1, [(a_r, (oc4 a_tk a_rh a_rs a_rc z218 z200 z208 e_fp)), (a_tk, (oc8 a_kd a_nm a_pl)), (a_kd, (arI G 401 f_kd)), (a_nm, (arI G 401 f_nm)), (a_rc, (arI G 400 z219))], rfl, ⟨1, z218, z200, z208, z219, ⟨by have zc_o_r : (1 : Int32).toInt = 1 := (by decide); omega, by have zc_o_r : (1 : Int32).toInt = 1 := (by decide); omega⟩, ⟨by omega, by omega⟩, i_206, i_195, i_214, opk_trans i_197 (i_215) (by omega), rfl, rfl⟩, by rw [ht]; exact hP.sub [3, 1, 2, 0, 4] rfl, hD.sub [3, 1, 2, 0, 4] (by decide) rfl⟩, hS.F ht⟩) hS.2.2 dX4_readPlain_183
                ·
                  have i_210 : z207.toInt = 0 := by have z := g5_neN (a := z207.toInt) (b := 0) (by rfl) (by decide) c_210; omega
                  refine lv_iconst (v := 0) hx hb dX4_readPlain_80 (by decide) ?_
                  exact W.zret (v := 0) hx hb hr rfl (fun t ht hW => ⟨⟨0, [(a_r, (oc4 a_tk a_rh a_rs a_rc z199 z200 z208 e_fp)), (a_tk, (oc8 a_kd a_nm a_pl)), (a_kd, (arI G 401 f_kd)), (a_nm, (arI G 401 f_nm)), (a_rc, (arI G 400 z202))], rfl, ⟨0, z199, z200, z208, z202, ⟨by have zc_o_r : (0 : Int32).toInt = 0 := (by decide); omega, by have zc_o_r : (0 : Int32).toInt = 0 := (by decide); omega⟩, ⟨by omega, by omega⟩, i_206, i_195, i_196, i_197, rfl, rfl⟩, by rw [ht]; exact hP.sub [2, 3, 4, 0, 1] rfl, hD.sub [2, 3, 4, 0, 1] (by decide) rfl⟩, hS.F ht⟩) hS.2.2 dX4_readPlain_81
      ·
        obtain ⟨hP, hD⟩ := va_join (wr := [(a_nm, (arI G 401 f_nm)), (a_rc, (arI G 400 f_rc))]) hP hD [2, 3, 4] [0, 1] rfl rfl (by decide) (by decide) hk1 hFc hP1 hD1
        generalize H1 = H at hP hS ⊢
        refine g5_rs [(a_nm, (arI G 401 f_nm)), (a_rc, (arI G 400 f_rc)), (a_r, (oc4 a_tk a_rh a_rs a_rc e_ln e_pa z178 e_fp)), (a_tk, (oc8 a_kd a_nm a_pl)), (a_kd, (arI G 401 f_kd))] hP hD (fun hP hD => ?_)
        refine lv_if_eq (tgt := 82) hx hb dX4_readPlain_43 (by decide) (fun c_221 => ?_) (fun c_221 => ?_)
        ·
          refine lv_aload_n hx hb dX4_readPlain_82 rfl (lv_at hl 2 rfl) ?_
          refine lv_iload_n hx hb dX4_readPlain_83 rfl (lv_at hl 3 rfl) ?_
          obtain ⟨hPc, hDc, hFc⟩ := g5_sub3 (wc := [(a_r, (oc4 a_tk a_rh a_rs a_rc e_ln e_pa z178 e_fp)), (a_tk, (oc8 a_kd a_nm a_pl)), (a_kd, (arI G 401 f_kd)), (a_nm, (arI G 401 f_nm)), (a_rc, (arI G 400 f_rc))]) hP hD hS hA [2, 3, 4, 0, 1] (by decide) rfl
          refine va_calli (va_runV (As := [.int p_d]) (rest := []) ⟨hx, hb, hml, hown, hts⟩ ((r_sum fr lo p_d h_p_d h_sum) l G a_r a_tk a_kd a_nm a_rc a_rh a_rs a_pl H.size e_ln e_pa z178 e_fp f_kd f_nm f_rc h_e_ln h_e_pa i_176 (e_tk) (e_cd)) (cwV 1 hts gV_X4_73 rfl rfl rfl hv_X4_readSum ⟨by simp only [headSpec]; omega, by simp only [headSpec]; omega⟩) (g5_preV hPc hK hDc hN hT hS hFc (ci := 4) (q0 := 0) rfl rfl) rfl rfl hl.1 rfl (lv_room (Nat.le_of_ble_eq_true rfl)) dX4_readPlain_84 ⟨Nat.le_of_ble_eq_true rfl, Nat.le_of_ble_eq_true rfl⟩) hS (fun q _ h => hFc q h) hFc (fun r u t H1 locs ht hvm hw hB hz1 hk1 hS => ?_)
          obtain ⟨hP1, hD1⟩ := hB
          rw [ht] at hP1
          obtain ⟨z228, z229, z230, z231, z232, i_222, i_223, i_224, i_225, i_226, i_227, y233, rfl⟩ := hw
          have i_222 : 0 ≤ z228.toInt ∧ z228.toInt ≤ 1 := i_222
          have i_223 : e_ln.toInt ≤ z229.toInt ∧ z229.toInt ≤ 400 := i_223
          have i_224 : 0 ≤ z231.toInt ∧ z231.toInt ≤ 401 := i_224
          have i_225 : 0 ≤ z230.toInt ∧ z230.toInt ≤ 50 := i_225
          have i_226 : CDI z232 z229.toInt := i_226
          have i_227 : OPK f_rc z232 e_ln.toInt := i_227
          obtain ⟨hP, hD⟩ := va_join (wr := []) hP hD [2, 3, 4, 0, 1] [] rfl rfl (by decide) (by decide) hk1 hFc hP1 hD1
          generalize H1 = H at hP hS ⊢
          refine g5_rs [(a_r, (oc4 a_tk a_rh a_rs a_rc z229 z230 z231 e_fp)), (a_tk, (oc8 a_kd a_nm a_pl)), (a_kd, (arI G 401 f_kd)), (a_nm, (arI G 401 f_nm)), (a_rc, (arI G 400 z232))] hP hD (fun hP hD => ?_)
          refine g5_ti (v := z228) y233 ?_
          refine lv_if_ne (tgt := 92) hx hb dX4_readPlain_87 (by decide) (fun c_234 => ?_) (fun c_234 => ?_)
          ·
            have n_234 : gNe (z228.toInt) (0) := by have z := g5_ne (a := z228.toInt) (b := 0) (by rfl) (by decide) c_234; unfold gNe; omega
            have i_234 : z228.toInt ≥ 1 := by have z := g5_ne (a := z228.toInt) (b := 0) (by rfl) (by decide) c_234; omega
            refine lv_aload_n hx hb dX4_readPlain_92 rfl (lv_at hl 2 rfl) ?_
            refine lv_bipush (v := 60) hx hb dX4_readPlain_93 (by decide) ?_
            obtain ⟨hPc, hDc, hFc⟩ := g5_sub3 (wc := [(a_r, (oc4 a_tk a_rh a_rs a_rc z229 z230 z231 e_fp)), (a_tk, (oc8 a_kd a_nm a_pl)), (a_kd, (arI G 401 f_kd))]) hP hD hS hA [0, 1, 2] (by decide) rfl
            refine va_calli (va_runV (As := [.int 60]) (rest := []) ⟨hx, hb, hml, hown, hts⟩ (r_isNext l G a_r a_tk a_kd a_rh a_rs a_rc a_nm a_pl H.size z229 z230 z231 e_fp 60 f_kd ⟨by omega, by omega⟩ i_225 i_224) (cwV 1 hts gV_X4_49 rfl rfl rfl hv_X4_isNext ⟨by simp only [headSpec]; omega, by simp only [headSpec]; omega⟩) (g5_preV hPc hK hDc hN hT hS hFc (ci := 4) (q0 := 0) rfl rfl) rfl rfl hl.1 rfl (lv_room (Nat.le_of_ble_eq_true rfl)) dX4_readPlain_95 ⟨Nat.le_of_ble_eq_true rfl, Nat.le_of_ble_eq_true rfl⟩) hS (fun q _ h => hFc q h) hFc (fun r u t H1 locs ht hvm hw hB hz1 hk1 hS => ?_)
            obtain ⟨hP1, hD1⟩ := hB
            rw [ht] at hP1
            rcases hw with ⟨i_235, i_236, rfl, rfl⟩ | ⟨rfl, rfl⟩
            ·
              have i_235 : z231.toInt ≤ 400 := i_235
              have i_236 : f_kd z231.toNatClampNeg = (60 : Int32) := i_236
              obtain ⟨hP, hD⟩ := va_join (wr := [(a_nm, (arI G 401 f_nm)), (a_rc, (arI G 400 z232))]) hP hD [0, 1, 2] [3, 4] rfl rfl (by decide) (by decide) hk1 hFc hP1 hD1
              generalize H1 = H at hP hS ⊢
              refine g5_rs [(a_nm, (arI G 401 f_nm)), (a_rc, (arI G 400 z232)), (a_r, (oc4 a_tk a_rh a_rs a_rc z229 z230 z231 e_fp)), (a_tk, (oc8 a_kd a_nm a_pl)), (a_kd, (arI G 401 f_kd))] hP hD (fun hP hD => ?_)
              refine lv_if_eq (tgt := 106) hx hb dX4_readPlain_98 (by decide) (fun c_237 => ?_) (fun c_237 => ?_)
              ·
                exact absurd c_237 (by decide)
              ·
                refine lv_bipush (v := 6) hx hb dX4_readPlain_101 (by decide) ?_
                refine lv_goto (tgt := 135) hx hb dX4_readPlain_103 (by decide) ?_
                refine lv_istore_n (lv' := [(3, .int 6), (2, .int k_u), (0, .ref a_r), (1, .int p_d)]) hx hb dX4_readPlain_135 rfl hl (by decide) rfl (fun ls hl => ?_)
                refine lv_iload_n hx hb dX4_readPlain_136 rfl (lv_at hl 0 rfl) ?_
                refine lv_iconst (v := (-1)) hx hb dX4_readPlain_137 (by decide) ?_
                refine lv_icmp_ne (tgt := 143) hx hb dX4_readPlain_138 (by decide) (fun c_238 => ?_) (fun c_238 => ?_)
                ·
                  refine lv_aload_n hx hb dX4_readPlain_143 rfl (lv_at hl 2 rfl) ?_
                  refine lv_dup hx hb dX4_readPlain_144 rfl ?_
                  refine va_get (D := G.1) (ci := 4) (v := .int z231) (C := RX4) (T := TX4) (N := 8) hx hb hts inG_X4 hown hK hP 2 rfl rfl 6 (by decide) (hts _ fl_X4_42) (fun _ h9 => h9) rfl dX4_readPlain_145 ?_
                  refine lv_iconst (v := 1) hx hb dX4_readPlain_148 (by decide) ?_
                  refine lv_iadd hx hb dX4_readPlain_149 ?_
                  have t_239 : (z231 + 1).toInt = z231.toInt + 1 := g5_iadd (a := z231.toInt) (b := 1) (by rfl) (by decide) (by omega) (by omega)
                  refine va_put (D := G.1) (ci := 4) (v := .int (z231 + 1)) (ty := .int) (C := RX4) (T := TX4) (N := 8) hx hb hts inG_X4 tyX4 tyX4_ok nmX4 hown hK hP hD hS 2 rfl rfl 6 (by decide) (hts _ fl_X4_42) (fun _ h9 => h9) rfl (by decide +kernel) rfl rfl (Nat.le_of_ble_eq_true rfl) dX4_readPlain_150 (fun H locs hP hD hS => ?_)
                  refine g5_rs [(a_nm, (arI G 401 f_nm)), (a_rc, (arI G 400 z232)), (a_r, (oc4 a_tk a_rh a_rs a_rc z229 z230 (z231 + 1) e_fp)), (a_tk, (oc8 a_kd a_nm a_pl)), (a_kd, (arI G 401 f_kd))] hP hD (fun hP hD => ?_)
                  refine lv_aload_n hx hb dX4_readPlain_153 rfl (lv_at hl 2 rfl) ?_
                  refine lv_iload_n hx hb dX4_readPlain_154 rfl (lv_at hl 3 rfl) ?_
                  obtain ⟨hPc, hDc, hFc⟩ := g5_sub3 (wc := [(a_r, (oc4 a_tk a_rh a_rs a_rc z229 z230 (z231 + 1) e_fp)), (a_tk, (oc8 a_kd a_nm a_pl)), (a_kd, (arI G 401 f_kd)), (a_nm, (arI G 401 f_nm)), (a_rc, (arI G 400 z232))]) hP hD hS hA [2, 3, 4, 0, 1] (by decide) rfl
                  refine va_calli (va_runV (As := [.int p_d]) (rest := []) ⟨hx, hb, hml, hown, hts⟩ ((r_sum fr lo p_d h_p_d h_sum) l G a_r a_tk a_kd a_nm a_rc a_rh a_rs a_pl H.size z229 z230 (z231 + 1) e_fp f_kd f_nm z232 ⟨by omega, by omega⟩ i_225 ⟨by omega, by omega⟩ (e_tk) (i_226)) (cwV 1 hts gV_X4_73 rfl rfl rfl hv_X4_readSum ⟨by simp only [headSpec]; omega, by simp only [headSpec]; omega⟩) (g5_preV hPc hK hDc hN hT hS hFc (ci := 4) (q0 := 0) rfl rfl) rfl rfl hl.1 rfl (lv_room (Nat.le_of_ble_eq_true rfl)) dX4_readPlain_155 ⟨Nat.le_of_ble_eq_true rfl, Nat.le_of_ble_eq_true rfl⟩) hS (fun q _ h => hFc q h) hFc (fun r u t H1 locs ht hvm hw hB hz1 hk1 hS => ?_)
                  obtain ⟨hP1, hD1⟩ := hB
                  rw [ht] at hP1
                  obtain ⟨z246, z247, z248, z249, z250, i_240, i_241, i_242, i_243, i_244, i_245, y251, rfl⟩ := hw
                  have i_240 : 0 ≤ z246.toInt ∧ z246.toInt ≤ 1 := i_240
                  have i_241 : z229.toInt ≤ z247.toInt ∧ z247.toInt ≤ 400 := i_241
                  have i_242 : 0 ≤ z249.toInt ∧ z249.toInt ≤ 401 := i_242
                  have i_243 : 0 ≤ z248.toInt ∧ z248.toInt ≤ 50 := i_243
                  have i_244 : CDI z250 z247.toInt := i_244
                  have i_245 : OPK z232 z250 z229.toInt := i_245
                  obtain ⟨hP, hD⟩ := va_join (wr := []) hP hD [2, 3, 4, 0, 1] [] rfl rfl (by decide) (by decide) hk1 hFc hP1 hD1
                  generalize H1 = H at hP hS ⊢
                  refine g5_rs [(a_r, (oc4 a_tk a_rh a_rs a_rc z247 z248 z249 e_fp)), (a_tk, (oc8 a_kd a_nm a_pl)), (a_kd, (arI G 401 f_kd)), (a_nm, (arI G 401 f_nm)), (a_rc, (arI G 400 z250))] hP hD (fun hP hD => ?_)
                  refine g5_ti (v := z246) y251 ?_
                  refine lv_if_ne (tgt := 163) hx hb dX4_readPlain_158 (by decide) (fun c_252 => ?_) (fun c_252 => ?_)
                  ·
                    have n_252 : gNe (z246.toInt) (0) := by have z := g5_ne (a := z246.toInt) (b := 0) (by rfl) (by decide) c_252; unfold gNe; omega
                    have i_252 : z246.toInt ≥ 1 := by have z := g5_ne (a := z246.toInt) (b := 0) (by rfl) (by decide) c_252; omega
                    refine lv_aload_n hx hb dX4_readPlain_163 rfl (lv_at hl 2 rfl) ?_
                    refine lv_iload_n hx hb dX4_readPlain_164 rfl (lv_at hl 0 rfl) ?_
                    refine lv_iconst (v := 0) hx hb dX4_readPlain_165 (by decide) ?_
                    obtain ⟨hPc, hDc, hFc⟩ := g5_sub3 (wc := [(a_r, (oc4 a_tk a_rh a_rs a_rc z247 z248 z249 e_fp)), (a_rc, (arI G 400 z250))]) hP hD hS hA [0, 4] (by decide) rfl
                    refine va_calli (va_runV (As := [.int 6, .int 0]) (rest := []) ⟨hx, hb, hml, hown, hts⟩ (r_emit l G a_r a_rc a_tk a_rh a_rs H.size z247 z248 z249 e_fp 6 0 z250 ⟨by omega, by omega⟩ i_243 i_242 (i_244) (by unfold wOK; decide)) (cwV 2 hts gV_X4_79 rfl rfl rfl hv_X4_emit ⟨by simp only [headSpec]; omega, by simp only [headSpec]; omega⟩) (g5_preV hPc hK hDc hN hT hS hFc (ci := 4) (q0 := 0) rfl rfl) rfl rfl hl.1 rfl (lv_room (Nat.le_of_ble_eq_true rfl)) dX4_readPlain_166 ⟨Nat.le_of_ble_eq_true rfl, Nat.le_of_ble_eq_true rfl⟩) hS (fun q _ h => hFc q h) hFc (fun r u t H1 locs ht hvm hw hB hz1 hk1 hS => ?_)
                    obtain ⟨hP1, hD1⟩ := hB
                    rw [ht] at hP1
                    obtain ⟨z258, z259, z260, i_253, i_254, i_255, i_256, i_257, y261, rfl⟩ := hw
                    have i_253 : -1 ≤ z258.toInt ∧ z258.toInt ≤ 399 := i_253
                    have i_254 : z247.toInt ≤ z259.toInt ∧ z259.toInt ≤ 400 := i_254
                    have i_255 : CDI z260 z259.toInt := i_255
                    have i_256 : OPK z250 z260 z247.toInt := i_256
                    have i_257 : 0 ≤ z258.toInt → z258.toInt < z259.toInt ∧ z260 z258.toNatClampNeg = (((6 : Int32) <<< (12 &&& 31)) ||| (0 : Int32)) := i_257
                    obtain ⟨hP, hD⟩ := va_join (wr := [(a_tk, (oc8 a_kd a_nm a_pl)), (a_kd, (arI G 401 f_kd)), (a_nm, (arI G 401 f_nm))]) hP hD [0, 4] [1, 2, 3] rfl rfl (by decide) (by decide) hk1 hFc hP1 hD1
                    generalize H1 = H at hP hS ⊢
                    refine g5_rs [(a_tk, (oc8 a_kd a_nm a_pl)), (a_kd, (arI G 401 f_kd)), (a_nm, (arI G 401 f_nm)), (a_r, (oc4 a_tk a_rh a_rs a_rc z259 z248 z249 e_fp)), (a_rc, (arI G 400 z260))] hP hD (fun hP hD => ?_)
                    refine g5_ti (v := z258) y261 ?_
                    refine lv_pop hx hb dX4_readPlain_169 rfl ?_
                    refine lv_iload_n hx hb dX4_readPlain_170 rfl (lv_at hl 1 rfl) ?_
                    refine lv_if_eq (tgt := 182) hx hb dX4_readPlain_171 (by decide) (fun c_262 => ?_) (fun c_262 => ?_)
                    ·
                      have i_262 : k_u.toInt = 0 := by have z := g5_eq (a := k_u.toInt) (b := 0) (by rfl) (by decide) c_262; omega
                      refine lv_iconst (v := 1) hx hb dX4_readPlain_182 (by decide) ?_
                      exact W.zret (v := 1) hx hb hr rfl (fun t ht hW => ⟨⟨1, [(a_r, (oc4 a_tk a_rh a_rs a_rc z259 z248 z249 e_fp)), (a_tk, (oc8 a_kd a_nm a_pl)), (a_kd, (arI G 401 f_kd)), (a_nm, (arI G 401 f_nm)), (a_rc, (arI G 400 z260))], rfl, ⟨1, z259, z248, z249, z260, ⟨by have zc_o_r : (1 : Int32).toInt = 1 := (by decide); omega, by have zc_o_r : (1 : Int32).toInt = 1 := (by decide); omega⟩, ⟨by omega, by omega⟩, i_242, i_243, i_255, opk_trans i_227 (opk_trans i_245 (i_256) (by omega)) (by omega), rfl, rfl⟩, by rw [ht]; exact hP.sub [3, 0, 1, 2, 4] rfl, hD.sub [3, 0, 1, 2, 4] (by decide) rfl⟩, hS.F ht⟩) hS.2.2 dX4_readPlain_183
                    ·
                      have n_262 : gNe (k_u.toInt) (0) := by have z := g5_eqN (a := k_u.toInt) (b := 0) (by rfl) (by decide) c_262; unfold gNe; omega
                      have i_262 : k_u.toInt ≥ 1 := by have z := g5_eqN (a := k_u.toInt) (b := 0) (by rfl) (by decide) c_262; omega
                      refine lv_aload_n hx hb dX4_readPlain_174 rfl (lv_at hl 2 rfl) ?_
                      refine lv_bipush (v := 9) hx hb dX4_readPlain_175 (by decide) ?_
                      refine lv_iconst (v := 0) hx hb dX4_readPlain_177 (by decide) ?_
                      obtain ⟨hPc, hDc, hFc⟩ := g5_sub3 (wc := [(a_r, (oc4 a_tk a_rh a_rs a_rc z259 z248 z249 e_fp)), (a_rc, (arI G 400 z260))]) hP hD hS hA [3, 4] (by decide) rfl
                      refine va_calli (va_runV (As := [.int 9, .int 0]) (rest := []) ⟨hx, hb, hml, hown, hts⟩ (r_emit l G a_r a_rc a_tk a_rh a_rs H.size z259 z248 z249 e_fp 9 0 z260 ⟨by omega, by omega⟩ i_243 i_242 (i_255) (by unfold wOK; decide)) (cwV 2 hts gV_X4_79 rfl rfl rfl hv_X4_emit ⟨by simp only [headSpec]; omega, by simp only [headSpec]; omega⟩) (g5_preV hPc hK hDc hN hT hS hFc (ci := 4) (q0 := 0) rfl rfl) rfl rfl hl.1 rfl (lv_room (Nat.le_of_ble_eq_true rfl)) dX4_readPlain_178 ⟨Nat.le_of_ble_eq_true rfl, Nat.le_of_ble_eq_true rfl⟩) hS (fun q _ h => hFc q h) hFc (fun r u t H1 locs ht hvm hw hB hz1 hk1 hS => ?_)
                      obtain ⟨hP1, hD1⟩ := hB
                      rw [ht] at hP1
                      obtain ⟨z268, z269, z270, i_263, i_264, i_265, i_266, i_267, y271, rfl⟩ := hw
                      have i_263 : -1 ≤ z268.toInt ∧ z268.toInt ≤ 399 := i_263
                      have i_264 : z259.toInt ≤ z269.toInt ∧ z269.toInt ≤ 400 := i_264
                      have i_265 : CDI z270 z269.toInt := i_265
                      have i_266 : OPK z260 z270 z259.toInt := i_266
                      have i_267 : 0 ≤ z268.toInt → z268.toInt < z269.toInt ∧ z270 z268.toNatClampNeg = (((9 : Int32) <<< (12 &&& 31)) ||| (0 : Int32)) := i_267
                      obtain ⟨hP, hD⟩ := va_join (wr := [(a_tk, (oc8 a_kd a_nm a_pl)), (a_kd, (arI G 401 f_kd)), (a_nm, (arI G 401 f_nm))]) hP hD [3, 4] [0, 1, 2] rfl rfl (by decide) (by decide) hk1 hFc hP1 hD1
                      generalize H1 = H at hP hS ⊢
                      refine g5_rs [(a_tk, (oc8 a_kd a_nm a_pl)), (a_kd, (arI G 401 f_kd)), (a_nm, (arI G 401 f_nm)), (a_r, (oc4 a_tk a_rh a_rs a_rc z269 z248 z249 e_fp)), (a_rc, (arI G 400 z270))] hP hD (fun hP hD => ?_)
                      refine g5_ti (v := z268) y271 ?_
                      refine lv_pop hx hb dX4_readPlain_181 rfl ?_
                      refine lv_iconst (v := 1) hx hb dX4_readPlain_182 (by decide) ?_
                      exact W.zret (v := 1) hx hb hr rfl (fun t ht hW => ⟨⟨1, [(a_r, (oc4 a_tk a_rh a_rs a_rc z269 z248 z249 e_fp)), (a_tk, (oc8 a_kd a_nm a_pl)), (a_kd, (arI G 401 f_kd)), (a_nm, (arI G 401 f_nm)), (a_rc, (arI G 400 z270))], rfl, ⟨1, z269, z248, z249, z270, ⟨by have zc_o_r : (1 : Int32).toInt = 1 := (by decide); omega, by have zc_o_r : (1 : Int32).toInt = 1 := (by decide); omega⟩, ⟨by omega, by omega⟩, i_242, i_243, i_265, opk_trans i_227 (opk_trans i_245 (opk_trans i_256 (i_266) (by omega)) (by omega)) (by omega), rfl, rfl⟩, by rw [ht]; exact hP.sub [3, 0, 1, 2, 4] rfl, hD.sub [3, 0, 1, 2, 4] (by decide) rfl⟩, hS.F ht⟩) hS.2.2 dX4_readPlain_183
                  ·
                    have i_252 : z246.toInt = 0 := by have z := g5_neN (a := z246.toInt) (b := 0) (by rfl) (by decide) c_252; omega
                    refine lv_iconst (v := 0) hx hb dX4_readPlain_161 (by decide) ?_
                    exact W.zret (v := 0) hx hb hr rfl (fun t ht hW => ⟨⟨0, [(a_r, (oc4 a_tk a_rh a_rs a_rc z247 z248 z249 e_fp)), (a_tk, (oc8 a_kd a_nm a_pl)), (a_kd, (arI G 401 f_kd)), (a_nm, (arI G 401 f_nm)), (a_rc, (arI G 400 z250))], rfl, ⟨0, z247, z248, z249, z250, ⟨by have zc_o_r : (0 : Int32).toInt = 0 := (by decide); omega, by have zc_o_r : (0 : Int32).toInt = 0 := (by decide); omega⟩, ⟨by omega, by omega⟩, i_242, i_243, i_244, opk_trans i_227 (i_245) (by omega), rfl, rfl⟩, by rw [ht]; exact hP.sub [0, 1, 2, 3, 4] rfl, hD.sub [0, 1, 2, 3, 4] (by decide) rfl⟩, hS.F ht⟩) hS.2.2 dX4_readPlain_162
                ·
                  exact absurd c_238 (by decide)
            ·
              obtain ⟨hP, hD⟩ := va_join (wr := [(a_nm, (arI G 401 f_nm)), (a_rc, (arI G 400 z232))]) hP hD [0, 1, 2] [3, 4] rfl rfl (by decide) (by decide) hk1 hFc hP1 hD1
              generalize H1 = H at hP hS ⊢
              refine g5_rs [(a_nm, (arI G 401 f_nm)), (a_rc, (arI G 400 z232)), (a_r, (oc4 a_tk a_rh a_rs a_rc z229 z230 z231 e_fp)), (a_tk, (oc8 a_kd a_nm a_pl)), (a_kd, (arI G 401 f_kd))] hP hD (fun hP hD => ?_)
              refine lv_if_eq (tgt := 106) hx hb dX4_readPlain_98 (by decide) (fun c_272 => ?_) (fun c_272 => ?_)
              ·
                refine lv_aload_n hx hb dX4_readPlain_106 rfl (lv_at hl 2 rfl) ?_
                refine lv_bipush (v := 62) hx hb dX4_readPlain_107 (by decide) ?_
                obtain ⟨hPc, hDc, hFc⟩ := g5_sub3 (wc := [(a_r, (oc4 a_tk a_rh a_rs a_rc z229 z230 z231 e_fp)), (a_tk, (oc8 a_kd a_nm a_pl)), (a_kd, (arI G 401 f_kd))]) hP hD hS hA [2, 3, 4] (by decide) rfl
                refine va_calli (va_runV (As := [.int 62]) (rest := []) ⟨hx, hb, hml, hown, hts⟩ (r_isNext l G a_r a_tk a_kd a_rh a_rs a_rc a_nm a_pl H.size z229 z230 z231 e_fp 62 f_kd ⟨by omega, by omega⟩ i_225 i_224) (cwV 1 hts gV_X4_49 rfl rfl rfl hv_X4_isNext ⟨by simp only [headSpec]; omega, by simp only [headSpec]; omega⟩) (g5_preV hPc hK hDc hN hT hS hFc (ci := 4) (q0 := 0) rfl rfl) rfl rfl hl.1 rfl (lv_room (Nat.le_of_ble_eq_true rfl)) dX4_readPlain_109 ⟨Nat.le_of_ble_eq_true rfl, Nat.le_of_ble_eq_true rfl⟩) hS (fun q _ h => hFc q h) hFc (fun r u t H1 locs ht hvm hw hB hz1 hk1 hS => ?_)
                obtain ⟨hP1, hD1⟩ := hB
                rw [ht] at hP1
                rcases hw with ⟨i_273, i_274, rfl, rfl⟩ | ⟨rfl, rfl⟩
                ·
                  have i_273 : z231.toInt ≤ 400 := i_273
                  have i_274 : f_kd z231.toNatClampNeg = (62 : Int32) := i_274
                  obtain ⟨hP, hD⟩ := va_join (wr := [(a_nm, (arI G 401 f_nm)), (a_rc, (arI G 400 z232))]) hP hD [2, 3, 4] [0, 1] rfl rfl (by decide) (by decide) hk1 hFc hP1 hD1
                  generalize H1 = H at hP hS ⊢
                  refine g5_rs [(a_nm, (arI G 401 f_nm)), (a_rc, (arI G 400 z232)), (a_r, (oc4 a_tk a_rh a_rs a_rc z229 z230 z231 e_fp)), (a_tk, (oc8 a_kd a_nm a_pl)), (a_kd, (arI G 401 f_kd))] hP hD (fun hP hD => ?_)
                  refine lv_if_eq (tgt := 120) hx hb dX4_readPlain_112 (by decide) (fun c_275 => ?_) (fun c_275 => ?_)
                  ·
                    exact absurd c_275 (by decide)
                  ·
                    refine lv_bipush (v := 7) hx hb dX4_readPlain_115 (by decide) ?_
                    refine lv_goto (tgt := 135) hx hb dX4_readPlain_117 (by decide) ?_
                    refine lv_istore_n (lv' := [(3, .int 7), (2, .int k_u), (0, .ref a_r), (1, .int p_d)]) hx hb dX4_readPlain_135 rfl hl (by decide) rfl (fun ls hl => ?_)
                    refine lv_iload_n hx hb dX4_readPlain_136 rfl (lv_at hl 0 rfl) ?_
                    refine lv_iconst (v := (-1)) hx hb dX4_readPlain_137 (by decide) ?_
                    refine lv_icmp_ne (tgt := 143) hx hb dX4_readPlain_138 (by decide) (fun c_276 => ?_) (fun c_276 => ?_)
                    ·
                      refine lv_aload_n hx hb dX4_readPlain_143 rfl (lv_at hl 2 rfl) ?_
                      refine lv_dup hx hb dX4_readPlain_144 rfl ?_
                      refine va_get (D := G.1) (ci := 4) (v := .int z231) (C := RX4) (T := TX4) (N := 8) hx hb hts inG_X4 hown hK hP 2 rfl rfl 6 (by decide) (hts _ fl_X4_42) (fun _ h9 => h9) rfl dX4_readPlain_145 ?_
                      refine lv_iconst (v := 1) hx hb dX4_readPlain_148 (by decide) ?_
                      refine lv_iadd hx hb dX4_readPlain_149 ?_
                      have t_277 : (z231 + 1).toInt = z231.toInt + 1 := g5_iadd (a := z231.toInt) (b := 1) (by rfl) (by decide) (by omega) (by omega)
                      refine va_put (D := G.1) (ci := 4) (v := .int (z231 + 1)) (ty := .int) (C := RX4) (T := TX4) (N := 8) hx hb hts inG_X4 tyX4 tyX4_ok nmX4 hown hK hP hD hS 2 rfl rfl 6 (by decide) (hts _ fl_X4_42) (fun _ h9 => h9) rfl (by decide +kernel) rfl rfl (Nat.le_of_ble_eq_true rfl) dX4_readPlain_150 (fun H locs hP hD hS => ?_)
                      refine g5_rs [(a_nm, (arI G 401 f_nm)), (a_rc, (arI G 400 z232)), (a_r, (oc4 a_tk a_rh a_rs a_rc z229 z230 (z231 + 1) e_fp)), (a_tk, (oc8 a_kd a_nm a_pl)), (a_kd, (arI G 401 f_kd))] hP hD (fun hP hD => ?_)
                      refine lv_aload_n hx hb dX4_readPlain_153 rfl (lv_at hl 2 rfl) ?_
                      refine lv_iload_n hx hb dX4_readPlain_154 rfl (lv_at hl 3 rfl) ?_
                      obtain ⟨hPc, hDc, hFc⟩ := g5_sub3 (wc := [(a_r, (oc4 a_tk a_rh a_rs a_rc z229 z230 (z231 + 1) e_fp)), (a_tk, (oc8 a_kd a_nm a_pl)), (a_kd, (arI G 401 f_kd)), (a_nm, (arI G 401 f_nm)), (a_rc, (arI G 400 z232))]) hP hD hS hA [2, 3, 4, 0, 1] (by decide) rfl
                      refine va_calli (va_runV (As := [.int p_d]) (rest := []) ⟨hx, hb, hml, hown, hts⟩ ((r_sum fr lo p_d h_p_d h_sum) l G a_r a_tk a_kd a_nm a_rc a_rh a_rs a_pl H.size z229 z230 (z231 + 1) e_fp f_kd f_nm z232 ⟨by omega, by omega⟩ i_225 ⟨by omega, by omega⟩ (e_tk) (i_226)) (cwV 1 hts gV_X4_73 rfl rfl rfl hv_X4_readSum ⟨by simp only [headSpec]; omega, by simp only [headSpec]; omega⟩) (g5_preV hPc hK hDc hN hT hS hFc (ci := 4) (q0 := 0) rfl rfl) rfl rfl hl.1 rfl (lv_room (Nat.le_of_ble_eq_true rfl)) dX4_readPlain_155 ⟨Nat.le_of_ble_eq_true rfl, Nat.le_of_ble_eq_true rfl⟩) hS (fun q _ h => hFc q h) hFc (fun r u t H1 locs ht hvm hw hB hz1 hk1 hS => ?_)
                      obtain ⟨hP1, hD1⟩ := hB
                      rw [ht] at hP1
                      obtain ⟨z284, z285, z286, z287, z288, i_278, i_279, i_280, i_281, i_282, i_283, y289, rfl⟩ := hw
                      have i_278 : 0 ≤ z284.toInt ∧ z284.toInt ≤ 1 := i_278
                      have i_279 : z229.toInt ≤ z285.toInt ∧ z285.toInt ≤ 400 := i_279
                      have i_280 : 0 ≤ z287.toInt ∧ z287.toInt ≤ 401 := i_280
                      have i_281 : 0 ≤ z286.toInt ∧ z286.toInt ≤ 50 := i_281
                      have i_282 : CDI z288 z285.toInt := i_282
                      have i_283 : OPK z232 z288 z229.toInt := i_283
                      obtain ⟨hP, hD⟩ := va_join (wr := []) hP hD [2, 3, 4, 0, 1] [] rfl rfl (by decide) (by decide) hk1 hFc hP1 hD1
                      generalize H1 = H at hP hS ⊢
                      refine g5_rs [(a_r, (oc4 a_tk a_rh a_rs a_rc z285 z286 z287 e_fp)), (a_tk, (oc8 a_kd a_nm a_pl)), (a_kd, (arI G 401 f_kd)), (a_nm, (arI G 401 f_nm)), (a_rc, (arI G 400 z288))] hP hD (fun hP hD => ?_)
                      refine g5_ti (v := z284) y289 ?_
                      refine lv_if_ne (tgt := 163) hx hb dX4_readPlain_158 (by decide) (fun c_290 => ?_) (fun c_290 => ?_)
                      ·
                        have n_290 : gNe (z284.toInt) (0) := by have z := g5_ne (a := z284.toInt) (b := 0) (by rfl) (by decide) c_290; unfold gNe; omega
                        have i_290 : z284.toInt ≥ 1 := by have z := g5_ne (a := z284.toInt) (b := 0) (by rfl) (by decide) c_290; omega
                        refine lv_aload_n hx hb dX4_readPlain_163 rfl (lv_at hl 2 rfl) ?_
                        refine lv_iload_n hx hb dX4_readPlain_164 rfl (lv_at hl 0 rfl) ?_
                        refine lv_iconst (v := 0) hx hb dX4_readPlain_165 (by decide) ?_
                        obtain ⟨hPc, hDc, hFc⟩ := g5_sub3 (wc := [(a_r, (oc4 a_tk a_rh a_rs a_rc z285 z286 z287 e_fp)), (a_rc, (arI G 400 z288))]) hP hD hS hA [0, 4] (by decide) rfl
                        refine va_calli (va_runV (As := [.int 7, .int 0]) (rest := []) ⟨hx, hb, hml, hown, hts⟩ (r_emit l G a_r a_rc a_tk a_rh a_rs H.size z285 z286 z287 e_fp 7 0 z288 ⟨by omega, by omega⟩ i_281 i_280 (i_282) (by unfold wOK; decide)) (cwV 2 hts gV_X4_79 rfl rfl rfl hv_X4_emit ⟨by simp only [headSpec]; omega, by simp only [headSpec]; omega⟩) (g5_preV hPc hK hDc hN hT hS hFc (ci := 4) (q0 := 0) rfl rfl) rfl rfl hl.1 rfl (lv_room (Nat.le_of_ble_eq_true rfl)) dX4_readPlain_166 ⟨Nat.le_of_ble_eq_true rfl, Nat.le_of_ble_eq_true rfl⟩) hS (fun q _ h => hFc q h) hFc (fun r u t H1 locs ht hvm hw hB hz1 hk1 hS => ?_)
                        obtain ⟨hP1, hD1⟩ := hB
                        rw [ht] at hP1
                        obtain ⟨z296, z297, z298, i_291, i_292, i_293, i_294, i_295, y299, rfl⟩ := hw
                        have i_291 : -1 ≤ z296.toInt ∧ z296.toInt ≤ 399 := i_291
                        have i_292 : z285.toInt ≤ z297.toInt ∧ z297.toInt ≤ 400 := i_292
                        have i_293 : CDI z298 z297.toInt := i_293
                        have i_294 : OPK z288 z298 z285.toInt := i_294
                        have i_295 : 0 ≤ z296.toInt → z296.toInt < z297.toInt ∧ z298 z296.toNatClampNeg = (((7 : Int32) <<< (12 &&& 31)) ||| (0 : Int32)) := i_295
                        obtain ⟨hP, hD⟩ := va_join (wr := [(a_tk, (oc8 a_kd a_nm a_pl)), (a_kd, (arI G 401 f_kd)), (a_nm, (arI G 401 f_nm))]) hP hD [0, 4] [1, 2, 3] rfl rfl (by decide) (by decide) hk1 hFc hP1 hD1
                        generalize H1 = H at hP hS ⊢
                        refine g5_rs [(a_tk, (oc8 a_kd a_nm a_pl)), (a_kd, (arI G 401 f_kd)), (a_nm, (arI G 401 f_nm)), (a_r, (oc4 a_tk a_rh a_rs a_rc z297 z286 z287 e_fp)), (a_rc, (arI G 400 z298))] hP hD (fun hP hD => ?_)
                        refine g5_ti (v := z296) y299 ?_
                        refine lv_pop hx hb dX4_readPlain_169 rfl ?_
                        refine lv_iload_n hx hb dX4_readPlain_170 rfl (lv_at hl 1 rfl) ?_
                        refine lv_if_eq (tgt := 182) hx hb dX4_readPlain_171 (by decide) (fun c_300 => ?_) (fun c_300 => ?_)
                        ·
                          have i_300 : k_u.toInt = 0 := by have z := g5_eq (a := k_u.toInt) (b := 0) (by rfl) (by decide) c_300; omega
                          refine lv_iconst (v := 1) hx hb dX4_readPlain_182 (by decide) ?_
                          exact W.zret (v := 1) hx hb hr rfl (fun t ht hW => ⟨⟨1, [(a_r, (oc4 a_tk a_rh a_rs a_rc z297 z286 z287 e_fp)), (a_tk, (oc8 a_kd a_nm a_pl)), (a_kd, (arI G 401 f_kd)), (a_nm, (arI G 401 f_nm)), (a_rc, (arI G 400 z298))], rfl, ⟨1, z297, z286, z287, z298, ⟨by have zc_o_r : (1 : Int32).toInt = 1 := (by decide); omega, by have zc_o_r : (1 : Int32).toInt = 1 := (by decide); omega⟩, ⟨by omega, by omega⟩, i_280, i_281, i_293, opk_trans i_227 (opk_trans i_283 (i_294) (by omega)) (by omega), rfl, rfl⟩, by rw [ht]; exact hP.sub [3, 0, 1, 2, 4] rfl, hD.sub [3, 0, 1, 2, 4] (by decide) rfl⟩, hS.F ht⟩) hS.2.2 dX4_readPlain_183
                        ·
                          have n_300 : gNe (k_u.toInt) (0) := by have z := g5_eqN (a := k_u.toInt) (b := 0) (by rfl) (by decide) c_300; unfold gNe; omega
                          have i_300 : k_u.toInt ≥ 1 := by have z := g5_eqN (a := k_u.toInt) (b := 0) (by rfl) (by decide) c_300; omega
                          refine lv_aload_n hx hb dX4_readPlain_174 rfl (lv_at hl 2 rfl) ?_
                          refine lv_bipush (v := 9) hx hb dX4_readPlain_175 (by decide) ?_
                          refine lv_iconst (v := 0) hx hb dX4_readPlain_177 (by decide) ?_
                          obtain ⟨hPc, hDc, hFc⟩ := g5_sub3 (wc := [(a_r, (oc4 a_tk a_rh a_rs a_rc z297 z286 z287 e_fp)), (a_rc, (arI G 400 z298))]) hP hD hS hA [3, 4] (by decide) rfl
                          refine va_calli (va_runV (As := [.int 9, .int 0]) (rest := []) ⟨hx, hb, hml, hown, hts⟩ (r_emit l G a_r a_rc a_tk a_rh a_rs H.size z297 z286 z287 e_fp 9 0 z298 ⟨by omega, by omega⟩ i_281 i_280 (i_293) (by unfold wOK; decide)) (cwV 2 hts gV_X4_79 rfl rfl rfl hv_X4_emit ⟨by simp only [headSpec]; omega, by simp only [headSpec]; omega⟩) (g5_preV hPc hK hDc hN hT hS hFc (ci := 4) (q0 := 0) rfl rfl) rfl rfl hl.1 rfl (lv_room (Nat.le_of_ble_eq_true rfl)) dX4_readPlain_178 ⟨Nat.le_of_ble_eq_true rfl, Nat.le_of_ble_eq_true rfl⟩) hS (fun q _ h => hFc q h) hFc (fun r u t H1 locs ht hvm hw hB hz1 hk1 hS => ?_)
                          obtain ⟨hP1, hD1⟩ := hB
                          rw [ht] at hP1
                          obtain ⟨z306, z307, z308, i_301, i_302, i_303, i_304, i_305, y309, rfl⟩ := hw
                          have i_301 : -1 ≤ z306.toInt ∧ z306.toInt ≤ 399 := i_301
                          have i_302 : z297.toInt ≤ z307.toInt ∧ z307.toInt ≤ 400 := i_302
                          have i_303 : CDI z308 z307.toInt := i_303
                          have i_304 : OPK z298 z308 z297.toInt := i_304
                          have i_305 : 0 ≤ z306.toInt → z306.toInt < z307.toInt ∧ z308 z306.toNatClampNeg = (((9 : Int32) <<< (12 &&& 31)) ||| (0 : Int32)) := i_305
                          obtain ⟨hP, hD⟩ := va_join (wr := [(a_tk, (oc8 a_kd a_nm a_pl)), (a_kd, (arI G 401 f_kd)), (a_nm, (arI G 401 f_nm))]) hP hD [3, 4] [0, 1, 2] rfl rfl (by decide) (by decide) hk1 hFc hP1 hD1
                          generalize H1 = H at hP hS ⊢
                          refine g5_rs [(a_tk, (oc8 a_kd a_nm a_pl)), (a_kd, (arI G 401 f_kd)), (a_nm, (arI G 401 f_nm)), (a_r, (oc4 a_tk a_rh a_rs a_rc z307 z286 z287 e_fp)), (a_rc, (arI G 400 z308))] hP hD (fun hP hD => ?_)
                          refine g5_ti (v := z306) y309 ?_
                          refine lv_pop hx hb dX4_readPlain_181 rfl ?_
                          refine lv_iconst (v := 1) hx hb dX4_readPlain_182 (by decide) ?_
                          exact W.zret (v := 1) hx hb hr rfl (fun t ht hW => ⟨⟨1, [(a_r, (oc4 a_tk a_rh a_rs a_rc z307 z286 z287 e_fp)), (a_tk, (oc8 a_kd a_nm a_pl)), (a_kd, (arI G 401 f_kd)), (a_nm, (arI G 401 f_nm)), (a_rc, (arI G 400 z308))], rfl, ⟨1, z307, z286, z287, z308, ⟨by have zc_o_r : (1 : Int32).toInt = 1 := (by decide); omega, by have zc_o_r : (1 : Int32).toInt = 1 := (by decide); omega⟩, ⟨by omega, by omega⟩, i_280, i_281, i_303, opk_trans i_227 (opk_trans i_283 (opk_trans i_294 (i_304) (by omega)) (by omega)) (by omega), rfl, rfl⟩, by rw [ht]; exact hP.sub [3, 0, 1, 2, 4] rfl, hD.sub [3, 0, 1, 2, 4] (by decide) rfl⟩, hS.F ht⟩) hS.2.2 dX4_readPlain_183
                      ·
                        have i_290 : z284.toInt = 0 := by have z := g5_neN (a := z284.toInt) (b := 0) (by rfl) (by decide) c_290; omega
                        refine lv_iconst (v := 0) hx hb dX4_readPlain_161 (by decide) ?_
                        exact W.zret (v := 0) hx hb hr rfl (fun t ht hW => ⟨⟨0, [(a_r, (oc4 a_tk a_rh a_rs a_rc z285 z286 z287 e_fp)), (a_tk, (oc8 a_kd a_nm a_pl)), (a_kd, (arI G 401 f_kd)), (a_nm, (arI G 401 f_nm)), (a_rc, (arI G 400 z288))], rfl, ⟨0, z285, z286, z287, z288, ⟨by have zc_o_r : (0 : Int32).toInt = 0 := (by decide); omega, by have zc_o_r : (0 : Int32).toInt = 0 := (by decide); omega⟩, ⟨by omega, by omega⟩, i_280, i_281, i_282, opk_trans i_227 (i_283) (by omega), rfl, rfl⟩, by rw [ht]; exact hP.sub [0, 1, 2, 3, 4] rfl, hD.sub [0, 1, 2, 3, 4] (by decide) rfl⟩, hS.F ht⟩) hS.2.2 dX4_readPlain_162
                    ·
                      exact absurd c_276 (by decide)
                ·
                  obtain ⟨hP, hD⟩ := va_join (wr := [(a_nm, (arI G 401 f_nm)), (a_rc, (arI G 400 z232))]) hP hD [2, 3, 4] [0, 1] rfl rfl (by decide) (by decide) hk1 hFc hP1 hD1
                  generalize H1 = H at hP hS ⊢
                  refine g5_rs [(a_nm, (arI G 401 f_nm)), (a_rc, (arI G 400 z232)), (a_r, (oc4 a_tk a_rh a_rs a_rc z229 z230 z231 e_fp)), (a_tk, (oc8 a_kd a_nm a_pl)), (a_kd, (arI G 401 f_kd))] hP hD (fun hP hD => ?_)
                  refine lv_if_eq (tgt := 120) hx hb dX4_readPlain_112 (by decide) (fun c_310 => ?_) (fun c_310 => ?_)
                  ·
                    refine lv_aload_n hx hb dX4_readPlain_120 rfl (lv_at hl 2 rfl) ?_
                    refine lv_bipush (v := 61) hx hb dX4_readPlain_121 (by decide) ?_
                    obtain ⟨hPc, hDc, hFc⟩ := g5_sub3 (wc := [(a_r, (oc4 a_tk a_rh a_rs a_rc z229 z230 z231 e_fp)), (a_tk, (oc8 a_kd a_nm a_pl)), (a_kd, (arI G 401 f_kd))]) hP hD hS hA [2, 3, 4] (by decide) rfl
                    refine va_calli (va_runV (As := [.int 61]) (rest := []) ⟨hx, hb, hml, hown, hts⟩ (r_isNext l G a_r a_tk a_kd a_rh a_rs a_rc a_nm a_pl H.size z229 z230 z231 e_fp 61 f_kd ⟨by omega, by omega⟩ i_225 i_224) (cwV 1 hts gV_X4_49 rfl rfl rfl hv_X4_isNext ⟨by simp only [headSpec]; omega, by simp only [headSpec]; omega⟩) (g5_preV hPc hK hDc hN hT hS hFc (ci := 4) (q0 := 0) rfl rfl) rfl rfl hl.1 rfl (lv_room (Nat.le_of_ble_eq_true rfl)) dX4_readPlain_123 ⟨Nat.le_of_ble_eq_true rfl, Nat.le_of_ble_eq_true rfl⟩) hS (fun q _ h => hFc q h) hFc (fun r u t H1 locs ht hvm hw hB hz1 hk1 hS => ?_)
                    obtain ⟨hP1, hD1⟩ := hB
                    rw [ht] at hP1
                    rcases hw with ⟨i_311, i_312, rfl, rfl⟩ | ⟨rfl, rfl⟩
                    ·
                      have i_311 : z231.toInt ≤ 400 := i_311
                      have i_312 : f_kd z231.toNatClampNeg = (61 : Int32) := i_312
                      obtain ⟨hP, hD⟩ := va_join (wr := [(a_nm, (arI G 401 f_nm)), (a_rc, (arI G 400 z232))]) hP hD [2, 3, 4] [0, 1] rfl rfl (by decide) (by decide) hk1 hFc hP1 hD1
                      generalize H1 = H at hP hS ⊢
                      refine g5_rs [(a_nm, (arI G 401 f_nm)), (a_rc, (arI G 400 z232)), (a_r, (oc4 a_tk a_rh a_rs a_rc z229 z230 z231 e_fp)), (a_tk, (oc8 a_kd a_nm a_pl)), (a_kd, (arI G 401 f_kd))] hP hD (fun hP hD => ?_)
                      refine lv_if_eq (tgt := 134) hx hb dX4_readPlain_126 (by decide) (fun c_313 => ?_) (fun c_313 => ?_)
                      ·
                        exact absurd c_313 (by decide)
                      ·
                        refine lv_bipush (v := 8) hx hb dX4_readPlain_129 (by decide) ?_
                        refine lv_goto (tgt := 135) hx hb dX4_readPlain_131 (by decide) ?_
                        refine lv_istore_n (lv' := [(3, .int 8), (2, .int k_u), (0, .ref a_r), (1, .int p_d)]) hx hb dX4_readPlain_135 rfl hl (by decide) rfl (fun ls hl => ?_)
                        refine lv_iload_n hx hb dX4_readPlain_136 rfl (lv_at hl 0 rfl) ?_
                        refine lv_iconst (v := (-1)) hx hb dX4_readPlain_137 (by decide) ?_
                        refine lv_icmp_ne (tgt := 143) hx hb dX4_readPlain_138 (by decide) (fun c_314 => ?_) (fun c_314 => ?_)
                        ·
                          refine lv_aload_n hx hb dX4_readPlain_143 rfl (lv_at hl 2 rfl) ?_
                          refine lv_dup hx hb dX4_readPlain_144 rfl ?_
                          refine va_get (D := G.1) (ci := 4) (v := .int z231) (C := RX4) (T := TX4) (N := 8) hx hb hts inG_X4 hown hK hP 2 rfl rfl 6 (by decide) (hts _ fl_X4_42) (fun _ h9 => h9) rfl dX4_readPlain_145 ?_
                          refine lv_iconst (v := 1) hx hb dX4_readPlain_148 (by decide) ?_
                          refine lv_iadd hx hb dX4_readPlain_149 ?_
                          have t_315 : (z231 + 1).toInt = z231.toInt + 1 := g5_iadd (a := z231.toInt) (b := 1) (by rfl) (by decide) (by omega) (by omega)
                          refine va_put (D := G.1) (ci := 4) (v := .int (z231 + 1)) (ty := .int) (C := RX4) (T := TX4) (N := 8) hx hb hts inG_X4 tyX4 tyX4_ok nmX4 hown hK hP hD hS 2 rfl rfl 6 (by decide) (hts _ fl_X4_42) (fun _ h9 => h9) rfl (by decide +kernel) rfl rfl (Nat.le_of_ble_eq_true rfl) dX4_readPlain_150 (fun H locs hP hD hS => ?_)
                          refine g5_rs [(a_nm, (arI G 401 f_nm)), (a_rc, (arI G 400 z232)), (a_r, (oc4 a_tk a_rh a_rs a_rc z229 z230 (z231 + 1) e_fp)), (a_tk, (oc8 a_kd a_nm a_pl)), (a_kd, (arI G 401 f_kd))] hP hD (fun hP hD => ?_)
                          refine lv_aload_n hx hb dX4_readPlain_153 rfl (lv_at hl 2 rfl) ?_
                          refine lv_iload_n hx hb dX4_readPlain_154 rfl (lv_at hl 3 rfl) ?_
                          obtain ⟨hPc, hDc, hFc⟩ := g5_sub3 (wc := [(a_r, (oc4 a_tk a_rh a_rs a_rc z229 z230 (z231 + 1) e_fp)), (a_tk, (oc8 a_kd a_nm a_pl)), (a_kd, (arI G 401 f_kd)), (a_nm, (arI G 401 f_nm)), (a_rc, (arI G 400 z232))]) hP hD hS hA [2, 3, 4, 0, 1] (by decide) rfl
                          refine va_calli (va_runV (As := [.int p_d]) (rest := []) ⟨hx, hb, hml, hown, hts⟩ ((r_sum fr lo p_d h_p_d h_sum) l G a_r a_tk a_kd a_nm a_rc a_rh a_rs a_pl H.size z229 z230 (z231 + 1) e_fp f_kd f_nm z232 ⟨by omega, by omega⟩ i_225 ⟨by omega, by omega⟩ (e_tk) (i_226)) (cwV 1 hts gV_X4_73 rfl rfl rfl hv_X4_readSum ⟨by simp only [headSpec]; omega, by simp only [headSpec]; omega⟩) (g5_preV hPc hK hDc hN hT hS hFc (ci := 4) (q0 := 0) rfl rfl) rfl rfl hl.1 rfl (lv_room (Nat.le_of_ble_eq_true rfl)) dX4_readPlain_155 ⟨Nat.le_of_ble_eq_true rfl, Nat.le_of_ble_eq_true rfl⟩) hS (fun q _ h => hFc q h) hFc (fun r u t H1 locs ht hvm hw hB hz1 hk1 hS => ?_)
                          obtain ⟨hP1, hD1⟩ := hB
                          rw [ht] at hP1
                          obtain ⟨z322, z323, z324, z325, z326, i_316, i_317, i_318, i_319, i_320, i_321, y327, rfl⟩ := hw
                          have i_316 : 0 ≤ z322.toInt ∧ z322.toInt ≤ 1 := i_316
                          have i_317 : z229.toInt ≤ z323.toInt ∧ z323.toInt ≤ 400 := i_317
                          have i_318 : 0 ≤ z325.toInt ∧ z325.toInt ≤ 401 := i_318
                          have i_319 : 0 ≤ z324.toInt ∧ z324.toInt ≤ 50 := i_319
                          have i_320 : CDI z326 z323.toInt := i_320
                          have i_321 : OPK z232 z326 z229.toInt := i_321
                          obtain ⟨hP, hD⟩ := va_join (wr := []) hP hD [2, 3, 4, 0, 1] [] rfl rfl (by decide) (by decide) hk1 hFc hP1 hD1
                          generalize H1 = H at hP hS ⊢
                          refine g5_rs [(a_r, (oc4 a_tk a_rh a_rs a_rc z323 z324 z325 e_fp)), (a_tk, (oc8 a_kd a_nm a_pl)), (a_kd, (arI G 401 f_kd)), (a_nm, (arI G 401 f_nm)), (a_rc, (arI G 400 z326))] hP hD (fun hP hD => ?_)
                          refine g5_ti (v := z322) y327 ?_
                          refine lv_if_ne (tgt := 163) hx hb dX4_readPlain_158 (by decide) (fun c_328 => ?_) (fun c_328 => ?_)
                          ·
                            have n_328 : gNe (z322.toInt) (0) := by have z := g5_ne (a := z322.toInt) (b := 0) (by rfl) (by decide) c_328; unfold gNe; omega
                            have i_328 : z322.toInt ≥ 1 := by have z := g5_ne (a := z322.toInt) (b := 0) (by rfl) (by decide) c_328; omega
                            refine lv_aload_n hx hb dX4_readPlain_163 rfl (lv_at hl 2 rfl) ?_
                            refine lv_iload_n hx hb dX4_readPlain_164 rfl (lv_at hl 0 rfl) ?_
                            refine lv_iconst (v := 0) hx hb dX4_readPlain_165 (by decide) ?_
                            obtain ⟨hPc, hDc, hFc⟩ := g5_sub3 (wc := [(a_r, (oc4 a_tk a_rh a_rs a_rc z323 z324 z325 e_fp)), (a_rc, (arI G 400 z326))]) hP hD hS hA [0, 4] (by decide) rfl
                            refine va_calli (va_runV (As := [.int 8, .int 0]) (rest := []) ⟨hx, hb, hml, hown, hts⟩ (r_emit l G a_r a_rc a_tk a_rh a_rs H.size z323 z324 z325 e_fp 8 0 z326 ⟨by omega, by omega⟩ i_319 i_318 (i_320) (by unfold wOK; decide)) (cwV 2 hts gV_X4_79 rfl rfl rfl hv_X4_emit ⟨by simp only [headSpec]; omega, by simp only [headSpec]; omega⟩) (g5_preV hPc hK hDc hN hT hS hFc (ci := 4) (q0 := 0) rfl rfl) rfl rfl hl.1 rfl (lv_room (Nat.le_of_ble_eq_true rfl)) dX4_readPlain_166 ⟨Nat.le_of_ble_eq_true rfl, Nat.le_of_ble_eq_true rfl⟩) hS (fun q _ h => hFc q h) hFc (fun r u t H1 locs ht hvm hw hB hz1 hk1 hS => ?_)
                            obtain ⟨hP1, hD1⟩ := hB
                            rw [ht] at hP1
                            obtain ⟨z334, z335, z336, i_329, i_330, i_331, i_332, i_333, y337, rfl⟩ := hw
                            have i_329 : -1 ≤ z334.toInt ∧ z334.toInt ≤ 399 := i_329
                            have i_330 : z323.toInt ≤ z335.toInt ∧ z335.toInt ≤ 400 := i_330
                            have i_331 : CDI z336 z335.toInt := i_331
                            have i_332 : OPK z326 z336 z323.toInt := i_332
                            have i_333 : 0 ≤ z334.toInt → z334.toInt < z335.toInt ∧ z336 z334.toNatClampNeg = (((8 : Int32) <<< (12 &&& 31)) ||| (0 : Int32)) := i_333
                            obtain ⟨hP, hD⟩ := va_join (wr := [(a_tk, (oc8 a_kd a_nm a_pl)), (a_kd, (arI G 401 f_kd)), (a_nm, (arI G 401 f_nm))]) hP hD [0, 4] [1, 2, 3] rfl rfl (by decide) (by decide) hk1 hFc hP1 hD1
                            generalize H1 = H at hP hS ⊢
                            refine g5_rs [(a_tk, (oc8 a_kd a_nm a_pl)), (a_kd, (arI G 401 f_kd)), (a_nm, (arI G 401 f_nm)), (a_r, (oc4 a_tk a_rh a_rs a_rc z335 z324 z325 e_fp)), (a_rc, (arI G 400 z336))] hP hD (fun hP hD => ?_)
                            refine g5_ti (v := z334) y337 ?_
                            refine lv_pop hx hb dX4_readPlain_169 rfl ?_
                            refine lv_iload_n hx hb dX4_readPlain_170 rfl (lv_at hl 1 rfl) ?_
                            refine lv_if_eq (tgt := 182) hx hb dX4_readPlain_171 (by decide) (fun c_338 => ?_) (fun c_338 => ?_)
                            ·
                              have i_338 : k_u.toInt = 0 := by have z := g5_eq (a := k_u.toInt) (b := 0) (by rfl) (by decide) c_338; omega
                              refine lv_iconst (v := 1) hx hb dX4_readPlain_182 (by decide) ?_
                              exact W.zret (v := 1) hx hb hr rfl (fun t ht hW => ⟨⟨1, [(a_r, (oc4 a_tk a_rh a_rs a_rc z335 z324 z325 e_fp)), (a_tk, (oc8 a_kd a_nm a_pl)), (a_kd, (arI G 401 f_kd)), (a_nm, (arI G 401 f_nm)), (a_rc, (arI G 400 z336))], rfl, ⟨1, z335, z324, z325, z336, ⟨by have zc_o_r : (1 : Int32).toInt = 1 := (by decide); omega, by have zc_o_r : (1 : Int32).toInt = 1 := (by decide); omega⟩, ⟨by omega, by omega⟩, i_318, i_319, i_331, opk_trans i_227 (opk_trans i_321 (i_332) (by omega)) (by omega), rfl, rfl⟩, by rw [ht]; exact hP.sub [3, 0, 1, 2, 4] rfl, hD.sub [3, 0, 1, 2, 4] (by decide) rfl⟩, hS.F ht⟩) hS.2.2 dX4_readPlain_183
                            ·
                              have n_338 : gNe (k_u.toInt) (0) := by have z := g5_eqN (a := k_u.toInt) (b := 0) (by rfl) (by decide) c_338; unfold gNe; omega
                              have i_338 : k_u.toInt ≥ 1 := by have z := g5_eqN (a := k_u.toInt) (b := 0) (by rfl) (by decide) c_338; omega
                              refine lv_aload_n hx hb dX4_readPlain_174 rfl (lv_at hl 2 rfl) ?_
                              refine lv_bipush (v := 9) hx hb dX4_readPlain_175 (by decide) ?_
                              refine lv_iconst (v := 0) hx hb dX4_readPlain_177 (by decide) ?_
                              obtain ⟨hPc, hDc, hFc⟩ := g5_sub3 (wc := [(a_r, (oc4 a_tk a_rh a_rs a_rc z335 z324 z325 e_fp)), (a_rc, (arI G 400 z336))]) hP hD hS hA [3, 4] (by decide) rfl
                              refine va_calli (va_runV (As := [.int 9, .int 0]) (rest := []) ⟨hx, hb, hml, hown, hts⟩ (r_emit l G a_r a_rc a_tk a_rh a_rs H.size z335 z324 z325 e_fp 9 0 z336 ⟨by omega, by omega⟩ i_319 i_318 (i_331) (by unfold wOK; decide)) (cwV 2 hts gV_X4_79 rfl rfl rfl hv_X4_emit ⟨by simp only [headSpec]; omega, by simp only [headSpec]; omega⟩) (g5_preV hPc hK hDc hN hT hS hFc (ci := 4) (q0 := 0) rfl rfl) rfl rfl hl.1 rfl (lv_room (Nat.le_of_ble_eq_true rfl)) dX4_readPlain_178 ⟨Nat.le_of_ble_eq_true rfl, Nat.le_of_ble_eq_true rfl⟩) hS (fun q _ h => hFc q h) hFc (fun r u t H1 locs ht hvm hw hB hz1 hk1 hS => ?_)
                              obtain ⟨hP1, hD1⟩ := hB
                              rw [ht] at hP1
                              obtain ⟨z344, z345, z346, i_339, i_340, i_341, i_342, i_343, y347, rfl⟩ := hw
                              have i_339 : -1 ≤ z344.toInt ∧ z344.toInt ≤ 399 := i_339
                              have i_340 : z335.toInt ≤ z345.toInt ∧ z345.toInt ≤ 400 := i_340
                              have i_341 : CDI z346 z345.toInt := i_341
                              have i_342 : OPK z336 z346 z335.toInt := i_342
                              have i_343 : 0 ≤ z344.toInt → z344.toInt < z345.toInt ∧ z346 z344.toNatClampNeg = (((9 : Int32) <<< (12 &&& 31)) ||| (0 : Int32)) := i_343
                              obtain ⟨hP, hD⟩ := va_join (wr := [(a_tk, (oc8 a_kd a_nm a_pl)), (a_kd, (arI G 401 f_kd)), (a_nm, (arI G 401 f_nm))]) hP hD [3, 4] [0, 1, 2] rfl rfl (by decide) (by decide) hk1 hFc hP1 hD1
                              generalize H1 = H at hP hS ⊢
                              refine g5_rs [(a_tk, (oc8 a_kd a_nm a_pl)), (a_kd, (arI G 401 f_kd)), (a_nm, (arI G 401 f_nm)), (a_r, (oc4 a_tk a_rh a_rs a_rc z345 z324 z325 e_fp)), (a_rc, (arI G 400 z346))] hP hD (fun hP hD => ?_)
                              refine g5_ti (v := z344) y347 ?_
                              refine lv_pop hx hb dX4_readPlain_181 rfl ?_
                              refine lv_iconst (v := 1) hx hb dX4_readPlain_182 (by decide) ?_
                              exact W.zret (v := 1) hx hb hr rfl (fun t ht hW => ⟨⟨1, [(a_r, (oc4 a_tk a_rh a_rs a_rc z345 z324 z325 e_fp)), (a_tk, (oc8 a_kd a_nm a_pl)), (a_kd, (arI G 401 f_kd)), (a_nm, (arI G 401 f_nm)), (a_rc, (arI G 400 z346))], rfl, ⟨1, z345, z324, z325, z346, ⟨by have zc_o_r : (1 : Int32).toInt = 1 := (by decide); omega, by have zc_o_r : (1 : Int32).toInt = 1 := (by decide); omega⟩, ⟨by omega, by omega⟩, i_318, i_319, i_341, opk_trans i_227 (opk_trans i_321 (opk_trans i_332 (i_342) (by omega)) (by omega)) (by omega), rfl, rfl⟩, by rw [ht]; exact hP.sub [3, 0, 1, 2, 4] rfl, hD.sub [3, 0, 1, 2, 4] (by decide) rfl⟩, hS.F ht⟩) hS.2.2 dX4_readPlain_183
                          ·
                            have i_328 : z322.toInt = 0 := by have z := g5_neN (a := z322.toInt) (b := 0) (by rfl) (by decide) c_328; omega
                            refine lv_iconst (v := 0) hx hb dX4_readPlain_161 (by decide) ?_
                            exact W.zret (v := 0) hx hb hr rfl (fun t ht hW => ⟨⟨0, [(a_r, (oc4 a_tk a_rh a_rs a_rc z323 z324 z325 e_fp)), (a_tk, (oc8 a_kd a_nm a_pl)), (a_kd, (arI G 401 f_kd)), (a_nm, (arI G 401 f_nm)), (a_rc, (arI G 400 z326))], rfl, ⟨0, z323, z324, z325, z326, ⟨by have zc_o_r : (0 : Int32).toInt = 0 := (by decide); omega, by have zc_o_r : (0 : Int32).toInt = 0 := (by decide); omega⟩, ⟨by omega, by omega⟩, i_318, i_319, i_320, opk_trans i_227 (i_321) (by omega), rfl, rfl⟩, by rw [ht]; exact hP.sub [0, 1, 2, 3, 4] rfl, hD.sub [0, 1, 2, 3, 4] (by decide) rfl⟩, hS.F ht⟩) hS.2.2 dX4_readPlain_162
                        ·
                          exact absurd c_314 (by decide)
                    ·
                      obtain ⟨hP, hD⟩ := va_join (wr := [(a_nm, (arI G 401 f_nm)), (a_rc, (arI G 400 z232))]) hP hD [2, 3, 4] [0, 1] rfl rfl (by decide) (by decide) hk1 hFc hP1 hD1
                      generalize H1 = H at hP hS ⊢
                      refine g5_rs [(a_nm, (arI G 401 f_nm)), (a_rc, (arI G 400 z232)), (a_r, (oc4 a_tk a_rh a_rs a_rc z229 z230 z231 e_fp)), (a_tk, (oc8 a_kd a_nm a_pl)), (a_kd, (arI G 401 f_kd))] hP hD (fun hP hD => ?_)
                      refine lv_if_eq (tgt := 134) hx hb dX4_readPlain_126 (by decide) (fun c_348 => ?_) (fun c_348 => ?_)
                      ·
                        refine lv_iconst (v := (-1)) hx hb dX4_readPlain_134 (by decide) ?_
                        refine lv_istore_n (lv' := [(3, .int (-1)), (2, .int k_u), (0, .ref a_r), (1, .int p_d)]) hx hb dX4_readPlain_135 rfl hl (by decide) rfl (fun ls hl => ?_)
                        refine lv_iload_n hx hb dX4_readPlain_136 rfl (lv_at hl 0 rfl) ?_
                        refine lv_iconst (v := (-1)) hx hb dX4_readPlain_137 (by decide) ?_
                        refine lv_icmp_ne (tgt := 143) hx hb dX4_readPlain_138 (by decide) (fun c_349 => ?_) (fun c_349 => ?_)
                        ·
                          exact absurd c_349 (by decide)
                        ·
                          refine lv_iconst (v := 0) hx hb dX4_readPlain_141 (by decide) ?_
                          exact W.zret (v := 0) hx hb hr rfl (fun t ht hW => ⟨⟨0, [(a_r, (oc4 a_tk a_rh a_rs a_rc z229 z230 z231 e_fp)), (a_tk, (oc8 a_kd a_nm a_pl)), (a_kd, (arI G 401 f_kd)), (a_nm, (arI G 401 f_nm)), (a_rc, (arI G 400 z232))], rfl, ⟨0, z229, z230, z231, z232, ⟨by have zc_o_r : (0 : Int32).toInt = 0 := (by decide); omega, by have zc_o_r : (0 : Int32).toInt = 0 := (by decide); omega⟩, ⟨by omega, by omega⟩, i_224, i_225, i_226, i_227, rfl, rfl⟩, by rw [ht]; exact hP.sub [2, 3, 4, 0, 1] rfl, hD.sub [2, 3, 4, 0, 1] (by decide) rfl⟩, hS.F ht⟩) hS.2.2 dX4_readPlain_142
                      ·
                        exact absurd c_348 (by decide)
                  ·
                    exact absurd c_310 (by decide)
              ·
                exact absurd c_272 (by decide)
          ·
            have i_234 : z228.toInt = 0 := by have z := g5_neN (a := z228.toInt) (b := 0) (by rfl) (by decide) c_234; omega
            refine lv_iconst (v := 0) hx hb dX4_readPlain_90 (by decide) ?_
            exact W.zret (v := 0) hx hb hr rfl (fun t ht hW => ⟨⟨0, [(a_r, (oc4 a_tk a_rh a_rs a_rc z229 z230 z231 e_fp)), (a_tk, (oc8 a_kd a_nm a_pl)), (a_kd, (arI G 401 f_kd)), (a_nm, (arI G 401 f_nm)), (a_rc, (arI G 400 z232))], rfl, ⟨0, z229, z230, z231, z232, ⟨by have zc_o_r : (0 : Int32).toInt = 0 := (by decide); omega, by have zc_o_r : (0 : Int32).toInt = 0 := (by decide); omega⟩, ⟨by omega, by omega⟩, i_224, i_225, i_226, i_227, rfl, rfl⟩, by rw [ht]; exact hP.sub [0, 1, 2, 3, 4] rfl, hD.sub [0, 1, 2, 3, 4] (by decide) rfl⟩, hS.F ht⟩) hS.2.2 dX4_readPlain_91
        ·
          exact absurd c_221 (by decide)
    ·
      have n_180 : gNe (z177.toInt) (0) := by have z := g5_eqN (a := z177.toInt) (b := 0) (by rfl) (by decide) c_180; unfold gNe; omega
      have i_180 : z177.toInt ≥ 1 := by have z := g5_eqN (a := z177.toInt) (b := 0) (by rfl) (by decide) c_180; omega
      refine lv_iload_n hx hb dX4_readPlain_21 rfl (lv_at hl 0 rfl) ?_
      refine lv_if_ne (tgt := 29) hx hb dX4_readPlain_22 (by decide) (fun c_350 => ?_) (fun c_350 => ?_)
      ·
        have n_350 : gNe (k_u.toInt) (0) := by have z := g5_ne (a := k_u.toInt) (b := 0) (by rfl) (by decide) c_350; unfold gNe; omega
        have i_350 : k_u.toInt ≥ 1 := by have z := g5_ne (a := k_u.toInt) (b := 0) (by rfl) (by decide) c_350; omega
        refine lv_iconst (v := 0) hx hb dX4_readPlain_29 (by decide) ?_
        refine lv_istore_n (lv' := [(2, .int 0), (3, .int k_i), (0, .ref a_r), (1, .int p_d)]) hx hb dX4_readPlain_30 rfl hl (by decide) rfl (fun ls hl => ?_)
        refine lv_iinc (v := (k_i + 1)) (lv' := [(3, .int (k_i + 1)), (2, .int 0), (0, .ref a_r), (1, .int p_d)]) hx hb dX4_readPlain_31 hl (k := 1) rfl rfl (by decide) rfl (fun ls hl => ?_)
        have t_351 : (k_i + 1).toInt = k_i.toInt + 1 := g5_iadd (a := k_i.toInt) (b := 1) rfl (by decide) (by omega) (by omega)
        refine lv_goto (tgt := 4) hx hb dX4_readPlain_34 (by decide) ?_
        exact ih_4_4 (0, (k_i + 1), z178) ls H locs (show Int.toNat (400 - (k_i + 1).toInt) < Int.toNat (400 - k_i.toInt) from g_up (show k_i.toInt < (k_i + 1).toInt by omega) (show k_i.toInt < 400 by omega)) ⟨lv_sub hl [1, 0, 2, 3] rfl, hP.sub [2, 3, 4, 0, 1] rfl, hD.sub [2, 3, 4, 0, 1] (by decide) rfl, hS, ⟨by decide, by decide⟩, ⟨by omega, by omega⟩, i_176⟩
      ·
        have i_350 : k_u.toInt = 0 := by have z := g5_neN (a := k_u.toInt) (b := 0) (by rfl) (by decide) c_350; omega
        refine lv_iconst (v := 1) hx hb dX4_readPlain_25 (by decide) ?_
        refine lv_goto (tgt := 30) hx hb dX4_readPlain_26 (by decide) ?_
        refine lv_istore_n (lv' := [(2, .int 1), (3, .int k_i), (0, .ref a_r), (1, .int p_d)]) hx hb dX4_readPlain_30 rfl hl (by decide) rfl (fun ls hl => ?_)
        refine lv_iinc (v := (k_i + 1)) (lv' := [(3, .int (k_i + 1)), (2, .int 1), (0, .ref a_r), (1, .int p_d)]) hx hb dX4_readPlain_31 hl (k := 1) rfl rfl (by decide) rfl (fun ls hl => ?_)
        have t_352 : (k_i + 1).toInt = k_i.toInt + 1 := g5_iadd (a := k_i.toInt) (b := 1) rfl (by decide) (by omega) (by omega)
        refine lv_goto (tgt := 4) hx hb dX4_readPlain_34 (by decide) ?_
        exact ih_4_4 (1, (k_i + 1), z178) ls H locs (show Int.toNat (400 - (k_i + 1).toInt) < Int.toNat (400 - k_i.toInt) from g_up (show k_i.toInt < (k_i + 1).toInt by omega) (show k_i.toInt < 400 by omega)) ⟨lv_sub hl [1, 0, 2, 3] rfl, hP.sub [2, 3, 4, 0, 1] rfl, hD.sub [2, 3, 4, 0, 1] (by decide) rfl, hS, ⟨by decide, by decide⟩, ⟨by omega, by omega⟩, i_176⟩
