set_option maxHeartbeats 4000000 in
set_option maxRecDepth 100000 in
theorem r_plain (fr lo f2 l2 : Nat) (p_d : Int32) (h_p_d : 0 ≤ p_d.toInt ∧ p_d.toInt ≤ 8) (h_sum : ∀ x : Int32, x.toInt = p_d.toInt + 1 → p_d.toInt < 8 → ∀ (l : Launch) (G : g5_G) (a_r a_tk a_kd a_nm a_rc a_rh a_rs a_pl : Nat) (sz : Nat) (e_ln : Int32) (e_pa : Int32) (e_at : Int32) (e_fp : Int32) (f_kd : Nat → Int32) (f_nm : Nat → Int32) (f_rc : Nat → Int32) (h_e_ln : 0 ≤ e_ln.toInt ∧ e_ln.toInt ≤ 400) (h_e_at : 0 ≤ e_at.toInt ∧ e_at.toInt ≤ 401) (e_tk : TOKI f_kd f_nm) (e_cd : CDI f_rc e_ln.toInt), Met l yX4_readSum (wsG yX4_readSum cX4_readSum 6 (some .boolean)) ({ frames := fr + 0, cells := 0, slots := 0, locals := lo + 0 }) (va_Pc [.ref a_r, .int x] (g5_P G [(a_r, .inr (4, [.ref a_tk, .ref a_rh, .ref a_rs, .ref a_rc, .int e_ln, .int e_pa, .int e_at, .int e_fp])), (a_tk, .inr (8, [.ref a_kd, .ref a_nm, .ref a_pl])), (a_kd, .inl (G.2 0, 401, .inl f_kd)), (a_nm, .inl (G.2 0, 401, .inl f_nm)), (a_rc, .inl (G.2 0, 400, .inl f_rc))] sz)) (va_Qi (fun (r : Int32) (u : va_W) => (∃ (o_r : Int32) (o_ln : Int32) (o_pa : Int32) (o_at : Int32) (o_rc : Nat → Int32), (0 ≤ o_r.toInt ∧ o_r.toInt ≤ 1) ∧ (e_ln.toInt ≤ o_ln.toInt ∧ o_ln.toInt ≤ 400) ∧ (0 ≤ o_at.toInt ∧ o_at.toInt ≤ 401) ∧ (CDI o_rc o_ln.toInt) ∧ (OPK f_rc o_rc e_ln.toInt) ∧ (r = o_r) ∧ (u = [(a_r, .inr (4, [.ref a_tk, .ref a_rh, .ref a_rs, .ref a_rc, .int o_ln, .int o_pa, .int o_at, .int e_fp])), (a_tk, .inr (8, [.ref a_kd, .ref a_nm, .ref a_pl])), (a_kd, .inl (G.2 0, 401, .inl f_kd)), (a_nm, .inl (G.2 0, 401, .inl f_nm)), (a_rc, .inl (G.2 0, 400, .inl o_rc))]))) (g5_B G (va_A [(a_r, .inr (4, [.ref a_tk, .ref a_rh, .ref a_rs, .ref a_rc, .int e_ln, .int e_pa, .int e_at, .int e_fp])), (a_tk, .inr (8, [.ref a_kd, .ref a_nm, .ref a_pl])), (a_kd, .inl (G.2 0, 401, .inl f_kd)), (a_nm, .inl (G.2 0, 401, .inl f_nm)), (a_rc, .inl (G.2 0, 400, .inl f_rc))] sz)) (va_A [(a_r, .inr (4, [.ref a_tk, .ref a_rh, .ref a_rs, .ref a_rc, .int e_ln, .int e_pa, .int e_at, .int e_fp])), (a_tk, .inr (8, [.ref a_kd, .ref a_nm, .ref a_pl])), (a_kd, .inl (G.2 0, 401, .inl f_kd)), (a_nm, .inl (G.2 0, 401, .inl f_nm)), (a_rc, .inl (G.2 0, 400, .inl f_rc))] sz)) 0 0 (va_A [(a_r, .inr (4, [.ref a_tk, .ref a_rh, .ref a_rs, .ref a_rc, .int e_ln, .int e_pa, .int e_at, .int e_fp])), (a_tk, .inr (8, [.ref a_kd, .ref a_nm, .ref a_pl])), (a_kd, .inl (G.2 0, 401, .inl f_kd)), (a_nm, .inl (G.2 0, 401, .inl f_nm)), (a_rc, .inl (G.2 0, 400, .inl f_rc))] sz)) (h_test : ∀ x : Int32, x.toInt = p_d.toInt + 1 → p_d.toInt < 8 → ∀ (l : Launch) (G : g5_G) (a_r a_tk a_kd a_nm a_rc a_rh a_rs a_pl : Nat) (sz : Nat) (e_ln : Int32) (e_pa : Int32) (e_at : Int32) (e_fp : Int32) (f_kd : Nat → Int32) (f_nm : Nat → Int32) (f_rc : Nat → Int32) (h_e_ln : 0 ≤ e_ln.toInt ∧ e_ln.toInt ≤ 400) (h_e_at : 0 ≤ e_at.toInt ∧ e_at.toInt ≤ 401) (e_tk : TOKI f_kd f_nm) (e_cd : CDI f_rc e_ln.toInt), Met l yX4_readTest (wsG yX4_readTest cX4_readTest 6 (some .boolean)) ({ frames := f2 + 0, cells := 0, slots := 0, locals := l2 + 0 }) (va_Pc [.ref a_r, .int x] (g5_P G [(a_r, .inr (4, [.ref a_tk, .ref a_rh, .ref a_rs, .ref a_rc, .int e_ln, .int e_pa, .int e_at, .int e_fp])), (a_tk, .inr (8, [.ref a_kd, .ref a_nm, .ref a_pl])), (a_kd, .inl (G.2 0, 401, .inl f_kd)), (a_nm, .inl (G.2 0, 401, .inl f_nm)), (a_rc, .inl (G.2 0, 400, .inl f_rc))] sz)) (va_Qi (fun (r : Int32) (u : va_W) => (∃ (o_r : Int32) (o_ln : Int32) (o_pa : Int32) (o_at : Int32) (o_rc : Nat → Int32), (0 ≤ o_r.toInt ∧ o_r.toInt ≤ 1) ∧ (e_ln.toInt ≤ o_ln.toInt ∧ o_ln.toInt ≤ 400) ∧ (0 ≤ o_at.toInt ∧ o_at.toInt ≤ 401) ∧ (CDI o_rc o_ln.toInt) ∧ (OPK f_rc o_rc e_ln.toInt) ∧ (r = o_r) ∧ (u = [(a_r, .inr (4, [.ref a_tk, .ref a_rh, .ref a_rs, .ref a_rc, .int o_ln, .int o_pa, .int o_at, .int e_fp])), (a_tk, .inr (8, [.ref a_kd, .ref a_nm, .ref a_pl])), (a_kd, .inl (G.2 0, 401, .inl f_kd)), (a_nm, .inl (G.2 0, 401, .inl f_nm)), (a_rc, .inl (G.2 0, 400, .inl o_rc))]))) (g5_B G (va_A [(a_r, .inr (4, [.ref a_tk, .ref a_rh, .ref a_rs, .ref a_rc, .int e_ln, .int e_pa, .int e_at, .int e_fp])), (a_tk, .inr (8, [.ref a_kd, .ref a_nm, .ref a_pl])), (a_kd, .inl (G.2 0, 401, .inl f_kd)), (a_nm, .inl (G.2 0, 401, .inl f_nm)), (a_rc, .inl (G.2 0, 400, .inl f_rc))] sz)) (va_A [(a_r, .inr (4, [.ref a_tk, .ref a_rh, .ref a_rs, .ref a_rc, .int e_ln, .int e_pa, .int e_at, .int e_fp])), (a_tk, .inr (8, [.ref a_kd, .ref a_nm, .ref a_pl])), (a_kd, .inl (G.2 0, 401, .inl f_kd)), (a_nm, .inl (G.2 0, 401, .inl f_nm)), (a_rc, .inl (G.2 0, 400, .inl f_rc))] sz)) 0 0 (va_A [(a_r, .inr (4, [.ref a_tk, .ref a_rh, .ref a_rs, .ref a_rc, .int e_ln, .int e_pa, .int e_at, .int e_fp])), (a_tk, .inr (8, [.ref a_kd, .ref a_nm, .ref a_pl])), (a_kd, .inl (G.2 0, 401, .inl f_kd)), (a_nm, .inl (G.2 0, 401, .inl f_nm)), (a_rc, .inl (G.2 0, 400, .inl f_rc))] sz)) (l : Launch) (G : g5_G) (a_r a_tk a_kd a_nm a_rc a_rh a_rs a_pl : Nat) (sz : Nat) (e_ln : Int32) (e_pa : Int32) (e_at : Int32) (e_fp : Int32) (f_kd : Nat → Int32) (f_nm : Nat → Int32) (f_rc : Nat → Int32) (h_e_ln : 0 ≤ e_ln.toInt ∧ e_ln.toInt ≤ 400) (h_e_at : 0 ≤ e_at.toInt ∧ e_at.toInt ≤ 401) (e_tk : TOKI f_kd f_nm) (e_cd : CDI f_rc e_ln.toInt) : Met l yX4_readPlain (wsG yX4_readPlain cX4_readPlain 4 (some .boolean)) ({ frames := fr + f2 + 3, cells := 0, slots := 0, locals := lo + l2 + 73 }) (va_Pc [.ref a_r, .int p_d] (g5_P G [(a_r, .inr (4, [.ref a_tk, .ref a_rh, .ref a_rs, .ref a_rc, .int e_ln, .int e_pa, .int e_at, .int e_fp])), (a_tk, .inr (8, [.ref a_kd, .ref a_nm, .ref a_pl])), (a_kd, .inl (G.2 0, 401, .inl f_kd)), (a_nm, .inl (G.2 0, 401, .inl f_nm)), (a_rc, .inl (G.2 0, 400, .inl f_rc))] sz)) (va_Qi (fun (r : Int32) (u : va_W) => (∃ (o_r : Int32) (o_ln : Int32) (o_pa : Int32) (o_at : Int32) (o_rc : Nat → Int32), (0 ≤ o_r.toInt ∧ o_r.toInt ≤ 1) ∧ (e_ln.toInt ≤ o_ln.toInt ∧ o_ln.toInt ≤ 400) ∧ (0 ≤ o_at.toInt ∧ o_at.toInt ≤ 401) ∧ (CDI o_rc o_ln.toInt) ∧ (OPK f_rc o_rc e_ln.toInt) ∧ (r = o_r) ∧ (u = [(a_r, .inr (4, [.ref a_tk, .ref a_rh, .ref a_rs, .ref a_rc, .int o_ln, .int o_pa, .int o_at, .int e_fp])), (a_tk, .inr (8, [.ref a_kd, .ref a_nm, .ref a_pl])), (a_kd, .inl (G.2 0, 401, .inl f_kd)), (a_nm, .inl (G.2 0, 401, .inl f_nm)), (a_rc, .inl (G.2 0, 400, .inl o_rc))]))) (g5_B G (va_A [(a_r, .inr (4, [.ref a_tk, .ref a_rh, .ref a_rs, .ref a_rc, .int e_ln, .int e_pa, .int e_at, .int e_fp])), (a_tk, .inr (8, [.ref a_kd, .ref a_nm, .ref a_pl])), (a_kd, .inl (G.2 0, 401, .inl f_kd)), (a_nm, .inl (G.2 0, 401, .inl f_nm)), (a_rc, .inl (G.2 0, 400, .inl f_rc))] sz)) (va_A [(a_r, .inr (4, [.ref a_tk, .ref a_rh, .ref a_rs, .ref a_rc, .int e_ln, .int e_pa, .int e_at, .int e_fp])), (a_tk, .inr (8, [.ref a_kd, .ref a_nm, .ref a_pl])), (a_kd, .inl (G.2 0, 401, .inl f_kd)), (a_nm, .inl (G.2 0, 401, .inl f_nm)), (a_rc, .inl (G.2 0, 400, .inl f_rc))] sz)) 0 0 (va_A [(a_r, .inr (4, [.ref a_tk, .ref a_rh, .ref a_rs, .ref a_rc, .int e_ln, .int e_pa, .int e_at, .int e_fp])), (a_tk, .inr (8, [.ref a_kd, .ref a_nm, .ref a_pl])), (a_kd, .inl (G.2 0, 401, .inl f_kd)), (a_nm, .inl (G.2 0, 401, .inl f_nm)), (a_rc, .inl (G.2 0, 400, .inl f_rc))] sz) := by
  refine Met.ofW (cc := cX4_readPlain) (maxL := 4) (ret := (some .boolean)) (by decide) rfl ?_
  intro p e s m args below meth c s₁ B hml hv
  obtain ⟨rfl, hsz, hP, hK, hD0, hN, hT⟩ := hv
  have hx := B.exec
  have hb := B.bytes
  have hr := B.returns
  have hts : ∀ w ∈ tblG, w.before _ s = true := fun w h => atoms_spec (ws := (wsG yX4_readPlain cX4_readPlain 4 (some .boolean))) B.pre w (List.mem_cons_of_mem _ h)
  have hown : s.vm.findClass RX4 = some m.cls := findClass_of_methodNamed B.named
  have hlocks := B.notSynchronized
  subst hsz
  have hD := hD0.self (sz := s.heap.size)
  generalize hAe : va_A [(a_r, .inr (4, [.ref a_tk, .ref a_rh, .ref a_rs, .ref a_rc, .int e_ln, .int e_pa, .int e_at, .int e_fp])), (a_tk, .inr (8, [.ref a_kd, .ref a_nm, .ref a_pl])), (a_kd, .inl (G.2 0, 401, .inl f_kd)), (a_nm, .inl (G.2 0, 401, .inl f_nm)), (a_rc, .inl (G.2 0, 400, .inl f_rc))] s.heap.size = A at hD hT ⊢
  have hA : ∀ q : Nat, s.heap.size ≤ q → A q := fun q h => by rw [← hAe]; exact Or.inr h
  have hS : va_S A s.heap s.heap [] := va_S.rf
  have hP : va_P G.1 vwCl [(a_r, .inr (4, [.ref a_tk, .ref a_rh, .ref a_rs, .ref a_rc, .int e_ln, .int e_pa, .int e_at, .int e_fp])), (a_tk, .inr (8, [.ref a_kd, .ref a_nm, .ref a_pl])), (a_kd, .inl (G.2 0, 401, .inl f_kd)), (a_nm, .inl (G.2 0, 401, .inl f_nm)), (a_rc, .inl (G.2 0, 400, .inl f_rc))] s.heap := hP
  have hl := lv_entry ([.ref a_r, .int p_d]) (n := 4) (Nat.le_of_ble_eq_true rfl)
  rw [lg_entry_eq]
  generalize (lg_sl ([.ref a_r, .int p_d]) ++ List.replicate (4 - (lg_sl ([.ref a_r, .int p_d])).length) Slot.unset).toArray = ls at hl ⊢
  have hl : lv_has ls 4 [(0, .ref a_r), (1, .int p_d)] := hl
  refine lv_iconst (v := 0) hx hb dX4_readPlain_0 (by decide) ?_
  refine lv_istore_n (lv' := [(2, .int 0), (0, .ref a_r), (1, .int p_d)]) hx hb dX4_readPlain_1 rfl hl (by decide) rfl (fun ls hl => ?_)
  refine lv_iconst (v := 0) hx hb dX4_readPlain_2 (by decide) ?_
  refine lv_istore_n (lv' := [(3, .int 0), (2, .int 0), (0, .ref a_r), (1, .int p_d)]) hx hb dX4_readPlain_3 rfl hl (by decide) rfl (fun ls hl => ?_)
  refine g5_loop (α := (Int32) × (Int32) × (Int32)) (fun (q : (Int32) × (Int32) × (Int32)) (ls : Array Slot) (H : Heap) (locs : List Loc) => match q with | (k_u, k_i, k_at) => lv_has ls 4 [(2, .int k_u), (3, .int k_i), (0, .ref a_r), (1, .int p_d)] ∧ va_P G.1 vwCl [(a_r, .inr (4, [.ref a_tk, .ref a_rh, .ref a_rs, .ref a_rc, .int e_ln, .int e_pa, .int k_at, .int e_fp])), (a_tk, .inr (8, [.ref a_kd, .ref a_nm, .ref a_pl])), (a_kd, .inl (G.2 0, 401, .inl f_kd)), (a_nm, .inl (G.2 0, 401, .inl f_nm)), (a_rc, .inl (G.2 0, 400, .inl f_rc))] H ∧ va_D A [(a_r, .inr (4, [.ref a_tk, .ref a_rh, .ref a_rs, .ref a_rc, .int e_ln, .int e_pa, .int k_at, .int e_fp])), (a_tk, .inr (8, [.ref a_kd, .ref a_nm, .ref a_pl])), (a_kd, .inl (G.2 0, 401, .inl f_kd)), (a_nm, .inl (G.2 0, 401, .inl f_nm)), (a_rc, .inl (G.2 0, 400, .inl f_rc))] ∧ va_S A s.heap H locs ∧ (0 ≤ k_u.toInt ∧ k_u.toInt ≤ 1) ∧ (0 ≤ k_i.toInt ∧ k_i.toInt ≤ 400) ∧ (0 ≤ k_at.toInt ∧ k_at.toInt ≤ 401)) (fun (q : (Int32) × (Int32) × (Int32)) => match q with | (k_u, k_i, k_at) => Int.toNat (400 - k_i.toInt)) (0, 0, e_at) ⟨lv_sub hl [1, 0, 2, 3] rfl, hP, hD, hS, ⟨by decide, by decide⟩, ⟨by decide, by decide⟩, ⟨by omega, by omega⟩⟩ ?_
  rintro ⟨k_u, k_i, k_at⟩ ls H locs ⟨hl, hP, hD, hS, i_1, i_2, i_3⟩ ih_4_4
  have hl : lv_has ls 4 [(2, .int k_u), (3, .int k_i), (0, .ref a_r), (1, .int p_d)] := hl
  have i_1 : 0 ≤ k_u.toInt ∧ k_u.toInt ≤ 1 := i_1
  have i_2 : 0 ≤ k_i.toInt ∧ k_i.toInt ≤ 400 := i_2
  have i_3 : 0 ≤ k_at.toInt ∧ k_at.toInt ≤ 401 := i_3
  have hP : va_P G.1 vwCl [(a_r, .inr (4, [.ref a_tk, .ref a_rh, .ref a_rs, .ref a_rc, .int e_ln, .int e_pa, .int k_at, .int e_fp])), (a_tk, .inr (8, [.ref a_kd, .ref a_nm, .ref a_pl])), (a_kd, .inl (G.2 0, 401, .inl f_kd)), (a_nm, .inl (G.2 0, 401, .inl f_nm)), (a_rc, .inl (G.2 0, 400, .inl f_rc))] H := hP
  have hD : va_D A [(a_r, .inr (4, [.ref a_tk, .ref a_rh, .ref a_rs, .ref a_rc, .int e_ln, .int e_pa, .int k_at, .int e_fp])), (a_tk, .inr (8, [.ref a_kd, .ref a_nm, .ref a_pl])), (a_kd, .inl (G.2 0, 401, .inl f_kd)), (a_nm, .inl (G.2 0, 401, .inl f_nm)), (a_rc, .inl (G.2 0, 400, .inl f_rc))] := hD
  refine lv_iload_n hx hb dX4_readPlain_4 rfl (lv_at hl 1 rfl) ?_
  refine lv_sipush (v := 400) hx hb dX4_readPlain_5 (by decide) ?_
  refine lv_icmp_ge (tgt := 37) hx hb dX4_readPlain_8 (by decide) (fun c_5 => ?_) (fun c_5 => ?_)
  ·
    have i_5 : k_i.toInt ≥ 400 := by have z := g5_ge (a := k_i.toInt) (b := 400) (by rfl) (by decide) c_5; omega
    refine lv_aload_n hx hb dX4_readPlain_37 rfl (lv_at hl 2 rfl) ?_
    refine lv_bipush (v := 40) hx hb dX4_readPlain_38 (by decide) ?_
    have hPc := hP.sub (ws' := [(a_r, .inr (4, [.ref a_tk, .ref a_rh, .ref a_rs, .ref a_rc, .int e_ln, .int e_pa, .int k_at, .int e_fp])), (a_tk, .inr (8, [.ref a_kd, .ref a_nm, .ref a_pl])), (a_kd, .inl (G.2 0, 401, .inl f_kd))]) [0, 1, 2] rfl
    have hDc := hD.sub (ws' := [(a_r, .inr (4, [.ref a_tk, .ref a_rh, .ref a_rs, .ref a_rc, .int e_ln, .int e_pa, .int k_at, .int e_fp])), (a_tk, .inr (8, [.ref a_kd, .ref a_nm, .ref a_pl])), (a_kd, .inl (G.2 0, 401, .inl f_kd))]) [0, 1, 2] (by decide) rfl
    have hFc := va_free (wc := [(a_r, .inr (4, [.ref a_tk, .ref a_rh, .ref a_rs, .ref a_rc, .int e_ln, .int e_pa, .int k_at, .int e_fp])), (a_tk, .inr (8, [.ref a_kd, .ref a_nm, .ref a_pl])), (a_kd, .inl (G.2 0, 401, .inl f_kd))]) hD hS hA [0, 1, 2] rfl
    refine va_calli (va_runV (As := [.int 40]) (rest := []) ⟨hx, hb, hml, hown, hts⟩ (r_isNext l G a_r a_tk a_kd a_rh a_rs a_rc a_nm a_pl H.size e_ln e_pa k_at e_fp 40 f_kd ⟨by omega, by omega⟩ ⟨by omega, by omega⟩) (cwV 1 hts gV_X4_49 rfl rfl rfl hv_X4_isNext ⟨by dsimp only; omega, by dsimp only; omega⟩) (g5_preV hPc hK hDc hN hT hS hFc (ci := 4) (q0 := 0) rfl rfl) rfl rfl hl.1 rfl (lv_room (Nat.le_of_ble_eq_true rfl)) dX4_readPlain_40 ⟨Nat.le_of_ble_eq_true rfl, Nat.le_of_ble_eq_true rfl⟩) hS (fun q _ h => hFc q h) hFc (fun r u t H1 locs ht hvm hw hB hz1 hk1 hS => ?_)
    obtain ⟨hP1, hD1⟩ := hB
    rw [ht] at hP1
    rcases hw with ⟨i_6, i_7, rfl, rfl⟩ | ⟨rfl, rfl⟩
    ·
      have i_6 : k_at.toInt ≤ 400 := i_6
      have i_7 : f_kd k_at.toNatClampNeg = (40 : Int32) := i_7
      obtain ⟨hP, hD⟩ := va_join (wr := [(a_nm, .inl (G.2 0, 401, .inl f_nm)), (a_rc, .inl (G.2 0, 400, .inl f_rc))]) (w1 := [(a_r, .inr (4, [.ref a_tk, .ref a_rh, .ref a_rs, .ref a_rc, .int e_ln, .int e_pa, .int k_at, .int e_fp])), (a_tk, .inr (8, [.ref a_kd, .ref a_nm, .ref a_pl])), (a_kd, .inl (G.2 0, 401, .inl f_kd))]) hP hD [0, 1, 2] [3, 4] rfl rfl (by decide) (by decide) hk1 hFc hP1 hD1
      generalize H1 = H at hP hS ⊢
      have hP : va_P G.1 vwCl [(a_nm, .inl (G.2 0, 401, .inl f_nm)), (a_rc, .inl (G.2 0, 400, .inl f_rc)), (a_r, .inr (4, [.ref a_tk, .ref a_rh, .ref a_rs, .ref a_rc, .int e_ln, .int e_pa, .int k_at, .int e_fp])), (a_tk, .inr (8, [.ref a_kd, .ref a_nm, .ref a_pl])), (a_kd, .inl (G.2 0, 401, .inl f_kd))] H := hP
      have hD : va_D A [(a_nm, .inl (G.2 0, 401, .inl f_nm)), (a_rc, .inl (G.2 0, 400, .inl f_rc)), (a_r, .inr (4, [.ref a_tk, .ref a_rh, .ref a_rs, .ref a_rc, .int e_ln, .int e_pa, .int k_at, .int e_fp])), (a_tk, .inr (8, [.ref a_kd, .ref a_nm, .ref a_pl])), (a_kd, .inl (G.2 0, 401, .inl f_kd))] := hD
      refine lv_if_eq (tgt := 82) hx hb dX4_readPlain_43 (by decide) (fun c_8 => ?_) (fun c_8 => ?_)
      ·
        exact absurd c_8 (by decide)
      ·
        refine lv_iload_n hx hb dX4_readPlain_46 rfl (lv_at hl 3 rfl) ?_
        refine lv_bipush (v := 8) hx hb dX4_readPlain_47 (by decide) ?_
        refine lv_icmp_ge (tgt := 80) hx hb dX4_readPlain_49 (by decide) (fun c_9 => ?_) (fun c_9 => ?_)
        ·
          have i_9 : p_d.toInt ≥ 8 := by have z := g5_ge (a := p_d.toInt) (b := 8) (by rfl) (by decide) c_9; omega
          refine lv_iconst (v := 0) hx hb dX4_readPlain_80 (by decide) ?_
          exact W.zret (v := 0) hx hb hr rfl (fun t ht hW => ⟨⟨0, [(a_r, .inr (4, [.ref a_tk, .ref a_rh, .ref a_rs, .ref a_rc, .int e_ln, .int e_pa, .int k_at, .int e_fp])), (a_tk, .inr (8, [.ref a_kd, .ref a_nm, .ref a_pl])), (a_kd, .inl (G.2 0, 401, .inl f_kd)), (a_nm, .inl (G.2 0, 401, .inl f_nm)), (a_rc, .inl (G.2 0, 400, .inl f_rc))], rfl, ⟨0, e_ln, e_pa, k_at, f_rc, ⟨by have zc_o_r : (0 : Int32).toInt = 0 := (by decide); omega, by have zc_o_r : (0 : Int32).toInt = 0 := (by decide); omega⟩, ⟨by omega, by omega⟩, ⟨by omega, by omega⟩, e_cd, opk_refl, rfl, rfl⟩, by rw [ht]; exact hP.sub [2, 3, 4, 0, 1] rfl, hD.sub [2, 3, 4, 0, 1] (by decide) rfl⟩, hS.F ht⟩) hS.2.2 dX4_readPlain_81
        ·
          have i_9 : p_d.toInt < 8 := by have z := g5_geN (a := p_d.toInt) (b := 8) (by rfl) (by decide) c_9; omega
          refine lv_aload_n hx hb dX4_readPlain_52 rfl (lv_at hl 2 rfl) ?_
          refine lv_bipush (v := 40) hx hb dX4_readPlain_53 (by decide) ?_
          have hPc := hP.sub (ws' := [(a_r, .inr (4, [.ref a_tk, .ref a_rh, .ref a_rs, .ref a_rc, .int e_ln, .int e_pa, .int k_at, .int e_fp])), (a_tk, .inr (8, [.ref a_kd, .ref a_nm, .ref a_pl])), (a_kd, .inl (G.2 0, 401, .inl f_kd))]) [2, 3, 4] rfl
          have hDc := hD.sub (ws' := [(a_r, .inr (4, [.ref a_tk, .ref a_rh, .ref a_rs, .ref a_rc, .int e_ln, .int e_pa, .int k_at, .int e_fp])), (a_tk, .inr (8, [.ref a_kd, .ref a_nm, .ref a_pl])), (a_kd, .inl (G.2 0, 401, .inl f_kd))]) [2, 3, 4] (by decide) rfl
          have hFc := va_free (wc := [(a_r, .inr (4, [.ref a_tk, .ref a_rh, .ref a_rs, .ref a_rc, .int e_ln, .int e_pa, .int k_at, .int e_fp])), (a_tk, .inr (8, [.ref a_kd, .ref a_nm, .ref a_pl])), (a_kd, .inl (G.2 0, 401, .inl f_kd))]) hD hS hA [2, 3, 4] rfl
          refine va_calli (va_runV (As := [.int 40]) (rest := []) ⟨hx, hb, hml, hown, hts⟩ (r_passed l G a_r a_tk a_kd a_rh a_rs a_rc a_nm a_pl H.size e_ln e_pa k_at e_fp 40 f_kd ⟨by omega, by omega⟩ ⟨by omega, by omega⟩) (cwV 1 hts gV_X4_63 rfl rfl rfl hv_X4_passed ⟨by dsimp only; omega, by dsimp only; omega⟩) (g5_preV hPc hK hDc hN hT hS hFc (ci := 4) (q0 := 0) rfl rfl) rfl rfl hl.1 rfl (lv_room (Nat.le_of_ble_eq_true rfl)) dX4_readPlain_55 ⟨Nat.le_of_ble_eq_true rfl, Nat.le_of_ble_eq_true rfl⟩) hS (fun q _ h => hFc q h) hFc (fun r u t H1 locs ht hvm hw hB hz1 hk1 hS => ?_)
          obtain ⟨hP1, hD1⟩ := hB
          rw [ht] at hP1
          obtain ⟨z12, z13, i_10, i_11, y14, rfl⟩ := hw
          have i_10 : 0 ≤ z12.toInt ∧ z12.toInt ≤ 1 := i_10
          have i_11 : 0 ≤ z13.toInt ∧ z13.toInt ≤ 401 := i_11
          obtain ⟨hP, hD⟩ := va_join (wr := [(a_nm, .inl (G.2 0, 401, .inl f_nm)), (a_rc, .inl (G.2 0, 400, .inl f_rc))]) (w1 := [(a_r, .inr (4, [.ref a_tk, .ref a_rh, .ref a_rs, .ref a_rc, .int e_ln, .int e_pa, .int z13, .int e_fp])), (a_tk, .inr (8, [.ref a_kd, .ref a_nm, .ref a_pl])), (a_kd, .inl (G.2 0, 401, .inl f_kd))]) hP hD [2, 3, 4] [0, 1] rfl rfl (by decide) (by decide) hk1 hFc hP1 hD1
          generalize H1 = H at hP hS ⊢
          have hP : va_P G.1 vwCl [(a_nm, .inl (G.2 0, 401, .inl f_nm)), (a_rc, .inl (G.2 0, 400, .inl f_rc)), (a_r, .inr (4, [.ref a_tk, .ref a_rh, .ref a_rs, .ref a_rc, .int e_ln, .int e_pa, .int z13, .int e_fp])), (a_tk, .inr (8, [.ref a_kd, .ref a_nm, .ref a_pl])), (a_kd, .inl (G.2 0, 401, .inl f_kd))] H := hP
          have hD : va_D A [(a_nm, .inl (G.2 0, 401, .inl f_nm)), (a_rc, .inl (G.2 0, 400, .inl f_rc)), (a_r, .inr (4, [.ref a_tk, .ref a_rh, .ref a_rs, .ref a_rc, .int e_ln, .int e_pa, .int z13, .int e_fp])), (a_tk, .inr (8, [.ref a_kd, .ref a_nm, .ref a_pl])), (a_kd, .inl (G.2 0, 401, .inl f_kd))] := hD
          refine g5_ti (v := z12) y14 ?_
          refine lv_if_eq (tgt := 80) hx hb dX4_readPlain_58 (by decide) (fun c_15 => ?_) (fun c_15 => ?_)
          ·
            have i_15 : z12.toInt = 0 := by have z := g5_eq (a := z12.toInt) (b := 0) (by rfl) (by decide) c_15; omega
            refine lv_iconst (v := 0) hx hb dX4_readPlain_80 (by decide) ?_
            exact W.zret (v := 0) hx hb hr rfl (fun t ht hW => ⟨⟨0, [(a_r, .inr (4, [.ref a_tk, .ref a_rh, .ref a_rs, .ref a_rc, .int e_ln, .int e_pa, .int z13, .int e_fp])), (a_tk, .inr (8, [.ref a_kd, .ref a_nm, .ref a_pl])), (a_kd, .inl (G.2 0, 401, .inl f_kd)), (a_nm, .inl (G.2 0, 401, .inl f_nm)), (a_rc, .inl (G.2 0, 400, .inl f_rc))], rfl, ⟨0, e_ln, e_pa, z13, f_rc, ⟨by have zc_o_r : (0 : Int32).toInt = 0 := (by decide); omega, by have zc_o_r : (0 : Int32).toInt = 0 := (by decide); omega⟩, ⟨by omega, by omega⟩, ⟨by omega, by omega⟩, e_cd, opk_refl, rfl, rfl⟩, by rw [ht]; exact hP.sub [2, 3, 4, 0, 1] rfl, hD.sub [2, 3, 4, 0, 1] (by decide) rfl⟩, hS.F ht⟩) hS.2.2 dX4_readPlain_81
          ·
            have n_15 : gNe (z12.toInt) (0) := by have z := g5_eqN (a := z12.toInt) (b := 0) (by rfl) (by decide) c_15; unfold gNe; omega
            have i_15 : z12.toInt ≥ 1 := by have z := g5_eqN (a := z12.toInt) (b := 0) (by rfl) (by decide) c_15; omega
            refine lv_aload_n hx hb dX4_readPlain_61 rfl (lv_at hl 2 rfl) ?_
            refine lv_iload_n hx hb dX4_readPlain_62 rfl (lv_at hl 3 rfl) ?_
            refine lv_iconst (v := 1) hx hb dX4_readPlain_63 (by decide) ?_
            refine lv_iadd hx hb dX4_readPlain_64 ?_
            have t_16 : (p_d + 1).toInt = p_d.toInt + 1 := g5_iadd (a := p_d.toInt) (b := 1) (by rfl) (by decide) (by omega) (by omega)
            have hPc := hP.sub (ws' := [(a_r, .inr (4, [.ref a_tk, .ref a_rh, .ref a_rs, .ref a_rc, .int e_ln, .int e_pa, .int z13, .int e_fp])), (a_tk, .inr (8, [.ref a_kd, .ref a_nm, .ref a_pl])), (a_kd, .inl (G.2 0, 401, .inl f_kd)), (a_nm, .inl (G.2 0, 401, .inl f_nm)), (a_rc, .inl (G.2 0, 400, .inl f_rc))]) [2, 3, 4, 0, 1] rfl
            have hDc := hD.sub (ws' := [(a_r, .inr (4, [.ref a_tk, .ref a_rh, .ref a_rs, .ref a_rc, .int e_ln, .int e_pa, .int z13, .int e_fp])), (a_tk, .inr (8, [.ref a_kd, .ref a_nm, .ref a_pl])), (a_kd, .inl (G.2 0, 401, .inl f_kd)), (a_nm, .inl (G.2 0, 401, .inl f_nm)), (a_rc, .inl (G.2 0, 400, .inl f_rc))]) [2, 3, 4, 0, 1] (by decide) rfl
            have hFc := va_free (wc := [(a_r, .inr (4, [.ref a_tk, .ref a_rh, .ref a_rs, .ref a_rc, .int e_ln, .int e_pa, .int z13, .int e_fp])), (a_tk, .inr (8, [.ref a_kd, .ref a_nm, .ref a_pl])), (a_kd, .inl (G.2 0, 401, .inl f_kd)), (a_nm, .inl (G.2 0, 401, .inl f_nm)), (a_rc, .inl (G.2 0, 400, .inl f_rc))]) hD hS hA [2, 3, 4, 0, 1] rfl
            refine va_calli (va_runV (As := [.int (p_d + 1)]) (rest := []) ⟨hx, hb, hml, hown, hts⟩ ((h_test (p_d + 1) (by omega) (by omega)) l G a_r a_tk a_kd a_nm a_rc a_rh a_rs a_pl H.size e_ln e_pa z13 e_fp f_kd f_nm f_rc ⟨by omega, by omega⟩ ⟨by omega, by omega⟩ (e_tk) (e_cd)) (cwV 1 hts gV_X4_76 rfl rfl rfl hv_X4_readTest ⟨by dsimp only; omega, by dsimp only; omega⟩) (g5_preV hPc hK hDc hN hT hS hFc (ci := 4) (q0 := 0) rfl rfl) rfl rfl hl.1 rfl (lv_room (Nat.le_of_ble_eq_true rfl)) dX4_readPlain_65 ⟨Nat.le_of_ble_eq_true rfl, Nat.le_of_ble_eq_true rfl⟩) hS (fun q _ h => hFc q h) hFc (fun r u t H1 locs ht hvm hw hB hz1 hk1 hS => ?_)
            obtain ⟨hP1, hD1⟩ := hB
            rw [ht] at hP1
            obtain ⟨z22, z23, z24, z25, z26, i_17, i_18, i_19, i_20, i_21, y27, rfl⟩ := hw
            have i_17 : 0 ≤ z22.toInt ∧ z22.toInt ≤ 1 := i_17
            have i_18 : e_ln.toInt ≤ z23.toInt ∧ z23.toInt ≤ 400 := i_18
            have i_19 : 0 ≤ z25.toInt ∧ z25.toInt ≤ 401 := i_19
            have i_20 : CDI z26 z23.toInt := i_20
            have i_21 : OPK f_rc z26 e_ln.toInt := i_21
            obtain ⟨hP, hD⟩ := va_join (wr := []) (w1 := [(a_r, .inr (4, [.ref a_tk, .ref a_rh, .ref a_rs, .ref a_rc, .int z23, .int z24, .int z25, .int e_fp])), (a_tk, .inr (8, [.ref a_kd, .ref a_nm, .ref a_pl])), (a_kd, .inl (G.2 0, 401, .inl f_kd)), (a_nm, .inl (G.2 0, 401, .inl f_nm)), (a_rc, .inl (G.2 0, 400, .inl z26))]) hP hD [2, 3, 4, 0, 1] [] rfl rfl (by decide) (by decide) hk1 hFc hP1 hD1
            generalize H1 = H at hP hS ⊢
            have hP : va_P G.1 vwCl [(a_r, .inr (4, [.ref a_tk, .ref a_rh, .ref a_rs, .ref a_rc, .int z23, .int z24, .int z25, .int e_fp])), (a_tk, .inr (8, [.ref a_kd, .ref a_nm, .ref a_pl])), (a_kd, .inl (G.2 0, 401, .inl f_kd)), (a_nm, .inl (G.2 0, 401, .inl f_nm)), (a_rc, .inl (G.2 0, 400, .inl z26))] H := hP
            have hD : va_D A [(a_r, .inr (4, [.ref a_tk, .ref a_rh, .ref a_rs, .ref a_rc, .int z23, .int z24, .int z25, .int e_fp])), (a_tk, .inr (8, [.ref a_kd, .ref a_nm, .ref a_pl])), (a_kd, .inl (G.2 0, 401, .inl f_kd)), (a_nm, .inl (G.2 0, 401, .inl f_nm)), (a_rc, .inl (G.2 0, 400, .inl z26))] := hD
            refine g5_ti (v := z22) y27 ?_
            refine lv_if_eq (tgt := 80) hx hb dX4_readPlain_68 (by decide) (fun c_28 => ?_) (fun c_28 => ?_)
            ·
              have i_28 : z22.toInt = 0 := by have z := g5_eq (a := z22.toInt) (b := 0) (by rfl) (by decide) c_28; omega
              refine lv_iconst (v := 0) hx hb dX4_readPlain_80 (by decide) ?_
              exact W.zret (v := 0) hx hb hr rfl (fun t ht hW => ⟨⟨0, [(a_r, .inr (4, [.ref a_tk, .ref a_rh, .ref a_rs, .ref a_rc, .int z23, .int z24, .int z25, .int e_fp])), (a_tk, .inr (8, [.ref a_kd, .ref a_nm, .ref a_pl])), (a_kd, .inl (G.2 0, 401, .inl f_kd)), (a_nm, .inl (G.2 0, 401, .inl f_nm)), (a_rc, .inl (G.2 0, 400, .inl z26))], rfl, ⟨0, z23, z24, z25, z26, ⟨by have zc_o_r : (0 : Int32).toInt = 0 := (by decide); omega, by have zc_o_r : (0 : Int32).toInt = 0 := (by decide); omega⟩, ⟨by omega, by omega⟩, ⟨by omega, by omega⟩, i_20, i_21, rfl, rfl⟩, by rw [ht]; exact hP.sub [0, 1, 2, 3, 4] rfl, hD.sub [0, 1, 2, 3, 4] (by decide) rfl⟩, hS.F ht⟩) hS.2.2 dX4_readPlain_81
            ·
              have n_28 : gNe (z22.toInt) (0) := by have z := g5_eqN (a := z22.toInt) (b := 0) (by rfl) (by decide) c_28; unfold gNe; omega
              have i_28 : z22.toInt ≥ 1 := by have z := g5_eqN (a := z22.toInt) (b := 0) (by rfl) (by decide) c_28; omega
              refine lv_aload_n hx hb dX4_readPlain_71 rfl (lv_at hl 2 rfl) ?_
              refine lv_bipush (v := 41) hx hb dX4_readPlain_72 (by decide) ?_
              have hPc := hP.sub (ws' := [(a_r, .inr (4, [.ref a_tk, .ref a_rh, .ref a_rs, .ref a_rc, .int z23, .int z24, .int z25, .int e_fp])), (a_tk, .inr (8, [.ref a_kd, .ref a_nm, .ref a_pl])), (a_kd, .inl (G.2 0, 401, .inl f_kd))]) [0, 1, 2] rfl
              have hDc := hD.sub (ws' := [(a_r, .inr (4, [.ref a_tk, .ref a_rh, .ref a_rs, .ref a_rc, .int z23, .int z24, .int z25, .int e_fp])), (a_tk, .inr (8, [.ref a_kd, .ref a_nm, .ref a_pl])), (a_kd, .inl (G.2 0, 401, .inl f_kd))]) [0, 1, 2] (by decide) rfl
              have hFc := va_free (wc := [(a_r, .inr (4, [.ref a_tk, .ref a_rh, .ref a_rs, .ref a_rc, .int z23, .int z24, .int z25, .int e_fp])), (a_tk, .inr (8, [.ref a_kd, .ref a_nm, .ref a_pl])), (a_kd, .inl (G.2 0, 401, .inl f_kd))]) hD hS hA [0, 1, 2] rfl
              refine va_calli (va_runV (As := [.int 41]) (rest := []) ⟨hx, hb, hml, hown, hts⟩ (r_passed l G a_r a_tk a_kd a_rh a_rs a_rc a_nm a_pl H.size z23 z24 z25 e_fp 41 f_kd ⟨by omega, by omega⟩ ⟨by omega, by omega⟩) (cwV 1 hts gV_X4_63 rfl rfl rfl hv_X4_passed ⟨by dsimp only; omega, by dsimp only; omega⟩) (g5_preV hPc hK hDc hN hT hS hFc (ci := 4) (q0 := 0) rfl rfl) rfl rfl hl.1 rfl (lv_room (Nat.le_of_ble_eq_true rfl)) dX4_readPlain_74 ⟨Nat.le_of_ble_eq_true rfl, Nat.le_of_ble_eq_true rfl⟩) hS (fun q _ h => hFc q h) hFc (fun r u t H1 locs ht hvm hw hB hz1 hk1 hS => ?_)
              obtain ⟨hP1, hD1⟩ := hB
              rw [ht] at hP1
              obtain ⟨z31, z32, i_29, i_30, y33, rfl⟩ := hw
              have i_29 : 0 ≤ z31.toInt ∧ z31.toInt ≤ 1 := i_29
              have i_30 : 0 ≤ z32.toInt ∧ z32.toInt ≤ 401 := i_30
              obtain ⟨hP, hD⟩ := va_join (wr := [(a_nm, .inl (G.2 0, 401, .inl f_nm)), (a_rc, .inl (G.2 0, 400, .inl z26))]) (w1 := [(a_r, .inr (4, [.ref a_tk, .ref a_rh, .ref a_rs, .ref a_rc, .int z23, .int z24, .int z32, .int e_fp])), (a_tk, .inr (8, [.ref a_kd, .ref a_nm, .ref a_pl])), (a_kd, .inl (G.2 0, 401, .inl f_kd))]) hP hD [0, 1, 2] [3, 4] rfl rfl (by decide) (by decide) hk1 hFc hP1 hD1
              generalize H1 = H at hP hS ⊢
              have hP : va_P G.1 vwCl [(a_nm, .inl (G.2 0, 401, .inl f_nm)), (a_rc, .inl (G.2 0, 400, .inl z26)), (a_r, .inr (4, [.ref a_tk, .ref a_rh, .ref a_rs, .ref a_rc, .int z23, .int z24, .int z32, .int e_fp])), (a_tk, .inr (8, [.ref a_kd, .ref a_nm, .ref a_pl])), (a_kd, .inl (G.2 0, 401, .inl f_kd))] H := hP
              have hD : va_D A [(a_nm, .inl (G.2 0, 401, .inl f_nm)), (a_rc, .inl (G.2 0, 400, .inl z26)), (a_r, .inr (4, [.ref a_tk, .ref a_rh, .ref a_rs, .ref a_rc, .int z23, .int z24, .int z32, .int e_fp])), (a_tk, .inr (8, [.ref a_kd, .ref a_nm, .ref a_pl])), (a_kd, .inl (G.2 0, 401, .inl f_kd))] := hD
              refine g5_ti (v := z31) y33 ?_
              refine lv_if_ne (tgt := 170) hx hb dX4_readPlain_77 (by decide) (fun c_34 => ?_) (fun c_34 => ?_)
              ·
                have n_34 : gNe (z31.toInt) (0) := by have z := g5_ne (a := z31.toInt) (b := 0) (by rfl) (by decide) c_34; unfold gNe; omega
                have i_34 : z31.toInt ≥ 1 := by have z := g5_ne (a := z31.toInt) (b := 0) (by rfl) (by decide) c_34; omega
                refine lv_iload_n hx hb dX4_readPlain_170 rfl (lv_at hl 0 rfl) ?_
                refine lv_if_eq (tgt := 182) hx hb dX4_readPlain_171 (by decide) (fun c_35 => ?_) (fun c_35 => ?_)
                ·
                  have i_35 : k_u.toInt = 0 := by have z := g5_eq (a := k_u.toInt) (b := 0) (by rfl) (by decide) c_35; omega
                  refine lv_iconst (v := 1) hx hb dX4_readPlain_182 (by decide) ?_
                  exact W.zret (v := 1) hx hb hr rfl (fun t ht hW => ⟨⟨1, [(a_r, .inr (4, [.ref a_tk, .ref a_rh, .ref a_rs, .ref a_rc, .int z23, .int z24, .int z32, .int e_fp])), (a_tk, .inr (8, [.ref a_kd, .ref a_nm, .ref a_pl])), (a_kd, .inl (G.2 0, 401, .inl f_kd)), (a_nm, .inl (G.2 0, 401, .inl f_nm)), (a_rc, .inl (G.2 0, 400, .inl z26))], rfl, ⟨1, z23, z24, z32, z26, ⟨by have zc_o_r : (1 : Int32).toInt = 1 := (by decide); omega, by have zc_o_r : (1 : Int32).toInt = 1 := (by decide); omega⟩, ⟨by omega, by omega⟩, ⟨by omega, by omega⟩, i_20, i_21, rfl, rfl⟩, by rw [ht]; exact hP.sub [2, 3, 4, 0, 1] rfl, hD.sub [2, 3, 4, 0, 1] (by decide) rfl⟩, hS.F ht⟩) hS.2.2 dX4_readPlain_183
                ·
                  have n_35 : gNe (k_u.toInt) (0) := by have z := g5_eqN (a := k_u.toInt) (b := 0) (by rfl) (by decide) c_35; unfold gNe; omega
                  have i_35 : k_u.toInt ≥ 1 := by have z := g5_eqN (a := k_u.toInt) (b := 0) (by rfl) (by decide) c_35; omega
                  refine lv_aload_n hx hb dX4_readPlain_174 rfl (lv_at hl 2 rfl) ?_
                  refine lv_bipush (v := 9) hx hb dX4_readPlain_175 (by decide) ?_
                  refine lv_iconst (v := 0) hx hb dX4_readPlain_177 (by decide) ?_
                  have hPc := hP.sub (ws' := [(a_r, .inr (4, [.ref a_tk, .ref a_rh, .ref a_rs, .ref a_rc, .int z23, .int z24, .int z32, .int e_fp])), (a_rc, .inl (G.2 0, 400, .inl z26))]) [2, 1] rfl
                  have hDc := hD.sub (ws' := [(a_r, .inr (4, [.ref a_tk, .ref a_rh, .ref a_rs, .ref a_rc, .int z23, .int z24, .int z32, .int e_fp])), (a_rc, .inl (G.2 0, 400, .inl z26))]) [2, 1] (by decide) rfl
                  have hFc := va_free (wc := [(a_r, .inr (4, [.ref a_tk, .ref a_rh, .ref a_rs, .ref a_rc, .int z23, .int z24, .int z32, .int e_fp])), (a_rc, .inl (G.2 0, 400, .inl z26))]) hD hS hA [2, 1] rfl
                  refine va_calli (va_runV (As := [.int 9, .int 0]) (rest := []) ⟨hx, hb, hml, hown, hts⟩ (r_emit l G a_r a_rc a_tk a_rh a_rs H.size z23 z24 z32 e_fp 9 0 z26 ⟨by omega, by omega⟩ ⟨by omega, by omega⟩ (i_20) (by unfold wOK; decide)) (cwV 2 hts gV_X4_79 rfl rfl rfl hv_X4_emit ⟨by dsimp only; omega, by dsimp only; omega⟩) (g5_preV hPc hK hDc hN hT hS hFc (ci := 4) (q0 := 0) rfl rfl) rfl rfl hl.1 rfl (lv_room (Nat.le_of_ble_eq_true rfl)) dX4_readPlain_178 ⟨Nat.le_of_ble_eq_true rfl, Nat.le_of_ble_eq_true rfl⟩) hS (fun q _ h => hFc q h) hFc (fun r u t H1 locs ht hvm hw hB hz1 hk1 hS => ?_)
                  obtain ⟨hP1, hD1⟩ := hB
                  rw [ht] at hP1
                  obtain ⟨z41, z42, z43, i_36, i_37, i_38, i_39, i_40, y44, rfl⟩ := hw
                  have i_36 : -1 ≤ z41.toInt ∧ z41.toInt ≤ 399 := i_36
                  have i_37 : z23.toInt ≤ z42.toInt ∧ z42.toInt ≤ 400 := i_37
                  have i_38 : CDI z43 z42.toInt := i_38
                  have i_39 : OPK z26 z43 z23.toInt := i_39
                  have i_40 : 0 ≤ z41.toInt → z41.toInt < z42.toInt ∧ z43 z41.toNatClampNeg = (((9 : Int32) <<< (12 &&& 31)) ||| (0 : Int32)) := i_40
                  obtain ⟨hP, hD⟩ := va_join (wr := [(a_nm, .inl (G.2 0, 401, .inl f_nm)), (a_tk, .inr (8, [.ref a_kd, .ref a_nm, .ref a_pl])), (a_kd, .inl (G.2 0, 401, .inl f_kd))]) (w1 := [(a_r, .inr (4, [.ref a_tk, .ref a_rh, .ref a_rs, .ref a_rc, .int z42, .int z24, .int z32, .int e_fp])), (a_rc, .inl (G.2 0, 400, .inl z43))]) hP hD [2, 1] [0, 3, 4] rfl rfl (by decide) (by decide) hk1 hFc hP1 hD1
                  generalize H1 = H at hP hS ⊢
                  have hP : va_P G.1 vwCl [(a_nm, .inl (G.2 0, 401, .inl f_nm)), (a_tk, .inr (8, [.ref a_kd, .ref a_nm, .ref a_pl])), (a_kd, .inl (G.2 0, 401, .inl f_kd)), (a_r, .inr (4, [.ref a_tk, .ref a_rh, .ref a_rs, .ref a_rc, .int z42, .int z24, .int z32, .int e_fp])), (a_rc, .inl (G.2 0, 400, .inl z43))] H := hP
                  have hD : va_D A [(a_nm, .inl (G.2 0, 401, .inl f_nm)), (a_tk, .inr (8, [.ref a_kd, .ref a_nm, .ref a_pl])), (a_kd, .inl (G.2 0, 401, .inl f_kd)), (a_r, .inr (4, [.ref a_tk, .ref a_rh, .ref a_rs, .ref a_rc, .int z42, .int z24, .int z32, .int e_fp])), (a_rc, .inl (G.2 0, 400, .inl z43))] := hD
                  refine g5_ti (v := z41) y44 ?_
                  refine lv_pop hx hb dX4_readPlain_181 rfl ?_
                  refine lv_iconst (v := 1) hx hb dX4_readPlain_182 (by decide) ?_
                  exact W.zret (v := 1) hx hb hr rfl (fun t ht hW => ⟨⟨1, [(a_r, .inr (4, [.ref a_tk, .ref a_rh, .ref a_rs, .ref a_rc, .int z42, .int z24, .int z32, .int e_fp])), (a_tk, .inr (8, [.ref a_kd, .ref a_nm, .ref a_pl])), (a_kd, .inl (G.2 0, 401, .inl f_kd)), (a_nm, .inl (G.2 0, 401, .inl f_nm)), (a_rc, .inl (G.2 0, 400, .inl z43))], rfl, ⟨1, z42, z24, z32, z43, ⟨by have zc_o_r : (1 : Int32).toInt = 1 := (by decide); omega, by have zc_o_r : (1 : Int32).toInt = 1 := (by decide); omega⟩, ⟨by omega, by omega⟩, ⟨by omega, by omega⟩, i_38, opk_trans i_21 (i_39) (by omega), rfl, rfl⟩, by rw [ht]; exact hP.sub [3, 1, 2, 0, 4] rfl, hD.sub [3, 1, 2, 0, 4] (by decide) rfl⟩, hS.F ht⟩) hS.2.2 dX4_readPlain_183
              ·
                have i_34 : z31.toInt = 0 := by have z := g5_neN (a := z31.toInt) (b := 0) (by rfl) (by decide) c_34; omega
                refine lv_iconst (v := 0) hx hb dX4_readPlain_80 (by decide) ?_
                exact W.zret (v := 0) hx hb hr rfl (fun t ht hW => ⟨⟨0, [(a_r, .inr (4, [.ref a_tk, .ref a_rh, .ref a_rs, .ref a_rc, .int z23, .int z24, .int z32, .int e_fp])), (a_tk, .inr (8, [.ref a_kd, .ref a_nm, .ref a_pl])), (a_kd, .inl (G.2 0, 401, .inl f_kd)), (a_nm, .inl (G.2 0, 401, .inl f_nm)), (a_rc, .inl (G.2 0, 400, .inl z26))], rfl, ⟨0, z23, z24, z32, z26, ⟨by have zc_o_r : (0 : Int32).toInt = 0 := (by decide); omega, by have zc_o_r : (0 : Int32).toInt = 0 := (by decide); omega⟩, ⟨by omega, by omega⟩, ⟨by omega, by omega⟩, i_20, i_21, rfl, rfl⟩, by rw [ht]; exact hP.sub [2, 3, 4, 0, 1] rfl, hD.sub [2, 3, 4, 0, 1] (by decide) rfl⟩, hS.F ht⟩) hS.2.2 dX4_readPlain_81
    ·
      obtain ⟨hP, hD⟩ := va_join (wr := [(a_nm, .inl (G.2 0, 401, .inl f_nm)), (a_rc, .inl (G.2 0, 400, .inl f_rc))]) (w1 := [(a_r, .inr (4, [.ref a_tk, .ref a_rh, .ref a_rs, .ref a_rc, .int e_ln, .int e_pa, .int k_at, .int e_fp])), (a_tk, .inr (8, [.ref a_kd, .ref a_nm, .ref a_pl])), (a_kd, .inl (G.2 0, 401, .inl f_kd))]) hP hD [0, 1, 2] [3, 4] rfl rfl (by decide) (by decide) hk1 hFc hP1 hD1
      generalize H1 = H at hP hS ⊢
      have hP : va_P G.1 vwCl [(a_nm, .inl (G.2 0, 401, .inl f_nm)), (a_rc, .inl (G.2 0, 400, .inl f_rc)), (a_r, .inr (4, [.ref a_tk, .ref a_rh, .ref a_rs, .ref a_rc, .int e_ln, .int e_pa, .int k_at, .int e_fp])), (a_tk, .inr (8, [.ref a_kd, .ref a_nm, .ref a_pl])), (a_kd, .inl (G.2 0, 401, .inl f_kd))] H := hP
      have hD : va_D A [(a_nm, .inl (G.2 0, 401, .inl f_nm)), (a_rc, .inl (G.2 0, 400, .inl f_rc)), (a_r, .inr (4, [.ref a_tk, .ref a_rh, .ref a_rs, .ref a_rc, .int e_ln, .int e_pa, .int k_at, .int e_fp])), (a_tk, .inr (8, [.ref a_kd, .ref a_nm, .ref a_pl])), (a_kd, .inl (G.2 0, 401, .inl f_kd))] := hD
      refine lv_if_eq (tgt := 82) hx hb dX4_readPlain_43 (by decide) (fun c_45 => ?_) (fun c_45 => ?_)
      ·
        refine lv_aload_n hx hb dX4_readPlain_82 rfl (lv_at hl 2 rfl) ?_
        refine lv_iload_n hx hb dX4_readPlain_83 rfl (lv_at hl 3 rfl) ?_
        have hPc := hP.sub (ws' := [(a_r, .inr (4, [.ref a_tk, .ref a_rh, .ref a_rs, .ref a_rc, .int e_ln, .int e_pa, .int k_at, .int e_fp])), (a_tk, .inr (8, [.ref a_kd, .ref a_nm, .ref a_pl])), (a_kd, .inl (G.2 0, 401, .inl f_kd)), (a_nm, .inl (G.2 0, 401, .inl f_nm)), (a_rc, .inl (G.2 0, 400, .inl f_rc))]) [2, 3, 4, 0, 1] rfl
        have hDc := hD.sub (ws' := [(a_r, .inr (4, [.ref a_tk, .ref a_rh, .ref a_rs, .ref a_rc, .int e_ln, .int e_pa, .int k_at, .int e_fp])), (a_tk, .inr (8, [.ref a_kd, .ref a_nm, .ref a_pl])), (a_kd, .inl (G.2 0, 401, .inl f_kd)), (a_nm, .inl (G.2 0, 401, .inl f_nm)), (a_rc, .inl (G.2 0, 400, .inl f_rc))]) [2, 3, 4, 0, 1] (by decide) rfl
        have hFc := va_free (wc := [(a_r, .inr (4, [.ref a_tk, .ref a_rh, .ref a_rs, .ref a_rc, .int e_ln, .int e_pa, .int k_at, .int e_fp])), (a_tk, .inr (8, [.ref a_kd, .ref a_nm, .ref a_pl])), (a_kd, .inl (G.2 0, 401, .inl f_kd)), (a_nm, .inl (G.2 0, 401, .inl f_nm)), (a_rc, .inl (G.2 0, 400, .inl f_rc))]) hD hS hA [2, 3, 4, 0, 1] rfl
        refine va_calli (va_runV (As := [.int p_d]) (rest := []) ⟨hx, hb, hml, hown, hts⟩ ((r_sum fr lo p_d h_p_d h_sum) l G a_r a_tk a_kd a_nm a_rc a_rh a_rs a_pl H.size e_ln e_pa k_at e_fp f_kd f_nm f_rc ⟨by omega, by omega⟩ ⟨by omega, by omega⟩ (e_tk) (e_cd)) (cwV 1 hts gV_X4_73 rfl rfl rfl hv_X4_readSum ⟨by dsimp only; omega, by dsimp only; omega⟩) (g5_preV hPc hK hDc hN hT hS hFc (ci := 4) (q0 := 0) rfl rfl) rfl rfl hl.1 rfl (lv_room (Nat.le_of_ble_eq_true rfl)) dX4_readPlain_84 ⟨Nat.le_of_ble_eq_true rfl, Nat.le_of_ble_eq_true rfl⟩) hS (fun q _ h => hFc q h) hFc (fun r u t H1 locs ht hvm hw hB hz1 hk1 hS => ?_)
        obtain ⟨hP1, hD1⟩ := hB
        rw [ht] at hP1
        obtain ⟨z51, z52, z53, z54, z55, i_46, i_47, i_48, i_49, i_50, y56, rfl⟩ := hw
        have i_46 : 0 ≤ z51.toInt ∧ z51.toInt ≤ 1 := i_46
        have i_47 : e_ln.toInt ≤ z52.toInt ∧ z52.toInt ≤ 400 := i_47
        have i_48 : 0 ≤ z54.toInt ∧ z54.toInt ≤ 401 := i_48
        have i_49 : CDI z55 z52.toInt := i_49
        have i_50 : OPK f_rc z55 e_ln.toInt := i_50
        obtain ⟨hP, hD⟩ := va_join (wr := []) (w1 := [(a_r, .inr (4, [.ref a_tk, .ref a_rh, .ref a_rs, .ref a_rc, .int z52, .int z53, .int z54, .int e_fp])), (a_tk, .inr (8, [.ref a_kd, .ref a_nm, .ref a_pl])), (a_kd, .inl (G.2 0, 401, .inl f_kd)), (a_nm, .inl (G.2 0, 401, .inl f_nm)), (a_rc, .inl (G.2 0, 400, .inl z55))]) hP hD [2, 3, 4, 0, 1] [] rfl rfl (by decide) (by decide) hk1 hFc hP1 hD1
        generalize H1 = H at hP hS ⊢
        have hP : va_P G.1 vwCl [(a_r, .inr (4, [.ref a_tk, .ref a_rh, .ref a_rs, .ref a_rc, .int z52, .int z53, .int z54, .int e_fp])), (a_tk, .inr (8, [.ref a_kd, .ref a_nm, .ref a_pl])), (a_kd, .inl (G.2 0, 401, .inl f_kd)), (a_nm, .inl (G.2 0, 401, .inl f_nm)), (a_rc, .inl (G.2 0, 400, .inl z55))] H := hP
        have hD : va_D A [(a_r, .inr (4, [.ref a_tk, .ref a_rh, .ref a_rs, .ref a_rc, .int z52, .int z53, .int z54, .int e_fp])), (a_tk, .inr (8, [.ref a_kd, .ref a_nm, .ref a_pl])), (a_kd, .inl (G.2 0, 401, .inl f_kd)), (a_nm, .inl (G.2 0, 401, .inl f_nm)), (a_rc, .inl (G.2 0, 400, .inl z55))] := hD
        refine g5_ti (v := z51) y56 ?_
        refine lv_if_ne (tgt := 92) hx hb dX4_readPlain_87 (by decide) (fun c_57 => ?_) (fun c_57 => ?_)
        ·
          have n_57 : gNe (z51.toInt) (0) := by have z := g5_ne (a := z51.toInt) (b := 0) (by rfl) (by decide) c_57; unfold gNe; omega
          have i_57 : z51.toInt ≥ 1 := by have z := g5_ne (a := z51.toInt) (b := 0) (by rfl) (by decide) c_57; omega
          refine lv_aload_n hx hb dX4_readPlain_92 rfl (lv_at hl 2 rfl) ?_
          refine lv_bipush (v := 60) hx hb dX4_readPlain_93 (by decide) ?_
          have hPc := hP.sub (ws' := [(a_r, .inr (4, [.ref a_tk, .ref a_rh, .ref a_rs, .ref a_rc, .int z52, .int z53, .int z54, .int e_fp])), (a_tk, .inr (8, [.ref a_kd, .ref a_nm, .ref a_pl])), (a_kd, .inl (G.2 0, 401, .inl f_kd))]) [0, 1, 2] rfl
          have hDc := hD.sub (ws' := [(a_r, .inr (4, [.ref a_tk, .ref a_rh, .ref a_rs, .ref a_rc, .int z52, .int z53, .int z54, .int e_fp])), (a_tk, .inr (8, [.ref a_kd, .ref a_nm, .ref a_pl])), (a_kd, .inl (G.2 0, 401, .inl f_kd))]) [0, 1, 2] (by decide) rfl
          have hFc := va_free (wc := [(a_r, .inr (4, [.ref a_tk, .ref a_rh, .ref a_rs, .ref a_rc, .int z52, .int z53, .int z54, .int e_fp])), (a_tk, .inr (8, [.ref a_kd, .ref a_nm, .ref a_pl])), (a_kd, .inl (G.2 0, 401, .inl f_kd))]) hD hS hA [0, 1, 2] rfl
          refine va_calli (va_runV (As := [.int 60]) (rest := []) ⟨hx, hb, hml, hown, hts⟩ (r_isNext l G a_r a_tk a_kd a_rh a_rs a_rc a_nm a_pl H.size z52 z53 z54 e_fp 60 f_kd ⟨by omega, by omega⟩ ⟨by omega, by omega⟩) (cwV 1 hts gV_X4_49 rfl rfl rfl hv_X4_isNext ⟨by dsimp only; omega, by dsimp only; omega⟩) (g5_preV hPc hK hDc hN hT hS hFc (ci := 4) (q0 := 0) rfl rfl) rfl rfl hl.1 rfl (lv_room (Nat.le_of_ble_eq_true rfl)) dX4_readPlain_95 ⟨Nat.le_of_ble_eq_true rfl, Nat.le_of_ble_eq_true rfl⟩) hS (fun q _ h => hFc q h) hFc (fun r u t H1 locs ht hvm hw hB hz1 hk1 hS => ?_)
          obtain ⟨hP1, hD1⟩ := hB
          rw [ht] at hP1
          rcases hw with ⟨i_58, i_59, rfl, rfl⟩ | ⟨rfl, rfl⟩
          ·
            have i_58 : z54.toInt ≤ 400 := i_58
            have i_59 : f_kd z54.toNatClampNeg = (60 : Int32) := i_59
            obtain ⟨hP, hD⟩ := va_join (wr := [(a_nm, .inl (G.2 0, 401, .inl f_nm)), (a_rc, .inl (G.2 0, 400, .inl z55))]) (w1 := [(a_r, .inr (4, [.ref a_tk, .ref a_rh, .ref a_rs, .ref a_rc, .int z52, .int z53, .int z54, .int e_fp])), (a_tk, .inr (8, [.ref a_kd, .ref a_nm, .ref a_pl])), (a_kd, .inl (G.2 0, 401, .inl f_kd))]) hP hD [0, 1, 2] [3, 4] rfl rfl (by decide) (by decide) hk1 hFc hP1 hD1
            generalize H1 = H at hP hS ⊢
            have hP : va_P G.1 vwCl [(a_nm, .inl (G.2 0, 401, .inl f_nm)), (a_rc, .inl (G.2 0, 400, .inl z55)), (a_r, .inr (4, [.ref a_tk, .ref a_rh, .ref a_rs, .ref a_rc, .int z52, .int z53, .int z54, .int e_fp])), (a_tk, .inr (8, [.ref a_kd, .ref a_nm, .ref a_pl])), (a_kd, .inl (G.2 0, 401, .inl f_kd))] H := hP
            have hD : va_D A [(a_nm, .inl (G.2 0, 401, .inl f_nm)), (a_rc, .inl (G.2 0, 400, .inl z55)), (a_r, .inr (4, [.ref a_tk, .ref a_rh, .ref a_rs, .ref a_rc, .int z52, .int z53, .int z54, .int e_fp])), (a_tk, .inr (8, [.ref a_kd, .ref a_nm, .ref a_pl])), (a_kd, .inl (G.2 0, 401, .inl f_kd))] := hD
            refine lv_if_eq (tgt := 106) hx hb dX4_readPlain_98 (by decide) (fun c_60 => ?_) (fun c_60 => ?_)
            ·
              exact absurd c_60 (by decide)
            ·
              refine lv_bipush (v := 6) hx hb dX4_readPlain_101 (by decide) ?_
              refine lv_goto (tgt := 135) hx hb dX4_readPlain_103 (by decide) ?_
              refine lv_istore_n (lv' := [(3, .int 6), (2, .int k_u), (0, .ref a_r), (1, .int p_d)]) hx hb dX4_readPlain_135 rfl hl (by decide) rfl (fun ls hl => ?_)
              refine lv_iload_n hx hb dX4_readPlain_136 rfl (lv_at hl 0 rfl) ?_
              refine lv_iconst (v := (-1)) hx hb dX4_readPlain_137 (by decide) ?_
              refine lv_icmp_ne (tgt := 143) hx hb dX4_readPlain_138 (by decide) (fun c_61 => ?_) (fun c_61 => ?_)
              ·
                refine lv_aload_n hx hb dX4_readPlain_143 rfl (lv_at hl 2 rfl) ?_
                refine lv_dup hx hb dX4_readPlain_144 rfl ?_
                refine va_get (D := G.1) (ci := 4) (v := .int z54) (C := RX4) (T := TX4) (N := 8) hx hb hts inG_X4 hown hK hP 2 rfl rfl 6 (by decide) (hts _ fl_X4_42) (fun _ h9 => h9) rfl dX4_readPlain_145 ?_
                refine lv_iconst (v := 1) hx hb dX4_readPlain_148 (by decide) ?_
                refine lv_iadd hx hb dX4_readPlain_149 ?_
                have t_62 : (z54 + 1).toInt = z54.toInt + 1 := g5_iadd (a := z54.toInt) (b := 1) (by rfl) (by decide) (by omega) (by omega)
                refine va_put (D := G.1) (ci := 4) (v := .int (z54 + 1)) (ty := .int) (C := RX4) (T := TX4) (N := 8) hx hb hts inG_X4 tyX4 tyX4_ok nmX4 hown hK hP hD hS 2 rfl rfl 6 (by decide) (hts _ fl_X4_42) (fun _ h9 => h9) rfl (by decide +kernel) rfl rfl (Nat.le_of_ble_eq_true rfl) dX4_readPlain_150 (fun H locs hP hD hS => ?_)
                have hP : va_P G.1 vwCl [(a_nm, .inl (G.2 0, 401, .inl f_nm)), (a_rc, .inl (G.2 0, 400, .inl z55)), (a_r, .inr (4, [.ref a_tk, .ref a_rh, .ref a_rs, .ref a_rc, .int z52, .int z53, .int (z54 + 1), .int e_fp])), (a_tk, .inr (8, [.ref a_kd, .ref a_nm, .ref a_pl])), (a_kd, .inl (G.2 0, 401, .inl f_kd))] H := hP
                have hD : va_D A [(a_nm, .inl (G.2 0, 401, .inl f_nm)), (a_rc, .inl (G.2 0, 400, .inl z55)), (a_r, .inr (4, [.ref a_tk, .ref a_rh, .ref a_rs, .ref a_rc, .int z52, .int z53, .int (z54 + 1), .int e_fp])), (a_tk, .inr (8, [.ref a_kd, .ref a_nm, .ref a_pl])), (a_kd, .inl (G.2 0, 401, .inl f_kd))] := hD
                refine lv_aload_n hx hb dX4_readPlain_153 rfl (lv_at hl 2 rfl) ?_
                refine lv_iload_n hx hb dX4_readPlain_154 rfl (lv_at hl 3 rfl) ?_
                have hPc := hP.sub (ws' := [(a_r, .inr (4, [.ref a_tk, .ref a_rh, .ref a_rs, .ref a_rc, .int z52, .int z53, .int (z54 + 1), .int e_fp])), (a_tk, .inr (8, [.ref a_kd, .ref a_nm, .ref a_pl])), (a_kd, .inl (G.2 0, 401, .inl f_kd)), (a_nm, .inl (G.2 0, 401, .inl f_nm)), (a_rc, .inl (G.2 0, 400, .inl z55))]) [2, 3, 4, 0, 1] rfl
                have hDc := hD.sub (ws' := [(a_r, .inr (4, [.ref a_tk, .ref a_rh, .ref a_rs, .ref a_rc, .int z52, .int z53, .int (z54 + 1), .int e_fp])), (a_tk, .inr (8, [.ref a_kd, .ref a_nm, .ref a_pl])), (a_kd, .inl (G.2 0, 401, .inl f_kd)), (a_nm, .inl (G.2 0, 401, .inl f_nm)), (a_rc, .inl (G.2 0, 400, .inl z55))]) [2, 3, 4, 0, 1] (by decide) rfl
                have hFc := va_free (wc := [(a_r, .inr (4, [.ref a_tk, .ref a_rh, .ref a_rs, .ref a_rc, .int z52, .int z53, .int (z54 + 1), .int e_fp])), (a_tk, .inr (8, [.ref a_kd, .ref a_nm, .ref a_pl])), (a_kd, .inl (G.2 0, 401, .inl f_kd)), (a_nm, .inl (G.2 0, 401, .inl f_nm)), (a_rc, .inl (G.2 0, 400, .inl z55))]) hD hS hA [2, 3, 4, 0, 1] rfl
                refine va_calli (va_runV (As := [.int p_d]) (rest := []) ⟨hx, hb, hml, hown, hts⟩ ((r_sum fr lo p_d h_p_d h_sum) l G a_r a_tk a_kd a_nm a_rc a_rh a_rs a_pl H.size z52 z53 (z54 + 1) e_fp f_kd f_nm z55 ⟨by omega, by omega⟩ ⟨by omega, by omega⟩ (e_tk) (i_49)) (cwV 1 hts gV_X4_73 rfl rfl rfl hv_X4_readSum ⟨by dsimp only; omega, by dsimp only; omega⟩) (g5_preV hPc hK hDc hN hT hS hFc (ci := 4) (q0 := 0) rfl rfl) rfl rfl hl.1 rfl (lv_room (Nat.le_of_ble_eq_true rfl)) dX4_readPlain_155 ⟨Nat.le_of_ble_eq_true rfl, Nat.le_of_ble_eq_true rfl⟩) hS (fun q _ h => hFc q h) hFc (fun r u t H1 locs ht hvm hw hB hz1 hk1 hS => ?_)
                obtain ⟨hP1, hD1⟩ := hB
                rw [ht] at hP1
                obtain ⟨z68, z69, z70, z71, z72, i_63, i_64, i_65, i_66, i_67, y73, rfl⟩ := hw
                have i_63 : 0 ≤ z68.toInt ∧ z68.toInt ≤ 1 := i_63
                have i_64 : z52.toInt ≤ z69.toInt ∧ z69.toInt ≤ 400 := i_64
                have i_65 : 0 ≤ z71.toInt ∧ z71.toInt ≤ 401 := i_65
                have i_66 : CDI z72 z69.toInt := i_66
                have i_67 : OPK z55 z72 z52.toInt := i_67
                obtain ⟨hP, hD⟩ := va_join (wr := []) (w1 := [(a_r, .inr (4, [.ref a_tk, .ref a_rh, .ref a_rs, .ref a_rc, .int z69, .int z70, .int z71, .int e_fp])), (a_tk, .inr (8, [.ref a_kd, .ref a_nm, .ref a_pl])), (a_kd, .inl (G.2 0, 401, .inl f_kd)), (a_nm, .inl (G.2 0, 401, .inl f_nm)), (a_rc, .inl (G.2 0, 400, .inl z72))]) hP hD [2, 3, 4, 0, 1] [] rfl rfl (by decide) (by decide) hk1 hFc hP1 hD1
                generalize H1 = H at hP hS ⊢
                have hP : va_P G.1 vwCl [(a_r, .inr (4, [.ref a_tk, .ref a_rh, .ref a_rs, .ref a_rc, .int z69, .int z70, .int z71, .int e_fp])), (a_tk, .inr (8, [.ref a_kd, .ref a_nm, .ref a_pl])), (a_kd, .inl (G.2 0, 401, .inl f_kd)), (a_nm, .inl (G.2 0, 401, .inl f_nm)), (a_rc, .inl (G.2 0, 400, .inl z72))] H := hP
                have hD : va_D A [(a_r, .inr (4, [.ref a_tk, .ref a_rh, .ref a_rs, .ref a_rc, .int z69, .int z70, .int z71, .int e_fp])), (a_tk, .inr (8, [.ref a_kd, .ref a_nm, .ref a_pl])), (a_kd, .inl (G.2 0, 401, .inl f_kd)), (a_nm, .inl (G.2 0, 401, .inl f_nm)), (a_rc, .inl (G.2 0, 400, .inl z72))] := hD
                refine g5_ti (v := z68) y73 ?_
                refine lv_if_ne (tgt := 163) hx hb dX4_readPlain_158 (by decide) (fun c_74 => ?_) (fun c_74 => ?_)
                ·
                  have n_74 : gNe (z68.toInt) (0) := by have z := g5_ne (a := z68.toInt) (b := 0) (by rfl) (by decide) c_74; unfold gNe; omega
                  have i_74 : z68.toInt ≥ 1 := by have z := g5_ne (a := z68.toInt) (b := 0) (by rfl) (by decide) c_74; omega
                  refine lv_aload_n hx hb dX4_readPlain_163 rfl (lv_at hl 2 rfl) ?_
                  refine lv_iload_n hx hb dX4_readPlain_164 rfl (lv_at hl 0 rfl) ?_
                  refine lv_iconst (v := 0) hx hb dX4_readPlain_165 (by decide) ?_
                  have hPc := hP.sub (ws' := [(a_r, .inr (4, [.ref a_tk, .ref a_rh, .ref a_rs, .ref a_rc, .int z69, .int z70, .int z71, .int e_fp])), (a_rc, .inl (G.2 0, 400, .inl z72))]) [0, 4] rfl
                  have hDc := hD.sub (ws' := [(a_r, .inr (4, [.ref a_tk, .ref a_rh, .ref a_rs, .ref a_rc, .int z69, .int z70, .int z71, .int e_fp])), (a_rc, .inl (G.2 0, 400, .inl z72))]) [0, 4] (by decide) rfl
                  have hFc := va_free (wc := [(a_r, .inr (4, [.ref a_tk, .ref a_rh, .ref a_rs, .ref a_rc, .int z69, .int z70, .int z71, .int e_fp])), (a_rc, .inl (G.2 0, 400, .inl z72))]) hD hS hA [0, 4] rfl
                  refine va_calli (va_runV (As := [.int 6, .int 0]) (rest := []) ⟨hx, hb, hml, hown, hts⟩ (r_emit l G a_r a_rc a_tk a_rh a_rs H.size z69 z70 z71 e_fp 6 0 z72 ⟨by omega, by omega⟩ ⟨by omega, by omega⟩ (i_66) (by unfold wOK; decide)) (cwV 2 hts gV_X4_79 rfl rfl rfl hv_X4_emit ⟨by dsimp only; omega, by dsimp only; omega⟩) (g5_preV hPc hK hDc hN hT hS hFc (ci := 4) (q0 := 0) rfl rfl) rfl rfl hl.1 rfl (lv_room (Nat.le_of_ble_eq_true rfl)) dX4_readPlain_166 ⟨Nat.le_of_ble_eq_true rfl, Nat.le_of_ble_eq_true rfl⟩) hS (fun q _ h => hFc q h) hFc (fun r u t H1 locs ht hvm hw hB hz1 hk1 hS => ?_)
                  obtain ⟨hP1, hD1⟩ := hB
                  rw [ht] at hP1
                  obtain ⟨z80, z81, z82, i_75, i_76, i_77, i_78, i_79, y83, rfl⟩ := hw
                  have i_75 : -1 ≤ z80.toInt ∧ z80.toInt ≤ 399 := i_75
                  have i_76 : z69.toInt ≤ z81.toInt ∧ z81.toInt ≤ 400 := i_76
                  have i_77 : CDI z82 z81.toInt := i_77
                  have i_78 : OPK z72 z82 z69.toInt := i_78
                  have i_79 : 0 ≤ z80.toInt → z80.toInt < z81.toInt ∧ z82 z80.toNatClampNeg = (((6 : Int32) <<< (12 &&& 31)) ||| (0 : Int32)) := i_79
                  obtain ⟨hP, hD⟩ := va_join (wr := [(a_tk, .inr (8, [.ref a_kd, .ref a_nm, .ref a_pl])), (a_kd, .inl (G.2 0, 401, .inl f_kd)), (a_nm, .inl (G.2 0, 401, .inl f_nm))]) (w1 := [(a_r, .inr (4, [.ref a_tk, .ref a_rh, .ref a_rs, .ref a_rc, .int z81, .int z70, .int z71, .int e_fp])), (a_rc, .inl (G.2 0, 400, .inl z82))]) hP hD [0, 4] [1, 2, 3] rfl rfl (by decide) (by decide) hk1 hFc hP1 hD1
                  generalize H1 = H at hP hS ⊢
                  have hP : va_P G.1 vwCl [(a_tk, .inr (8, [.ref a_kd, .ref a_nm, .ref a_pl])), (a_kd, .inl (G.2 0, 401, .inl f_kd)), (a_nm, .inl (G.2 0, 401, .inl f_nm)), (a_r, .inr (4, [.ref a_tk, .ref a_rh, .ref a_rs, .ref a_rc, .int z81, .int z70, .int z71, .int e_fp])), (a_rc, .inl (G.2 0, 400, .inl z82))] H := hP
                  have hD : va_D A [(a_tk, .inr (8, [.ref a_kd, .ref a_nm, .ref a_pl])), (a_kd, .inl (G.2 0, 401, .inl f_kd)), (a_nm, .inl (G.2 0, 401, .inl f_nm)), (a_r, .inr (4, [.ref a_tk, .ref a_rh, .ref a_rs, .ref a_rc, .int z81, .int z70, .int z71, .int e_fp])), (a_rc, .inl (G.2 0, 400, .inl z82))] := hD
                  refine g5_ti (v := z80) y83 ?_
                  refine lv_pop hx hb dX4_readPlain_169 rfl ?_
                  refine lv_iload_n hx hb dX4_readPlain_170 rfl (lv_at hl 1 rfl) ?_
                  refine lv_if_eq (tgt := 182) hx hb dX4_readPlain_171 (by decide) (fun c_84 => ?_) (fun c_84 => ?_)
                  ·
                    have i_84 : k_u.toInt = 0 := by have z := g5_eq (a := k_u.toInt) (b := 0) (by rfl) (by decide) c_84; omega
                    refine lv_iconst (v := 1) hx hb dX4_readPlain_182 (by decide) ?_
                    exact W.zret (v := 1) hx hb hr rfl (fun t ht hW => ⟨⟨1, [(a_r, .inr (4, [.ref a_tk, .ref a_rh, .ref a_rs, .ref a_rc, .int z81, .int z70, .int z71, .int e_fp])), (a_tk, .inr (8, [.ref a_kd, .ref a_nm, .ref a_pl])), (a_kd, .inl (G.2 0, 401, .inl f_kd)), (a_nm, .inl (G.2 0, 401, .inl f_nm)), (a_rc, .inl (G.2 0, 400, .inl z82))], rfl, ⟨1, z81, z70, z71, z82, ⟨by have zc_o_r : (1 : Int32).toInt = 1 := (by decide); omega, by have zc_o_r : (1 : Int32).toInt = 1 := (by decide); omega⟩, ⟨by omega, by omega⟩, ⟨by omega, by omega⟩, i_77, opk_trans i_50 (opk_trans i_67 (i_78) (by omega)) (by omega), rfl, rfl⟩, by rw [ht]; exact hP.sub [3, 0, 1, 2, 4] rfl, hD.sub [3, 0, 1, 2, 4] (by decide) rfl⟩, hS.F ht⟩) hS.2.2 dX4_readPlain_183
                  ·
                    have n_84 : gNe (k_u.toInt) (0) := by have z := g5_eqN (a := k_u.toInt) (b := 0) (by rfl) (by decide) c_84; unfold gNe; omega
                    have i_84 : k_u.toInt ≥ 1 := by have z := g5_eqN (a := k_u.toInt) (b := 0) (by rfl) (by decide) c_84; omega
                    refine lv_aload_n hx hb dX4_readPlain_174 rfl (lv_at hl 2 rfl) ?_
                    refine lv_bipush (v := 9) hx hb dX4_readPlain_175 (by decide) ?_
                    refine lv_iconst (v := 0) hx hb dX4_readPlain_177 (by decide) ?_
                    have hPc := hP.sub (ws' := [(a_r, .inr (4, [.ref a_tk, .ref a_rh, .ref a_rs, .ref a_rc, .int z81, .int z70, .int z71, .int e_fp])), (a_rc, .inl (G.2 0, 400, .inl z82))]) [3, 4] rfl
                    have hDc := hD.sub (ws' := [(a_r, .inr (4, [.ref a_tk, .ref a_rh, .ref a_rs, .ref a_rc, .int z81, .int z70, .int z71, .int e_fp])), (a_rc, .inl (G.2 0, 400, .inl z82))]) [3, 4] (by decide) rfl
                    have hFc := va_free (wc := [(a_r, .inr (4, [.ref a_tk, .ref a_rh, .ref a_rs, .ref a_rc, .int z81, .int z70, .int z71, .int e_fp])), (a_rc, .inl (G.2 0, 400, .inl z82))]) hD hS hA [3, 4] rfl
                    refine va_calli (va_runV (As := [.int 9, .int 0]) (rest := []) ⟨hx, hb, hml, hown, hts⟩ (r_emit l G a_r a_rc a_tk a_rh a_rs H.size z81 z70 z71 e_fp 9 0 z82 ⟨by omega, by omega⟩ ⟨by omega, by omega⟩ (i_77) (by unfold wOK; decide)) (cwV 2 hts gV_X4_79 rfl rfl rfl hv_X4_emit ⟨by dsimp only; omega, by dsimp only; omega⟩) (g5_preV hPc hK hDc hN hT hS hFc (ci := 4) (q0 := 0) rfl rfl) rfl rfl hl.1 rfl (lv_room (Nat.le_of_ble_eq_true rfl)) dX4_readPlain_178 ⟨Nat.le_of_ble_eq_true rfl, Nat.le_of_ble_eq_true rfl⟩) hS (fun q _ h => hFc q h) hFc (fun r u t H1 locs ht hvm hw hB hz1 hk1 hS => ?_)
                    obtain ⟨hP1, hD1⟩ := hB
                    rw [ht] at hP1
                    obtain ⟨z90, z91, z92, i_85, i_86, i_87, i_88, i_89, y93, rfl⟩ := hw
                    have i_85 : -1 ≤ z90.toInt ∧ z90.toInt ≤ 399 := i_85
                    have i_86 : z81.toInt ≤ z91.toInt ∧ z91.toInt ≤ 400 := i_86
                    have i_87 : CDI z92 z91.toInt := i_87
                    have i_88 : OPK z82 z92 z81.toInt := i_88
                    have i_89 : 0 ≤ z90.toInt → z90.toInt < z91.toInt ∧ z92 z90.toNatClampNeg = (((9 : Int32) <<< (12 &&& 31)) ||| (0 : Int32)) := i_89
                    obtain ⟨hP, hD⟩ := va_join (wr := [(a_tk, .inr (8, [.ref a_kd, .ref a_nm, .ref a_pl])), (a_kd, .inl (G.2 0, 401, .inl f_kd)), (a_nm, .inl (G.2 0, 401, .inl f_nm))]) (w1 := [(a_r, .inr (4, [.ref a_tk, .ref a_rh, .ref a_rs, .ref a_rc, .int z91, .int z70, .int z71, .int e_fp])), (a_rc, .inl (G.2 0, 400, .inl z92))]) hP hD [3, 4] [0, 1, 2] rfl rfl (by decide) (by decide) hk1 hFc hP1 hD1
                    generalize H1 = H at hP hS ⊢
                    have hP : va_P G.1 vwCl [(a_tk, .inr (8, [.ref a_kd, .ref a_nm, .ref a_pl])), (a_kd, .inl (G.2 0, 401, .inl f_kd)), (a_nm, .inl (G.2 0, 401, .inl f_nm)), (a_r, .inr (4, [.ref a_tk, .ref a_rh, .ref a_rs, .ref a_rc, .int z91, .int z70, .int z71, .int e_fp])), (a_rc, .inl (G.2 0, 400, .inl z92))] H := hP
                    have hD : va_D A [(a_tk, .inr (8, [.ref a_kd, .ref a_nm, .ref a_pl])), (a_kd, .inl (G.2 0, 401, .inl f_kd)), (a_nm, .inl (G.2 0, 401, .inl f_nm)), (a_r, .inr (4, [.ref a_tk, .ref a_rh, .ref a_rs, .ref a_rc, .int z91, .int z70, .int z71, .int e_fp])), (a_rc, .inl (G.2 0, 400, .inl z92))] := hD
                    refine g5_ti (v := z90) y93 ?_
                    refine lv_pop hx hb dX4_readPlain_181 rfl ?_
                    refine lv_iconst (v := 1) hx hb dX4_readPlain_182 (by decide) ?_
                    exact W.zret (v := 1) hx hb hr rfl (fun t ht hW => ⟨⟨1, [(a_r, .inr (4, [.ref a_tk, .ref a_rh, .ref a_rs, .ref a_rc, .int z91, .int z70, .int z71, .int e_fp])), (a_tk, .inr (8, [.ref a_kd, .ref a_nm, .ref a_pl])), (a_kd, .inl (G.2 0, 401, .inl f_kd)), (a_nm, .inl (G.2 0, 401, .inl f_nm)), (a_rc, .inl (G.2 0, 400, .inl z92))], rfl, ⟨1, z91, z70, z71, z92, ⟨by have zc_o_r : (1 : Int32).toInt = 1 := (by decide); omega, by have zc_o_r : (1 : Int32).toInt = 1 := (by decide); omega⟩, ⟨by omega, by omega⟩, ⟨by omega, by omega⟩, i_87, opk_trans i_50 (opk_trans i_67 (opk_trans i_78 (i_88) (by omega)) (by omega)) (by omega), rfl, rfl⟩, by rw [ht]; exact hP.sub [3, 0, 1, 2, 4] rfl, hD.sub [3, 0, 1, 2, 4] (by decide) rfl⟩, hS.F ht⟩) hS.2.2 dX4_readPlain_183
                ·
                  have i_74 : z68.toInt = 0 := by have z := g5_neN (a := z68.toInt) (b := 0) (by rfl) (by decide) c_74; omega
                  refine lv_iconst (v := 0) hx hb dX4_readPlain_161 (by decide) ?_
                  exact W.zret (v := 0) hx hb hr rfl (fun t ht hW => ⟨⟨0, [(a_r, .inr (4, [.ref a_tk, .ref a_rh, .ref a_rs, .ref a_rc, .int z69, .int z70, .int z71, .int e_fp])), (a_tk, .inr (8, [.ref a_kd, .ref a_nm, .ref a_pl])), (a_kd, .inl (G.2 0, 401, .inl f_kd)), (a_nm, .inl (G.2 0, 401, .inl f_nm)), (a_rc, .inl (G.2 0, 400, .inl z72))], rfl, ⟨0, z69, z70, z71, z72, ⟨by have zc_o_r : (0 : Int32).toInt = 0 := (by decide); omega, by have zc_o_r : (0 : Int32).toInt = 0 := (by decide); omega⟩, ⟨by omega, by omega⟩, ⟨by omega, by omega⟩, i_66, opk_trans i_50 (i_67) (by omega), rfl, rfl⟩, by rw [ht]; exact hP.sub [0, 1, 2, 3, 4] rfl, hD.sub [0, 1, 2, 3, 4] (by decide) rfl⟩, hS.F ht⟩) hS.2.2 dX4_readPlain_162
              ·
                exact absurd c_61 (by decide)
          ·
            obtain ⟨hP, hD⟩ := va_join (wr := [(a_nm, .inl (G.2 0, 401, .inl f_nm)), (a_rc, .inl (G.2 0, 400, .inl z55))]) (w1 := [(a_r, .inr (4, [.ref a_tk, .ref a_rh, .ref a_rs, .ref a_rc, .int z52, .int z53, .int z54, .int e_fp])), (a_tk, .inr (8, [.ref a_kd, .ref a_nm, .ref a_pl])), (a_kd, .inl (G.2 0, 401, .inl f_kd))]) hP hD [0, 1, 2] [3, 4] rfl rfl (by decide) (by decide) hk1 hFc hP1 hD1
            generalize H1 = H at hP hS ⊢
            have hP : va_P G.1 vwCl [(a_nm, .inl (G.2 0, 401, .inl f_nm)), (a_rc, .inl (G.2 0, 400, .inl z55)), (a_r, .inr (4, [.ref a_tk, .ref a_rh, .ref a_rs, .ref a_rc, .int z52, .int z53, .int z54, .int e_fp])), (a_tk, .inr (8, [.ref a_kd, .ref a_nm, .ref a_pl])), (a_kd, .inl (G.2 0, 401, .inl f_kd))] H := hP
            have hD : va_D A [(a_nm, .inl (G.2 0, 401, .inl f_nm)), (a_rc, .inl (G.2 0, 400, .inl z55)), (a_r, .inr (4, [.ref a_tk, .ref a_rh, .ref a_rs, .ref a_rc, .int z52, .int z53, .int z54, .int e_fp])), (a_tk, .inr (8, [.ref a_kd, .ref a_nm, .ref a_pl])), (a_kd, .inl (G.2 0, 401, .inl f_kd))] := hD
            refine lv_if_eq (tgt := 106) hx hb dX4_readPlain_98 (by decide) (fun c_94 => ?_) (fun c_94 => ?_)
            ·
              refine lv_aload_n hx hb dX4_readPlain_106 rfl (lv_at hl 2 rfl) ?_
              refine lv_bipush (v := 62) hx hb dX4_readPlain_107 (by decide) ?_
              have hPc := hP.sub (ws' := [(a_r, .inr (4, [.ref a_tk, .ref a_rh, .ref a_rs, .ref a_rc, .int z52, .int z53, .int z54, .int e_fp])), (a_tk, .inr (8, [.ref a_kd, .ref a_nm, .ref a_pl])), (a_kd, .inl (G.2 0, 401, .inl f_kd))]) [2, 3, 4] rfl
              have hDc := hD.sub (ws' := [(a_r, .inr (4, [.ref a_tk, .ref a_rh, .ref a_rs, .ref a_rc, .int z52, .int z53, .int z54, .int e_fp])), (a_tk, .inr (8, [.ref a_kd, .ref a_nm, .ref a_pl])), (a_kd, .inl (G.2 0, 401, .inl f_kd))]) [2, 3, 4] (by decide) rfl
              have hFc := va_free (wc := [(a_r, .inr (4, [.ref a_tk, .ref a_rh, .ref a_rs, .ref a_rc, .int z52, .int z53, .int z54, .int e_fp])), (a_tk, .inr (8, [.ref a_kd, .ref a_nm, .ref a_pl])), (a_kd, .inl (G.2 0, 401, .inl f_kd))]) hD hS hA [2, 3, 4] rfl
              refine va_calli (va_runV (As := [.int 62]) (rest := []) ⟨hx, hb, hml, hown, hts⟩ (r_isNext l G a_r a_tk a_kd a_rh a_rs a_rc a_nm a_pl H.size z52 z53 z54 e_fp 62 f_kd ⟨by omega, by omega⟩ ⟨by omega, by omega⟩) (cwV 1 hts gV_X4_49 rfl rfl rfl hv_X4_isNext ⟨by dsimp only; omega, by dsimp only; omega⟩) (g5_preV hPc hK hDc hN hT hS hFc (ci := 4) (q0 := 0) rfl rfl) rfl rfl hl.1 rfl (lv_room (Nat.le_of_ble_eq_true rfl)) dX4_readPlain_109 ⟨Nat.le_of_ble_eq_true rfl, Nat.le_of_ble_eq_true rfl⟩) hS (fun q _ h => hFc q h) hFc (fun r u t H1 locs ht hvm hw hB hz1 hk1 hS => ?_)
              obtain ⟨hP1, hD1⟩ := hB
              rw [ht] at hP1
              rcases hw with ⟨i_95, i_96, rfl, rfl⟩ | ⟨rfl, rfl⟩
              ·
                have i_95 : z54.toInt ≤ 400 := i_95
                have i_96 : f_kd z54.toNatClampNeg = (62 : Int32) := i_96
                obtain ⟨hP, hD⟩ := va_join (wr := [(a_nm, .inl (G.2 0, 401, .inl f_nm)), (a_rc, .inl (G.2 0, 400, .inl z55))]) (w1 := [(a_r, .inr (4, [.ref a_tk, .ref a_rh, .ref a_rs, .ref a_rc, .int z52, .int z53, .int z54, .int e_fp])), (a_tk, .inr (8, [.ref a_kd, .ref a_nm, .ref a_pl])), (a_kd, .inl (G.2 0, 401, .inl f_kd))]) hP hD [2, 3, 4] [0, 1] rfl rfl (by decide) (by decide) hk1 hFc hP1 hD1
                generalize H1 = H at hP hS ⊢
                have hP : va_P G.1 vwCl [(a_nm, .inl (G.2 0, 401, .inl f_nm)), (a_rc, .inl (G.2 0, 400, .inl z55)), (a_r, .inr (4, [.ref a_tk, .ref a_rh, .ref a_rs, .ref a_rc, .int z52, .int z53, .int z54, .int e_fp])), (a_tk, .inr (8, [.ref a_kd, .ref a_nm, .ref a_pl])), (a_kd, .inl (G.2 0, 401, .inl f_kd))] H := hP
                have hD : va_D A [(a_nm, .inl (G.2 0, 401, .inl f_nm)), (a_rc, .inl (G.2 0, 400, .inl z55)), (a_r, .inr (4, [.ref a_tk, .ref a_rh, .ref a_rs, .ref a_rc, .int z52, .int z53, .int z54, .int e_fp])), (a_tk, .inr (8, [.ref a_kd, .ref a_nm, .ref a_pl])), (a_kd, .inl (G.2 0, 401, .inl f_kd))] := hD
                refine lv_if_eq (tgt := 120) hx hb dX4_readPlain_112 (by decide) (fun c_97 => ?_) (fun c_97 => ?_)
                ·
                  exact absurd c_97 (by decide)
                ·
                  refine lv_bipush (v := 7) hx hb dX4_readPlain_115 (by decide) ?_
                  refine lv_goto (tgt := 135) hx hb dX4_readPlain_117 (by decide) ?_
                  refine lv_istore_n (lv' := [(3, .int 7), (2, .int k_u), (0, .ref a_r), (1, .int p_d)]) hx hb dX4_readPlain_135 rfl hl (by decide) rfl (fun ls hl => ?_)
                  refine lv_iload_n hx hb dX4_readPlain_136 rfl (lv_at hl 0 rfl) ?_
                  refine lv_iconst (v := (-1)) hx hb dX4_readPlain_137 (by decide) ?_
                  refine lv_icmp_ne (tgt := 143) hx hb dX4_readPlain_138 (by decide) (fun c_98 => ?_) (fun c_98 => ?_)
                  ·
                    refine lv_aload_n hx hb dX4_readPlain_143 rfl (lv_at hl 2 rfl) ?_
                    refine lv_dup hx hb dX4_readPlain_144 rfl ?_
                    refine va_get (D := G.1) (ci := 4) (v := .int z54) (C := RX4) (T := TX4) (N := 8) hx hb hts inG_X4 hown hK hP 2 rfl rfl 6 (by decide) (hts _ fl_X4_42) (fun _ h9 => h9) rfl dX4_readPlain_145 ?_
                    refine lv_iconst (v := 1) hx hb dX4_readPlain_148 (by decide) ?_
                    refine lv_iadd hx hb dX4_readPlain_149 ?_
                    have t_99 : (z54 + 1).toInt = z54.toInt + 1 := g5_iadd (a := z54.toInt) (b := 1) (by rfl) (by decide) (by omega) (by omega)
                    refine va_put (D := G.1) (ci := 4) (v := .int (z54 + 1)) (ty := .int) (C := RX4) (T := TX4) (N := 8) hx hb hts inG_X4 tyX4 tyX4_ok nmX4 hown hK hP hD hS 2 rfl rfl 6 (by decide) (hts _ fl_X4_42) (fun _ h9 => h9) rfl (by decide +kernel) rfl rfl (Nat.le_of_ble_eq_true rfl) dX4_readPlain_150 (fun H locs hP hD hS => ?_)
                    have hP : va_P G.1 vwCl [(a_nm, .inl (G.2 0, 401, .inl f_nm)), (a_rc, .inl (G.2 0, 400, .inl z55)), (a_r, .inr (4, [.ref a_tk, .ref a_rh, .ref a_rs, .ref a_rc, .int z52, .int z53, .int (z54 + 1), .int e_fp])), (a_tk, .inr (8, [.ref a_kd, .ref a_nm, .ref a_pl])), (a_kd, .inl (G.2 0, 401, .inl f_kd))] H := hP
                    have hD : va_D A [(a_nm, .inl (G.2 0, 401, .inl f_nm)), (a_rc, .inl (G.2 0, 400, .inl z55)), (a_r, .inr (4, [.ref a_tk, .ref a_rh, .ref a_rs, .ref a_rc, .int z52, .int z53, .int (z54 + 1), .int e_fp])), (a_tk, .inr (8, [.ref a_kd, .ref a_nm, .ref a_pl])), (a_kd, .inl (G.2 0, 401, .inl f_kd))] := hD
                    refine lv_aload_n hx hb dX4_readPlain_153 rfl (lv_at hl 2 rfl) ?_
                    refine lv_iload_n hx hb dX4_readPlain_154 rfl (lv_at hl 3 rfl) ?_
                    have hPc := hP.sub (ws' := [(a_r, .inr (4, [.ref a_tk, .ref a_rh, .ref a_rs, .ref a_rc, .int z52, .int z53, .int (z54 + 1), .int e_fp])), (a_tk, .inr (8, [.ref a_kd, .ref a_nm, .ref a_pl])), (a_kd, .inl (G.2 0, 401, .inl f_kd)), (a_nm, .inl (G.2 0, 401, .inl f_nm)), (a_rc, .inl (G.2 0, 400, .inl z55))]) [2, 3, 4, 0, 1] rfl
                    have hDc := hD.sub (ws' := [(a_r, .inr (4, [.ref a_tk, .ref a_rh, .ref a_rs, .ref a_rc, .int z52, .int z53, .int (z54 + 1), .int e_fp])), (a_tk, .inr (8, [.ref a_kd, .ref a_nm, .ref a_pl])), (a_kd, .inl (G.2 0, 401, .inl f_kd)), (a_nm, .inl (G.2 0, 401, .inl f_nm)), (a_rc, .inl (G.2 0, 400, .inl z55))]) [2, 3, 4, 0, 1] (by decide) rfl
                    have hFc := va_free (wc := [(a_r, .inr (4, [.ref a_tk, .ref a_rh, .ref a_rs, .ref a_rc, .int z52, .int z53, .int (z54 + 1), .int e_fp])), (a_tk, .inr (8, [.ref a_kd, .ref a_nm, .ref a_pl])), (a_kd, .inl (G.2 0, 401, .inl f_kd)), (a_nm, .inl (G.2 0, 401, .inl f_nm)), (a_rc, .inl (G.2 0, 400, .inl z55))]) hD hS hA [2, 3, 4, 0, 1] rfl
                    refine va_calli (va_runV (As := [.int p_d]) (rest := []) ⟨hx, hb, hml, hown, hts⟩ ((r_sum fr lo p_d h_p_d h_sum) l G a_r a_tk a_kd a_nm a_rc a_rh a_rs a_pl H.size z52 z53 (z54 + 1) e_fp f_kd f_nm z55 ⟨by omega, by omega⟩ ⟨by omega, by omega⟩ (e_tk) (i_49)) (cwV 1 hts gV_X4_73 rfl rfl rfl hv_X4_readSum ⟨by dsimp only; omega, by dsimp only; omega⟩) (g5_preV hPc hK hDc hN hT hS hFc (ci := 4) (q0 := 0) rfl rfl) rfl rfl hl.1 rfl (lv_room (Nat.le_of_ble_eq_true rfl)) dX4_readPlain_155 ⟨Nat.le_of_ble_eq_true rfl, Nat.le_of_ble_eq_true rfl⟩) hS (fun q _ h => hFc q h) hFc (fun r u t H1 locs ht hvm hw hB hz1 hk1 hS => ?_)
                    obtain ⟨hP1, hD1⟩ := hB
                    rw [ht] at hP1
                    obtain ⟨z105, z106, z107, z108, z109, i_100, i_101, i_102, i_103, i_104, y110, rfl⟩ := hw
                    have i_100 : 0 ≤ z105.toInt ∧ z105.toInt ≤ 1 := i_100
                    have i_101 : z52.toInt ≤ z106.toInt ∧ z106.toInt ≤ 400 := i_101
                    have i_102 : 0 ≤ z108.toInt ∧ z108.toInt ≤ 401 := i_102
                    have i_103 : CDI z109 z106.toInt := i_103
                    have i_104 : OPK z55 z109 z52.toInt := i_104
                    obtain ⟨hP, hD⟩ := va_join (wr := []) (w1 := [(a_r, .inr (4, [.ref a_tk, .ref a_rh, .ref a_rs, .ref a_rc, .int z106, .int z107, .int z108, .int e_fp])), (a_tk, .inr (8, [.ref a_kd, .ref a_nm, .ref a_pl])), (a_kd, .inl (G.2 0, 401, .inl f_kd)), (a_nm, .inl (G.2 0, 401, .inl f_nm)), (a_rc, .inl (G.2 0, 400, .inl z109))]) hP hD [2, 3, 4, 0, 1] [] rfl rfl (by decide) (by decide) hk1 hFc hP1 hD1
                    generalize H1 = H at hP hS ⊢
                    have hP : va_P G.1 vwCl [(a_r, .inr (4, [.ref a_tk, .ref a_rh, .ref a_rs, .ref a_rc, .int z106, .int z107, .int z108, .int e_fp])), (a_tk, .inr (8, [.ref a_kd, .ref a_nm, .ref a_pl])), (a_kd, .inl (G.2 0, 401, .inl f_kd)), (a_nm, .inl (G.2 0, 401, .inl f_nm)), (a_rc, .inl (G.2 0, 400, .inl z109))] H := hP
                    have hD : va_D A [(a_r, .inr (4, [.ref a_tk, .ref a_rh, .ref a_rs, .ref a_rc, .int z106, .int z107, .int z108, .int e_fp])), (a_tk, .inr (8, [.ref a_kd, .ref a_nm, .ref a_pl])), (a_kd, .inl (G.2 0, 401, .inl f_kd)), (a_nm, .inl (G.2 0, 401, .inl f_nm)), (a_rc, .inl (G.2 0, 400, .inl z109))] := hD
                    refine g5_ti (v := z105) y110 ?_
                    refine lv_if_ne (tgt := 163) hx hb dX4_readPlain_158 (by decide) (fun c_111 => ?_) (fun c_111 => ?_)
                    ·
                      have n_111 : gNe (z105.toInt) (0) := by have z := g5_ne (a := z105.toInt) (b := 0) (by rfl) (by decide) c_111; unfold gNe; omega
                      have i_111 : z105.toInt ≥ 1 := by have z := g5_ne (a := z105.toInt) (b := 0) (by rfl) (by decide) c_111; omega
                      refine lv_aload_n hx hb dX4_readPlain_163 rfl (lv_at hl 2 rfl) ?_
                      refine lv_iload_n hx hb dX4_readPlain_164 rfl (lv_at hl 0 rfl) ?_
                      refine lv_iconst (v := 0) hx hb dX4_readPlain_165 (by decide) ?_
                      have hPc := hP.sub (ws' := [(a_r, .inr (4, [.ref a_tk, .ref a_rh, .ref a_rs, .ref a_rc, .int z106, .int z107, .int z108, .int e_fp])), (a_rc, .inl (G.2 0, 400, .inl z109))]) [0, 4] rfl
                      have hDc := hD.sub (ws' := [(a_r, .inr (4, [.ref a_tk, .ref a_rh, .ref a_rs, .ref a_rc, .int z106, .int z107, .int z108, .int e_fp])), (a_rc, .inl (G.2 0, 400, .inl z109))]) [0, 4] (by decide) rfl
                      have hFc := va_free (wc := [(a_r, .inr (4, [.ref a_tk, .ref a_rh, .ref a_rs, .ref a_rc, .int z106, .int z107, .int z108, .int e_fp])), (a_rc, .inl (G.2 0, 400, .inl z109))]) hD hS hA [0, 4] rfl
                      refine va_calli (va_runV (As := [.int 7, .int 0]) (rest := []) ⟨hx, hb, hml, hown, hts⟩ (r_emit l G a_r a_rc a_tk a_rh a_rs H.size z106 z107 z108 e_fp 7 0 z109 ⟨by omega, by omega⟩ ⟨by omega, by omega⟩ (i_103) (by unfold wOK; decide)) (cwV 2 hts gV_X4_79 rfl rfl rfl hv_X4_emit ⟨by dsimp only; omega, by dsimp only; omega⟩) (g5_preV hPc hK hDc hN hT hS hFc (ci := 4) (q0 := 0) rfl rfl) rfl rfl hl.1 rfl (lv_room (Nat.le_of_ble_eq_true rfl)) dX4_readPlain_166 ⟨Nat.le_of_ble_eq_true rfl, Nat.le_of_ble_eq_true rfl⟩) hS (fun q _ h => hFc q h) hFc (fun r u t H1 locs ht hvm hw hB hz1 hk1 hS => ?_)
                      obtain ⟨hP1, hD1⟩ := hB
                      rw [ht] at hP1
                      obtain ⟨z117, z118, z119, i_112, i_113, i_114, i_115, i_116, y120, rfl⟩ := hw
                      have i_112 : -1 ≤ z117.toInt ∧ z117.toInt ≤ 399 := i_112
                      have i_113 : z106.toInt ≤ z118.toInt ∧ z118.toInt ≤ 400 := i_113
                      have i_114 : CDI z119 z118.toInt := i_114
                      have i_115 : OPK z109 z119 z106.toInt := i_115
                      have i_116 : 0 ≤ z117.toInt → z117.toInt < z118.toInt ∧ z119 z117.toNatClampNeg = (((7 : Int32) <<< (12 &&& 31)) ||| (0 : Int32)) := i_116
                      obtain ⟨hP, hD⟩ := va_join (wr := [(a_tk, .inr (8, [.ref a_kd, .ref a_nm, .ref a_pl])), (a_kd, .inl (G.2 0, 401, .inl f_kd)), (a_nm, .inl (G.2 0, 401, .inl f_nm))]) (w1 := [(a_r, .inr (4, [.ref a_tk, .ref a_rh, .ref a_rs, .ref a_rc, .int z118, .int z107, .int z108, .int e_fp])), (a_rc, .inl (G.2 0, 400, .inl z119))]) hP hD [0, 4] [1, 2, 3] rfl rfl (by decide) (by decide) hk1 hFc hP1 hD1
                      generalize H1 = H at hP hS ⊢
                      have hP : va_P G.1 vwCl [(a_tk, .inr (8, [.ref a_kd, .ref a_nm, .ref a_pl])), (a_kd, .inl (G.2 0, 401, .inl f_kd)), (a_nm, .inl (G.2 0, 401, .inl f_nm)), (a_r, .inr (4, [.ref a_tk, .ref a_rh, .ref a_rs, .ref a_rc, .int z118, .int z107, .int z108, .int e_fp])), (a_rc, .inl (G.2 0, 400, .inl z119))] H := hP
                      have hD : va_D A [(a_tk, .inr (8, [.ref a_kd, .ref a_nm, .ref a_pl])), (a_kd, .inl (G.2 0, 401, .inl f_kd)), (a_nm, .inl (G.2 0, 401, .inl f_nm)), (a_r, .inr (4, [.ref a_tk, .ref a_rh, .ref a_rs, .ref a_rc, .int z118, .int z107, .int z108, .int e_fp])), (a_rc, .inl (G.2 0, 400, .inl z119))] := hD
                      refine g5_ti (v := z117) y120 ?_
                      refine lv_pop hx hb dX4_readPlain_169 rfl ?_
                      refine lv_iload_n hx hb dX4_readPlain_170 rfl (lv_at hl 1 rfl) ?_
                      refine lv_if_eq (tgt := 182) hx hb dX4_readPlain_171 (by decide) (fun c_121 => ?_) (fun c_121 => ?_)
                      ·
                        have i_121 : k_u.toInt = 0 := by have z := g5_eq (a := k_u.toInt) (b := 0) (by rfl) (by decide) c_121; omega
                        refine lv_iconst (v := 1) hx hb dX4_readPlain_182 (by decide) ?_
                        exact W.zret (v := 1) hx hb hr rfl (fun t ht hW => ⟨⟨1, [(a_r, .inr (4, [.ref a_tk, .ref a_rh, .ref a_rs, .ref a_rc, .int z118, .int z107, .int z108, .int e_fp])), (a_tk, .inr (8, [.ref a_kd, .ref a_nm, .ref a_pl])), (a_kd, .inl (G.2 0, 401, .inl f_kd)), (a_nm, .inl (G.2 0, 401, .inl f_nm)), (a_rc, .inl (G.2 0, 400, .inl z119))], rfl, ⟨1, z118, z107, z108, z119, ⟨by have zc_o_r : (1 : Int32).toInt = 1 := (by decide); omega, by have zc_o_r : (1 : Int32).toInt = 1 := (by decide); omega⟩, ⟨by omega, by omega⟩, ⟨by omega, by omega⟩, i_114, opk_trans i_50 (opk_trans i_104 (i_115) (by omega)) (by omega), rfl, rfl⟩, by rw [ht]; exact hP.sub [3, 0, 1, 2, 4] rfl, hD.sub [3, 0, 1, 2, 4] (by decide) rfl⟩, hS.F ht⟩) hS.2.2 dX4_readPlain_183
                      ·
                        have n_121 : gNe (k_u.toInt) (0) := by have z := g5_eqN (a := k_u.toInt) (b := 0) (by rfl) (by decide) c_121; unfold gNe; omega
                        have i_121 : k_u.toInt ≥ 1 := by have z := g5_eqN (a := k_u.toInt) (b := 0) (by rfl) (by decide) c_121; omega
                        refine lv_aload_n hx hb dX4_readPlain_174 rfl (lv_at hl 2 rfl) ?_
                        refine lv_bipush (v := 9) hx hb dX4_readPlain_175 (by decide) ?_
                        refine lv_iconst (v := 0) hx hb dX4_readPlain_177 (by decide) ?_
                        have hPc := hP.sub (ws' := [(a_r, .inr (4, [.ref a_tk, .ref a_rh, .ref a_rs, .ref a_rc, .int z118, .int z107, .int z108, .int e_fp])), (a_rc, .inl (G.2 0, 400, .inl z119))]) [3, 4] rfl
                        have hDc := hD.sub (ws' := [(a_r, .inr (4, [.ref a_tk, .ref a_rh, .ref a_rs, .ref a_rc, .int z118, .int z107, .int z108, .int e_fp])), (a_rc, .inl (G.2 0, 400, .inl z119))]) [3, 4] (by decide) rfl
                        have hFc := va_free (wc := [(a_r, .inr (4, [.ref a_tk, .ref a_rh, .ref a_rs, .ref a_rc, .int z118, .int z107, .int z108, .int e_fp])), (a_rc, .inl (G.2 0, 400, .inl z119))]) hD hS hA [3, 4] rfl
                        refine va_calli (va_runV (As := [.int 9, .int 0]) (rest := []) ⟨hx, hb, hml, hown, hts⟩ (r_emit l G a_r a_rc a_tk a_rh a_rs H.size z118 z107 z108 e_fp 9 0 z119 ⟨by omega, by omega⟩ ⟨by omega, by omega⟩ (i_114) (by unfold wOK; decide)) (cwV 2 hts gV_X4_79 rfl rfl rfl hv_X4_emit ⟨by dsimp only; omega, by dsimp only; omega⟩) (g5_preV hPc hK hDc hN hT hS hFc (ci := 4) (q0 := 0) rfl rfl) rfl rfl hl.1 rfl (lv_room (Nat.le_of_ble_eq_true rfl)) dX4_readPlain_178 ⟨Nat.le_of_ble_eq_true rfl, Nat.le_of_ble_eq_true rfl⟩) hS (fun q _ h => hFc q h) hFc (fun r u t H1 locs ht hvm hw hB hz1 hk1 hS => ?_)
                        obtain ⟨hP1, hD1⟩ := hB
                        rw [ht] at hP1
                        obtain ⟨z127, z128, z129, i_122, i_123, i_124, i_125, i_126, y130, rfl⟩ := hw
                        have i_122 : -1 ≤ z127.toInt ∧ z127.toInt ≤ 399 := i_122
                        have i_123 : z118.toInt ≤ z128.toInt ∧ z128.toInt ≤ 400 := i_123
                        have i_124 : CDI z129 z128.toInt := i_124
                        have i_125 : OPK z119 z129 z118.toInt := i_125
                        have i_126 : 0 ≤ z127.toInt → z127.toInt < z128.toInt ∧ z129 z127.toNatClampNeg = (((9 : Int32) <<< (12 &&& 31)) ||| (0 : Int32)) := i_126
                        obtain ⟨hP, hD⟩ := va_join (wr := [(a_tk, .inr (8, [.ref a_kd, .ref a_nm, .ref a_pl])), (a_kd, .inl (G.2 0, 401, .inl f_kd)), (a_nm, .inl (G.2 0, 401, .inl f_nm))]) (w1 := [(a_r, .inr (4, [.ref a_tk, .ref a_rh, .ref a_rs, .ref a_rc, .int z128, .int z107, .int z108, .int e_fp])), (a_rc, .inl (G.2 0, 400, .inl z129))]) hP hD [3, 4] [0, 1, 2] rfl rfl (by decide) (by decide) hk1 hFc hP1 hD1
                        generalize H1 = H at hP hS ⊢
                        have hP : va_P G.1 vwCl [(a_tk, .inr (8, [.ref a_kd, .ref a_nm, .ref a_pl])), (a_kd, .inl (G.2 0, 401, .inl f_kd)), (a_nm, .inl (G.2 0, 401, .inl f_nm)), (a_r, .inr (4, [.ref a_tk, .ref a_rh, .ref a_rs, .ref a_rc, .int z128, .int z107, .int z108, .int e_fp])), (a_rc, .inl (G.2 0, 400, .inl z129))] H := hP
                        have hD : va_D A [(a_tk, .inr (8, [.ref a_kd, .ref a_nm, .ref a_pl])), (a_kd, .inl (G.2 0, 401, .inl f_kd)), (a_nm, .inl (G.2 0, 401, .inl f_nm)), (a_r, .inr (4, [.ref a_tk, .ref a_rh, .ref a_rs, .ref a_rc, .int z128, .int z107, .int z108, .int e_fp])), (a_rc, .inl (G.2 0, 400, .inl z129))] := hD
                        refine g5_ti (v := z127) y130 ?_
                        refine lv_pop hx hb dX4_readPlain_181 rfl ?_
                        refine lv_iconst (v := 1) hx hb dX4_readPlain_182 (by decide) ?_
                        exact W.zret (v := 1) hx hb hr rfl (fun t ht hW => ⟨⟨1, [(a_r, .inr (4, [.ref a_tk, .ref a_rh, .ref a_rs, .ref a_rc, .int z128, .int z107, .int z108, .int e_fp])), (a_tk, .inr (8, [.ref a_kd, .ref a_nm, .ref a_pl])), (a_kd, .inl (G.2 0, 401, .inl f_kd)), (a_nm, .inl (G.2 0, 401, .inl f_nm)), (a_rc, .inl (G.2 0, 400, .inl z129))], rfl, ⟨1, z128, z107, z108, z129, ⟨by have zc_o_r : (1 : Int32).toInt = 1 := (by decide); omega, by have zc_o_r : (1 : Int32).toInt = 1 := (by decide); omega⟩, ⟨by omega, by omega⟩, ⟨by omega, by omega⟩, i_124, opk_trans i_50 (opk_trans i_104 (opk_trans i_115 (i_125) (by omega)) (by omega)) (by omega), rfl, rfl⟩, by rw [ht]; exact hP.sub [3, 0, 1, 2, 4] rfl, hD.sub [3, 0, 1, 2, 4] (by decide) rfl⟩, hS.F ht⟩) hS.2.2 dX4_readPlain_183
                    ·
                      have i_111 : z105.toInt = 0 := by have z := g5_neN (a := z105.toInt) (b := 0) (by rfl) (by decide) c_111; omega
                      refine lv_iconst (v := 0) hx hb dX4_readPlain_161 (by decide) ?_
                      exact W.zret (v := 0) hx hb hr rfl (fun t ht hW => ⟨⟨0, [(a_r, .inr (4, [.ref a_tk, .ref a_rh, .ref a_rs, .ref a_rc, .int z106, .int z107, .int z108, .int e_fp])), (a_tk, .inr (8, [.ref a_kd, .ref a_nm, .ref a_pl])), (a_kd, .inl (G.2 0, 401, .inl f_kd)), (a_nm, .inl (G.2 0, 401, .inl f_nm)), (a_rc, .inl (G.2 0, 400, .inl z109))], rfl, ⟨0, z106, z107, z108, z109, ⟨by have zc_o_r : (0 : Int32).toInt = 0 := (by decide); omega, by have zc_o_r : (0 : Int32).toInt = 0 := (by decide); omega⟩, ⟨by omega, by omega⟩, ⟨by omega, by omega⟩, i_103, opk_trans i_50 (i_104) (by omega), rfl, rfl⟩, by rw [ht]; exact hP.sub [0, 1, 2, 3, 4] rfl, hD.sub [0, 1, 2, 3, 4] (by decide) rfl⟩, hS.F ht⟩) hS.2.2 dX4_readPlain_162
                  ·
                    exact absurd c_98 (by decide)
              ·
                obtain ⟨hP, hD⟩ := va_join (wr := [(a_nm, .inl (G.2 0, 401, .inl f_nm)), (a_rc, .inl (G.2 0, 400, .inl z55))]) (w1 := [(a_r, .inr (4, [.ref a_tk, .ref a_rh, .ref a_rs, .ref a_rc, .int z52, .int z53, .int z54, .int e_fp])), (a_tk, .inr (8, [.ref a_kd, .ref a_nm, .ref a_pl])), (a_kd, .inl (G.2 0, 401, .inl f_kd))]) hP hD [2, 3, 4] [0, 1] rfl rfl (by decide) (by decide) hk1 hFc hP1 hD1
                generalize H1 = H at hP hS ⊢
                have hP : va_P G.1 vwCl [(a_nm, .inl (G.2 0, 401, .inl f_nm)), (a_rc, .inl (G.2 0, 400, .inl z55)), (a_r, .inr (4, [.ref a_tk, .ref a_rh, .ref a_rs, .ref a_rc, .int z52, .int z53, .int z54, .int e_fp])), (a_tk, .inr (8, [.ref a_kd, .ref a_nm, .ref a_pl])), (a_kd, .inl (G.2 0, 401, .inl f_kd))] H := hP
                have hD : va_D A [(a_nm, .inl (G.2 0, 401, .inl f_nm)), (a_rc, .inl (G.2 0, 400, .inl z55)), (a_r, .inr (4, [.ref a_tk, .ref a_rh, .ref a_rs, .ref a_rc, .int z52, .int z53, .int z54, .int e_fp])), (a_tk, .inr (8, [.ref a_kd, .ref a_nm, .ref a_pl])), (a_kd, .inl (G.2 0, 401, .inl f_kd))] := hD
                refine lv_if_eq (tgt := 120) hx hb dX4_readPlain_112 (by decide) (fun c_131 => ?_) (fun c_131 => ?_)
                ·
                  refine lv_aload_n hx hb dX4_readPlain_120 rfl (lv_at hl 2 rfl) ?_
                  refine lv_bipush (v := 61) hx hb dX4_readPlain_121 (by decide) ?_
                  have hPc := hP.sub (ws' := [(a_r, .inr (4, [.ref a_tk, .ref a_rh, .ref a_rs, .ref a_rc, .int z52, .int z53, .int z54, .int e_fp])), (a_tk, .inr (8, [.ref a_kd, .ref a_nm, .ref a_pl])), (a_kd, .inl (G.2 0, 401, .inl f_kd))]) [2, 3, 4] rfl
                  have hDc := hD.sub (ws' := [(a_r, .inr (4, [.ref a_tk, .ref a_rh, .ref a_rs, .ref a_rc, .int z52, .int z53, .int z54, .int e_fp])), (a_tk, .inr (8, [.ref a_kd, .ref a_nm, .ref a_pl])), (a_kd, .inl (G.2 0, 401, .inl f_kd))]) [2, 3, 4] (by decide) rfl
                  have hFc := va_free (wc := [(a_r, .inr (4, [.ref a_tk, .ref a_rh, .ref a_rs, .ref a_rc, .int z52, .int z53, .int z54, .int e_fp])), (a_tk, .inr (8, [.ref a_kd, .ref a_nm, .ref a_pl])), (a_kd, .inl (G.2 0, 401, .inl f_kd))]) hD hS hA [2, 3, 4] rfl
                  refine va_calli (va_runV (As := [.int 61]) (rest := []) ⟨hx, hb, hml, hown, hts⟩ (r_isNext l G a_r a_tk a_kd a_rh a_rs a_rc a_nm a_pl H.size z52 z53 z54 e_fp 61 f_kd ⟨by omega, by omega⟩ ⟨by omega, by omega⟩) (cwV 1 hts gV_X4_49 rfl rfl rfl hv_X4_isNext ⟨by dsimp only; omega, by dsimp only; omega⟩) (g5_preV hPc hK hDc hN hT hS hFc (ci := 4) (q0 := 0) rfl rfl) rfl rfl hl.1 rfl (lv_room (Nat.le_of_ble_eq_true rfl)) dX4_readPlain_123 ⟨Nat.le_of_ble_eq_true rfl, Nat.le_of_ble_eq_true rfl⟩) hS (fun q _ h => hFc q h) hFc (fun r u t H1 locs ht hvm hw hB hz1 hk1 hS => ?_)
                  obtain ⟨hP1, hD1⟩ := hB
                  rw [ht] at hP1
                  rcases hw with ⟨i_132, i_133, rfl, rfl⟩ | ⟨rfl, rfl⟩
                  ·
                    have i_132 : z54.toInt ≤ 400 := i_132
                    have i_133 : f_kd z54.toNatClampNeg = (61 : Int32) := i_133
                    obtain ⟨hP, hD⟩ := va_join (wr := [(a_nm, .inl (G.2 0, 401, .inl f_nm)), (a_rc, .inl (G.2 0, 400, .inl z55))]) (w1 := [(a_r, .inr (4, [.ref a_tk, .ref a_rh, .ref a_rs, .ref a_rc, .int z52, .int z53, .int z54, .int e_fp])), (a_tk, .inr (8, [.ref a_kd, .ref a_nm, .ref a_pl])), (a_kd, .inl (G.2 0, 401, .inl f_kd))]) hP hD [2, 3, 4] [0, 1] rfl rfl (by decide) (by decide) hk1 hFc hP1 hD1
                    generalize H1 = H at hP hS ⊢
                    have hP : va_P G.1 vwCl [(a_nm, .inl (G.2 0, 401, .inl f_nm)), (a_rc, .inl (G.2 0, 400, .inl z55)), (a_r, .inr (4, [.ref a_tk, .ref a_rh, .ref a_rs, .ref a_rc, .int z52, .int z53, .int z54, .int e_fp])), (a_tk, .inr (8, [.ref a_kd, .ref a_nm, .ref a_pl])), (a_kd, .inl (G.2 0, 401, .inl f_kd))] H := hP
                    have hD : va_D A [(a_nm, .inl (G.2 0, 401, .inl f_nm)), (a_rc, .inl (G.2 0, 400, .inl z55)), (a_r, .inr (4, [.ref a_tk, .ref a_rh, .ref a_rs, .ref a_rc, .int z52, .int z53, .int z54, .int e_fp])), (a_tk, .inr (8, [.ref a_kd, .ref a_nm, .ref a_pl])), (a_kd, .inl (G.2 0, 401, .inl f_kd))] := hD
                    refine lv_if_eq (tgt := 134) hx hb dX4_readPlain_126 (by decide) (fun c_134 => ?_) (fun c_134 => ?_)
                    ·
                      exact absurd c_134 (by decide)
                    ·
                      refine lv_bipush (v := 8) hx hb dX4_readPlain_129 (by decide) ?_
                      refine lv_goto (tgt := 135) hx hb dX4_readPlain_131 (by decide) ?_
                      refine lv_istore_n (lv' := [(3, .int 8), (2, .int k_u), (0, .ref a_r), (1, .int p_d)]) hx hb dX4_readPlain_135 rfl hl (by decide) rfl (fun ls hl => ?_)
                      refine lv_iload_n hx hb dX4_readPlain_136 rfl (lv_at hl 0 rfl) ?_
                      refine lv_iconst (v := (-1)) hx hb dX4_readPlain_137 (by decide) ?_
                      refine lv_icmp_ne (tgt := 143) hx hb dX4_readPlain_138 (by decide) (fun c_135 => ?_) (fun c_135 => ?_)
                      ·
                        refine lv_aload_n hx hb dX4_readPlain_143 rfl (lv_at hl 2 rfl) ?_
                        refine lv_dup hx hb dX4_readPlain_144 rfl ?_
                        refine va_get (D := G.1) (ci := 4) (v := .int z54) (C := RX4) (T := TX4) (N := 8) hx hb hts inG_X4 hown hK hP 2 rfl rfl 6 (by decide) (hts _ fl_X4_42) (fun _ h9 => h9) rfl dX4_readPlain_145 ?_
                        refine lv_iconst (v := 1) hx hb dX4_readPlain_148 (by decide) ?_
                        refine lv_iadd hx hb dX4_readPlain_149 ?_
                        have t_136 : (z54 + 1).toInt = z54.toInt + 1 := g5_iadd (a := z54.toInt) (b := 1) (by rfl) (by decide) (by omega) (by omega)
                        refine va_put (D := G.1) (ci := 4) (v := .int (z54 + 1)) (ty := .int) (C := RX4) (T := TX4) (N := 8) hx hb hts inG_X4 tyX4 tyX4_ok nmX4 hown hK hP hD hS 2 rfl rfl 6 (by decide) (hts _ fl_X4_42) (fun _ h9 => h9) rfl (by decide +kernel) rfl rfl (Nat.le_of_ble_eq_true rfl) dX4_readPlain_150 (fun H locs hP hD hS => ?_)
                        have hP : va_P G.1 vwCl [(a_nm, .inl (G.2 0, 401, .inl f_nm)), (a_rc, .inl (G.2 0, 400, .inl z55)), (a_r, .inr (4, [.ref a_tk, .ref a_rh, .ref a_rs, .ref a_rc, .int z52, .int z53, .int (z54 + 1), .int e_fp])), (a_tk, .inr (8, [.ref a_kd, .ref a_nm, .ref a_pl])), (a_kd, .inl (G.2 0, 401, .inl f_kd))] H := hP
                        have hD : va_D A [(a_nm, .inl (G.2 0, 401, .inl f_nm)), (a_rc, .inl (G.2 0, 400, .inl z55)), (a_r, .inr (4, [.ref a_tk, .ref a_rh, .ref a_rs, .ref a_rc, .int z52, .int z53, .int (z54 + 1), .int e_fp])), (a_tk, .inr (8, [.ref a_kd, .ref a_nm, .ref a_pl])), (a_kd, .inl (G.2 0, 401, .inl f_kd))] := hD
                        refine lv_aload_n hx hb dX4_readPlain_153 rfl (lv_at hl 2 rfl) ?_
                        refine lv_iload_n hx hb dX4_readPlain_154 rfl (lv_at hl 3 rfl) ?_
                        have hPc := hP.sub (ws' := [(a_r, .inr (4, [.ref a_tk, .ref a_rh, .ref a_rs, .ref a_rc, .int z52, .int z53, .int (z54 + 1), .int e_fp])), (a_tk, .inr (8, [.ref a_kd, .ref a_nm, .ref a_pl])), (a_kd, .inl (G.2 0, 401, .inl f_kd)), (a_nm, .inl (G.2 0, 401, .inl f_nm)), (a_rc, .inl (G.2 0, 400, .inl z55))]) [2, 3, 4, 0, 1] rfl
                        have hDc := hD.sub (ws' := [(a_r, .inr (4, [.ref a_tk, .ref a_rh, .ref a_rs, .ref a_rc, .int z52, .int z53, .int (z54 + 1), .int e_fp])), (a_tk, .inr (8, [.ref a_kd, .ref a_nm, .ref a_pl])), (a_kd, .inl (G.2 0, 401, .inl f_kd)), (a_nm, .inl (G.2 0, 401, .inl f_nm)), (a_rc, .inl (G.2 0, 400, .inl z55))]) [2, 3, 4, 0, 1] (by decide) rfl
                        have hFc := va_free (wc := [(a_r, .inr (4, [.ref a_tk, .ref a_rh, .ref a_rs, .ref a_rc, .int z52, .int z53, .int (z54 + 1), .int e_fp])), (a_tk, .inr (8, [.ref a_kd, .ref a_nm, .ref a_pl])), (a_kd, .inl (G.2 0, 401, .inl f_kd)), (a_nm, .inl (G.2 0, 401, .inl f_nm)), (a_rc, .inl (G.2 0, 400, .inl z55))]) hD hS hA [2, 3, 4, 0, 1] rfl
                        refine va_calli (va_runV (As := [.int p_d]) (rest := []) ⟨hx, hb, hml, hown, hts⟩ ((r_sum fr lo p_d h_p_d h_sum) l G a_r a_tk a_kd a_nm a_rc a_rh a_rs a_pl H.size z52 z53 (z54 + 1) e_fp f_kd f_nm z55 ⟨by omega, by omega⟩ ⟨by omega, by omega⟩ (e_tk) (i_49)) (cwV 1 hts gV_X4_73 rfl rfl rfl hv_X4_readSum ⟨by dsimp only; omega, by dsimp only; omega⟩) (g5_preV hPc hK hDc hN hT hS hFc (ci := 4) (q0 := 0) rfl rfl) rfl rfl hl.1 rfl (lv_room (Nat.le_of_ble_eq_true rfl)) dX4_readPlain_155 ⟨Nat.le_of_ble_eq_true rfl, Nat.le_of_ble_eq_true rfl⟩) hS (fun q _ h => hFc q h) hFc (fun r u t H1 locs ht hvm hw hB hz1 hk1 hS => ?_)
                        obtain ⟨hP1, hD1⟩ := hB
                        rw [ht] at hP1
                        obtain ⟨z142, z143, z144, z145, z146, i_137, i_138, i_139, i_140, i_141, y147, rfl⟩ := hw
                        have i_137 : 0 ≤ z142.toInt ∧ z142.toInt ≤ 1 := i_137
                        have i_138 : z52.toInt ≤ z143.toInt ∧ z143.toInt ≤ 400 := i_138
                        have i_139 : 0 ≤ z145.toInt ∧ z145.toInt ≤ 401 := i_139
                        have i_140 : CDI z146 z143.toInt := i_140
                        have i_141 : OPK z55 z146 z52.toInt := i_141
                        obtain ⟨hP, hD⟩ := va_join (wr := []) (w1 := [(a_r, .inr (4, [.ref a_tk, .ref a_rh, .ref a_rs, .ref a_rc, .int z143, .int z144, .int z145, .int e_fp])), (a_tk, .inr (8, [.ref a_kd, .ref a_nm, .ref a_pl])), (a_kd, .inl (G.2 0, 401, .inl f_kd)), (a_nm, .inl (G.2 0, 401, .inl f_nm)), (a_rc, .inl (G.2 0, 400, .inl z146))]) hP hD [2, 3, 4, 0, 1] [] rfl rfl (by decide) (by decide) hk1 hFc hP1 hD1
                        generalize H1 = H at hP hS ⊢
                        have hP : va_P G.1 vwCl [(a_r, .inr (4, [.ref a_tk, .ref a_rh, .ref a_rs, .ref a_rc, .int z143, .int z144, .int z145, .int e_fp])), (a_tk, .inr (8, [.ref a_kd, .ref a_nm, .ref a_pl])), (a_kd, .inl (G.2 0, 401, .inl f_kd)), (a_nm, .inl (G.2 0, 401, .inl f_nm)), (a_rc, .inl (G.2 0, 400, .inl z146))] H := hP
                        have hD : va_D A [(a_r, .inr (4, [.ref a_tk, .ref a_rh, .ref a_rs, .ref a_rc, .int z143, .int z144, .int z145, .int e_fp])), (a_tk, .inr (8, [.ref a_kd, .ref a_nm, .ref a_pl])), (a_kd, .inl (G.2 0, 401, .inl f_kd)), (a_nm, .inl (G.2 0, 401, .inl f_nm)), (a_rc, .inl (G.2 0, 400, .inl z146))] := hD
                        refine g5_ti (v := z142) y147 ?_
                        refine lv_if_ne (tgt := 163) hx hb dX4_readPlain_158 (by decide) (fun c_148 => ?_) (fun c_148 => ?_)
                        ·
                          have n_148 : gNe (z142.toInt) (0) := by have z := g5_ne (a := z142.toInt) (b := 0) (by rfl) (by decide) c_148; unfold gNe; omega
                          have i_148 : z142.toInt ≥ 1 := by have z := g5_ne (a := z142.toInt) (b := 0) (by rfl) (by decide) c_148; omega
                          refine lv_aload_n hx hb dX4_readPlain_163 rfl (lv_at hl 2 rfl) ?_
                          refine lv_iload_n hx hb dX4_readPlain_164 rfl (lv_at hl 0 rfl) ?_
                          refine lv_iconst (v := 0) hx hb dX4_readPlain_165 (by decide) ?_
                          have hPc := hP.sub (ws' := [(a_r, .inr (4, [.ref a_tk, .ref a_rh, .ref a_rs, .ref a_rc, .int z143, .int z144, .int z145, .int e_fp])), (a_rc, .inl (G.2 0, 400, .inl z146))]) [0, 4] rfl
                          have hDc := hD.sub (ws' := [(a_r, .inr (4, [.ref a_tk, .ref a_rh, .ref a_rs, .ref a_rc, .int z143, .int z144, .int z145, .int e_fp])), (a_rc, .inl (G.2 0, 400, .inl z146))]) [0, 4] (by decide) rfl
                          have hFc := va_free (wc := [(a_r, .inr (4, [.ref a_tk, .ref a_rh, .ref a_rs, .ref a_rc, .int z143, .int z144, .int z145, .int e_fp])), (a_rc, .inl (G.2 0, 400, .inl z146))]) hD hS hA [0, 4] rfl
                          refine va_calli (va_runV (As := [.int 8, .int 0]) (rest := []) ⟨hx, hb, hml, hown, hts⟩ (r_emit l G a_r a_rc a_tk a_rh a_rs H.size z143 z144 z145 e_fp 8 0 z146 ⟨by omega, by omega⟩ ⟨by omega, by omega⟩ (i_140) (by unfold wOK; decide)) (cwV 2 hts gV_X4_79 rfl rfl rfl hv_X4_emit ⟨by dsimp only; omega, by dsimp only; omega⟩) (g5_preV hPc hK hDc hN hT hS hFc (ci := 4) (q0 := 0) rfl rfl) rfl rfl hl.1 rfl (lv_room (Nat.le_of_ble_eq_true rfl)) dX4_readPlain_166 ⟨Nat.le_of_ble_eq_true rfl, Nat.le_of_ble_eq_true rfl⟩) hS (fun q _ h => hFc q h) hFc (fun r u t H1 locs ht hvm hw hB hz1 hk1 hS => ?_)
                          obtain ⟨hP1, hD1⟩ := hB
                          rw [ht] at hP1
                          obtain ⟨z154, z155, z156, i_149, i_150, i_151, i_152, i_153, y157, rfl⟩ := hw
                          have i_149 : -1 ≤ z154.toInt ∧ z154.toInt ≤ 399 := i_149
                          have i_150 : z143.toInt ≤ z155.toInt ∧ z155.toInt ≤ 400 := i_150
                          have i_151 : CDI z156 z155.toInt := i_151
                          have i_152 : OPK z146 z156 z143.toInt := i_152
                          have i_153 : 0 ≤ z154.toInt → z154.toInt < z155.toInt ∧ z156 z154.toNatClampNeg = (((8 : Int32) <<< (12 &&& 31)) ||| (0 : Int32)) := i_153
                          obtain ⟨hP, hD⟩ := va_join (wr := [(a_tk, .inr (8, [.ref a_kd, .ref a_nm, .ref a_pl])), (a_kd, .inl (G.2 0, 401, .inl f_kd)), (a_nm, .inl (G.2 0, 401, .inl f_nm))]) (w1 := [(a_r, .inr (4, [.ref a_tk, .ref a_rh, .ref a_rs, .ref a_rc, .int z155, .int z144, .int z145, .int e_fp])), (a_rc, .inl (G.2 0, 400, .inl z156))]) hP hD [0, 4] [1, 2, 3] rfl rfl (by decide) (by decide) hk1 hFc hP1 hD1
                          generalize H1 = H at hP hS ⊢
                          have hP : va_P G.1 vwCl [(a_tk, .inr (8, [.ref a_kd, .ref a_nm, .ref a_pl])), (a_kd, .inl (G.2 0, 401, .inl f_kd)), (a_nm, .inl (G.2 0, 401, .inl f_nm)), (a_r, .inr (4, [.ref a_tk, .ref a_rh, .ref a_rs, .ref a_rc, .int z155, .int z144, .int z145, .int e_fp])), (a_rc, .inl (G.2 0, 400, .inl z156))] H := hP
                          have hD : va_D A [(a_tk, .inr (8, [.ref a_kd, .ref a_nm, .ref a_pl])), (a_kd, .inl (G.2 0, 401, .inl f_kd)), (a_nm, .inl (G.2 0, 401, .inl f_nm)), (a_r, .inr (4, [.ref a_tk, .ref a_rh, .ref a_rs, .ref a_rc, .int z155, .int z144, .int z145, .int e_fp])), (a_rc, .inl (G.2 0, 400, .inl z156))] := hD
                          refine g5_ti (v := z154) y157 ?_
                          refine lv_pop hx hb dX4_readPlain_169 rfl ?_
                          refine lv_iload_n hx hb dX4_readPlain_170 rfl (lv_at hl 1 rfl) ?_
                          refine lv_if_eq (tgt := 182) hx hb dX4_readPlain_171 (by decide) (fun c_158 => ?_) (fun c_158 => ?_)
                          ·
                            have i_158 : k_u.toInt = 0 := by have z := g5_eq (a := k_u.toInt) (b := 0) (by rfl) (by decide) c_158; omega
                            refine lv_iconst (v := 1) hx hb dX4_readPlain_182 (by decide) ?_
                            exact W.zret (v := 1) hx hb hr rfl (fun t ht hW => ⟨⟨1, [(a_r, .inr (4, [.ref a_tk, .ref a_rh, .ref a_rs, .ref a_rc, .int z155, .int z144, .int z145, .int e_fp])), (a_tk, .inr (8, [.ref a_kd, .ref a_nm, .ref a_pl])), (a_kd, .inl (G.2 0, 401, .inl f_kd)), (a_nm, .inl (G.2 0, 401, .inl f_nm)), (a_rc, .inl (G.2 0, 400, .inl z156))], rfl, ⟨1, z155, z144, z145, z156, ⟨by have zc_o_r : (1 : Int32).toInt = 1 := (by decide); omega, by have zc_o_r : (1 : Int32).toInt = 1 := (by decide); omega⟩, ⟨by omega, by omega⟩, ⟨by omega, by omega⟩, i_151, opk_trans i_50 (opk_trans i_141 (i_152) (by omega)) (by omega), rfl, rfl⟩, by rw [ht]; exact hP.sub [3, 0, 1, 2, 4] rfl, hD.sub [3, 0, 1, 2, 4] (by decide) rfl⟩, hS.F ht⟩) hS.2.2 dX4_readPlain_183
                          ·
                            have n_158 : gNe (k_u.toInt) (0) := by have z := g5_eqN (a := k_u.toInt) (b := 0) (by rfl) (by decide) c_158; unfold gNe; omega
                            have i_158 : k_u.toInt ≥ 1 := by have z := g5_eqN (a := k_u.toInt) (b := 0) (by rfl) (by decide) c_158; omega
                            refine lv_aload_n hx hb dX4_readPlain_174 rfl (lv_at hl 2 rfl) ?_
                            refine lv_bipush (v := 9) hx hb dX4_readPlain_175 (by decide) ?_
                            refine lv_iconst (v := 0) hx hb dX4_readPlain_177 (by decide) ?_
                            have hPc := hP.sub (ws' := [(a_r, .inr (4, [.ref a_tk, .ref a_rh, .ref a_rs, .ref a_rc, .int z155, .int z144, .int z145, .int e_fp])), (a_rc, .inl (G.2 0, 400, .inl z156))]) [3, 4] rfl
                            have hDc := hD.sub (ws' := [(a_r, .inr (4, [.ref a_tk, .ref a_rh, .ref a_rs, .ref a_rc, .int z155, .int z144, .int z145, .int e_fp])), (a_rc, .inl (G.2 0, 400, .inl z156))]) [3, 4] (by decide) rfl
                            have hFc := va_free (wc := [(a_r, .inr (4, [.ref a_tk, .ref a_rh, .ref a_rs, .ref a_rc, .int z155, .int z144, .int z145, .int e_fp])), (a_rc, .inl (G.2 0, 400, .inl z156))]) hD hS hA [3, 4] rfl
                            refine va_calli (va_runV (As := [.int 9, .int 0]) (rest := []) ⟨hx, hb, hml, hown, hts⟩ (r_emit l G a_r a_rc a_tk a_rh a_rs H.size z155 z144 z145 e_fp 9 0 z156 ⟨by omega, by omega⟩ ⟨by omega, by omega⟩ (i_151) (by unfold wOK; decide)) (cwV 2 hts gV_X4_79 rfl rfl rfl hv_X4_emit ⟨by dsimp only; omega, by dsimp only; omega⟩) (g5_preV hPc hK hDc hN hT hS hFc (ci := 4) (q0 := 0) rfl rfl) rfl rfl hl.1 rfl (lv_room (Nat.le_of_ble_eq_true rfl)) dX4_readPlain_178 ⟨Nat.le_of_ble_eq_true rfl, Nat.le_of_ble_eq_true rfl⟩) hS (fun q _ h => hFc q h) hFc (fun r u t H1 locs ht hvm hw hB hz1 hk1 hS => ?_)
                            obtain ⟨hP1, hD1⟩ := hB
                            rw [ht] at hP1
                            obtain ⟨z164, z165, z166, i_159, i_160, i_161, i_162, i_163, y167, rfl⟩ := hw
                            have i_159 : -1 ≤ z164.toInt ∧ z164.toInt ≤ 399 := i_159
                            have i_160 : z155.toInt ≤ z165.toInt ∧ z165.toInt ≤ 400 := i_160
                            have i_161 : CDI z166 z165.toInt := i_161
                            have i_162 : OPK z156 z166 z155.toInt := i_162
                            have i_163 : 0 ≤ z164.toInt → z164.toInt < z165.toInt ∧ z166 z164.toNatClampNeg = (((9 : Int32) <<< (12 &&& 31)) ||| (0 : Int32)) := i_163
                            obtain ⟨hP, hD⟩ := va_join (wr := [(a_tk, .inr (8, [.ref a_kd, .ref a_nm, .ref a_pl])), (a_kd, .inl (G.2 0, 401, .inl f_kd)), (a_nm, .inl (G.2 0, 401, .inl f_nm))]) (w1 := [(a_r, .inr (4, [.ref a_tk, .ref a_rh, .ref a_rs, .ref a_rc, .int z165, .int z144, .int z145, .int e_fp])), (a_rc, .inl (G.2 0, 400, .inl z166))]) hP hD [3, 4] [0, 1, 2] rfl rfl (by decide) (by decide) hk1 hFc hP1 hD1
                            generalize H1 = H at hP hS ⊢
                            have hP : va_P G.1 vwCl [(a_tk, .inr (8, [.ref a_kd, .ref a_nm, .ref a_pl])), (a_kd, .inl (G.2 0, 401, .inl f_kd)), (a_nm, .inl (G.2 0, 401, .inl f_nm)), (a_r, .inr (4, [.ref a_tk, .ref a_rh, .ref a_rs, .ref a_rc, .int z165, .int z144, .int z145, .int e_fp])), (a_rc, .inl (G.2 0, 400, .inl z166))] H := hP
                            have hD : va_D A [(a_tk, .inr (8, [.ref a_kd, .ref a_nm, .ref a_pl])), (a_kd, .inl (G.2 0, 401, .inl f_kd)), (a_nm, .inl (G.2 0, 401, .inl f_nm)), (a_r, .inr (4, [.ref a_tk, .ref a_rh, .ref a_rs, .ref a_rc, .int z165, .int z144, .int z145, .int e_fp])), (a_rc, .inl (G.2 0, 400, .inl z166))] := hD
                            refine g5_ti (v := z164) y167 ?_
                            refine lv_pop hx hb dX4_readPlain_181 rfl ?_
                            refine lv_iconst (v := 1) hx hb dX4_readPlain_182 (by decide) ?_
                            exact W.zret (v := 1) hx hb hr rfl (fun t ht hW => ⟨⟨1, [(a_r, .inr (4, [.ref a_tk, .ref a_rh, .ref a_rs, .ref a_rc, .int z165, .int z144, .int z145, .int e_fp])), (a_tk, .inr (8, [.ref a_kd, .ref a_nm, .ref a_pl])), (a_kd, .inl (G.2 0, 401, .inl f_kd)), (a_nm, .inl (G.2 0, 401, .inl f_nm)), (a_rc, .inl (G.2 0, 400, .inl z166))], rfl, ⟨1, z165, z144, z145, z166, ⟨by have zc_o_r : (1 : Int32).toInt = 1 := (by decide); omega, by have zc_o_r : (1 : Int32).toInt = 1 := (by decide); omega⟩, ⟨by omega, by omega⟩, ⟨by omega, by omega⟩, i_161, opk_trans i_50 (opk_trans i_141 (opk_trans i_152 (i_162) (by omega)) (by omega)) (by omega), rfl, rfl⟩, by rw [ht]; exact hP.sub [3, 0, 1, 2, 4] rfl, hD.sub [3, 0, 1, 2, 4] (by decide) rfl⟩, hS.F ht⟩) hS.2.2 dX4_readPlain_183
                        ·
                          have i_148 : z142.toInt = 0 := by have z := g5_neN (a := z142.toInt) (b := 0) (by rfl) (by decide) c_148; omega
                          refine lv_iconst (v := 0) hx hb dX4_readPlain_161 (by decide) ?_
                          exact W.zret (v := 0) hx hb hr rfl (fun t ht hW => ⟨⟨0, [(a_r, .inr (4, [.ref a_tk, .ref a_rh, .ref a_rs, .ref a_rc, .int z143, .int z144, .int z145, .int e_fp])), (a_tk, .inr (8, [.ref a_kd, .ref a_nm, .ref a_pl])), (a_kd, .inl (G.2 0, 401, .inl f_kd)), (a_nm, .inl (G.2 0, 401, .inl f_nm)), (a_rc, .inl (G.2 0, 400, .inl z146))], rfl, ⟨0, z143, z144, z145, z146, ⟨by have zc_o_r : (0 : Int32).toInt = 0 := (by decide); omega, by have zc_o_r : (0 : Int32).toInt = 0 := (by decide); omega⟩, ⟨by omega, by omega⟩, ⟨by omega, by omega⟩, i_140, opk_trans i_50 (i_141) (by omega), rfl, rfl⟩, by rw [ht]; exact hP.sub [0, 1, 2, 3, 4] rfl, hD.sub [0, 1, 2, 3, 4] (by decide) rfl⟩, hS.F ht⟩) hS.2.2 dX4_readPlain_162
                      ·
                        exact absurd c_135 (by decide)
                  ·
                    obtain ⟨hP, hD⟩ := va_join (wr := [(a_nm, .inl (G.2 0, 401, .inl f_nm)), (a_rc, .inl (G.2 0, 400, .inl z55))]) (w1 := [(a_r, .inr (4, [.ref a_tk, .ref a_rh, .ref a_rs, .ref a_rc, .int z52, .int z53, .int z54, .int e_fp])), (a_tk, .inr (8, [.ref a_kd, .ref a_nm, .ref a_pl])), (a_kd, .inl (G.2 0, 401, .inl f_kd))]) hP hD [2, 3, 4] [0, 1] rfl rfl (by decide) (by decide) hk1 hFc hP1 hD1
                    generalize H1 = H at hP hS ⊢
                    have hP : va_P G.1 vwCl [(a_nm, .inl (G.2 0, 401, .inl f_nm)), (a_rc, .inl (G.2 0, 400, .inl z55)), (a_r, .inr (4, [.ref a_tk, .ref a_rh, .ref a_rs, .ref a_rc, .int z52, .int z53, .int z54, .int e_fp])), (a_tk, .inr (8, [.ref a_kd, .ref a_nm, .ref a_pl])), (a_kd, .inl (G.2 0, 401, .inl f_kd))] H := hP
                    have hD : va_D A [(a_nm, .inl (G.2 0, 401, .inl f_nm)), (a_rc, .inl (G.2 0, 400, .inl z55)), (a_r, .inr (4, [.ref a_tk, .ref a_rh, .ref a_rs, .ref a_rc, .int z52, .int z53, .int z54, .int e_fp])), (a_tk, .inr (8, [.ref a_kd, .ref a_nm, .ref a_pl])), (a_kd, .inl (G.2 0, 401, .inl f_kd))] := hD
                    refine lv_if_eq (tgt := 134) hx hb dX4_readPlain_126 (by decide) (fun c_168 => ?_) (fun c_168 => ?_)
                    ·
                      refine lv_iconst (v := (-1)) hx hb dX4_readPlain_134 (by decide) ?_
                      refine lv_istore_n (lv' := [(3, .int (-1)), (2, .int k_u), (0, .ref a_r), (1, .int p_d)]) hx hb dX4_readPlain_135 rfl hl (by decide) rfl (fun ls hl => ?_)
                      refine lv_iload_n hx hb dX4_readPlain_136 rfl (lv_at hl 0 rfl) ?_
                      refine lv_iconst (v := (-1)) hx hb dX4_readPlain_137 (by decide) ?_
                      refine lv_icmp_ne (tgt := 143) hx hb dX4_readPlain_138 (by decide) (fun c_169 => ?_) (fun c_169 => ?_)
                      ·
                        exact absurd c_169 (by decide)
                      ·
                        refine lv_iconst (v := 0) hx hb dX4_readPlain_141 (by decide) ?_
                        exact W.zret (v := 0) hx hb hr rfl (fun t ht hW => ⟨⟨0, [(a_r, .inr (4, [.ref a_tk, .ref a_rh, .ref a_rs, .ref a_rc, .int z52, .int z53, .int z54, .int e_fp])), (a_tk, .inr (8, [.ref a_kd, .ref a_nm, .ref a_pl])), (a_kd, .inl (G.2 0, 401, .inl f_kd)), (a_nm, .inl (G.2 0, 401, .inl f_nm)), (a_rc, .inl (G.2 0, 400, .inl z55))], rfl, ⟨0, z52, z53, z54, z55, ⟨by have zc_o_r : (0 : Int32).toInt = 0 := (by decide); omega, by have zc_o_r : (0 : Int32).toInt = 0 := (by decide); omega⟩, ⟨by omega, by omega⟩, ⟨by omega, by omega⟩, i_49, i_50, rfl, rfl⟩, by rw [ht]; exact hP.sub [2, 3, 4, 0, 1] rfl, hD.sub [2, 3, 4, 0, 1] (by decide) rfl⟩, hS.F ht⟩) hS.2.2 dX4_readPlain_142
                    ·
                      exact absurd c_168 (by decide)
                ·
                  exact absurd c_131 (by decide)
            ·
              exact absurd c_94 (by decide)
        ·
          have i_57 : z51.toInt = 0 := by have z := g5_neN (a := z51.toInt) (b := 0) (by rfl) (by decide) c_57; omega
          refine lv_iconst (v := 0) hx hb dX4_readPlain_90 (by decide) ?_
          exact W.zret (v := 0) hx hb hr rfl (fun t ht hW => ⟨⟨0, [(a_r, .inr (4, [.ref a_tk, .ref a_rh, .ref a_rs, .ref a_rc, .int z52, .int z53, .int z54, .int e_fp])), (a_tk, .inr (8, [.ref a_kd, .ref a_nm, .ref a_pl])), (a_kd, .inl (G.2 0, 401, .inl f_kd)), (a_nm, .inl (G.2 0, 401, .inl f_nm)), (a_rc, .inl (G.2 0, 400, .inl z55))], rfl, ⟨0, z52, z53, z54, z55, ⟨by have zc_o_r : (0 : Int32).toInt = 0 := (by decide); omega, by have zc_o_r : (0 : Int32).toInt = 0 := (by decide); omega⟩, ⟨by omega, by omega⟩, ⟨by omega, by omega⟩, i_49, i_50, rfl, rfl⟩, by rw [ht]; exact hP.sub [0, 1, 2, 3, 4] rfl, hD.sub [0, 1, 2, 3, 4] (by decide) rfl⟩, hS.F ht⟩) hS.2.2 dX4_readPlain_91
      ·
        exact absurd c_45 (by decide)
  ·
    have i_5 : k_i.toInt < 400 := by have z := g5_geN (a := k_i.toInt) (b := 400) (by rfl) (by decide) c_5; omega
    refine lv_aload_n hx hb dX4_readPlain_11 rfl (lv_at hl 2 rfl) ?_
    refine lv_sipush (v := 263) hx hb dX4_readPlain_12 (by decide) ?_
    have hPc := hP.sub (ws' := [(a_r, .inr (4, [.ref a_tk, .ref a_rh, .ref a_rs, .ref a_rc, .int e_ln, .int e_pa, .int k_at, .int e_fp])), (a_tk, .inr (8, [.ref a_kd, .ref a_nm, .ref a_pl])), (a_kd, .inl (G.2 0, 401, .inl f_kd))]) [0, 1, 2] rfl
    have hDc := hD.sub (ws' := [(a_r, .inr (4, [.ref a_tk, .ref a_rh, .ref a_rs, .ref a_rc, .int e_ln, .int e_pa, .int k_at, .int e_fp])), (a_tk, .inr (8, [.ref a_kd, .ref a_nm, .ref a_pl])), (a_kd, .inl (G.2 0, 401, .inl f_kd))]) [0, 1, 2] (by decide) rfl
    have hFc := va_free (wc := [(a_r, .inr (4, [.ref a_tk, .ref a_rh, .ref a_rs, .ref a_rc, .int e_ln, .int e_pa, .int k_at, .int e_fp])), (a_tk, .inr (8, [.ref a_kd, .ref a_nm, .ref a_pl])), (a_kd, .inl (G.2 0, 401, .inl f_kd))]) hD hS hA [0, 1, 2] rfl
    refine va_calli (va_runV (As := [.int 263]) (rest := []) ⟨hx, hb, hml, hown, hts⟩ (r_passed l G a_r a_tk a_kd a_rh a_rs a_rc a_nm a_pl H.size e_ln e_pa k_at e_fp 263 f_kd ⟨by omega, by omega⟩ ⟨by omega, by omega⟩) (cwV 1 hts gV_X4_63 rfl rfl rfl hv_X4_passed ⟨by dsimp only; omega, by dsimp only; omega⟩) (g5_preV hPc hK hDc hN hT hS hFc (ci := 4) (q0 := 0) rfl rfl) rfl rfl hl.1 rfl (lv_room (Nat.le_of_ble_eq_true rfl)) dX4_readPlain_15 ⟨Nat.le_of_ble_eq_true rfl, Nat.le_of_ble_eq_true rfl⟩) hS (fun q _ h => hFc q h) hFc (fun r u t H1 locs ht hvm hw hB hz1 hk1 hS => ?_)
    obtain ⟨hP1, hD1⟩ := hB
    rw [ht] at hP1
    obtain ⟨z172, z173, i_170, i_171, y174, rfl⟩ := hw
    have i_170 : 0 ≤ z172.toInt ∧ z172.toInt ≤ 1 := i_170
    have i_171 : 0 ≤ z173.toInt ∧ z173.toInt ≤ 401 := i_171
    obtain ⟨hP, hD⟩ := va_join (wr := [(a_nm, .inl (G.2 0, 401, .inl f_nm)), (a_rc, .inl (G.2 0, 400, .inl f_rc))]) (w1 := [(a_r, .inr (4, [.ref a_tk, .ref a_rh, .ref a_rs, .ref a_rc, .int e_ln, .int e_pa, .int z173, .int e_fp])), (a_tk, .inr (8, [.ref a_kd, .ref a_nm, .ref a_pl])), (a_kd, .inl (G.2 0, 401, .inl f_kd))]) hP hD [0, 1, 2] [3, 4] rfl rfl (by decide) (by decide) hk1 hFc hP1 hD1
    generalize H1 = H at hP hS ⊢
    have hP : va_P G.1 vwCl [(a_nm, .inl (G.2 0, 401, .inl f_nm)), (a_rc, .inl (G.2 0, 400, .inl f_rc)), (a_r, .inr (4, [.ref a_tk, .ref a_rh, .ref a_rs, .ref a_rc, .int e_ln, .int e_pa, .int z173, .int e_fp])), (a_tk, .inr (8, [.ref a_kd, .ref a_nm, .ref a_pl])), (a_kd, .inl (G.2 0, 401, .inl f_kd))] H := hP
    have hD : va_D A [(a_nm, .inl (G.2 0, 401, .inl f_nm)), (a_rc, .inl (G.2 0, 400, .inl f_rc)), (a_r, .inr (4, [.ref a_tk, .ref a_rh, .ref a_rs, .ref a_rc, .int e_ln, .int e_pa, .int z173, .int e_fp])), (a_tk, .inr (8, [.ref a_kd, .ref a_nm, .ref a_pl])), (a_kd, .inl (G.2 0, 401, .inl f_kd))] := hD
    refine g5_ti (v := z172) y174 ?_
    refine lv_if_eq (tgt := 37) hx hb dX4_readPlain_18 (by decide) (fun c_175 => ?_) (fun c_175 => ?_)
    ·
      have i_175 : z172.toInt = 0 := by have z := g5_eq (a := z172.toInt) (b := 0) (by rfl) (by decide) c_175; omega
      refine lv_aload_n hx hb dX4_readPlain_37 rfl (lv_at hl 2 rfl) ?_
      refine lv_bipush (v := 40) hx hb dX4_readPlain_38 (by decide) ?_
      have hPc := hP.sub (ws' := [(a_r, .inr (4, [.ref a_tk, .ref a_rh, .ref a_rs, .ref a_rc, .int e_ln, .int e_pa, .int z173, .int e_fp])), (a_tk, .inr (8, [.ref a_kd, .ref a_nm, .ref a_pl])), (a_kd, .inl (G.2 0, 401, .inl f_kd))]) [2, 3, 4] rfl
      have hDc := hD.sub (ws' := [(a_r, .inr (4, [.ref a_tk, .ref a_rh, .ref a_rs, .ref a_rc, .int e_ln, .int e_pa, .int z173, .int e_fp])), (a_tk, .inr (8, [.ref a_kd, .ref a_nm, .ref a_pl])), (a_kd, .inl (G.2 0, 401, .inl f_kd))]) [2, 3, 4] (by decide) rfl
      have hFc := va_free (wc := [(a_r, .inr (4, [.ref a_tk, .ref a_rh, .ref a_rs, .ref a_rc, .int e_ln, .int e_pa, .int z173, .int e_fp])), (a_tk, .inr (8, [.ref a_kd, .ref a_nm, .ref a_pl])), (a_kd, .inl (G.2 0, 401, .inl f_kd))]) hD hS hA [2, 3, 4] rfl
      refine va_calli (va_runV (As := [.int 40]) (rest := []) ⟨hx, hb, hml, hown, hts⟩ (r_isNext l G a_r a_tk a_kd a_rh a_rs a_rc a_nm a_pl H.size e_ln e_pa z173 e_fp 40 f_kd ⟨by omega, by omega⟩ ⟨by omega, by omega⟩) (cwV 1 hts gV_X4_49 rfl rfl rfl hv_X4_isNext ⟨by dsimp only; omega, by dsimp only; omega⟩) (g5_preV hPc hK hDc hN hT hS hFc (ci := 4) (q0 := 0) rfl rfl) rfl rfl hl.1 rfl (lv_room (Nat.le_of_ble_eq_true rfl)) dX4_readPlain_40 ⟨Nat.le_of_ble_eq_true rfl, Nat.le_of_ble_eq_true rfl⟩) hS (fun q _ h => hFc q h) hFc (fun r u t H1 locs ht hvm hw hB hz1 hk1 hS => ?_)
      obtain ⟨hP1, hD1⟩ := hB
      rw [ht] at hP1
      rcases hw with ⟨i_176, i_177, rfl, rfl⟩ | ⟨rfl, rfl⟩
      ·
        have i_176 : z173.toInt ≤ 400 := i_176
        have i_177 : f_kd z173.toNatClampNeg = (40 : Int32) := i_177
        obtain ⟨hP, hD⟩ := va_join (wr := [(a_nm, .inl (G.2 0, 401, .inl f_nm)), (a_rc, .inl (G.2 0, 400, .inl f_rc))]) (w1 := [(a_r, .inr (4, [.ref a_tk, .ref a_rh, .ref a_rs, .ref a_rc, .int e_ln, .int e_pa, .int z173, .int e_fp])), (a_tk, .inr (8, [.ref a_kd, .ref a_nm, .ref a_pl])), (a_kd, .inl (G.2 0, 401, .inl f_kd))]) hP hD [2, 3, 4] [0, 1] rfl rfl (by decide) (by decide) hk1 hFc hP1 hD1
        generalize H1 = H at hP hS ⊢
        have hP : va_P G.1 vwCl [(a_nm, .inl (G.2 0, 401, .inl f_nm)), (a_rc, .inl (G.2 0, 400, .inl f_rc)), (a_r, .inr (4, [.ref a_tk, .ref a_rh, .ref a_rs, .ref a_rc, .int e_ln, .int e_pa, .int z173, .int e_fp])), (a_tk, .inr (8, [.ref a_kd, .ref a_nm, .ref a_pl])), (a_kd, .inl (G.2 0, 401, .inl f_kd))] H := hP
        have hD : va_D A [(a_nm, .inl (G.2 0, 401, .inl f_nm)), (a_rc, .inl (G.2 0, 400, .inl f_rc)), (a_r, .inr (4, [.ref a_tk, .ref a_rh, .ref a_rs, .ref a_rc, .int e_ln, .int e_pa, .int z173, .int e_fp])), (a_tk, .inr (8, [.ref a_kd, .ref a_nm, .ref a_pl])), (a_kd, .inl (G.2 0, 401, .inl f_kd))] := hD
        refine lv_if_eq (tgt := 82) hx hb dX4_readPlain_43 (by decide) (fun c_178 => ?_) (fun c_178 => ?_)
        ·
          exact absurd c_178 (by decide)
        ·
          refine lv_iload_n hx hb dX4_readPlain_46 rfl (lv_at hl 3 rfl) ?_
          refine lv_bipush (v := 8) hx hb dX4_readPlain_47 (by decide) ?_
          refine lv_icmp_ge (tgt := 80) hx hb dX4_readPlain_49 (by decide) (fun c_179 => ?_) (fun c_179 => ?_)
          ·
            have i_179 : p_d.toInt ≥ 8 := by have z := g5_ge (a := p_d.toInt) (b := 8) (by rfl) (by decide) c_179; omega
            refine lv_iconst (v := 0) hx hb dX4_readPlain_80 (by decide) ?_
            exact W.zret (v := 0) hx hb hr rfl (fun t ht hW => ⟨⟨0, [(a_r, .inr (4, [.ref a_tk, .ref a_rh, .ref a_rs, .ref a_rc, .int e_ln, .int e_pa, .int z173, .int e_fp])), (a_tk, .inr (8, [.ref a_kd, .ref a_nm, .ref a_pl])), (a_kd, .inl (G.2 0, 401, .inl f_kd)), (a_nm, .inl (G.2 0, 401, .inl f_nm)), (a_rc, .inl (G.2 0, 400, .inl f_rc))], rfl, ⟨0, e_ln, e_pa, z173, f_rc, ⟨by have zc_o_r : (0 : Int32).toInt = 0 := (by decide); omega, by have zc_o_r : (0 : Int32).toInt = 0 := (by decide); omega⟩, ⟨by omega, by omega⟩, ⟨by omega, by omega⟩, e_cd, opk_refl, rfl, rfl⟩, by rw [ht]; exact hP.sub [2, 3, 4, 0, 1] rfl, hD.sub [2, 3, 4, 0, 1] (by decide) rfl⟩, hS.F ht⟩) hS.2.2 dX4_readPlain_81
          ·
            have i_179 : p_d.toInt < 8 := by have z := g5_geN (a := p_d.toInt) (b := 8) (by rfl) (by decide) c_179; omega
            refine lv_aload_n hx hb dX4_readPlain_52 rfl (lv_at hl 2 rfl) ?_
            refine lv_bipush (v := 40) hx hb dX4_readPlain_53 (by decide) ?_
            have hPc := hP.sub (ws' := [(a_r, .inr (4, [.ref a_tk, .ref a_rh, .ref a_rs, .ref a_rc, .int e_ln, .int e_pa, .int z173, .int e_fp])), (a_tk, .inr (8, [.ref a_kd, .ref a_nm, .ref a_pl])), (a_kd, .inl (G.2 0, 401, .inl f_kd))]) [2, 3, 4] rfl
            have hDc := hD.sub (ws' := [(a_r, .inr (4, [.ref a_tk, .ref a_rh, .ref a_rs, .ref a_rc, .int e_ln, .int e_pa, .int z173, .int e_fp])), (a_tk, .inr (8, [.ref a_kd, .ref a_nm, .ref a_pl])), (a_kd, .inl (G.2 0, 401, .inl f_kd))]) [2, 3, 4] (by decide) rfl
            have hFc := va_free (wc := [(a_r, .inr (4, [.ref a_tk, .ref a_rh, .ref a_rs, .ref a_rc, .int e_ln, .int e_pa, .int z173, .int e_fp])), (a_tk, .inr (8, [.ref a_kd, .ref a_nm, .ref a_pl])), (a_kd, .inl (G.2 0, 401, .inl f_kd))]) hD hS hA [2, 3, 4] rfl
            refine va_calli (va_runV (As := [.int 40]) (rest := []) ⟨hx, hb, hml, hown, hts⟩ (r_passed l G a_r a_tk a_kd a_rh a_rs a_rc a_nm a_pl H.size e_ln e_pa z173 e_fp 40 f_kd ⟨by omega, by omega⟩ ⟨by omega, by omega⟩) (cwV 1 hts gV_X4_63 rfl rfl rfl hv_X4_passed ⟨by dsimp only; omega, by dsimp only; omega⟩) (g5_preV hPc hK hDc hN hT hS hFc (ci := 4) (q0 := 0) rfl rfl) rfl rfl hl.1 rfl (lv_room (Nat.le_of_ble_eq_true rfl)) dX4_readPlain_55 ⟨Nat.le_of_ble_eq_true rfl, Nat.le_of_ble_eq_true rfl⟩) hS (fun q _ h => hFc q h) hFc (fun r u t H1 locs ht hvm hw hB hz1 hk1 hS => ?_)
            obtain ⟨hP1, hD1⟩ := hB
            rw [ht] at hP1
            obtain ⟨z182, z183, i_180, i_181, y184, rfl⟩ := hw
            have i_180 : 0 ≤ z182.toInt ∧ z182.toInt ≤ 1 := i_180
            have i_181 : 0 ≤ z183.toInt ∧ z183.toInt ≤ 401 := i_181
            obtain ⟨hP, hD⟩ := va_join (wr := [(a_nm, .inl (G.2 0, 401, .inl f_nm)), (a_rc, .inl (G.2 0, 400, .inl f_rc))]) (w1 := [(a_r, .inr (4, [.ref a_tk, .ref a_rh, .ref a_rs, .ref a_rc, .int e_ln, .int e_pa, .int z183, .int e_fp])), (a_tk, .inr (8, [.ref a_kd, .ref a_nm, .ref a_pl])), (a_kd, .inl (G.2 0, 401, .inl f_kd))]) hP hD [2, 3, 4] [0, 1] rfl rfl (by decide) (by decide) hk1 hFc hP1 hD1
            generalize H1 = H at hP hS ⊢
            have hP : va_P G.1 vwCl [(a_nm, .inl (G.2 0, 401, .inl f_nm)), (a_rc, .inl (G.2 0, 400, .inl f_rc)), (a_r, .inr (4, [.ref a_tk, .ref a_rh, .ref a_rs, .ref a_rc, .int e_ln, .int e_pa, .int z183, .int e_fp])), (a_tk, .inr (8, [.ref a_kd, .ref a_nm, .ref a_pl])), (a_kd, .inl (G.2 0, 401, .inl f_kd))] H := hP
            have hD : va_D A [(a_nm, .inl (G.2 0, 401, .inl f_nm)), (a_rc, .inl (G.2 0, 400, .inl f_rc)), (a_r, .inr (4, [.ref a_tk, .ref a_rh, .ref a_rs, .ref a_rc, .int e_ln, .int e_pa, .int z183, .int e_fp])), (a_tk, .inr (8, [.ref a_kd, .ref a_nm, .ref a_pl])), (a_kd, .inl (G.2 0, 401, .inl f_kd))] := hD
            refine g5_ti (v := z182) y184 ?_
            refine lv_if_eq (tgt := 80) hx hb dX4_readPlain_58 (by decide) (fun c_185 => ?_) (fun c_185 => ?_)
            ·
              have i_185 : z182.toInt = 0 := by have z := g5_eq (a := z182.toInt) (b := 0) (by rfl) (by decide) c_185; omega
              refine lv_iconst (v := 0) hx hb dX4_readPlain_80 (by decide) ?_
              exact W.zret (v := 0) hx hb hr rfl (fun t ht hW => ⟨⟨0, [(a_r, .inr (4, [.ref a_tk, .ref a_rh, .ref a_rs, .ref a_rc, .int e_ln, .int e_pa, .int z183, .int e_fp])), (a_tk, .inr (8, [.ref a_kd, .ref a_nm, .ref a_pl])), (a_kd, .inl (G.2 0, 401, .inl f_kd)), (a_nm, .inl (G.2 0, 401, .inl f_nm)), (a_rc, .inl (G.2 0, 400, .inl f_rc))], rfl, ⟨0, e_ln, e_pa, z183, f_rc, ⟨by have zc_o_r : (0 : Int32).toInt = 0 := (by decide); omega, by have zc_o_r : (0 : Int32).toInt = 0 := (by decide); omega⟩, ⟨by omega, by omega⟩, ⟨by omega, by omega⟩, e_cd, opk_refl, rfl, rfl⟩, by rw [ht]; exact hP.sub [2, 3, 4, 0, 1] rfl, hD.sub [2, 3, 4, 0, 1] (by decide) rfl⟩, hS.F ht⟩) hS.2.2 dX4_readPlain_81
            ·
              have n_185 : gNe (z182.toInt) (0) := by have z := g5_eqN (a := z182.toInt) (b := 0) (by rfl) (by decide) c_185; unfold gNe; omega
              have i_185 : z182.toInt ≥ 1 := by have z := g5_eqN (a := z182.toInt) (b := 0) (by rfl) (by decide) c_185; omega
              refine lv_aload_n hx hb dX4_readPlain_61 rfl (lv_at hl 2 rfl) ?_
              refine lv_iload_n hx hb dX4_readPlain_62 rfl (lv_at hl 3 rfl) ?_
              refine lv_iconst (v := 1) hx hb dX4_readPlain_63 (by decide) ?_
              refine lv_iadd hx hb dX4_readPlain_64 ?_
              have t_186 : (p_d + 1).toInt = p_d.toInt + 1 := g5_iadd (a := p_d.toInt) (b := 1) (by rfl) (by decide) (by omega) (by omega)
              have hPc := hP.sub (ws' := [(a_r, .inr (4, [.ref a_tk, .ref a_rh, .ref a_rs, .ref a_rc, .int e_ln, .int e_pa, .int z183, .int e_fp])), (a_tk, .inr (8, [.ref a_kd, .ref a_nm, .ref a_pl])), (a_kd, .inl (G.2 0, 401, .inl f_kd)), (a_nm, .inl (G.2 0, 401, .inl f_nm)), (a_rc, .inl (G.2 0, 400, .inl f_rc))]) [2, 3, 4, 0, 1] rfl
              have hDc := hD.sub (ws' := [(a_r, .inr (4, [.ref a_tk, .ref a_rh, .ref a_rs, .ref a_rc, .int e_ln, .int e_pa, .int z183, .int e_fp])), (a_tk, .inr (8, [.ref a_kd, .ref a_nm, .ref a_pl])), (a_kd, .inl (G.2 0, 401, .inl f_kd)), (a_nm, .inl (G.2 0, 401, .inl f_nm)), (a_rc, .inl (G.2 0, 400, .inl f_rc))]) [2, 3, 4, 0, 1] (by decide) rfl
              have hFc := va_free (wc := [(a_r, .inr (4, [.ref a_tk, .ref a_rh, .ref a_rs, .ref a_rc, .int e_ln, .int e_pa, .int z183, .int e_fp])), (a_tk, .inr (8, [.ref a_kd, .ref a_nm, .ref a_pl])), (a_kd, .inl (G.2 0, 401, .inl f_kd)), (a_nm, .inl (G.2 0, 401, .inl f_nm)), (a_rc, .inl (G.2 0, 400, .inl f_rc))]) hD hS hA [2, 3, 4, 0, 1] rfl
              refine va_calli (va_runV (As := [.int (p_d + 1)]) (rest := []) ⟨hx, hb, hml, hown, hts⟩ ((h_test (p_d + 1) (by omega) (by omega)) l G a_r a_tk a_kd a_nm a_rc a_rh a_rs a_pl H.size e_ln e_pa z183 e_fp f_kd f_nm f_rc ⟨by omega, by omega⟩ ⟨by omega, by omega⟩ (e_tk) (e_cd)) (cwV 1 hts gV_X4_76 rfl rfl rfl hv_X4_readTest ⟨by dsimp only; omega, by dsimp only; omega⟩) (g5_preV hPc hK hDc hN hT hS hFc (ci := 4) (q0 := 0) rfl rfl) rfl rfl hl.1 rfl (lv_room (Nat.le_of_ble_eq_true rfl)) dX4_readPlain_65 ⟨Nat.le_of_ble_eq_true rfl, Nat.le_of_ble_eq_true rfl⟩) hS (fun q _ h => hFc q h) hFc (fun r u t H1 locs ht hvm hw hB hz1 hk1 hS => ?_)
              obtain ⟨hP1, hD1⟩ := hB
              rw [ht] at hP1
              obtain ⟨z192, z193, z194, z195, z196, i_187, i_188, i_189, i_190, i_191, y197, rfl⟩ := hw
              have i_187 : 0 ≤ z192.toInt ∧ z192.toInt ≤ 1 := i_187
              have i_188 : e_ln.toInt ≤ z193.toInt ∧ z193.toInt ≤ 400 := i_188
              have i_189 : 0 ≤ z195.toInt ∧ z195.toInt ≤ 401 := i_189
              have i_190 : CDI z196 z193.toInt := i_190
              have i_191 : OPK f_rc z196 e_ln.toInt := i_191
              obtain ⟨hP, hD⟩ := va_join (wr := []) (w1 := [(a_r, .inr (4, [.ref a_tk, .ref a_rh, .ref a_rs, .ref a_rc, .int z193, .int z194, .int z195, .int e_fp])), (a_tk, .inr (8, [.ref a_kd, .ref a_nm, .ref a_pl])), (a_kd, .inl (G.2 0, 401, .inl f_kd)), (a_nm, .inl (G.2 0, 401, .inl f_nm)), (a_rc, .inl (G.2 0, 400, .inl z196))]) hP hD [2, 3, 4, 0, 1] [] rfl rfl (by decide) (by decide) hk1 hFc hP1 hD1
              generalize H1 = H at hP hS ⊢
              have hP : va_P G.1 vwCl [(a_r, .inr (4, [.ref a_tk, .ref a_rh, .ref a_rs, .ref a_rc, .int z193, .int z194, .int z195, .int e_fp])), (a_tk, .inr (8, [.ref a_kd, .ref a_nm, .ref a_pl])), (a_kd, .inl (G.2 0, 401, .inl f_kd)), (a_nm, .inl (G.2 0, 401, .inl f_nm)), (a_rc, .inl (G.2 0, 400, .inl z196))] H := hP
              have hD : va_D A [(a_r, .inr (4, [.ref a_tk, .ref a_rh, .ref a_rs, .ref a_rc, .int z193, .int z194, .int z195, .int e_fp])), (a_tk, .inr (8, [.ref a_kd, .ref a_nm, .ref a_pl])), (a_kd, .inl (G.2 0, 401, .inl f_kd)), (a_nm, .inl (G.2 0, 401, .inl f_nm)), (a_rc, .inl (G.2 0, 400, .inl z196))] := hD
              refine g5_ti (v := z192) y197 ?_
              refine lv_if_eq (tgt := 80) hx hb dX4_readPlain_68 (by decide) (fun c_198 => ?_) (fun c_198 => ?_)
              ·
                have i_198 : z192.toInt = 0 := by have z := g5_eq (a := z192.toInt) (b := 0) (by rfl) (by decide) c_198; omega
                refine lv_iconst (v := 0) hx hb dX4_readPlain_80 (by decide) ?_
                exact W.zret (v := 0) hx hb hr rfl (fun t ht hW => ⟨⟨0, [(a_r, .inr (4, [.ref a_tk, .ref a_rh, .ref a_rs, .ref a_rc, .int z193, .int z194, .int z195, .int e_fp])), (a_tk, .inr (8, [.ref a_kd, .ref a_nm, .ref a_pl])), (a_kd, .inl (G.2 0, 401, .inl f_kd)), (a_nm, .inl (G.2 0, 401, .inl f_nm)), (a_rc, .inl (G.2 0, 400, .inl z196))], rfl, ⟨0, z193, z194, z195, z196, ⟨by have zc_o_r : (0 : Int32).toInt = 0 := (by decide); omega, by have zc_o_r : (0 : Int32).toInt = 0 := (by decide); omega⟩, ⟨by omega, by omega⟩, ⟨by omega, by omega⟩, i_190, i_191, rfl, rfl⟩, by rw [ht]; exact hP.sub [0, 1, 2, 3, 4] rfl, hD.sub [0, 1, 2, 3, 4] (by decide) rfl⟩, hS.F ht⟩) hS.2.2 dX4_readPlain_81
              ·
                have n_198 : gNe (z192.toInt) (0) := by have z := g5_eqN (a := z192.toInt) (b := 0) (by rfl) (by decide) c_198; unfold gNe; omega
                have i_198 : z192.toInt ≥ 1 := by have z := g5_eqN (a := z192.toInt) (b := 0) (by rfl) (by decide) c_198; omega
                refine lv_aload_n hx hb dX4_readPlain_71 rfl (lv_at hl 2 rfl) ?_
                refine lv_bipush (v := 41) hx hb dX4_readPlain_72 (by decide) ?_
                have hPc := hP.sub (ws' := [(a_r, .inr (4, [.ref a_tk, .ref a_rh, .ref a_rs, .ref a_rc, .int z193, .int z194, .int z195, .int e_fp])), (a_tk, .inr (8, [.ref a_kd, .ref a_nm, .ref a_pl])), (a_kd, .inl (G.2 0, 401, .inl f_kd))]) [0, 1, 2] rfl
                have hDc := hD.sub (ws' := [(a_r, .inr (4, [.ref a_tk, .ref a_rh, .ref a_rs, .ref a_rc, .int z193, .int z194, .int z195, .int e_fp])), (a_tk, .inr (8, [.ref a_kd, .ref a_nm, .ref a_pl])), (a_kd, .inl (G.2 0, 401, .inl f_kd))]) [0, 1, 2] (by decide) rfl
                have hFc := va_free (wc := [(a_r, .inr (4, [.ref a_tk, .ref a_rh, .ref a_rs, .ref a_rc, .int z193, .int z194, .int z195, .int e_fp])), (a_tk, .inr (8, [.ref a_kd, .ref a_nm, .ref a_pl])), (a_kd, .inl (G.2 0, 401, .inl f_kd))]) hD hS hA [0, 1, 2] rfl
                refine va_calli (va_runV (As := [.int 41]) (rest := []) ⟨hx, hb, hml, hown, hts⟩ (r_passed l G a_r a_tk a_kd a_rh a_rs a_rc a_nm a_pl H.size z193 z194 z195 e_fp 41 f_kd ⟨by omega, by omega⟩ ⟨by omega, by omega⟩) (cwV 1 hts gV_X4_63 rfl rfl rfl hv_X4_passed ⟨by dsimp only; omega, by dsimp only; omega⟩) (g5_preV hPc hK hDc hN hT hS hFc (ci := 4) (q0 := 0) rfl rfl) rfl rfl hl.1 rfl (lv_room (Nat.le_of_ble_eq_true rfl)) dX4_readPlain_74 ⟨Nat.le_of_ble_eq_true rfl, Nat.le_of_ble_eq_true rfl⟩) hS (fun q _ h => hFc q h) hFc (fun r u t H1 locs ht hvm hw hB hz1 hk1 hS => ?_)
                obtain ⟨hP1, hD1⟩ := hB
                rw [ht] at hP1
                obtain ⟨z201, z202, i_199, i_200, y203, rfl⟩ := hw
                have i_199 : 0 ≤ z201.toInt ∧ z201.toInt ≤ 1 := i_199
                have i_200 : 0 ≤ z202.toInt ∧ z202.toInt ≤ 401 := i_200
                obtain ⟨hP, hD⟩ := va_join (wr := [(a_nm, .inl (G.2 0, 401, .inl f_nm)), (a_rc, .inl (G.2 0, 400, .inl z196))]) (w1 := [(a_r, .inr (4, [.ref a_tk, .ref a_rh, .ref a_rs, .ref a_rc, .int z193, .int z194, .int z202, .int e_fp])), (a_tk, .inr (8, [.ref a_kd, .ref a_nm, .ref a_pl])), (a_kd, .inl (G.2 0, 401, .inl f_kd))]) hP hD [0, 1, 2] [3, 4] rfl rfl (by decide) (by decide) hk1 hFc hP1 hD1
                generalize H1 = H at hP hS ⊢
                have hP : va_P G.1 vwCl [(a_nm, .inl (G.2 0, 401, .inl f_nm)), (a_rc, .inl (G.2 0, 400, .inl z196)), (a_r, .inr (4, [.ref a_tk, .ref a_rh, .ref a_rs, .ref a_rc, .int z193, .int z194, .int z202, .int e_fp])), (a_tk, .inr (8, [.ref a_kd, .ref a_nm, .ref a_pl])), (a_kd, .inl (G.2 0, 401, .inl f_kd))] H := hP
                have hD : va_D A [(a_nm, .inl (G.2 0, 401, .inl f_nm)), (a_rc, .inl (G.2 0, 400, .inl z196)), (a_r, .inr (4, [.ref a_tk, .ref a_rh, .ref a_rs, .ref a_rc, .int z193, .int z194, .int z202, .int e_fp])), (a_tk, .inr (8, [.ref a_kd, .ref a_nm, .ref a_pl])), (a_kd, .inl (G.2 0, 401, .inl f_kd))] := hD
                refine g5_ti (v := z201) y203 ?_
                refine lv_if_ne (tgt := 170) hx hb dX4_readPlain_77 (by decide) (fun c_204 => ?_) (fun c_204 => ?_)
                ·
                  have n_204 : gNe (z201.toInt) (0) := by have z := g5_ne (a := z201.toInt) (b := 0) (by rfl) (by decide) c_204; unfold gNe; omega
                  have i_204 : z201.toInt ≥ 1 := by have z := g5_ne (a := z201.toInt) (b := 0) (by rfl) (by decide) c_204; omega
                  refine lv_iload_n hx hb dX4_readPlain_170 rfl (lv_at hl 0 rfl) ?_
                  refine lv_if_eq (tgt := 182) hx hb dX4_readPlain_171 (by decide) (fun c_205 => ?_) (fun c_205 => ?_)
                  ·
                    have i_205 : k_u.toInt = 0 := by have z := g5_eq (a := k_u.toInt) (b := 0) (by rfl) (by decide) c_205; omega
                    refine lv_iconst (v := 1) hx hb dX4_readPlain_182 (by decide) ?_
                    exact W.zret (v := 1) hx hb hr rfl (fun t ht hW => ⟨⟨1, [(a_r, .inr (4, [.ref a_tk, .ref a_rh, .ref a_rs, .ref a_rc, .int z193, .int z194, .int z202, .int e_fp])), (a_tk, .inr (8, [.ref a_kd, .ref a_nm, .ref a_pl])), (a_kd, .inl (G.2 0, 401, .inl f_kd)), (a_nm, .inl (G.2 0, 401, .inl f_nm)), (a_rc, .inl (G.2 0, 400, .inl z196))], rfl, ⟨1, z193, z194, z202, z196, ⟨by have zc_o_r : (1 : Int32).toInt = 1 := (by decide); omega, by have zc_o_r : (1 : Int32).toInt = 1 := (by decide); omega⟩, ⟨by omega, by omega⟩, ⟨by omega, by omega⟩, i_190, i_191, rfl, rfl⟩, by rw [ht]; exact hP.sub [2, 3, 4, 0, 1] rfl, hD.sub [2, 3, 4, 0, 1] (by decide) rfl⟩, hS.F ht⟩) hS.2.2 dX4_readPlain_183
                  ·
                    have n_205 : gNe (k_u.toInt) (0) := by have z := g5_eqN (a := k_u.toInt) (b := 0) (by rfl) (by decide) c_205; unfold gNe; omega
                    have i_205 : k_u.toInt ≥ 1 := by have z := g5_eqN (a := k_u.toInt) (b := 0) (by rfl) (by decide) c_205; omega
                    refine lv_aload_n hx hb dX4_readPlain_174 rfl (lv_at hl 2 rfl) ?_
                    refine lv_bipush (v := 9) hx hb dX4_readPlain_175 (by decide) ?_
                    refine lv_iconst (v := 0) hx hb dX4_readPlain_177 (by decide) ?_
                    have hPc := hP.sub (ws' := [(a_r, .inr (4, [.ref a_tk, .ref a_rh, .ref a_rs, .ref a_rc, .int z193, .int z194, .int z202, .int e_fp])), (a_rc, .inl (G.2 0, 400, .inl z196))]) [2, 1] rfl
                    have hDc := hD.sub (ws' := [(a_r, .inr (4, [.ref a_tk, .ref a_rh, .ref a_rs, .ref a_rc, .int z193, .int z194, .int z202, .int e_fp])), (a_rc, .inl (G.2 0, 400, .inl z196))]) [2, 1] (by decide) rfl
                    have hFc := va_free (wc := [(a_r, .inr (4, [.ref a_tk, .ref a_rh, .ref a_rs, .ref a_rc, .int z193, .int z194, .int z202, .int e_fp])), (a_rc, .inl (G.2 0, 400, .inl z196))]) hD hS hA [2, 1] rfl
                    refine va_calli (va_runV (As := [.int 9, .int 0]) (rest := []) ⟨hx, hb, hml, hown, hts⟩ (r_emit l G a_r a_rc a_tk a_rh a_rs H.size z193 z194 z202 e_fp 9 0 z196 ⟨by omega, by omega⟩ ⟨by omega, by omega⟩ (i_190) (by unfold wOK; decide)) (cwV 2 hts gV_X4_79 rfl rfl rfl hv_X4_emit ⟨by dsimp only; omega, by dsimp only; omega⟩) (g5_preV hPc hK hDc hN hT hS hFc (ci := 4) (q0 := 0) rfl rfl) rfl rfl hl.1 rfl (lv_room (Nat.le_of_ble_eq_true rfl)) dX4_readPlain_178 ⟨Nat.le_of_ble_eq_true rfl, Nat.le_of_ble_eq_true rfl⟩) hS (fun q _ h => hFc q h) hFc (fun r u t H1 locs ht hvm hw hB hz1 hk1 hS => ?_)
                    obtain ⟨hP1, hD1⟩ := hB
                    rw [ht] at hP1
                    obtain ⟨z211, z212, z213, i_206, i_207, i_208, i_209, i_210, y214, rfl⟩ := hw
                    have i_206 : -1 ≤ z211.toInt ∧ z211.toInt ≤ 399 := i_206
                    have i_207 : z193.toInt ≤ z212.toInt ∧ z212.toInt ≤ 400 := i_207
                    have i_208 : CDI z213 z212.toInt := i_208
                    have i_209 : OPK z196 z213 z193.toInt := i_209
                    have i_210 : 0 ≤ z211.toInt → z211.toInt < z212.toInt ∧ z213 z211.toNatClampNeg = (((9 : Int32) <<< (12 &&& 31)) ||| (0 : Int32)) := i_210
                    obtain ⟨hP, hD⟩ := va_join (wr := [(a_nm, .inl (G.2 0, 401, .inl f_nm)), (a_tk, .inr (8, [.ref a_kd, .ref a_nm, .ref a_pl])), (a_kd, .inl (G.2 0, 401, .inl f_kd))]) (w1 := [(a_r, .inr (4, [.ref a_tk, .ref a_rh, .ref a_rs, .ref a_rc, .int z212, .int z194, .int z202, .int e_fp])), (a_rc, .inl (G.2 0, 400, .inl z213))]) hP hD [2, 1] [0, 3, 4] rfl rfl (by decide) (by decide) hk1 hFc hP1 hD1
                    generalize H1 = H at hP hS ⊢
                    have hP : va_P G.1 vwCl [(a_nm, .inl (G.2 0, 401, .inl f_nm)), (a_tk, .inr (8, [.ref a_kd, .ref a_nm, .ref a_pl])), (a_kd, .inl (G.2 0, 401, .inl f_kd)), (a_r, .inr (4, [.ref a_tk, .ref a_rh, .ref a_rs, .ref a_rc, .int z212, .int z194, .int z202, .int e_fp])), (a_rc, .inl (G.2 0, 400, .inl z213))] H := hP
                    have hD : va_D A [(a_nm, .inl (G.2 0, 401, .inl f_nm)), (a_tk, .inr (8, [.ref a_kd, .ref a_nm, .ref a_pl])), (a_kd, .inl (G.2 0, 401, .inl f_kd)), (a_r, .inr (4, [.ref a_tk, .ref a_rh, .ref a_rs, .ref a_rc, .int z212, .int z194, .int z202, .int e_fp])), (a_rc, .inl (G.2 0, 400, .inl z213))] := hD
                    refine g5_ti (v := z211) y214 ?_
                    refine lv_pop hx hb dX4_readPlain_181 rfl ?_
                    refine lv_iconst (v := 1) hx hb dX4_readPlain_182 (by decide) ?_
                    exact W.zret (v := 1) hx hb hr rfl (fun t ht hW => ⟨⟨1, [(a_r, .inr (4, [.ref a_tk, .ref a_rh, .ref a_rs, .ref a_rc, .int z212, .int z194, .int z202, .int e_fp])), (a_tk, .inr (8, [.ref a_kd, .ref a_nm, .ref a_pl])), (a_kd, .inl (G.2 0, 401, .inl f_kd)), (a_nm, .inl (G.2 0, 401, .inl f_nm)), (a_rc, .inl (G.2 0, 400, .inl z213))], rfl, ⟨1, z212, z194, z202, z213, ⟨by have zc_o_r : (1 : Int32).toInt = 1 := (by decide); omega, by have zc_o_r : (1 : Int32).toInt = 1 := (by decide); omega⟩, ⟨by omega, by omega⟩, ⟨by omega, by omega⟩, i_208, opk_trans i_191 (i_209) (by omega), rfl, rfl⟩, by rw [ht]; exact hP.sub [3, 1, 2, 0, 4] rfl, hD.sub [3, 1, 2, 0, 4] (by decide) rfl⟩, hS.F ht⟩) hS.2.2 dX4_readPlain_183
                ·
                  have i_204 : z201.toInt = 0 := by have z := g5_neN (a := z201.toInt) (b := 0) (by rfl) (by decide) c_204; omega
                  refine lv_iconst (v := 0) hx hb dX4_readPlain_80 (by decide) ?_
                  exact W.zret (v := 0) hx hb hr rfl (fun t ht hW => ⟨⟨0, [(a_r, .inr (4, [.ref a_tk, .ref a_rh, .ref a_rs, .ref a_rc, .int z193, .int z194, .int z202, .int e_fp])), (a_tk, .inr (8, [.ref a_kd, .ref a_nm, .ref a_pl])), (a_kd, .inl (G.2 0, 401, .inl f_kd)), (a_nm, .inl (G.2 0, 401, .inl f_nm)), (a_rc, .inl (G.2 0, 400, .inl z196))], rfl, ⟨0, z193, z194, z202, z196, ⟨by have zc_o_r : (0 : Int32).toInt = 0 := (by decide); omega, by have zc_o_r : (0 : Int32).toInt = 0 := (by decide); omega⟩, ⟨by omega, by omega⟩, ⟨by omega, by omega⟩, i_190, i_191, rfl, rfl⟩, by rw [ht]; exact hP.sub [2, 3, 4, 0, 1] rfl, hD.sub [2, 3, 4, 0, 1] (by decide) rfl⟩, hS.F ht⟩) hS.2.2 dX4_readPlain_81
      ·
        obtain ⟨hP, hD⟩ := va_join (wr := [(a_nm, .inl (G.2 0, 401, .inl f_nm)), (a_rc, .inl (G.2 0, 400, .inl f_rc))]) (w1 := [(a_r, .inr (4, [.ref a_tk, .ref a_rh, .ref a_rs, .ref a_rc, .int e_ln, .int e_pa, .int z173, .int e_fp])), (a_tk, .inr (8, [.ref a_kd, .ref a_nm, .ref a_pl])), (a_kd, .inl (G.2 0, 401, .inl f_kd))]) hP hD [2, 3, 4] [0, 1] rfl rfl (by decide) (by decide) hk1 hFc hP1 hD1
        generalize H1 = H at hP hS ⊢
        have hP : va_P G.1 vwCl [(a_nm, .inl (G.2 0, 401, .inl f_nm)), (a_rc, .inl (G.2 0, 400, .inl f_rc)), (a_r, .inr (4, [.ref a_tk, .ref a_rh, .ref a_rs, .ref a_rc, .int e_ln, .int e_pa, .int z173, .int e_fp])), (a_tk, .inr (8, [.ref a_kd, .ref a_nm, .ref a_pl])), (a_kd, .inl (G.2 0, 401, .inl f_kd))] H := hP
        have hD : va_D A [(a_nm, .inl (G.2 0, 401, .inl f_nm)), (a_rc, .inl (G.2 0, 400, .inl f_rc)), (a_r, .inr (4, [.ref a_tk, .ref a_rh, .ref a_rs, .ref a_rc, .int e_ln, .int e_pa, .int z173, .int e_fp])), (a_tk, .inr (8, [.ref a_kd, .ref a_nm, .ref a_pl])), (a_kd, .inl (G.2 0, 401, .inl f_kd))] := hD
        refine lv_if_eq (tgt := 82) hx hb dX4_readPlain_43 (by decide) (fun c_215 => ?_) (fun c_215 => ?_)
        ·
          refine lv_aload_n hx hb dX4_readPlain_82 rfl (lv_at hl 2 rfl) ?_
          refine lv_iload_n hx hb dX4_readPlain_83 rfl (lv_at hl 3 rfl) ?_
          have hPc := hP.sub (ws' := [(a_r, .inr (4, [.ref a_tk, .ref a_rh, .ref a_rs, .ref a_rc, .int e_ln, .int e_pa, .int z173, .int e_fp])), (a_tk, .inr (8, [.ref a_kd, .ref a_nm, .ref a_pl])), (a_kd, .inl (G.2 0, 401, .inl f_kd)), (a_nm, .inl (G.2 0, 401, .inl f_nm)), (a_rc, .inl (G.2 0, 400, .inl f_rc))]) [2, 3, 4, 0, 1] rfl
          have hDc := hD.sub (ws' := [(a_r, .inr (4, [.ref a_tk, .ref a_rh, .ref a_rs, .ref a_rc, .int e_ln, .int e_pa, .int z173, .int e_fp])), (a_tk, .inr (8, [.ref a_kd, .ref a_nm, .ref a_pl])), (a_kd, .inl (G.2 0, 401, .inl f_kd)), (a_nm, .inl (G.2 0, 401, .inl f_nm)), (a_rc, .inl (G.2 0, 400, .inl f_rc))]) [2, 3, 4, 0, 1] (by decide) rfl
          have hFc := va_free (wc := [(a_r, .inr (4, [.ref a_tk, .ref a_rh, .ref a_rs, .ref a_rc, .int e_ln, .int e_pa, .int z173, .int e_fp])), (a_tk, .inr (8, [.ref a_kd, .ref a_nm, .ref a_pl])), (a_kd, .inl (G.2 0, 401, .inl f_kd)), (a_nm, .inl (G.2 0, 401, .inl f_nm)), (a_rc, .inl (G.2 0, 400, .inl f_rc))]) hD hS hA [2, 3, 4, 0, 1] rfl
          refine va_calli (va_runV (As := [.int p_d]) (rest := []) ⟨hx, hb, hml, hown, hts⟩ ((r_sum fr lo p_d h_p_d h_sum) l G a_r a_tk a_kd a_nm a_rc a_rh a_rs a_pl H.size e_ln e_pa z173 e_fp f_kd f_nm f_rc ⟨by omega, by omega⟩ ⟨by omega, by omega⟩ (e_tk) (e_cd)) (cwV 1 hts gV_X4_73 rfl rfl rfl hv_X4_readSum ⟨by dsimp only; omega, by dsimp only; omega⟩) (g5_preV hPc hK hDc hN hT hS hFc (ci := 4) (q0 := 0) rfl rfl) rfl rfl hl.1 rfl (lv_room (Nat.le_of_ble_eq_true rfl)) dX4_readPlain_84 ⟨Nat.le_of_ble_eq_true rfl, Nat.le_of_ble_eq_true rfl⟩) hS (fun q _ h => hFc q h) hFc (fun r u t H1 locs ht hvm hw hB hz1 hk1 hS => ?_)
          obtain ⟨hP1, hD1⟩ := hB
          rw [ht] at hP1
          obtain ⟨z221, z222, z223, z224, z225, i_216, i_217, i_218, i_219, i_220, y226, rfl⟩ := hw
          have i_216 : 0 ≤ z221.toInt ∧ z221.toInt ≤ 1 := i_216
          have i_217 : e_ln.toInt ≤ z222.toInt ∧ z222.toInt ≤ 400 := i_217
          have i_218 : 0 ≤ z224.toInt ∧ z224.toInt ≤ 401 := i_218
          have i_219 : CDI z225 z222.toInt := i_219
          have i_220 : OPK f_rc z225 e_ln.toInt := i_220
          obtain ⟨hP, hD⟩ := va_join (wr := []) (w1 := [(a_r, .inr (4, [.ref a_tk, .ref a_rh, .ref a_rs, .ref a_rc, .int z222, .int z223, .int z224, .int e_fp])), (a_tk, .inr (8, [.ref a_kd, .ref a_nm, .ref a_pl])), (a_kd, .inl (G.2 0, 401, .inl f_kd)), (a_nm, .inl (G.2 0, 401, .inl f_nm)), (a_rc, .inl (G.2 0, 400, .inl z225))]) hP hD [2, 3, 4, 0, 1] [] rfl rfl (by decide) (by decide) hk1 hFc hP1 hD1
          generalize H1 = H at hP hS ⊢
          have hP : va_P G.1 vwCl [(a_r, .inr (4, [.ref a_tk, .ref a_rh, .ref a_rs, .ref a_rc, .int z222, .int z223, .int z224, .int e_fp])), (a_tk, .inr (8, [.ref a_kd, .ref a_nm, .ref a_pl])), (a_kd, .inl (G.2 0, 401, .inl f_kd)), (a_nm, .inl (G.2 0, 401, .inl f_nm)), (a_rc, .inl (G.2 0, 400, .inl z225))] H := hP
          have hD : va_D A [(a_r, .inr (4, [.ref a_tk, .ref a_rh, .ref a_rs, .ref a_rc, .int z222, .int z223, .int z224, .int e_fp])), (a_tk, .inr (8, [.ref a_kd, .ref a_nm, .ref a_pl])), (a_kd, .inl (G.2 0, 401, .inl f_kd)), (a_nm, .inl (G.2 0, 401, .inl f_nm)), (a_rc, .inl (G.2 0, 400, .inl z225))] := hD
          refine g5_ti (v := z221) y226 ?_
          refine lv_if_ne (tgt := 92) hx hb dX4_readPlain_87 (by decide) (fun c_227 => ?_) (fun c_227 => ?_)
          ·
            have n_227 : gNe (z221.toInt) (0) := by have z := g5_ne (a := z221.toInt) (b := 0) (by rfl) (by decide) c_227; unfold gNe; omega
            have i_227 : z221.toInt ≥ 1 := by have z := g5_ne (a := z221.toInt) (b := 0) (by rfl) (by decide) c_227; omega
            refine lv_aload_n hx hb dX4_readPlain_92 rfl (lv_at hl 2 rfl) ?_
            refine lv_bipush (v := 60) hx hb dX4_readPlain_93 (by decide) ?_
            have hPc := hP.sub (ws' := [(a_r, .inr (4, [.ref a_tk, .ref a_rh, .ref a_rs, .ref a_rc, .int z222, .int z223, .int z224, .int e_fp])), (a_tk, .inr (8, [.ref a_kd, .ref a_nm, .ref a_pl])), (a_kd, .inl (G.2 0, 401, .inl f_kd))]) [0, 1, 2] rfl
            have hDc := hD.sub (ws' := [(a_r, .inr (4, [.ref a_tk, .ref a_rh, .ref a_rs, .ref a_rc, .int z222, .int z223, .int z224, .int e_fp])), (a_tk, .inr (8, [.ref a_kd, .ref a_nm, .ref a_pl])), (a_kd, .inl (G.2 0, 401, .inl f_kd))]) [0, 1, 2] (by decide) rfl
            have hFc := va_free (wc := [(a_r, .inr (4, [.ref a_tk, .ref a_rh, .ref a_rs, .ref a_rc, .int z222, .int z223, .int z224, .int e_fp])), (a_tk, .inr (8, [.ref a_kd, .ref a_nm, .ref a_pl])), (a_kd, .inl (G.2 0, 401, .inl f_kd))]) hD hS hA [0, 1, 2] rfl
            refine va_calli (va_runV (As := [.int 60]) (rest := []) ⟨hx, hb, hml, hown, hts⟩ (r_isNext l G a_r a_tk a_kd a_rh a_rs a_rc a_nm a_pl H.size z222 z223 z224 e_fp 60 f_kd ⟨by omega, by omega⟩ ⟨by omega, by omega⟩) (cwV 1 hts gV_X4_49 rfl rfl rfl hv_X4_isNext ⟨by dsimp only; omega, by dsimp only; omega⟩) (g5_preV hPc hK hDc hN hT hS hFc (ci := 4) (q0 := 0) rfl rfl) rfl rfl hl.1 rfl (lv_room (Nat.le_of_ble_eq_true rfl)) dX4_readPlain_95 ⟨Nat.le_of_ble_eq_true rfl, Nat.le_of_ble_eq_true rfl⟩) hS (fun q _ h => hFc q h) hFc (fun r u t H1 locs ht hvm hw hB hz1 hk1 hS => ?_)
            obtain ⟨hP1, hD1⟩ := hB
            rw [ht] at hP1
            rcases hw with ⟨i_228, i_229, rfl, rfl⟩ | ⟨rfl, rfl⟩
            ·
              have i_228 : z224.toInt ≤ 400 := i_228
              have i_229 : f_kd z224.toNatClampNeg = (60 : Int32) := i_229
              obtain ⟨hP, hD⟩ := va_join (wr := [(a_nm, .inl (G.2 0, 401, .inl f_nm)), (a_rc, .inl (G.2 0, 400, .inl z225))]) (w1 := [(a_r, .inr (4, [.ref a_tk, .ref a_rh, .ref a_rs, .ref a_rc, .int z222, .int z223, .int z224, .int e_fp])), (a_tk, .inr (8, [.ref a_kd, .ref a_nm, .ref a_pl])), (a_kd, .inl (G.2 0, 401, .inl f_kd))]) hP hD [0, 1, 2] [3, 4] rfl rfl (by decide) (by decide) hk1 hFc hP1 hD1
              generalize H1 = H at hP hS ⊢
              have hP : va_P G.1 vwCl [(a_nm, .inl (G.2 0, 401, .inl f_nm)), (a_rc, .inl (G.2 0, 400, .inl z225)), (a_r, .inr (4, [.ref a_tk, .ref a_rh, .ref a_rs, .ref a_rc, .int z222, .int z223, .int z224, .int e_fp])), (a_tk, .inr (8, [.ref a_kd, .ref a_nm, .ref a_pl])), (a_kd, .inl (G.2 0, 401, .inl f_kd))] H := hP
              have hD : va_D A [(a_nm, .inl (G.2 0, 401, .inl f_nm)), (a_rc, .inl (G.2 0, 400, .inl z225)), (a_r, .inr (4, [.ref a_tk, .ref a_rh, .ref a_rs, .ref a_rc, .int z222, .int z223, .int z224, .int e_fp])), (a_tk, .inr (8, [.ref a_kd, .ref a_nm, .ref a_pl])), (a_kd, .inl (G.2 0, 401, .inl f_kd))] := hD
              refine lv_if_eq (tgt := 106) hx hb dX4_readPlain_98 (by decide) (fun c_230 => ?_) (fun c_230 => ?_)
              ·
                exact absurd c_230 (by decide)
              ·
                refine lv_bipush (v := 6) hx hb dX4_readPlain_101 (by decide) ?_
                refine lv_goto (tgt := 135) hx hb dX4_readPlain_103 (by decide) ?_
                refine lv_istore_n (lv' := [(3, .int 6), (2, .int k_u), (0, .ref a_r), (1, .int p_d)]) hx hb dX4_readPlain_135 rfl hl (by decide) rfl (fun ls hl => ?_)
                refine lv_iload_n hx hb dX4_readPlain_136 rfl (lv_at hl 0 rfl) ?_
                refine lv_iconst (v := (-1)) hx hb dX4_readPlain_137 (by decide) ?_
                refine lv_icmp_ne (tgt := 143) hx hb dX4_readPlain_138 (by decide) (fun c_231 => ?_) (fun c_231 => ?_)
                ·
                  refine lv_aload_n hx hb dX4_readPlain_143 rfl (lv_at hl 2 rfl) ?_
                  refine lv_dup hx hb dX4_readPlain_144 rfl ?_
                  refine va_get (D := G.1) (ci := 4) (v := .int z224) (C := RX4) (T := TX4) (N := 8) hx hb hts inG_X4 hown hK hP 2 rfl rfl 6 (by decide) (hts _ fl_X4_42) (fun _ h9 => h9) rfl dX4_readPlain_145 ?_
                  refine lv_iconst (v := 1) hx hb dX4_readPlain_148 (by decide) ?_
                  refine lv_iadd hx hb dX4_readPlain_149 ?_
                  have t_232 : (z224 + 1).toInt = z224.toInt + 1 := g5_iadd (a := z224.toInt) (b := 1) (by rfl) (by decide) (by omega) (by omega)
                  refine va_put (D := G.1) (ci := 4) (v := .int (z224 + 1)) (ty := .int) (C := RX4) (T := TX4) (N := 8) hx hb hts inG_X4 tyX4 tyX4_ok nmX4 hown hK hP hD hS 2 rfl rfl 6 (by decide) (hts _ fl_X4_42) (fun _ h9 => h9) rfl (by decide +kernel) rfl rfl (Nat.le_of_ble_eq_true rfl) dX4_readPlain_150 (fun H locs hP hD hS => ?_)
                  have hP : va_P G.1 vwCl [(a_nm, .inl (G.2 0, 401, .inl f_nm)), (a_rc, .inl (G.2 0, 400, .inl z225)), (a_r, .inr (4, [.ref a_tk, .ref a_rh, .ref a_rs, .ref a_rc, .int z222, .int z223, .int (z224 + 1), .int e_fp])), (a_tk, .inr (8, [.ref a_kd, .ref a_nm, .ref a_pl])), (a_kd, .inl (G.2 0, 401, .inl f_kd))] H := hP
                  have hD : va_D A [(a_nm, .inl (G.2 0, 401, .inl f_nm)), (a_rc, .inl (G.2 0, 400, .inl z225)), (a_r, .inr (4, [.ref a_tk, .ref a_rh, .ref a_rs, .ref a_rc, .int z222, .int z223, .int (z224 + 1), .int e_fp])), (a_tk, .inr (8, [.ref a_kd, .ref a_nm, .ref a_pl])), (a_kd, .inl (G.2 0, 401, .inl f_kd))] := hD
                  refine lv_aload_n hx hb dX4_readPlain_153 rfl (lv_at hl 2 rfl) ?_
                  refine lv_iload_n hx hb dX4_readPlain_154 rfl (lv_at hl 3 rfl) ?_
                  have hPc := hP.sub (ws' := [(a_r, .inr (4, [.ref a_tk, .ref a_rh, .ref a_rs, .ref a_rc, .int z222, .int z223, .int (z224 + 1), .int e_fp])), (a_tk, .inr (8, [.ref a_kd, .ref a_nm, .ref a_pl])), (a_kd, .inl (G.2 0, 401, .inl f_kd)), (a_nm, .inl (G.2 0, 401, .inl f_nm)), (a_rc, .inl (G.2 0, 400, .inl z225))]) [2, 3, 4, 0, 1] rfl
                  have hDc := hD.sub (ws' := [(a_r, .inr (4, [.ref a_tk, .ref a_rh, .ref a_rs, .ref a_rc, .int z222, .int z223, .int (z224 + 1), .int e_fp])), (a_tk, .inr (8, [.ref a_kd, .ref a_nm, .ref a_pl])), (a_kd, .inl (G.2 0, 401, .inl f_kd)), (a_nm, .inl (G.2 0, 401, .inl f_nm)), (a_rc, .inl (G.2 0, 400, .inl z225))]) [2, 3, 4, 0, 1] (by decide) rfl
                  have hFc := va_free (wc := [(a_r, .inr (4, [.ref a_tk, .ref a_rh, .ref a_rs, .ref a_rc, .int z222, .int z223, .int (z224 + 1), .int e_fp])), (a_tk, .inr (8, [.ref a_kd, .ref a_nm, .ref a_pl])), (a_kd, .inl (G.2 0, 401, .inl f_kd)), (a_nm, .inl (G.2 0, 401, .inl f_nm)), (a_rc, .inl (G.2 0, 400, .inl z225))]) hD hS hA [2, 3, 4, 0, 1] rfl
                  refine va_calli (va_runV (As := [.int p_d]) (rest := []) ⟨hx, hb, hml, hown, hts⟩ ((r_sum fr lo p_d h_p_d h_sum) l G a_r a_tk a_kd a_nm a_rc a_rh a_rs a_pl H.size z222 z223 (z224 + 1) e_fp f_kd f_nm z225 ⟨by omega, by omega⟩ ⟨by omega, by omega⟩ (e_tk) (i_219)) (cwV 1 hts gV_X4_73 rfl rfl rfl hv_X4_readSum ⟨by dsimp only; omega, by dsimp only; omega⟩) (g5_preV hPc hK hDc hN hT hS hFc (ci := 4) (q0 := 0) rfl rfl) rfl rfl hl.1 rfl (lv_room (Nat.le_of_ble_eq_true rfl)) dX4_readPlain_155 ⟨Nat.le_of_ble_eq_true rfl, Nat.le_of_ble_eq_true rfl⟩) hS (fun q _ h => hFc q h) hFc (fun r u t H1 locs ht hvm hw hB hz1 hk1 hS => ?_)
                  obtain ⟨hP1, hD1⟩ := hB
                  rw [ht] at hP1
                  obtain ⟨z238, z239, z240, z241, z242, i_233, i_234, i_235, i_236, i_237, y243, rfl⟩ := hw
                  have i_233 : 0 ≤ z238.toInt ∧ z238.toInt ≤ 1 := i_233
                  have i_234 : z222.toInt ≤ z239.toInt ∧ z239.toInt ≤ 400 := i_234
                  have i_235 : 0 ≤ z241.toInt ∧ z241.toInt ≤ 401 := i_235
                  have i_236 : CDI z242 z239.toInt := i_236
                  have i_237 : OPK z225 z242 z222.toInt := i_237
                  obtain ⟨hP, hD⟩ := va_join (wr := []) (w1 := [(a_r, .inr (4, [.ref a_tk, .ref a_rh, .ref a_rs, .ref a_rc, .int z239, .int z240, .int z241, .int e_fp])), (a_tk, .inr (8, [.ref a_kd, .ref a_nm, .ref a_pl])), (a_kd, .inl (G.2 0, 401, .inl f_kd)), (a_nm, .inl (G.2 0, 401, .inl f_nm)), (a_rc, .inl (G.2 0, 400, .inl z242))]) hP hD [2, 3, 4, 0, 1] [] rfl rfl (by decide) (by decide) hk1 hFc hP1 hD1
                  generalize H1 = H at hP hS ⊢
                  have hP : va_P G.1 vwCl [(a_r, .inr (4, [.ref a_tk, .ref a_rh, .ref a_rs, .ref a_rc, .int z239, .int z240, .int z241, .int e_fp])), (a_tk, .inr (8, [.ref a_kd, .ref a_nm, .ref a_pl])), (a_kd, .inl (G.2 0, 401, .inl f_kd)), (a_nm, .inl (G.2 0, 401, .inl f_nm)), (a_rc, .inl (G.2 0, 400, .inl z242))] H := hP
                  have hD : va_D A [(a_r, .inr (4, [.ref a_tk, .ref a_rh, .ref a_rs, .ref a_rc, .int z239, .int z240, .int z241, .int e_fp])), (a_tk, .inr (8, [.ref a_kd, .ref a_nm, .ref a_pl])), (a_kd, .inl (G.2 0, 401, .inl f_kd)), (a_nm, .inl (G.2 0, 401, .inl f_nm)), (a_rc, .inl (G.2 0, 400, .inl z242))] := hD
                  refine g5_ti (v := z238) y243 ?_
                  refine lv_if_ne (tgt := 163) hx hb dX4_readPlain_158 (by decide) (fun c_244 => ?_) (fun c_244 => ?_)
                  ·
                    have n_244 : gNe (z238.toInt) (0) := by have z := g5_ne (a := z238.toInt) (b := 0) (by rfl) (by decide) c_244; unfold gNe; omega
                    have i_244 : z238.toInt ≥ 1 := by have z := g5_ne (a := z238.toInt) (b := 0) (by rfl) (by decide) c_244; omega
                    refine lv_aload_n hx hb dX4_readPlain_163 rfl (lv_at hl 2 rfl) ?_
                    refine lv_iload_n hx hb dX4_readPlain_164 rfl (lv_at hl 0 rfl) ?_
                    refine lv_iconst (v := 0) hx hb dX4_readPlain_165 (by decide) ?_
                    have hPc := hP.sub (ws' := [(a_r, .inr (4, [.ref a_tk, .ref a_rh, .ref a_rs, .ref a_rc, .int z239, .int z240, .int z241, .int e_fp])), (a_rc, .inl (G.2 0, 400, .inl z242))]) [0, 4] rfl
                    have hDc := hD.sub (ws' := [(a_r, .inr (4, [.ref a_tk, .ref a_rh, .ref a_rs, .ref a_rc, .int z239, .int z240, .int z241, .int e_fp])), (a_rc, .inl (G.2 0, 400, .inl z242))]) [0, 4] (by decide) rfl
                    have hFc := va_free (wc := [(a_r, .inr (4, [.ref a_tk, .ref a_rh, .ref a_rs, .ref a_rc, .int z239, .int z240, .int z241, .int e_fp])), (a_rc, .inl (G.2 0, 400, .inl z242))]) hD hS hA [0, 4] rfl
                    refine va_calli (va_runV (As := [.int 6, .int 0]) (rest := []) ⟨hx, hb, hml, hown, hts⟩ (r_emit l G a_r a_rc a_tk a_rh a_rs H.size z239 z240 z241 e_fp 6 0 z242 ⟨by omega, by omega⟩ ⟨by omega, by omega⟩ (i_236) (by unfold wOK; decide)) (cwV 2 hts gV_X4_79 rfl rfl rfl hv_X4_emit ⟨by dsimp only; omega, by dsimp only; omega⟩) (g5_preV hPc hK hDc hN hT hS hFc (ci := 4) (q0 := 0) rfl rfl) rfl rfl hl.1 rfl (lv_room (Nat.le_of_ble_eq_true rfl)) dX4_readPlain_166 ⟨Nat.le_of_ble_eq_true rfl, Nat.le_of_ble_eq_true rfl⟩) hS (fun q _ h => hFc q h) hFc (fun r u t H1 locs ht hvm hw hB hz1 hk1 hS => ?_)
                    obtain ⟨hP1, hD1⟩ := hB
                    rw [ht] at hP1
                    obtain ⟨z250, z251, z252, i_245, i_246, i_247, i_248, i_249, y253, rfl⟩ := hw
                    have i_245 : -1 ≤ z250.toInt ∧ z250.toInt ≤ 399 := i_245
                    have i_246 : z239.toInt ≤ z251.toInt ∧ z251.toInt ≤ 400 := i_246
                    have i_247 : CDI z252 z251.toInt := i_247
                    have i_248 : OPK z242 z252 z239.toInt := i_248
                    have i_249 : 0 ≤ z250.toInt → z250.toInt < z251.toInt ∧ z252 z250.toNatClampNeg = (((6 : Int32) <<< (12 &&& 31)) ||| (0 : Int32)) := i_249
                    obtain ⟨hP, hD⟩ := va_join (wr := [(a_tk, .inr (8, [.ref a_kd, .ref a_nm, .ref a_pl])), (a_kd, .inl (G.2 0, 401, .inl f_kd)), (a_nm, .inl (G.2 0, 401, .inl f_nm))]) (w1 := [(a_r, .inr (4, [.ref a_tk, .ref a_rh, .ref a_rs, .ref a_rc, .int z251, .int z240, .int z241, .int e_fp])), (a_rc, .inl (G.2 0, 400, .inl z252))]) hP hD [0, 4] [1, 2, 3] rfl rfl (by decide) (by decide) hk1 hFc hP1 hD1
                    generalize H1 = H at hP hS ⊢
                    have hP : va_P G.1 vwCl [(a_tk, .inr (8, [.ref a_kd, .ref a_nm, .ref a_pl])), (a_kd, .inl (G.2 0, 401, .inl f_kd)), (a_nm, .inl (G.2 0, 401, .inl f_nm)), (a_r, .inr (4, [.ref a_tk, .ref a_rh, .ref a_rs, .ref a_rc, .int z251, .int z240, .int z241, .int e_fp])), (a_rc, .inl (G.2 0, 400, .inl z252))] H := hP
                    have hD : va_D A [(a_tk, .inr (8, [.ref a_kd, .ref a_nm, .ref a_pl])), (a_kd, .inl (G.2 0, 401, .inl f_kd)), (a_nm, .inl (G.2 0, 401, .inl f_nm)), (a_r, .inr (4, [.ref a_tk, .ref a_rh, .ref a_rs, .ref a_rc, .int z251, .int z240, .int z241, .int e_fp])), (a_rc, .inl (G.2 0, 400, .inl z252))] := hD
                    refine g5_ti (v := z250) y253 ?_
                    refine lv_pop hx hb dX4_readPlain_169 rfl ?_
                    refine lv_iload_n hx hb dX4_readPlain_170 rfl (lv_at hl 1 rfl) ?_
                    refine lv_if_eq (tgt := 182) hx hb dX4_readPlain_171 (by decide) (fun c_254 => ?_) (fun c_254 => ?_)
                    ·
                      have i_254 : k_u.toInt = 0 := by have z := g5_eq (a := k_u.toInt) (b := 0) (by rfl) (by decide) c_254; omega
                      refine lv_iconst (v := 1) hx hb dX4_readPlain_182 (by decide) ?_
                      exact W.zret (v := 1) hx hb hr rfl (fun t ht hW => ⟨⟨1, [(a_r, .inr (4, [.ref a_tk, .ref a_rh, .ref a_rs, .ref a_rc, .int z251, .int z240, .int z241, .int e_fp])), (a_tk, .inr (8, [.ref a_kd, .ref a_nm, .ref a_pl])), (a_kd, .inl (G.2 0, 401, .inl f_kd)), (a_nm, .inl (G.2 0, 401, .inl f_nm)), (a_rc, .inl (G.2 0, 400, .inl z252))], rfl, ⟨1, z251, z240, z241, z252, ⟨by have zc_o_r : (1 : Int32).toInt = 1 := (by decide); omega, by have zc_o_r : (1 : Int32).toInt = 1 := (by decide); omega⟩, ⟨by omega, by omega⟩, ⟨by omega, by omega⟩, i_247, opk_trans i_220 (opk_trans i_237 (i_248) (by omega)) (by omega), rfl, rfl⟩, by rw [ht]; exact hP.sub [3, 0, 1, 2, 4] rfl, hD.sub [3, 0, 1, 2, 4] (by decide) rfl⟩, hS.F ht⟩) hS.2.2 dX4_readPlain_183
                    ·
                      have n_254 : gNe (k_u.toInt) (0) := by have z := g5_eqN (a := k_u.toInt) (b := 0) (by rfl) (by decide) c_254; unfold gNe; omega
                      have i_254 : k_u.toInt ≥ 1 := by have z := g5_eqN (a := k_u.toInt) (b := 0) (by rfl) (by decide) c_254; omega
                      refine lv_aload_n hx hb dX4_readPlain_174 rfl (lv_at hl 2 rfl) ?_
                      refine lv_bipush (v := 9) hx hb dX4_readPlain_175 (by decide) ?_
                      refine lv_iconst (v := 0) hx hb dX4_readPlain_177 (by decide) ?_
                      have hPc := hP.sub (ws' := [(a_r, .inr (4, [.ref a_tk, .ref a_rh, .ref a_rs, .ref a_rc, .int z251, .int z240, .int z241, .int e_fp])), (a_rc, .inl (G.2 0, 400, .inl z252))]) [3, 4] rfl
                      have hDc := hD.sub (ws' := [(a_r, .inr (4, [.ref a_tk, .ref a_rh, .ref a_rs, .ref a_rc, .int z251, .int z240, .int z241, .int e_fp])), (a_rc, .inl (G.2 0, 400, .inl z252))]) [3, 4] (by decide) rfl
                      have hFc := va_free (wc := [(a_r, .inr (4, [.ref a_tk, .ref a_rh, .ref a_rs, .ref a_rc, .int z251, .int z240, .int z241, .int e_fp])), (a_rc, .inl (G.2 0, 400, .inl z252))]) hD hS hA [3, 4] rfl
                      refine va_calli (va_runV (As := [.int 9, .int 0]) (rest := []) ⟨hx, hb, hml, hown, hts⟩ (r_emit l G a_r a_rc a_tk a_rh a_rs H.size z251 z240 z241 e_fp 9 0 z252 ⟨by omega, by omega⟩ ⟨by omega, by omega⟩ (i_247) (by unfold wOK; decide)) (cwV 2 hts gV_X4_79 rfl rfl rfl hv_X4_emit ⟨by dsimp only; omega, by dsimp only; omega⟩) (g5_preV hPc hK hDc hN hT hS hFc (ci := 4) (q0 := 0) rfl rfl) rfl rfl hl.1 rfl (lv_room (Nat.le_of_ble_eq_true rfl)) dX4_readPlain_178 ⟨Nat.le_of_ble_eq_true rfl, Nat.le_of_ble_eq_true rfl⟩) hS (fun q _ h => hFc q h) hFc (fun r u t H1 locs ht hvm hw hB hz1 hk1 hS => ?_)
                      obtain ⟨hP1, hD1⟩ := hB
                      rw [ht] at hP1
                      obtain ⟨z260, z261, z262, i_255, i_256, i_257, i_258, i_259, y263, rfl⟩ := hw
                      have i_255 : -1 ≤ z260.toInt ∧ z260.toInt ≤ 399 := i_255
                      have i_256 : z251.toInt ≤ z261.toInt ∧ z261.toInt ≤ 400 := i_256
                      have i_257 : CDI z262 z261.toInt := i_257
                      have i_258 : OPK z252 z262 z251.toInt := i_258
                      have i_259 : 0 ≤ z260.toInt → z260.toInt < z261.toInt ∧ z262 z260.toNatClampNeg = (((9 : Int32) <<< (12 &&& 31)) ||| (0 : Int32)) := i_259
                      obtain ⟨hP, hD⟩ := va_join (wr := [(a_tk, .inr (8, [.ref a_kd, .ref a_nm, .ref a_pl])), (a_kd, .inl (G.2 0, 401, .inl f_kd)), (a_nm, .inl (G.2 0, 401, .inl f_nm))]) (w1 := [(a_r, .inr (4, [.ref a_tk, .ref a_rh, .ref a_rs, .ref a_rc, .int z261, .int z240, .int z241, .int e_fp])), (a_rc, .inl (G.2 0, 400, .inl z262))]) hP hD [3, 4] [0, 1, 2] rfl rfl (by decide) (by decide) hk1 hFc hP1 hD1
                      generalize H1 = H at hP hS ⊢
                      have hP : va_P G.1 vwCl [(a_tk, .inr (8, [.ref a_kd, .ref a_nm, .ref a_pl])), (a_kd, .inl (G.2 0, 401, .inl f_kd)), (a_nm, .inl (G.2 0, 401, .inl f_nm)), (a_r, .inr (4, [.ref a_tk, .ref a_rh, .ref a_rs, .ref a_rc, .int z261, .int z240, .int z241, .int e_fp])), (a_rc, .inl (G.2 0, 400, .inl z262))] H := hP
                      have hD : va_D A [(a_tk, .inr (8, [.ref a_kd, .ref a_nm, .ref a_pl])), (a_kd, .inl (G.2 0, 401, .inl f_kd)), (a_nm, .inl (G.2 0, 401, .inl f_nm)), (a_r, .inr (4, [.ref a_tk, .ref a_rh, .ref a_rs, .ref a_rc, .int z261, .int z240, .int z241, .int e_fp])), (a_rc, .inl (G.2 0, 400, .inl z262))] := hD
                      refine g5_ti (v := z260) y263 ?_
                      refine lv_pop hx hb dX4_readPlain_181 rfl ?_
                      refine lv_iconst (v := 1) hx hb dX4_readPlain_182 (by decide) ?_
                      exact W.zret (v := 1) hx hb hr rfl (fun t ht hW => ⟨⟨1, [(a_r, .inr (4, [.ref a_tk, .ref a_rh, .ref a_rs, .ref a_rc, .int z261, .int z240, .int z241, .int e_fp])), (a_tk, .inr (8, [.ref a_kd, .ref a_nm, .ref a_pl])), (a_kd, .inl (G.2 0, 401, .inl f_kd)), (a_nm, .inl (G.2 0, 401, .inl f_nm)), (a_rc, .inl (G.2 0, 400, .inl z262))], rfl, ⟨1, z261, z240, z241, z262, ⟨by have zc_o_r : (1 : Int32).toInt = 1 := (by decide); omega, by have zc_o_r : (1 : Int32).toInt = 1 := (by decide); omega⟩, ⟨by omega, by omega⟩, ⟨by omega, by omega⟩, i_257, opk_trans i_220 (opk_trans i_237 (opk_trans i_248 (i_258) (by omega)) (by omega)) (by omega), rfl, rfl⟩, by rw [ht]; exact hP.sub [3, 0, 1, 2, 4] rfl, hD.sub [3, 0, 1, 2, 4] (by decide) rfl⟩, hS.F ht⟩) hS.2.2 dX4_readPlain_183
                  ·
                    have i_244 : z238.toInt = 0 := by have z := g5_neN (a := z238.toInt) (b := 0) (by rfl) (by decide) c_244; omega
                    refine lv_iconst (v := 0) hx hb dX4_readPlain_161 (by decide) ?_
                    exact W.zret (v := 0) hx hb hr rfl (fun t ht hW => ⟨⟨0, [(a_r, .inr (4, [.ref a_tk, .ref a_rh, .ref a_rs, .ref a_rc, .int z239, .int z240, .int z241, .int e_fp])), (a_tk, .inr (8, [.ref a_kd, .ref a_nm, .ref a_pl])), (a_kd, .inl (G.2 0, 401, .inl f_kd)), (a_nm, .inl (G.2 0, 401, .inl f_nm)), (a_rc, .inl (G.2 0, 400, .inl z242))], rfl, ⟨0, z239, z240, z241, z242, ⟨by have zc_o_r : (0 : Int32).toInt = 0 := (by decide); omega, by have zc_o_r : (0 : Int32).toInt = 0 := (by decide); omega⟩, ⟨by omega, by omega⟩, ⟨by omega, by omega⟩, i_236, opk_trans i_220 (i_237) (by omega), rfl, rfl⟩, by rw [ht]; exact hP.sub [0, 1, 2, 3, 4] rfl, hD.sub [0, 1, 2, 3, 4] (by decide) rfl⟩, hS.F ht⟩) hS.2.2 dX4_readPlain_162
                ·
                  exact absurd c_231 (by decide)
            ·
              obtain ⟨hP, hD⟩ := va_join (wr := [(a_nm, .inl (G.2 0, 401, .inl f_nm)), (a_rc, .inl (G.2 0, 400, .inl z225))]) (w1 := [(a_r, .inr (4, [.ref a_tk, .ref a_rh, .ref a_rs, .ref a_rc, .int z222, .int z223, .int z224, .int e_fp])), (a_tk, .inr (8, [.ref a_kd, .ref a_nm, .ref a_pl])), (a_kd, .inl (G.2 0, 401, .inl f_kd))]) hP hD [0, 1, 2] [3, 4] rfl rfl (by decide) (by decide) hk1 hFc hP1 hD1
              generalize H1 = H at hP hS ⊢
              have hP : va_P G.1 vwCl [(a_nm, .inl (G.2 0, 401, .inl f_nm)), (a_rc, .inl (G.2 0, 400, .inl z225)), (a_r, .inr (4, [.ref a_tk, .ref a_rh, .ref a_rs, .ref a_rc, .int z222, .int z223, .int z224, .int e_fp])), (a_tk, .inr (8, [.ref a_kd, .ref a_nm, .ref a_pl])), (a_kd, .inl (G.2 0, 401, .inl f_kd))] H := hP
              have hD : va_D A [(a_nm, .inl (G.2 0, 401, .inl f_nm)), (a_rc, .inl (G.2 0, 400, .inl z225)), (a_r, .inr (4, [.ref a_tk, .ref a_rh, .ref a_rs, .ref a_rc, .int z222, .int z223, .int z224, .int e_fp])), (a_tk, .inr (8, [.ref a_kd, .ref a_nm, .ref a_pl])), (a_kd, .inl (G.2 0, 401, .inl f_kd))] := hD
              refine lv_if_eq (tgt := 106) hx hb dX4_readPlain_98 (by decide) (fun c_264 => ?_) (fun c_264 => ?_)
              ·
                refine lv_aload_n hx hb dX4_readPlain_106 rfl (lv_at hl 2 rfl) ?_
                refine lv_bipush (v := 62) hx hb dX4_readPlain_107 (by decide) ?_
                have hPc := hP.sub (ws' := [(a_r, .inr (4, [.ref a_tk, .ref a_rh, .ref a_rs, .ref a_rc, .int z222, .int z223, .int z224, .int e_fp])), (a_tk, .inr (8, [.ref a_kd, .ref a_nm, .ref a_pl])), (a_kd, .inl (G.2 0, 401, .inl f_kd))]) [2, 3, 4] rfl
                have hDc := hD.sub (ws' := [(a_r, .inr (4, [.ref a_tk, .ref a_rh, .ref a_rs, .ref a_rc, .int z222, .int z223, .int z224, .int e_fp])), (a_tk, .inr (8, [.ref a_kd, .ref a_nm, .ref a_pl])), (a_kd, .inl (G.2 0, 401, .inl f_kd))]) [2, 3, 4] (by decide) rfl
                have hFc := va_free (wc := [(a_r, .inr (4, [.ref a_tk, .ref a_rh, .ref a_rs, .ref a_rc, .int z222, .int z223, .int z224, .int e_fp])), (a_tk, .inr (8, [.ref a_kd, .ref a_nm, .ref a_pl])), (a_kd, .inl (G.2 0, 401, .inl f_kd))]) hD hS hA [2, 3, 4] rfl
                refine va_calli (va_runV (As := [.int 62]) (rest := []) ⟨hx, hb, hml, hown, hts⟩ (r_isNext l G a_r a_tk a_kd a_rh a_rs a_rc a_nm a_pl H.size z222 z223 z224 e_fp 62 f_kd ⟨by omega, by omega⟩ ⟨by omega, by omega⟩) (cwV 1 hts gV_X4_49 rfl rfl rfl hv_X4_isNext ⟨by dsimp only; omega, by dsimp only; omega⟩) (g5_preV hPc hK hDc hN hT hS hFc (ci := 4) (q0 := 0) rfl rfl) rfl rfl hl.1 rfl (lv_room (Nat.le_of_ble_eq_true rfl)) dX4_readPlain_109 ⟨Nat.le_of_ble_eq_true rfl, Nat.le_of_ble_eq_true rfl⟩) hS (fun q _ h => hFc q h) hFc (fun r u t H1 locs ht hvm hw hB hz1 hk1 hS => ?_)
                obtain ⟨hP1, hD1⟩ := hB
                rw [ht] at hP1
                rcases hw with ⟨i_265, i_266, rfl, rfl⟩ | ⟨rfl, rfl⟩
                ·
                  have i_265 : z224.toInt ≤ 400 := i_265
                  have i_266 : f_kd z224.toNatClampNeg = (62 : Int32) := i_266
                  obtain ⟨hP, hD⟩ := va_join (wr := [(a_nm, .inl (G.2 0, 401, .inl f_nm)), (a_rc, .inl (G.2 0, 400, .inl z225))]) (w1 := [(a_r, .inr (4, [.ref a_tk, .ref a_rh, .ref a_rs, .ref a_rc, .int z222, .int z223, .int z224, .int e_fp])), (a_tk, .inr (8, [.ref a_kd, .ref a_nm, .ref a_pl])), (a_kd, .inl (G.2 0, 401, .inl f_kd))]) hP hD [2, 3, 4] [0, 1] rfl rfl (by decide) (by decide) hk1 hFc hP1 hD1
                  generalize H1 = H at hP hS ⊢
                  have hP : va_P G.1 vwCl [(a_nm, .inl (G.2 0, 401, .inl f_nm)), (a_rc, .inl (G.2 0, 400, .inl z225)), (a_r, .inr (4, [.ref a_tk, .ref a_rh, .ref a_rs, .ref a_rc, .int z222, .int z223, .int z224, .int e_fp])), (a_tk, .inr (8, [.ref a_kd, .ref a_nm, .ref a_pl])), (a_kd, .inl (G.2 0, 401, .inl f_kd))] H := hP
                  have hD : va_D A [(a_nm, .inl (G.2 0, 401, .inl f_nm)), (a_rc, .inl (G.2 0, 400, .inl z225)), (a_r, .inr (4, [.ref a_tk, .ref a_rh, .ref a_rs, .ref a_rc, .int z222, .int z223, .int z224, .int e_fp])), (a_tk, .inr (8, [.ref a_kd, .ref a_nm, .ref a_pl])), (a_kd, .inl (G.2 0, 401, .inl f_kd))] := hD
                  refine lv_if_eq (tgt := 120) hx hb dX4_readPlain_112 (by decide) (fun c_267 => ?_) (fun c_267 => ?_)
                  ·
                    exact absurd c_267 (by decide)
                  ·
                    refine lv_bipush (v := 7) hx hb dX4_readPlain_115 (by decide) ?_
                    refine lv_goto (tgt := 135) hx hb dX4_readPlain_117 (by decide) ?_
                    refine lv_istore_n (lv' := [(3, .int 7), (2, .int k_u), (0, .ref a_r), (1, .int p_d)]) hx hb dX4_readPlain_135 rfl hl (by decide) rfl (fun ls hl => ?_)
                    refine lv_iload_n hx hb dX4_readPlain_136 rfl (lv_at hl 0 rfl) ?_
                    refine lv_iconst (v := (-1)) hx hb dX4_readPlain_137 (by decide) ?_
                    refine lv_icmp_ne (tgt := 143) hx hb dX4_readPlain_138 (by decide) (fun c_268 => ?_) (fun c_268 => ?_)
                    ·
                      refine lv_aload_n hx hb dX4_readPlain_143 rfl (lv_at hl 2 rfl) ?_
                      refine lv_dup hx hb dX4_readPlain_144 rfl ?_
                      refine va_get (D := G.1) (ci := 4) (v := .int z224) (C := RX4) (T := TX4) (N := 8) hx hb hts inG_X4 hown hK hP 2 rfl rfl 6 (by decide) (hts _ fl_X4_42) (fun _ h9 => h9) rfl dX4_readPlain_145 ?_
                      refine lv_iconst (v := 1) hx hb dX4_readPlain_148 (by decide) ?_
                      refine lv_iadd hx hb dX4_readPlain_149 ?_
                      have t_269 : (z224 + 1).toInt = z224.toInt + 1 := g5_iadd (a := z224.toInt) (b := 1) (by rfl) (by decide) (by omega) (by omega)
                      refine va_put (D := G.1) (ci := 4) (v := .int (z224 + 1)) (ty := .int) (C := RX4) (T := TX4) (N := 8) hx hb hts inG_X4 tyX4 tyX4_ok nmX4 hown hK hP hD hS 2 rfl rfl 6 (by decide) (hts _ fl_X4_42) (fun _ h9 => h9) rfl (by decide +kernel) rfl rfl (Nat.le_of_ble_eq_true rfl) dX4_readPlain_150 (fun H locs hP hD hS => ?_)
                      have hP : va_P G.1 vwCl [(a_nm, .inl (G.2 0, 401, .inl f_nm)), (a_rc, .inl (G.2 0, 400, .inl z225)), (a_r, .inr (4, [.ref a_tk, .ref a_rh, .ref a_rs, .ref a_rc, .int z222, .int z223, .int (z224 + 1), .int e_fp])), (a_tk, .inr (8, [.ref a_kd, .ref a_nm, .ref a_pl])), (a_kd, .inl (G.2 0, 401, .inl f_kd))] H := hP
                      have hD : va_D A [(a_nm, .inl (G.2 0, 401, .inl f_nm)), (a_rc, .inl (G.2 0, 400, .inl z225)), (a_r, .inr (4, [.ref a_tk, .ref a_rh, .ref a_rs, .ref a_rc, .int z222, .int z223, .int (z224 + 1), .int e_fp])), (a_tk, .inr (8, [.ref a_kd, .ref a_nm, .ref a_pl])), (a_kd, .inl (G.2 0, 401, .inl f_kd))] := hD
                      refine lv_aload_n hx hb dX4_readPlain_153 rfl (lv_at hl 2 rfl) ?_
                      refine lv_iload_n hx hb dX4_readPlain_154 rfl (lv_at hl 3 rfl) ?_
                      have hPc := hP.sub (ws' := [(a_r, .inr (4, [.ref a_tk, .ref a_rh, .ref a_rs, .ref a_rc, .int z222, .int z223, .int (z224 + 1), .int e_fp])), (a_tk, .inr (8, [.ref a_kd, .ref a_nm, .ref a_pl])), (a_kd, .inl (G.2 0, 401, .inl f_kd)), (a_nm, .inl (G.2 0, 401, .inl f_nm)), (a_rc, .inl (G.2 0, 400, .inl z225))]) [2, 3, 4, 0, 1] rfl
                      have hDc := hD.sub (ws' := [(a_r, .inr (4, [.ref a_tk, .ref a_rh, .ref a_rs, .ref a_rc, .int z222, .int z223, .int (z224 + 1), .int e_fp])), (a_tk, .inr (8, [.ref a_kd, .ref a_nm, .ref a_pl])), (a_kd, .inl (G.2 0, 401, .inl f_kd)), (a_nm, .inl (G.2 0, 401, .inl f_nm)), (a_rc, .inl (G.2 0, 400, .inl z225))]) [2, 3, 4, 0, 1] (by decide) rfl
                      have hFc := va_free (wc := [(a_r, .inr (4, [.ref a_tk, .ref a_rh, .ref a_rs, .ref a_rc, .int z222, .int z223, .int (z224 + 1), .int e_fp])), (a_tk, .inr (8, [.ref a_kd, .ref a_nm, .ref a_pl])), (a_kd, .inl (G.2 0, 401, .inl f_kd)), (a_nm, .inl (G.2 0, 401, .inl f_nm)), (a_rc, .inl (G.2 0, 400, .inl z225))]) hD hS hA [2, 3, 4, 0, 1] rfl
                      refine va_calli (va_runV (As := [.int p_d]) (rest := []) ⟨hx, hb, hml, hown, hts⟩ ((r_sum fr lo p_d h_p_d h_sum) l G a_r a_tk a_kd a_nm a_rc a_rh a_rs a_pl H.size z222 z223 (z224 + 1) e_fp f_kd f_nm z225 ⟨by omega, by omega⟩ ⟨by omega, by omega⟩ (e_tk) (i_219)) (cwV 1 hts gV_X4_73 rfl rfl rfl hv_X4_readSum ⟨by dsimp only; omega, by dsimp only; omega⟩) (g5_preV hPc hK hDc hN hT hS hFc (ci := 4) (q0 := 0) rfl rfl) rfl rfl hl.1 rfl (lv_room (Nat.le_of_ble_eq_true rfl)) dX4_readPlain_155 ⟨Nat.le_of_ble_eq_true rfl, Nat.le_of_ble_eq_true rfl⟩) hS (fun q _ h => hFc q h) hFc (fun r u t H1 locs ht hvm hw hB hz1 hk1 hS => ?_)
                      obtain ⟨hP1, hD1⟩ := hB
                      rw [ht] at hP1
                      obtain ⟨z275, z276, z277, z278, z279, i_270, i_271, i_272, i_273, i_274, y280, rfl⟩ := hw
                      have i_270 : 0 ≤ z275.toInt ∧ z275.toInt ≤ 1 := i_270
                      have i_271 : z222.toInt ≤ z276.toInt ∧ z276.toInt ≤ 400 := i_271
                      have i_272 : 0 ≤ z278.toInt ∧ z278.toInt ≤ 401 := i_272
                      have i_273 : CDI z279 z276.toInt := i_273
                      have i_274 : OPK z225 z279 z222.toInt := i_274
                      obtain ⟨hP, hD⟩ := va_join (wr := []) (w1 := [(a_r, .inr (4, [.ref a_tk, .ref a_rh, .ref a_rs, .ref a_rc, .int z276, .int z277, .int z278, .int e_fp])), (a_tk, .inr (8, [.ref a_kd, .ref a_nm, .ref a_pl])), (a_kd, .inl (G.2 0, 401, .inl f_kd)), (a_nm, .inl (G.2 0, 401, .inl f_nm)), (a_rc, .inl (G.2 0, 400, .inl z279))]) hP hD [2, 3, 4, 0, 1] [] rfl rfl (by decide) (by decide) hk1 hFc hP1 hD1
                      generalize H1 = H at hP hS ⊢
                      have hP : va_P G.1 vwCl [(a_r, .inr (4, [.ref a_tk, .ref a_rh, .ref a_rs, .ref a_rc, .int z276, .int z277, .int z278, .int e_fp])), (a_tk, .inr (8, [.ref a_kd, .ref a_nm, .ref a_pl])), (a_kd, .inl (G.2 0, 401, .inl f_kd)), (a_nm, .inl (G.2 0, 401, .inl f_nm)), (a_rc, .inl (G.2 0, 400, .inl z279))] H := hP
                      have hD : va_D A [(a_r, .inr (4, [.ref a_tk, .ref a_rh, .ref a_rs, .ref a_rc, .int z276, .int z277, .int z278, .int e_fp])), (a_tk, .inr (8, [.ref a_kd, .ref a_nm, .ref a_pl])), (a_kd, .inl (G.2 0, 401, .inl f_kd)), (a_nm, .inl (G.2 0, 401, .inl f_nm)), (a_rc, .inl (G.2 0, 400, .inl z279))] := hD
                      refine g5_ti (v := z275) y280 ?_
                      refine lv_if_ne (tgt := 163) hx hb dX4_readPlain_158 (by decide) (fun c_281 => ?_) (fun c_281 => ?_)
                      ·
                        have n_281 : gNe (z275.toInt) (0) := by have z := g5_ne (a := z275.toInt) (b := 0) (by rfl) (by decide) c_281; unfold gNe; omega
                        have i_281 : z275.toInt ≥ 1 := by have z := g5_ne (a := z275.toInt) (b := 0) (by rfl) (by decide) c_281; omega
                        refine lv_aload_n hx hb dX4_readPlain_163 rfl (lv_at hl 2 rfl) ?_
                        refine lv_iload_n hx hb dX4_readPlain_164 rfl (lv_at hl 0 rfl) ?_
                        refine lv_iconst (v := 0) hx hb dX4_readPlain_165 (by decide) ?_
                        have hPc := hP.sub (ws' := [(a_r, .inr (4, [.ref a_tk, .ref a_rh, .ref a_rs, .ref a_rc, .int z276, .int z277, .int z278, .int e_fp])), (a_rc, .inl (G.2 0, 400, .inl z279))]) [0, 4] rfl
                        have hDc := hD.sub (ws' := [(a_r, .inr (4, [.ref a_tk, .ref a_rh, .ref a_rs, .ref a_rc, .int z276, .int z277, .int z278, .int e_fp])), (a_rc, .inl (G.2 0, 400, .inl z279))]) [0, 4] (by decide) rfl
                        have hFc := va_free (wc := [(a_r, .inr (4, [.ref a_tk, .ref a_rh, .ref a_rs, .ref a_rc, .int z276, .int z277, .int z278, .int e_fp])), (a_rc, .inl (G.2 0, 400, .inl z279))]) hD hS hA [0, 4] rfl
                        refine va_calli (va_runV (As := [.int 7, .int 0]) (rest := []) ⟨hx, hb, hml, hown, hts⟩ (r_emit l G a_r a_rc a_tk a_rh a_rs H.size z276 z277 z278 e_fp 7 0 z279 ⟨by omega, by omega⟩ ⟨by omega, by omega⟩ (i_273) (by unfold wOK; decide)) (cwV 2 hts gV_X4_79 rfl rfl rfl hv_X4_emit ⟨by dsimp only; omega, by dsimp only; omega⟩) (g5_preV hPc hK hDc hN hT hS hFc (ci := 4) (q0 := 0) rfl rfl) rfl rfl hl.1 rfl (lv_room (Nat.le_of_ble_eq_true rfl)) dX4_readPlain_166 ⟨Nat.le_of_ble_eq_true rfl, Nat.le_of_ble_eq_true rfl⟩) hS (fun q _ h => hFc q h) hFc (fun r u t H1 locs ht hvm hw hB hz1 hk1 hS => ?_)
                        obtain ⟨hP1, hD1⟩ := hB
                        rw [ht] at hP1
                        obtain ⟨z287, z288, z289, i_282, i_283, i_284, i_285, i_286, y290, rfl⟩ := hw
                        have i_282 : -1 ≤ z287.toInt ∧ z287.toInt ≤ 399 := i_282
                        have i_283 : z276.toInt ≤ z288.toInt ∧ z288.toInt ≤ 400 := i_283
                        have i_284 : CDI z289 z288.toInt := i_284
                        have i_285 : OPK z279 z289 z276.toInt := i_285
                        have i_286 : 0 ≤ z287.toInt → z287.toInt < z288.toInt ∧ z289 z287.toNatClampNeg = (((7 : Int32) <<< (12 &&& 31)) ||| (0 : Int32)) := i_286
                        obtain ⟨hP, hD⟩ := va_join (wr := [(a_tk, .inr (8, [.ref a_kd, .ref a_nm, .ref a_pl])), (a_kd, .inl (G.2 0, 401, .inl f_kd)), (a_nm, .inl (G.2 0, 401, .inl f_nm))]) (w1 := [(a_r, .inr (4, [.ref a_tk, .ref a_rh, .ref a_rs, .ref a_rc, .int z288, .int z277, .int z278, .int e_fp])), (a_rc, .inl (G.2 0, 400, .inl z289))]) hP hD [0, 4] [1, 2, 3] rfl rfl (by decide) (by decide) hk1 hFc hP1 hD1
                        generalize H1 = H at hP hS ⊢
                        have hP : va_P G.1 vwCl [(a_tk, .inr (8, [.ref a_kd, .ref a_nm, .ref a_pl])), (a_kd, .inl (G.2 0, 401, .inl f_kd)), (a_nm, .inl (G.2 0, 401, .inl f_nm)), (a_r, .inr (4, [.ref a_tk, .ref a_rh, .ref a_rs, .ref a_rc, .int z288, .int z277, .int z278, .int e_fp])), (a_rc, .inl (G.2 0, 400, .inl z289))] H := hP
                        have hD : va_D A [(a_tk, .inr (8, [.ref a_kd, .ref a_nm, .ref a_pl])), (a_kd, .inl (G.2 0, 401, .inl f_kd)), (a_nm, .inl (G.2 0, 401, .inl f_nm)), (a_r, .inr (4, [.ref a_tk, .ref a_rh, .ref a_rs, .ref a_rc, .int z288, .int z277, .int z278, .int e_fp])), (a_rc, .inl (G.2 0, 400, .inl z289))] := hD
                        refine g5_ti (v := z287) y290 ?_
                        refine lv_pop hx hb dX4_readPlain_169 rfl ?_
                        refine lv_iload_n hx hb dX4_readPlain_170 rfl (lv_at hl 1 rfl) ?_
                        refine lv_if_eq (tgt := 182) hx hb dX4_readPlain_171 (by decide) (fun c_291 => ?_) (fun c_291 => ?_)
                        ·
                          have i_291 : k_u.toInt = 0 := by have z := g5_eq (a := k_u.toInt) (b := 0) (by rfl) (by decide) c_291; omega
                          refine lv_iconst (v := 1) hx hb dX4_readPlain_182 (by decide) ?_
                          exact W.zret (v := 1) hx hb hr rfl (fun t ht hW => ⟨⟨1, [(a_r, .inr (4, [.ref a_tk, .ref a_rh, .ref a_rs, .ref a_rc, .int z288, .int z277, .int z278, .int e_fp])), (a_tk, .inr (8, [.ref a_kd, .ref a_nm, .ref a_pl])), (a_kd, .inl (G.2 0, 401, .inl f_kd)), (a_nm, .inl (G.2 0, 401, .inl f_nm)), (a_rc, .inl (G.2 0, 400, .inl z289))], rfl, ⟨1, z288, z277, z278, z289, ⟨by have zc_o_r : (1 : Int32).toInt = 1 := (by decide); omega, by have zc_o_r : (1 : Int32).toInt = 1 := (by decide); omega⟩, ⟨by omega, by omega⟩, ⟨by omega, by omega⟩, i_284, opk_trans i_220 (opk_trans i_274 (i_285) (by omega)) (by omega), rfl, rfl⟩, by rw [ht]; exact hP.sub [3, 0, 1, 2, 4] rfl, hD.sub [3, 0, 1, 2, 4] (by decide) rfl⟩, hS.F ht⟩) hS.2.2 dX4_readPlain_183
                        ·
                          have n_291 : gNe (k_u.toInt) (0) := by have z := g5_eqN (a := k_u.toInt) (b := 0) (by rfl) (by decide) c_291; unfold gNe; omega
                          have i_291 : k_u.toInt ≥ 1 := by have z := g5_eqN (a := k_u.toInt) (b := 0) (by rfl) (by decide) c_291; omega
                          refine lv_aload_n hx hb dX4_readPlain_174 rfl (lv_at hl 2 rfl) ?_
                          refine lv_bipush (v := 9) hx hb dX4_readPlain_175 (by decide) ?_
                          refine lv_iconst (v := 0) hx hb dX4_readPlain_177 (by decide) ?_
                          have hPc := hP.sub (ws' := [(a_r, .inr (4, [.ref a_tk, .ref a_rh, .ref a_rs, .ref a_rc, .int z288, .int z277, .int z278, .int e_fp])), (a_rc, .inl (G.2 0, 400, .inl z289))]) [3, 4] rfl
                          have hDc := hD.sub (ws' := [(a_r, .inr (4, [.ref a_tk, .ref a_rh, .ref a_rs, .ref a_rc, .int z288, .int z277, .int z278, .int e_fp])), (a_rc, .inl (G.2 0, 400, .inl z289))]) [3, 4] (by decide) rfl
                          have hFc := va_free (wc := [(a_r, .inr (4, [.ref a_tk, .ref a_rh, .ref a_rs, .ref a_rc, .int z288, .int z277, .int z278, .int e_fp])), (a_rc, .inl (G.2 0, 400, .inl z289))]) hD hS hA [3, 4] rfl
                          refine va_calli (va_runV (As := [.int 9, .int 0]) (rest := []) ⟨hx, hb, hml, hown, hts⟩ (r_emit l G a_r a_rc a_tk a_rh a_rs H.size z288 z277 z278 e_fp 9 0 z289 ⟨by omega, by omega⟩ ⟨by omega, by omega⟩ (i_284) (by unfold wOK; decide)) (cwV 2 hts gV_X4_79 rfl rfl rfl hv_X4_emit ⟨by dsimp only; omega, by dsimp only; omega⟩) (g5_preV hPc hK hDc hN hT hS hFc (ci := 4) (q0 := 0) rfl rfl) rfl rfl hl.1 rfl (lv_room (Nat.le_of_ble_eq_true rfl)) dX4_readPlain_178 ⟨Nat.le_of_ble_eq_true rfl, Nat.le_of_ble_eq_true rfl⟩) hS (fun q _ h => hFc q h) hFc (fun r u t H1 locs ht hvm hw hB hz1 hk1 hS => ?_)
                          obtain ⟨hP1, hD1⟩ := hB
                          rw [ht] at hP1
                          obtain ⟨z297, z298, z299, i_292, i_293, i_294, i_295, i_296, y300, rfl⟩ := hw
                          have i_292 : -1 ≤ z297.toInt ∧ z297.toInt ≤ 399 := i_292
                          have i_293 : z288.toInt ≤ z298.toInt ∧ z298.toInt ≤ 400 := i_293
                          have i_294 : CDI z299 z298.toInt := i_294
                          have i_295 : OPK z289 z299 z288.toInt := i_295
                          have i_296 : 0 ≤ z297.toInt → z297.toInt < z298.toInt ∧ z299 z297.toNatClampNeg = (((9 : Int32) <<< (12 &&& 31)) ||| (0 : Int32)) := i_296
                          obtain ⟨hP, hD⟩ := va_join (wr := [(a_tk, .inr (8, [.ref a_kd, .ref a_nm, .ref a_pl])), (a_kd, .inl (G.2 0, 401, .inl f_kd)), (a_nm, .inl (G.2 0, 401, .inl f_nm))]) (w1 := [(a_r, .inr (4, [.ref a_tk, .ref a_rh, .ref a_rs, .ref a_rc, .int z298, .int z277, .int z278, .int e_fp])), (a_rc, .inl (G.2 0, 400, .inl z299))]) hP hD [3, 4] [0, 1, 2] rfl rfl (by decide) (by decide) hk1 hFc hP1 hD1
                          generalize H1 = H at hP hS ⊢
                          have hP : va_P G.1 vwCl [(a_tk, .inr (8, [.ref a_kd, .ref a_nm, .ref a_pl])), (a_kd, .inl (G.2 0, 401, .inl f_kd)), (a_nm, .inl (G.2 0, 401, .inl f_nm)), (a_r, .inr (4, [.ref a_tk, .ref a_rh, .ref a_rs, .ref a_rc, .int z298, .int z277, .int z278, .int e_fp])), (a_rc, .inl (G.2 0, 400, .inl z299))] H := hP
                          have hD : va_D A [(a_tk, .inr (8, [.ref a_kd, .ref a_nm, .ref a_pl])), (a_kd, .inl (G.2 0, 401, .inl f_kd)), (a_nm, .inl (G.2 0, 401, .inl f_nm)), (a_r, .inr (4, [.ref a_tk, .ref a_rh, .ref a_rs, .ref a_rc, .int z298, .int z277, .int z278, .int e_fp])), (a_rc, .inl (G.2 0, 400, .inl z299))] := hD
                          refine g5_ti (v := z297) y300 ?_
                          refine lv_pop hx hb dX4_readPlain_181 rfl ?_
                          refine lv_iconst (v := 1) hx hb dX4_readPlain_182 (by decide) ?_
                          exact W.zret (v := 1) hx hb hr rfl (fun t ht hW => ⟨⟨1, [(a_r, .inr (4, [.ref a_tk, .ref a_rh, .ref a_rs, .ref a_rc, .int z298, .int z277, .int z278, .int e_fp])), (a_tk, .inr (8, [.ref a_kd, .ref a_nm, .ref a_pl])), (a_kd, .inl (G.2 0, 401, .inl f_kd)), (a_nm, .inl (G.2 0, 401, .inl f_nm)), (a_rc, .inl (G.2 0, 400, .inl z299))], rfl, ⟨1, z298, z277, z278, z299, ⟨by have zc_o_r : (1 : Int32).toInt = 1 := (by decide); omega, by have zc_o_r : (1 : Int32).toInt = 1 := (by decide); omega⟩, ⟨by omega, by omega⟩, ⟨by omega, by omega⟩, i_294, opk_trans i_220 (opk_trans i_274 (opk_trans i_285 (i_295) (by omega)) (by omega)) (by omega), rfl, rfl⟩, by rw [ht]; exact hP.sub [3, 0, 1, 2, 4] rfl, hD.sub [3, 0, 1, 2, 4] (by decide) rfl⟩, hS.F ht⟩) hS.2.2 dX4_readPlain_183
                      ·
                        have i_281 : z275.toInt = 0 := by have z := g5_neN (a := z275.toInt) (b := 0) (by rfl) (by decide) c_281; omega
                        refine lv_iconst (v := 0) hx hb dX4_readPlain_161 (by decide) ?_
                        exact W.zret (v := 0) hx hb hr rfl (fun t ht hW => ⟨⟨0, [(a_r, .inr (4, [.ref a_tk, .ref a_rh, .ref a_rs, .ref a_rc, .int z276, .int z277, .int z278, .int e_fp])), (a_tk, .inr (8, [.ref a_kd, .ref a_nm, .ref a_pl])), (a_kd, .inl (G.2 0, 401, .inl f_kd)), (a_nm, .inl (G.2 0, 401, .inl f_nm)), (a_rc, .inl (G.2 0, 400, .inl z279))], rfl, ⟨0, z276, z277, z278, z279, ⟨by have zc_o_r : (0 : Int32).toInt = 0 := (by decide); omega, by have zc_o_r : (0 : Int32).toInt = 0 := (by decide); omega⟩, ⟨by omega, by omega⟩, ⟨by omega, by omega⟩, i_273, opk_trans i_220 (i_274) (by omega), rfl, rfl⟩, by rw [ht]; exact hP.sub [0, 1, 2, 3, 4] rfl, hD.sub [0, 1, 2, 3, 4] (by decide) rfl⟩, hS.F ht⟩) hS.2.2 dX4_readPlain_162
                    ·
                      exact absurd c_268 (by decide)
                ·
                  obtain ⟨hP, hD⟩ := va_join (wr := [(a_nm, .inl (G.2 0, 401, .inl f_nm)), (a_rc, .inl (G.2 0, 400, .inl z225))]) (w1 := [(a_r, .inr (4, [.ref a_tk, .ref a_rh, .ref a_rs, .ref a_rc, .int z222, .int z223, .int z224, .int e_fp])), (a_tk, .inr (8, [.ref a_kd, .ref a_nm, .ref a_pl])), (a_kd, .inl (G.2 0, 401, .inl f_kd))]) hP hD [2, 3, 4] [0, 1] rfl rfl (by decide) (by decide) hk1 hFc hP1 hD1
                  generalize H1 = H at hP hS ⊢
                  have hP : va_P G.1 vwCl [(a_nm, .inl (G.2 0, 401, .inl f_nm)), (a_rc, .inl (G.2 0, 400, .inl z225)), (a_r, .inr (4, [.ref a_tk, .ref a_rh, .ref a_rs, .ref a_rc, .int z222, .int z223, .int z224, .int e_fp])), (a_tk, .inr (8, [.ref a_kd, .ref a_nm, .ref a_pl])), (a_kd, .inl (G.2 0, 401, .inl f_kd))] H := hP
                  have hD : va_D A [(a_nm, .inl (G.2 0, 401, .inl f_nm)), (a_rc, .inl (G.2 0, 400, .inl z225)), (a_r, .inr (4, [.ref a_tk, .ref a_rh, .ref a_rs, .ref a_rc, .int z222, .int z223, .int z224, .int e_fp])), (a_tk, .inr (8, [.ref a_kd, .ref a_nm, .ref a_pl])), (a_kd, .inl (G.2 0, 401, .inl f_kd))] := hD
                  refine lv_if_eq (tgt := 120) hx hb dX4_readPlain_112 (by decide) (fun c_301 => ?_) (fun c_301 => ?_)
                  ·
                    refine lv_aload_n hx hb dX4_readPlain_120 rfl (lv_at hl 2 rfl) ?_
                    refine lv_bipush (v := 61) hx hb dX4_readPlain_121 (by decide) ?_
                    have hPc := hP.sub (ws' := [(a_r, .inr (4, [.ref a_tk, .ref a_rh, .ref a_rs, .ref a_rc, .int z222, .int z223, .int z224, .int e_fp])), (a_tk, .inr (8, [.ref a_kd, .ref a_nm, .ref a_pl])), (a_kd, .inl (G.2 0, 401, .inl f_kd))]) [2, 3, 4] rfl
                    have hDc := hD.sub (ws' := [(a_r, .inr (4, [.ref a_tk, .ref a_rh, .ref a_rs, .ref a_rc, .int z222, .int z223, .int z224, .int e_fp])), (a_tk, .inr (8, [.ref a_kd, .ref a_nm, .ref a_pl])), (a_kd, .inl (G.2 0, 401, .inl f_kd))]) [2, 3, 4] (by decide) rfl
                    have hFc := va_free (wc := [(a_r, .inr (4, [.ref a_tk, .ref a_rh, .ref a_rs, .ref a_rc, .int z222, .int z223, .int z224, .int e_fp])), (a_tk, .inr (8, [.ref a_kd, .ref a_nm, .ref a_pl])), (a_kd, .inl (G.2 0, 401, .inl f_kd))]) hD hS hA [2, 3, 4] rfl
                    refine va_calli (va_runV (As := [.int 61]) (rest := []) ⟨hx, hb, hml, hown, hts⟩ (r_isNext l G a_r a_tk a_kd a_rh a_rs a_rc a_nm a_pl H.size z222 z223 z224 e_fp 61 f_kd ⟨by omega, by omega⟩ ⟨by omega, by omega⟩) (cwV 1 hts gV_X4_49 rfl rfl rfl hv_X4_isNext ⟨by dsimp only; omega, by dsimp only; omega⟩) (g5_preV hPc hK hDc hN hT hS hFc (ci := 4) (q0 := 0) rfl rfl) rfl rfl hl.1 rfl (lv_room (Nat.le_of_ble_eq_true rfl)) dX4_readPlain_123 ⟨Nat.le_of_ble_eq_true rfl, Nat.le_of_ble_eq_true rfl⟩) hS (fun q _ h => hFc q h) hFc (fun r u t H1 locs ht hvm hw hB hz1 hk1 hS => ?_)
                    obtain ⟨hP1, hD1⟩ := hB
                    rw [ht] at hP1
                    rcases hw with ⟨i_302, i_303, rfl, rfl⟩ | ⟨rfl, rfl⟩
                    ·
                      have i_302 : z224.toInt ≤ 400 := i_302
                      have i_303 : f_kd z224.toNatClampNeg = (61 : Int32) := i_303
                      obtain ⟨hP, hD⟩ := va_join (wr := [(a_nm, .inl (G.2 0, 401, .inl f_nm)), (a_rc, .inl (G.2 0, 400, .inl z225))]) (w1 := [(a_r, .inr (4, [.ref a_tk, .ref a_rh, .ref a_rs, .ref a_rc, .int z222, .int z223, .int z224, .int e_fp])), (a_tk, .inr (8, [.ref a_kd, .ref a_nm, .ref a_pl])), (a_kd, .inl (G.2 0, 401, .inl f_kd))]) hP hD [2, 3, 4] [0, 1] rfl rfl (by decide) (by decide) hk1 hFc hP1 hD1
                      generalize H1 = H at hP hS ⊢
                      have hP : va_P G.1 vwCl [(a_nm, .inl (G.2 0, 401, .inl f_nm)), (a_rc, .inl (G.2 0, 400, .inl z225)), (a_r, .inr (4, [.ref a_tk, .ref a_rh, .ref a_rs, .ref a_rc, .int z222, .int z223, .int z224, .int e_fp])), (a_tk, .inr (8, [.ref a_kd, .ref a_nm, .ref a_pl])), (a_kd, .inl (G.2 0, 401, .inl f_kd))] H := hP
                      have hD : va_D A [(a_nm, .inl (G.2 0, 401, .inl f_nm)), (a_rc, .inl (G.2 0, 400, .inl z225)), (a_r, .inr (4, [.ref a_tk, .ref a_rh, .ref a_rs, .ref a_rc, .int z222, .int z223, .int z224, .int e_fp])), (a_tk, .inr (8, [.ref a_kd, .ref a_nm, .ref a_pl])), (a_kd, .inl (G.2 0, 401, .inl f_kd))] := hD
                      refine lv_if_eq (tgt := 134) hx hb dX4_readPlain_126 (by decide) (fun c_304 => ?_) (fun c_304 => ?_)
                      ·
                        exact absurd c_304 (by decide)
                      ·
                        refine lv_bipush (v := 8) hx hb dX4_readPlain_129 (by decide) ?_
                        refine lv_goto (tgt := 135) hx hb dX4_readPlain_131 (by decide) ?_
                        refine lv_istore_n (lv' := [(3, .int 8), (2, .int k_u), (0, .ref a_r), (1, .int p_d)]) hx hb dX4_readPlain_135 rfl hl (by decide) rfl (fun ls hl => ?_)
                        refine lv_iload_n hx hb dX4_readPlain_136 rfl (lv_at hl 0 rfl) ?_
                        refine lv_iconst (v := (-1)) hx hb dX4_readPlain_137 (by decide) ?_
                        refine lv_icmp_ne (tgt := 143) hx hb dX4_readPlain_138 (by decide) (fun c_305 => ?_) (fun c_305 => ?_)
                        ·
                          refine lv_aload_n hx hb dX4_readPlain_143 rfl (lv_at hl 2 rfl) ?_
                          refine lv_dup hx hb dX4_readPlain_144 rfl ?_
                          refine va_get (D := G.1) (ci := 4) (v := .int z224) (C := RX4) (T := TX4) (N := 8) hx hb hts inG_X4 hown hK hP 2 rfl rfl 6 (by decide) (hts _ fl_X4_42) (fun _ h9 => h9) rfl dX4_readPlain_145 ?_
                          refine lv_iconst (v := 1) hx hb dX4_readPlain_148 (by decide) ?_
                          refine lv_iadd hx hb dX4_readPlain_149 ?_
                          have t_306 : (z224 + 1).toInt = z224.toInt + 1 := g5_iadd (a := z224.toInt) (b := 1) (by rfl) (by decide) (by omega) (by omega)
                          refine va_put (D := G.1) (ci := 4) (v := .int (z224 + 1)) (ty := .int) (C := RX4) (T := TX4) (N := 8) hx hb hts inG_X4 tyX4 tyX4_ok nmX4 hown hK hP hD hS 2 rfl rfl 6 (by decide) (hts _ fl_X4_42) (fun _ h9 => h9) rfl (by decide +kernel) rfl rfl (Nat.le_of_ble_eq_true rfl) dX4_readPlain_150 (fun H locs hP hD hS => ?_)
                          have hP : va_P G.1 vwCl [(a_nm, .inl (G.2 0, 401, .inl f_nm)), (a_rc, .inl (G.2 0, 400, .inl z225)), (a_r, .inr (4, [.ref a_tk, .ref a_rh, .ref a_rs, .ref a_rc, .int z222, .int z223, .int (z224 + 1), .int e_fp])), (a_tk, .inr (8, [.ref a_kd, .ref a_nm, .ref a_pl])), (a_kd, .inl (G.2 0, 401, .inl f_kd))] H := hP
                          have hD : va_D A [(a_nm, .inl (G.2 0, 401, .inl f_nm)), (a_rc, .inl (G.2 0, 400, .inl z225)), (a_r, .inr (4, [.ref a_tk, .ref a_rh, .ref a_rs, .ref a_rc, .int z222, .int z223, .int (z224 + 1), .int e_fp])), (a_tk, .inr (8, [.ref a_kd, .ref a_nm, .ref a_pl])), (a_kd, .inl (G.2 0, 401, .inl f_kd))] := hD
                          refine lv_aload_n hx hb dX4_readPlain_153 rfl (lv_at hl 2 rfl) ?_
                          refine lv_iload_n hx hb dX4_readPlain_154 rfl (lv_at hl 3 rfl) ?_
                          have hPc := hP.sub (ws' := [(a_r, .inr (4, [.ref a_tk, .ref a_rh, .ref a_rs, .ref a_rc, .int z222, .int z223, .int (z224 + 1), .int e_fp])), (a_tk, .inr (8, [.ref a_kd, .ref a_nm, .ref a_pl])), (a_kd, .inl (G.2 0, 401, .inl f_kd)), (a_nm, .inl (G.2 0, 401, .inl f_nm)), (a_rc, .inl (G.2 0, 400, .inl z225))]) [2, 3, 4, 0, 1] rfl
                          have hDc := hD.sub (ws' := [(a_r, .inr (4, [.ref a_tk, .ref a_rh, .ref a_rs, .ref a_rc, .int z222, .int z223, .int (z224 + 1), .int e_fp])), (a_tk, .inr (8, [.ref a_kd, .ref a_nm, .ref a_pl])), (a_kd, .inl (G.2 0, 401, .inl f_kd)), (a_nm, .inl (G.2 0, 401, .inl f_nm)), (a_rc, .inl (G.2 0, 400, .inl z225))]) [2, 3, 4, 0, 1] (by decide) rfl
                          have hFc := va_free (wc := [(a_r, .inr (4, [.ref a_tk, .ref a_rh, .ref a_rs, .ref a_rc, .int z222, .int z223, .int (z224 + 1), .int e_fp])), (a_tk, .inr (8, [.ref a_kd, .ref a_nm, .ref a_pl])), (a_kd, .inl (G.2 0, 401, .inl f_kd)), (a_nm, .inl (G.2 0, 401, .inl f_nm)), (a_rc, .inl (G.2 0, 400, .inl z225))]) hD hS hA [2, 3, 4, 0, 1] rfl
                          refine va_calli (va_runV (As := [.int p_d]) (rest := []) ⟨hx, hb, hml, hown, hts⟩ ((r_sum fr lo p_d h_p_d h_sum) l G a_r a_tk a_kd a_nm a_rc a_rh a_rs a_pl H.size z222 z223 (z224 + 1) e_fp f_kd f_nm z225 ⟨by omega, by omega⟩ ⟨by omega, by omega⟩ (e_tk) (i_219)) (cwV 1 hts gV_X4_73 rfl rfl rfl hv_X4_readSum ⟨by dsimp only; omega, by dsimp only; omega⟩) (g5_preV hPc hK hDc hN hT hS hFc (ci := 4) (q0 := 0) rfl rfl) rfl rfl hl.1 rfl (lv_room (Nat.le_of_ble_eq_true rfl)) dX4_readPlain_155 ⟨Nat.le_of_ble_eq_true rfl, Nat.le_of_ble_eq_true rfl⟩) hS (fun q _ h => hFc q h) hFc (fun r u t H1 locs ht hvm hw hB hz1 hk1 hS => ?_)
                          obtain ⟨hP1, hD1⟩ := hB
                          rw [ht] at hP1
                          obtain ⟨z312, z313, z314, z315, z316, i_307, i_308, i_309, i_310, i_311, y317, rfl⟩ := hw
                          have i_307 : 0 ≤ z312.toInt ∧ z312.toInt ≤ 1 := i_307
                          have i_308 : z222.toInt ≤ z313.toInt ∧ z313.toInt ≤ 400 := i_308
                          have i_309 : 0 ≤ z315.toInt ∧ z315.toInt ≤ 401 := i_309
                          have i_310 : CDI z316 z313.toInt := i_310
                          have i_311 : OPK z225 z316 z222.toInt := i_311
                          obtain ⟨hP, hD⟩ := va_join (wr := []) (w1 := [(a_r, .inr (4, [.ref a_tk, .ref a_rh, .ref a_rs, .ref a_rc, .int z313, .int z314, .int z315, .int e_fp])), (a_tk, .inr (8, [.ref a_kd, .ref a_nm, .ref a_pl])), (a_kd, .inl (G.2 0, 401, .inl f_kd)), (a_nm, .inl (G.2 0, 401, .inl f_nm)), (a_rc, .inl (G.2 0, 400, .inl z316))]) hP hD [2, 3, 4, 0, 1] [] rfl rfl (by decide) (by decide) hk1 hFc hP1 hD1
                          generalize H1 = H at hP hS ⊢
                          have hP : va_P G.1 vwCl [(a_r, .inr (4, [.ref a_tk, .ref a_rh, .ref a_rs, .ref a_rc, .int z313, .int z314, .int z315, .int e_fp])), (a_tk, .inr (8, [.ref a_kd, .ref a_nm, .ref a_pl])), (a_kd, .inl (G.2 0, 401, .inl f_kd)), (a_nm, .inl (G.2 0, 401, .inl f_nm)), (a_rc, .inl (G.2 0, 400, .inl z316))] H := hP
                          have hD : va_D A [(a_r, .inr (4, [.ref a_tk, .ref a_rh, .ref a_rs, .ref a_rc, .int z313, .int z314, .int z315, .int e_fp])), (a_tk, .inr (8, [.ref a_kd, .ref a_nm, .ref a_pl])), (a_kd, .inl (G.2 0, 401, .inl f_kd)), (a_nm, .inl (G.2 0, 401, .inl f_nm)), (a_rc, .inl (G.2 0, 400, .inl z316))] := hD
                          refine g5_ti (v := z312) y317 ?_
                          refine lv_if_ne (tgt := 163) hx hb dX4_readPlain_158 (by decide) (fun c_318 => ?_) (fun c_318 => ?_)
                          ·
                            have n_318 : gNe (z312.toInt) (0) := by have z := g5_ne (a := z312.toInt) (b := 0) (by rfl) (by decide) c_318; unfold gNe; omega
                            have i_318 : z312.toInt ≥ 1 := by have z := g5_ne (a := z312.toInt) (b := 0) (by rfl) (by decide) c_318; omega
                            refine lv_aload_n hx hb dX4_readPlain_163 rfl (lv_at hl 2 rfl) ?_
                            refine lv_iload_n hx hb dX4_readPlain_164 rfl (lv_at hl 0 rfl) ?_
                            refine lv_iconst (v := 0) hx hb dX4_readPlain_165 (by decide) ?_
                            have hPc := hP.sub (ws' := [(a_r, .inr (4, [.ref a_tk, .ref a_rh, .ref a_rs, .ref a_rc, .int z313, .int z314, .int z315, .int e_fp])), (a_rc, .inl (G.2 0, 400, .inl z316))]) [0, 4] rfl
                            have hDc := hD.sub (ws' := [(a_r, .inr (4, [.ref a_tk, .ref a_rh, .ref a_rs, .ref a_rc, .int z313, .int z314, .int z315, .int e_fp])), (a_rc, .inl (G.2 0, 400, .inl z316))]) [0, 4] (by decide) rfl
                            have hFc := va_free (wc := [(a_r, .inr (4, [.ref a_tk, .ref a_rh, .ref a_rs, .ref a_rc, .int z313, .int z314, .int z315, .int e_fp])), (a_rc, .inl (G.2 0, 400, .inl z316))]) hD hS hA [0, 4] rfl
                            refine va_calli (va_runV (As := [.int 8, .int 0]) (rest := []) ⟨hx, hb, hml, hown, hts⟩ (r_emit l G a_r a_rc a_tk a_rh a_rs H.size z313 z314 z315 e_fp 8 0 z316 ⟨by omega, by omega⟩ ⟨by omega, by omega⟩ (i_310) (by unfold wOK; decide)) (cwV 2 hts gV_X4_79 rfl rfl rfl hv_X4_emit ⟨by dsimp only; omega, by dsimp only; omega⟩) (g5_preV hPc hK hDc hN hT hS hFc (ci := 4) (q0 := 0) rfl rfl) rfl rfl hl.1 rfl (lv_room (Nat.le_of_ble_eq_true rfl)) dX4_readPlain_166 ⟨Nat.le_of_ble_eq_true rfl, Nat.le_of_ble_eq_true rfl⟩) hS (fun q _ h => hFc q h) hFc (fun r u t H1 locs ht hvm hw hB hz1 hk1 hS => ?_)
                            obtain ⟨hP1, hD1⟩ := hB
                            rw [ht] at hP1
                            obtain ⟨z324, z325, z326, i_319, i_320, i_321, i_322, i_323, y327, rfl⟩ := hw
                            have i_319 : -1 ≤ z324.toInt ∧ z324.toInt ≤ 399 := i_319
                            have i_320 : z313.toInt ≤ z325.toInt ∧ z325.toInt ≤ 400 := i_320
                            have i_321 : CDI z326 z325.toInt := i_321
                            have i_322 : OPK z316 z326 z313.toInt := i_322
                            have i_323 : 0 ≤ z324.toInt → z324.toInt < z325.toInt ∧ z326 z324.toNatClampNeg = (((8 : Int32) <<< (12 &&& 31)) ||| (0 : Int32)) := i_323
                            obtain ⟨hP, hD⟩ := va_join (wr := [(a_tk, .inr (8, [.ref a_kd, .ref a_nm, .ref a_pl])), (a_kd, .inl (G.2 0, 401, .inl f_kd)), (a_nm, .inl (G.2 0, 401, .inl f_nm))]) (w1 := [(a_r, .inr (4, [.ref a_tk, .ref a_rh, .ref a_rs, .ref a_rc, .int z325, .int z314, .int z315, .int e_fp])), (a_rc, .inl (G.2 0, 400, .inl z326))]) hP hD [0, 4] [1, 2, 3] rfl rfl (by decide) (by decide) hk1 hFc hP1 hD1
                            generalize H1 = H at hP hS ⊢
                            have hP : va_P G.1 vwCl [(a_tk, .inr (8, [.ref a_kd, .ref a_nm, .ref a_pl])), (a_kd, .inl (G.2 0, 401, .inl f_kd)), (a_nm, .inl (G.2 0, 401, .inl f_nm)), (a_r, .inr (4, [.ref a_tk, .ref a_rh, .ref a_rs, .ref a_rc, .int z325, .int z314, .int z315, .int e_fp])), (a_rc, .inl (G.2 0, 400, .inl z326))] H := hP
                            have hD : va_D A [(a_tk, .inr (8, [.ref a_kd, .ref a_nm, .ref a_pl])), (a_kd, .inl (G.2 0, 401, .inl f_kd)), (a_nm, .inl (G.2 0, 401, .inl f_nm)), (a_r, .inr (4, [.ref a_tk, .ref a_rh, .ref a_rs, .ref a_rc, .int z325, .int z314, .int z315, .int e_fp])), (a_rc, .inl (G.2 0, 400, .inl z326))] := hD
                            refine g5_ti (v := z324) y327 ?_
                            refine lv_pop hx hb dX4_readPlain_169 rfl ?_
                            refine lv_iload_n hx hb dX4_readPlain_170 rfl (lv_at hl 1 rfl) ?_
                            refine lv_if_eq (tgt := 182) hx hb dX4_readPlain_171 (by decide) (fun c_328 => ?_) (fun c_328 => ?_)
                            ·
                              have i_328 : k_u.toInt = 0 := by have z := g5_eq (a := k_u.toInt) (b := 0) (by rfl) (by decide) c_328; omega
                              refine lv_iconst (v := 1) hx hb dX4_readPlain_182 (by decide) ?_
                              exact W.zret (v := 1) hx hb hr rfl (fun t ht hW => ⟨⟨1, [(a_r, .inr (4, [.ref a_tk, .ref a_rh, .ref a_rs, .ref a_rc, .int z325, .int z314, .int z315, .int e_fp])), (a_tk, .inr (8, [.ref a_kd, .ref a_nm, .ref a_pl])), (a_kd, .inl (G.2 0, 401, .inl f_kd)), (a_nm, .inl (G.2 0, 401, .inl f_nm)), (a_rc, .inl (G.2 0, 400, .inl z326))], rfl, ⟨1, z325, z314, z315, z326, ⟨by have zc_o_r : (1 : Int32).toInt = 1 := (by decide); omega, by have zc_o_r : (1 : Int32).toInt = 1 := (by decide); omega⟩, ⟨by omega, by omega⟩, ⟨by omega, by omega⟩, i_321, opk_trans i_220 (opk_trans i_311 (i_322) (by omega)) (by omega), rfl, rfl⟩, by rw [ht]; exact hP.sub [3, 0, 1, 2, 4] rfl, hD.sub [3, 0, 1, 2, 4] (by decide) rfl⟩, hS.F ht⟩) hS.2.2 dX4_readPlain_183
                            ·
                              have n_328 : gNe (k_u.toInt) (0) := by have z := g5_eqN (a := k_u.toInt) (b := 0) (by rfl) (by decide) c_328; unfold gNe; omega
                              have i_328 : k_u.toInt ≥ 1 := by have z := g5_eqN (a := k_u.toInt) (b := 0) (by rfl) (by decide) c_328; omega
                              refine lv_aload_n hx hb dX4_readPlain_174 rfl (lv_at hl 2 rfl) ?_
                              refine lv_bipush (v := 9) hx hb dX4_readPlain_175 (by decide) ?_
                              refine lv_iconst (v := 0) hx hb dX4_readPlain_177 (by decide) ?_
                              have hPc := hP.sub (ws' := [(a_r, .inr (4, [.ref a_tk, .ref a_rh, .ref a_rs, .ref a_rc, .int z325, .int z314, .int z315, .int e_fp])), (a_rc, .inl (G.2 0, 400, .inl z326))]) [3, 4] rfl
                              have hDc := hD.sub (ws' := [(a_r, .inr (4, [.ref a_tk, .ref a_rh, .ref a_rs, .ref a_rc, .int z325, .int z314, .int z315, .int e_fp])), (a_rc, .inl (G.2 0, 400, .inl z326))]) [3, 4] (by decide) rfl
                              have hFc := va_free (wc := [(a_r, .inr (4, [.ref a_tk, .ref a_rh, .ref a_rs, .ref a_rc, .int z325, .int z314, .int z315, .int e_fp])), (a_rc, .inl (G.2 0, 400, .inl z326))]) hD hS hA [3, 4] rfl
                              refine va_calli (va_runV (As := [.int 9, .int 0]) (rest := []) ⟨hx, hb, hml, hown, hts⟩ (r_emit l G a_r a_rc a_tk a_rh a_rs H.size z325 z314 z315 e_fp 9 0 z326 ⟨by omega, by omega⟩ ⟨by omega, by omega⟩ (i_321) (by unfold wOK; decide)) (cwV 2 hts gV_X4_79 rfl rfl rfl hv_X4_emit ⟨by dsimp only; omega, by dsimp only; omega⟩) (g5_preV hPc hK hDc hN hT hS hFc (ci := 4) (q0 := 0) rfl rfl) rfl rfl hl.1 rfl (lv_room (Nat.le_of_ble_eq_true rfl)) dX4_readPlain_178 ⟨Nat.le_of_ble_eq_true rfl, Nat.le_of_ble_eq_true rfl⟩) hS (fun q _ h => hFc q h) hFc (fun r u t H1 locs ht hvm hw hB hz1 hk1 hS => ?_)
                              obtain ⟨hP1, hD1⟩ := hB
                              rw [ht] at hP1
                              obtain ⟨z334, z335, z336, i_329, i_330, i_331, i_332, i_333, y337, rfl⟩ := hw
                              have i_329 : -1 ≤ z334.toInt ∧ z334.toInt ≤ 399 := i_329
                              have i_330 : z325.toInt ≤ z335.toInt ∧ z335.toInt ≤ 400 := i_330
                              have i_331 : CDI z336 z335.toInt := i_331
                              have i_332 : OPK z326 z336 z325.toInt := i_332
                              have i_333 : 0 ≤ z334.toInt → z334.toInt < z335.toInt ∧ z336 z334.toNatClampNeg = (((9 : Int32) <<< (12 &&& 31)) ||| (0 : Int32)) := i_333
                              obtain ⟨hP, hD⟩ := va_join (wr := [(a_tk, .inr (8, [.ref a_kd, .ref a_nm, .ref a_pl])), (a_kd, .inl (G.2 0, 401, .inl f_kd)), (a_nm, .inl (G.2 0, 401, .inl f_nm))]) (w1 := [(a_r, .inr (4, [.ref a_tk, .ref a_rh, .ref a_rs, .ref a_rc, .int z335, .int z314, .int z315, .int e_fp])), (a_rc, .inl (G.2 0, 400, .inl z336))]) hP hD [3, 4] [0, 1, 2] rfl rfl (by decide) (by decide) hk1 hFc hP1 hD1
                              generalize H1 = H at hP hS ⊢
                              have hP : va_P G.1 vwCl [(a_tk, .inr (8, [.ref a_kd, .ref a_nm, .ref a_pl])), (a_kd, .inl (G.2 0, 401, .inl f_kd)), (a_nm, .inl (G.2 0, 401, .inl f_nm)), (a_r, .inr (4, [.ref a_tk, .ref a_rh, .ref a_rs, .ref a_rc, .int z335, .int z314, .int z315, .int e_fp])), (a_rc, .inl (G.2 0, 400, .inl z336))] H := hP
                              have hD : va_D A [(a_tk, .inr (8, [.ref a_kd, .ref a_nm, .ref a_pl])), (a_kd, .inl (G.2 0, 401, .inl f_kd)), (a_nm, .inl (G.2 0, 401, .inl f_nm)), (a_r, .inr (4, [.ref a_tk, .ref a_rh, .ref a_rs, .ref a_rc, .int z335, .int z314, .int z315, .int e_fp])), (a_rc, .inl (G.2 0, 400, .inl z336))] := hD
                              refine g5_ti (v := z334) y337 ?_
                              refine lv_pop hx hb dX4_readPlain_181 rfl ?_
                              refine lv_iconst (v := 1) hx hb dX4_readPlain_182 (by decide) ?_
                              exact W.zret (v := 1) hx hb hr rfl (fun t ht hW => ⟨⟨1, [(a_r, .inr (4, [.ref a_tk, .ref a_rh, .ref a_rs, .ref a_rc, .int z335, .int z314, .int z315, .int e_fp])), (a_tk, .inr (8, [.ref a_kd, .ref a_nm, .ref a_pl])), (a_kd, .inl (G.2 0, 401, .inl f_kd)), (a_nm, .inl (G.2 0, 401, .inl f_nm)), (a_rc, .inl (G.2 0, 400, .inl z336))], rfl, ⟨1, z335, z314, z315, z336, ⟨by have zc_o_r : (1 : Int32).toInt = 1 := (by decide); omega, by have zc_o_r : (1 : Int32).toInt = 1 := (by decide); omega⟩, ⟨by omega, by omega⟩, ⟨by omega, by omega⟩, i_331, opk_trans i_220 (opk_trans i_311 (opk_trans i_322 (i_332) (by omega)) (by omega)) (by omega), rfl, rfl⟩, by rw [ht]; exact hP.sub [3, 0, 1, 2, 4] rfl, hD.sub [3, 0, 1, 2, 4] (by decide) rfl⟩, hS.F ht⟩) hS.2.2 dX4_readPlain_183
                          ·
                            have i_318 : z312.toInt = 0 := by have z := g5_neN (a := z312.toInt) (b := 0) (by rfl) (by decide) c_318; omega
                            refine lv_iconst (v := 0) hx hb dX4_readPlain_161 (by decide) ?_
                            exact W.zret (v := 0) hx hb hr rfl (fun t ht hW => ⟨⟨0, [(a_r, .inr (4, [.ref a_tk, .ref a_rh, .ref a_rs, .ref a_rc, .int z313, .int z314, .int z315, .int e_fp])), (a_tk, .inr (8, [.ref a_kd, .ref a_nm, .ref a_pl])), (a_kd, .inl (G.2 0, 401, .inl f_kd)), (a_nm, .inl (G.2 0, 401, .inl f_nm)), (a_rc, .inl (G.2 0, 400, .inl z316))], rfl, ⟨0, z313, z314, z315, z316, ⟨by have zc_o_r : (0 : Int32).toInt = 0 := (by decide); omega, by have zc_o_r : (0 : Int32).toInt = 0 := (by decide); omega⟩, ⟨by omega, by omega⟩, ⟨by omega, by omega⟩, i_310, opk_trans i_220 (i_311) (by omega), rfl, rfl⟩, by rw [ht]; exact hP.sub [0, 1, 2, 3, 4] rfl, hD.sub [0, 1, 2, 3, 4] (by decide) rfl⟩, hS.F ht⟩) hS.2.2 dX4_readPlain_162
                        ·
                          exact absurd c_305 (by decide)
                    ·
                      obtain ⟨hP, hD⟩ := va_join (wr := [(a_nm, .inl (G.2 0, 401, .inl f_nm)), (a_rc, .inl (G.2 0, 400, .inl z225))]) (w1 := [(a_r, .inr (4, [.ref a_tk, .ref a_rh, .ref a_rs, .ref a_rc, .int z222, .int z223, .int z224, .int e_fp])), (a_tk, .inr (8, [.ref a_kd, .ref a_nm, .ref a_pl])), (a_kd, .inl (G.2 0, 401, .inl f_kd))]) hP hD [2, 3, 4] [0, 1] rfl rfl (by decide) (by decide) hk1 hFc hP1 hD1
                      generalize H1 = H at hP hS ⊢
                      have hP : va_P G.1 vwCl [(a_nm, .inl (G.2 0, 401, .inl f_nm)), (a_rc, .inl (G.2 0, 400, .inl z225)), (a_r, .inr (4, [.ref a_tk, .ref a_rh, .ref a_rs, .ref a_rc, .int z222, .int z223, .int z224, .int e_fp])), (a_tk, .inr (8, [.ref a_kd, .ref a_nm, .ref a_pl])), (a_kd, .inl (G.2 0, 401, .inl f_kd))] H := hP
                      have hD : va_D A [(a_nm, .inl (G.2 0, 401, .inl f_nm)), (a_rc, .inl (G.2 0, 400, .inl z225)), (a_r, .inr (4, [.ref a_tk, .ref a_rh, .ref a_rs, .ref a_rc, .int z222, .int z223, .int z224, .int e_fp])), (a_tk, .inr (8, [.ref a_kd, .ref a_nm, .ref a_pl])), (a_kd, .inl (G.2 0, 401, .inl f_kd))] := hD
                      refine lv_if_eq (tgt := 134) hx hb dX4_readPlain_126 (by decide) (fun c_338 => ?_) (fun c_338 => ?_)
                      ·
                        refine lv_iconst (v := (-1)) hx hb dX4_readPlain_134 (by decide) ?_
                        refine lv_istore_n (lv' := [(3, .int (-1)), (2, .int k_u), (0, .ref a_r), (1, .int p_d)]) hx hb dX4_readPlain_135 rfl hl (by decide) rfl (fun ls hl => ?_)
                        refine lv_iload_n hx hb dX4_readPlain_136 rfl (lv_at hl 0 rfl) ?_
                        refine lv_iconst (v := (-1)) hx hb dX4_readPlain_137 (by decide) ?_
                        refine lv_icmp_ne (tgt := 143) hx hb dX4_readPlain_138 (by decide) (fun c_339 => ?_) (fun c_339 => ?_)
                        ·
                          exact absurd c_339 (by decide)
                        ·
                          refine lv_iconst (v := 0) hx hb dX4_readPlain_141 (by decide) ?_
                          exact W.zret (v := 0) hx hb hr rfl (fun t ht hW => ⟨⟨0, [(a_r, .inr (4, [.ref a_tk, .ref a_rh, .ref a_rs, .ref a_rc, .int z222, .int z223, .int z224, .int e_fp])), (a_tk, .inr (8, [.ref a_kd, .ref a_nm, .ref a_pl])), (a_kd, .inl (G.2 0, 401, .inl f_kd)), (a_nm, .inl (G.2 0, 401, .inl f_nm)), (a_rc, .inl (G.2 0, 400, .inl z225))], rfl, ⟨0, z222, z223, z224, z225, ⟨by have zc_o_r : (0 : Int32).toInt = 0 := (by decide); omega, by have zc_o_r : (0 : Int32).toInt = 0 := (by decide); omega⟩, ⟨by omega, by omega⟩, ⟨by omega, by omega⟩, i_219, i_220, rfl, rfl⟩, by rw [ht]; exact hP.sub [2, 3, 4, 0, 1] rfl, hD.sub [2, 3, 4, 0, 1] (by decide) rfl⟩, hS.F ht⟩) hS.2.2 dX4_readPlain_142
                      ·
                        exact absurd c_338 (by decide)
                  ·
                    exact absurd c_301 (by decide)
              ·
                exact absurd c_264 (by decide)
          ·
            have i_227 : z221.toInt = 0 := by have z := g5_neN (a := z221.toInt) (b := 0) (by rfl) (by decide) c_227; omega
            refine lv_iconst (v := 0) hx hb dX4_readPlain_90 (by decide) ?_
            exact W.zret (v := 0) hx hb hr rfl (fun t ht hW => ⟨⟨0, [(a_r, .inr (4, [.ref a_tk, .ref a_rh, .ref a_rs, .ref a_rc, .int z222, .int z223, .int z224, .int e_fp])), (a_tk, .inr (8, [.ref a_kd, .ref a_nm, .ref a_pl])), (a_kd, .inl (G.2 0, 401, .inl f_kd)), (a_nm, .inl (G.2 0, 401, .inl f_nm)), (a_rc, .inl (G.2 0, 400, .inl z225))], rfl, ⟨0, z222, z223, z224, z225, ⟨by have zc_o_r : (0 : Int32).toInt = 0 := (by decide); omega, by have zc_o_r : (0 : Int32).toInt = 0 := (by decide); omega⟩, ⟨by omega, by omega⟩, ⟨by omega, by omega⟩, i_219, i_220, rfl, rfl⟩, by rw [ht]; exact hP.sub [0, 1, 2, 3, 4] rfl, hD.sub [0, 1, 2, 3, 4] (by decide) rfl⟩, hS.F ht⟩) hS.2.2 dX4_readPlain_91
        ·
          exact absurd c_215 (by decide)
    ·
      have n_175 : gNe (z172.toInt) (0) := by have z := g5_eqN (a := z172.toInt) (b := 0) (by rfl) (by decide) c_175; unfold gNe; omega
      have i_175 : z172.toInt ≥ 1 := by have z := g5_eqN (a := z172.toInt) (b := 0) (by rfl) (by decide) c_175; omega
      refine lv_iload_n hx hb dX4_readPlain_21 rfl (lv_at hl 0 rfl) ?_
      refine lv_if_ne (tgt := 29) hx hb dX4_readPlain_22 (by decide) (fun c_340 => ?_) (fun c_340 => ?_)
      ·
        have n_340 : gNe (k_u.toInt) (0) := by have z := g5_ne (a := k_u.toInt) (b := 0) (by rfl) (by decide) c_340; unfold gNe; omega
        have i_340 : k_u.toInt ≥ 1 := by have z := g5_ne (a := k_u.toInt) (b := 0) (by rfl) (by decide) c_340; omega
        refine lv_iconst (v := 0) hx hb dX4_readPlain_29 (by decide) ?_
        refine lv_istore_n (lv' := [(2, .int 0), (3, .int k_i), (0, .ref a_r), (1, .int p_d)]) hx hb dX4_readPlain_30 rfl hl (by decide) rfl (fun ls hl => ?_)
        refine lv_iinc (v := (k_i + 1)) (lv' := [(3, .int (k_i + 1)), (2, .int 0), (0, .ref a_r), (1, .int p_d)]) hx hb dX4_readPlain_31 hl (k := 1) rfl rfl (by decide) rfl (fun ls hl => ?_)
        have t_341 : (k_i + 1).toInt = k_i.toInt + 1 := g5_iadd (a := k_i.toInt) (b := 1) rfl (by decide) (by omega) (by omega)
        refine lv_goto (tgt := 4) hx hb dX4_readPlain_34 (by decide) ?_
        exact ih_4_4 (0, (k_i + 1), z173) ls H locs (show Int.toNat (400 - (k_i + 1).toInt) < Int.toNat (400 - k_i.toInt) from g_up (show k_i.toInt < (k_i + 1).toInt by omega) (show k_i.toInt < 400 by omega)) ⟨lv_sub hl [1, 0, 2, 3] rfl, hP.sub [2, 3, 4, 0, 1] rfl, hD.sub [2, 3, 4, 0, 1] (by decide) rfl, hS, ⟨by decide, by decide⟩, ⟨by omega, by omega⟩, ⟨by omega, by omega⟩⟩
      ·
        have i_340 : k_u.toInt = 0 := by have z := g5_neN (a := k_u.toInt) (b := 0) (by rfl) (by decide) c_340; omega
        refine lv_iconst (v := 1) hx hb dX4_readPlain_25 (by decide) ?_
        refine lv_goto (tgt := 30) hx hb dX4_readPlain_26 (by decide) ?_
        refine lv_istore_n (lv' := [(2, .int 1), (3, .int k_i), (0, .ref a_r), (1, .int p_d)]) hx hb dX4_readPlain_30 rfl hl (by decide) rfl (fun ls hl => ?_)
        refine lv_iinc (v := (k_i + 1)) (lv' := [(3, .int (k_i + 1)), (2, .int 1), (0, .ref a_r), (1, .int p_d)]) hx hb dX4_readPlain_31 hl (k := 1) rfl rfl (by decide) rfl (fun ls hl => ?_)
        have t_342 : (k_i + 1).toInt = k_i.toInt + 1 := g5_iadd (a := k_i.toInt) (b := 1) rfl (by decide) (by omega) (by omega)
        refine lv_goto (tgt := 4) hx hb dX4_readPlain_34 (by decide) ?_
        exact ih_4_4 (1, (k_i + 1), z173) ls H locs (show Int.toNat (400 - (k_i + 1).toInt) < Int.toNat (400 - k_i.toInt) from g_up (show k_i.toInt < (k_i + 1).toInt by omega) (show k_i.toInt < 400 by omega)) ⟨lv_sub hl [1, 0, 2, 3] rfl, hP.sub [2, 3, 4, 0, 1] rfl, hD.sub [2, 3, 4, 0, 1] (by decide) rfl, hS, ⟨by decide, by decide⟩, ⟨by omega, by omega⟩, ⟨by omega, by omega⟩⟩
