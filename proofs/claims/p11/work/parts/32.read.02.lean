set_option maxHeartbeats 4000000 in
set_option maxRecDepth 100000 in
theorem r_sum (fr lo : Nat) (p_d : Int32) (h_p_d : 0 ≤ p_d.toInt ∧ p_d.toInt ≤ 8) (h_sum : ∀ x : Int32, x.toInt = p_d.toInt + 1 → p_d.toInt < 8 → ∀ (l : Launch) (G : g5_G) (a_r a_tk a_kd a_nm a_rc a_rh a_rs a_pl : Nat) (sz : Nat) (e_ln : Int32) (e_pa : Int32) (e_at : Int32) (e_fp : Int32) (f_kd : Nat → Int32) (f_nm : Nat → Int32) (f_rc : Nat → Int32) (h_e_ln : 0 ≤ e_ln.toInt ∧ e_ln.toInt ≤ 400) (h_e_at : 0 ≤ e_at.toInt ∧ e_at.toInt ≤ 401) (e_tk : TOKI f_kd f_nm) (e_cd : CDI f_rc e_ln.toInt), Met l yX4_readSum (wsG yX4_readSum cX4_readSum 6 (some .boolean)) ({ frames := fr + 0, cells := 0, slots := 0, locals := lo + 0 }) (va_Pc [.ref a_r, .int x] (g5_P G [(a_r, .inr (4, [.ref a_tk, .ref a_rh, .ref a_rs, .ref a_rc, .int e_ln, .int e_pa, .int e_at, .int e_fp])), (a_tk, .inr (8, [.ref a_kd, .ref a_nm, .ref a_pl])), (a_kd, .inl (G.2 0, 401, .inl f_kd)), (a_nm, .inl (G.2 0, 401, .inl f_nm)), (a_rc, .inl (G.2 0, 400, .inl f_rc))] sz)) (va_Qi (fun (r : Int32) (u : va_W) => (∃ (o_r : Int32) (o_ln : Int32) (o_pa : Int32) (o_at : Int32) (o_rc : Nat → Int32), (0 ≤ o_r.toInt ∧ o_r.toInt ≤ 1) ∧ (e_ln.toInt ≤ o_ln.toInt ∧ o_ln.toInt ≤ 400) ∧ (0 ≤ o_at.toInt ∧ o_at.toInt ≤ 401) ∧ (CDI o_rc o_ln.toInt) ∧ (OPK f_rc o_rc e_ln.toInt) ∧ (r = o_r) ∧ (u = [(a_r, .inr (4, [.ref a_tk, .ref a_rh, .ref a_rs, .ref a_rc, .int o_ln, .int o_pa, .int o_at, .int e_fp])), (a_tk, .inr (8, [.ref a_kd, .ref a_nm, .ref a_pl])), (a_kd, .inl (G.2 0, 401, .inl f_kd)), (a_nm, .inl (G.2 0, 401, .inl f_nm)), (a_rc, .inl (G.2 0, 400, .inl o_rc))]))) (g5_B G (va_A [(a_r, .inr (4, [.ref a_tk, .ref a_rh, .ref a_rs, .ref a_rc, .int e_ln, .int e_pa, .int e_at, .int e_fp])), (a_tk, .inr (8, [.ref a_kd, .ref a_nm, .ref a_pl])), (a_kd, .inl (G.2 0, 401, .inl f_kd)), (a_nm, .inl (G.2 0, 401, .inl f_nm)), (a_rc, .inl (G.2 0, 400, .inl f_rc))] sz)) (va_A [(a_r, .inr (4, [.ref a_tk, .ref a_rh, .ref a_rs, .ref a_rc, .int e_ln, .int e_pa, .int e_at, .int e_fp])), (a_tk, .inr (8, [.ref a_kd, .ref a_nm, .ref a_pl])), (a_kd, .inl (G.2 0, 401, .inl f_kd)), (a_nm, .inl (G.2 0, 401, .inl f_nm)), (a_rc, .inl (G.2 0, 400, .inl f_rc))] sz)) 0 0 (va_A [(a_r, .inr (4, [.ref a_tk, .ref a_rh, .ref a_rs, .ref a_rc, .int e_ln, .int e_pa, .int e_at, .int e_fp])), (a_tk, .inr (8, [.ref a_kd, .ref a_nm, .ref a_pl])), (a_kd, .inl (G.2 0, 401, .inl f_kd)), (a_nm, .inl (G.2 0, 401, .inl f_nm)), (a_rc, .inl (G.2 0, 400, .inl f_rc))] sz)) (l : Launch) (G : g5_G) (a_r a_tk a_kd a_nm a_rc a_rh a_rs a_pl : Nat) (sz : Nat) (e_ln : Int32) (e_pa : Int32) (e_at : Int32) (e_fp : Int32) (f_kd : Nat → Int32) (f_nm : Nat → Int32) (f_rc : Nat → Int32) (h_e_ln : 0 ≤ e_ln.toInt ∧ e_ln.toInt ≤ 400) (h_e_at : 0 ≤ e_at.toInt ∧ e_at.toInt ≤ 401) (e_tk : TOKI f_kd f_nm) (e_cd : CDI f_rc e_ln.toInt) : Met l yX4_readSum (wsG yX4_readSum cX4_readSum 6 (some .boolean)) ({ frames := fr + 2, cells := 0, slots := 0, locals := lo + 48 }) (va_Pc [.ref a_r, .int p_d] (g5_P G [(a_r, .inr (4, [.ref a_tk, .ref a_rh, .ref a_rs, .ref a_rc, .int e_ln, .int e_pa, .int e_at, .int e_fp])), (a_tk, .inr (8, [.ref a_kd, .ref a_nm, .ref a_pl])), (a_kd, .inl (G.2 0, 401, .inl f_kd)), (a_nm, .inl (G.2 0, 401, .inl f_nm)), (a_rc, .inl (G.2 0, 400, .inl f_rc))] sz)) (va_Qi (fun (r : Int32) (u : va_W) => (∃ (o_r : Int32) (o_ln : Int32) (o_pa : Int32) (o_at : Int32) (o_rc : Nat → Int32), (0 ≤ o_r.toInt ∧ o_r.toInt ≤ 1) ∧ (e_ln.toInt ≤ o_ln.toInt ∧ o_ln.toInt ≤ 400) ∧ (0 ≤ o_at.toInt ∧ o_at.toInt ≤ 401) ∧ (CDI o_rc o_ln.toInt) ∧ (OPK f_rc o_rc e_ln.toInt) ∧ (r = o_r) ∧ (u = [(a_r, .inr (4, [.ref a_tk, .ref a_rh, .ref a_rs, .ref a_rc, .int o_ln, .int o_pa, .int o_at, .int e_fp])), (a_tk, .inr (8, [.ref a_kd, .ref a_nm, .ref a_pl])), (a_kd, .inl (G.2 0, 401, .inl f_kd)), (a_nm, .inl (G.2 0, 401, .inl f_nm)), (a_rc, .inl (G.2 0, 400, .inl o_rc))]))) (g5_B G (va_A [(a_r, .inr (4, [.ref a_tk, .ref a_rh, .ref a_rs, .ref a_rc, .int e_ln, .int e_pa, .int e_at, .int e_fp])), (a_tk, .inr (8, [.ref a_kd, .ref a_nm, .ref a_pl])), (a_kd, .inl (G.2 0, 401, .inl f_kd)), (a_nm, .inl (G.2 0, 401, .inl f_nm)), (a_rc, .inl (G.2 0, 400, .inl f_rc))] sz)) (va_A [(a_r, .inr (4, [.ref a_tk, .ref a_rh, .ref a_rs, .ref a_rc, .int e_ln, .int e_pa, .int e_at, .int e_fp])), (a_tk, .inr (8, [.ref a_kd, .ref a_nm, .ref a_pl])), (a_kd, .inl (G.2 0, 401, .inl f_kd)), (a_nm, .inl (G.2 0, 401, .inl f_nm)), (a_rc, .inl (G.2 0, 400, .inl f_rc))] sz)) 0 0 (va_A [(a_r, .inr (4, [.ref a_tk, .ref a_rh, .ref a_rs, .ref a_rc, .int e_ln, .int e_pa, .int e_at, .int e_fp])), (a_tk, .inr (8, [.ref a_kd, .ref a_nm, .ref a_pl])), (a_kd, .inl (G.2 0, 401, .inl f_kd)), (a_nm, .inl (G.2 0, 401, .inl f_nm)), (a_rc, .inl (G.2 0, 400, .inl f_rc))] sz) := by
  refine Met.ofW (cc := cX4_readSum) (maxL := 6) (ret := (some .boolean)) (by decide) rfl ?_
  intro p e s m args below meth c s₁ B hml hv
  obtain ⟨rfl, hsz, hP, hK, hD0, hN, hT⟩ := hv
  have hx := B.exec
  have hb := B.bytes
  have hr := B.returns
  have hts : ∀ w ∈ tblG, w.before _ s = true := fun w h => atoms_spec (ws := (wsG yX4_readSum cX4_readSum 6 (some .boolean))) B.pre w (List.mem_cons_of_mem _ h)
  have hown : s.vm.findClass RX4 = some m.cls := findClass_of_methodNamed B.named
  have hlocks := B.notSynchronized
  subst hsz
  have hD := hD0.self (sz := s.heap.size)
  generalize hAe : va_A [(a_r, .inr (4, [.ref a_tk, .ref a_rh, .ref a_rs, .ref a_rc, .int e_ln, .int e_pa, .int e_at, .int e_fp])), (a_tk, .inr (8, [.ref a_kd, .ref a_nm, .ref a_pl])), (a_kd, .inl (G.2 0, 401, .inl f_kd)), (a_nm, .inl (G.2 0, 401, .inl f_nm)), (a_rc, .inl (G.2 0, 400, .inl f_rc))] s.heap.size = A at hD hT ⊢
  have hA : ∀ q : Nat, s.heap.size ≤ q → A q := fun q h => by rw [← hAe]; exact Or.inr h
  have hS : va_S A s.heap s.heap [] := va_S.rf
  have hP : va_P G.1 vwCl [(a_r, .inr (4, [.ref a_tk, .ref a_rh, .ref a_rs, .ref a_rc, .int e_ln, .int e_pa, .int e_at, .int e_fp])), (a_tk, .inr (8, [.ref a_kd, .ref a_nm, .ref a_pl])), (a_kd, .inl (G.2 0, 401, .inl f_kd)), (a_nm, .inl (G.2 0, 401, .inl f_nm)), (a_rc, .inl (G.2 0, 400, .inl f_rc))] s.heap := hP
  have hl := lv_entry ([.ref a_r, .int p_d]) (n := 6) (Nat.le_of_ble_eq_true rfl)
  rw [lg_entry_eq]
  generalize (lg_sl ([.ref a_r, .int p_d]) ++ List.replicate (6 - (lg_sl ([.ref a_r, .int p_d])).length) Slot.unset).toArray = ls at hl ⊢
  have hl : lv_has ls 6 [(0, .ref a_r), (1, .int p_d)] := hl
  refine lv_aload_n hx hb dX4_readSum_0 rfl (lv_at hl 0 rfl) ?_
  refine lv_iload_n hx hb dX4_readSum_1 rfl (lv_at hl 1 rfl) ?_
  have hPc := hP.sub (ws' := [(a_r, .inr (4, [.ref a_tk, .ref a_rh, .ref a_rs, .ref a_rc, .int e_ln, .int e_pa, .int e_at, .int e_fp])), (a_tk, .inr (8, [.ref a_kd, .ref a_nm, .ref a_pl])), (a_kd, .inl (G.2 0, 401, .inl f_kd)), (a_nm, .inl (G.2 0, 401, .inl f_nm)), (a_rc, .inl (G.2 0, 400, .inl f_rc))]) [0, 1, 2, 3, 4] rfl
  have hDc := hD.sub (ws' := [(a_r, .inr (4, [.ref a_tk, .ref a_rh, .ref a_rs, .ref a_rc, .int e_ln, .int e_pa, .int e_at, .int e_fp])), (a_tk, .inr (8, [.ref a_kd, .ref a_nm, .ref a_pl])), (a_kd, .inl (G.2 0, 401, .inl f_kd)), (a_nm, .inl (G.2 0, 401, .inl f_nm)), (a_rc, .inl (G.2 0, 400, .inl f_rc))]) [0, 1, 2, 3, 4] (by decide) rfl
  have hFc := va_free (wc := [(a_r, .inr (4, [.ref a_tk, .ref a_rh, .ref a_rs, .ref a_rc, .int e_ln, .int e_pa, .int e_at, .int e_fp])), (a_tk, .inr (8, [.ref a_kd, .ref a_nm, .ref a_pl])), (a_kd, .inl (G.2 0, 401, .inl f_kd)), (a_nm, .inl (G.2 0, 401, .inl f_nm)), (a_rc, .inl (G.2 0, 400, .inl f_rc))]) hD hS hA [0, 1, 2, 3, 4] rfl
  refine va_calli (va_runV (As := [.int p_d]) (rest := []) ⟨hx, hb, hml, hown, hts⟩ ((r_part fr lo p_d h_p_d h_sum) l G a_r a_tk a_kd a_nm a_rc a_rh a_rs a_pl s.heap.size e_ln e_pa e_at e_fp f_kd f_nm f_rc ⟨by omega, by omega⟩ ⟨by omega, by omega⟩ (e_tk) (e_cd)) (cwV 1 hts gV_X4_90 rfl rfl rfl hv_X4_readPart ⟨by dsimp only; omega, by dsimp only; omega⟩) (g5_preV hPc hK hDc hN hT hS hFc (ci := 4) (q0 := 0) rfl rfl) rfl rfl hl.1 rfl (lv_room (Nat.le_of_ble_eq_true rfl)) dX4_readSum_2 ⟨Nat.le_of_ble_eq_true rfl, Nat.le_of_ble_eq_true rfl⟩) hS (fun q _ h => hFc q h) hFc (fun r u t H1 locs ht hvm hw hB hz1 hk1 hS => ?_)
  obtain ⟨hP1, hD1⟩ := hB
  rw [ht] at hP1
  obtain ⟨z6, z7, z8, z9, z10, i_1, i_2, i_3, i_4, i_5, y11, rfl⟩ := hw
  have i_1 : 0 ≤ z6.toInt ∧ z6.toInt ≤ 1 := i_1
  have i_2 : e_ln.toInt ≤ z7.toInt ∧ z7.toInt ≤ 400 := i_2
  have i_3 : 0 ≤ z9.toInt ∧ z9.toInt ≤ 401 := i_3
  have i_4 : CDI z10 z7.toInt := i_4
  have i_5 : OPK f_rc z10 e_ln.toInt := i_5
  obtain ⟨hP, hD⟩ := va_join (wr := []) (w1 := [(a_r, .inr (4, [.ref a_tk, .ref a_rh, .ref a_rs, .ref a_rc, .int z7, .int z8, .int z9, .int e_fp])), (a_tk, .inr (8, [.ref a_kd, .ref a_nm, .ref a_pl])), (a_kd, .inl (G.2 0, 401, .inl f_kd)), (a_nm, .inl (G.2 0, 401, .inl f_nm)), (a_rc, .inl (G.2 0, 400, .inl z10))]) hP hD [0, 1, 2, 3, 4] [] rfl rfl (by decide) (by decide) hk1 hFc hP1 hD1
  generalize H1 = H at hP hS ⊢
  have hP : va_P G.1 vwCl [(a_r, .inr (4, [.ref a_tk, .ref a_rh, .ref a_rs, .ref a_rc, .int z7, .int z8, .int z9, .int e_fp])), (a_tk, .inr (8, [.ref a_kd, .ref a_nm, .ref a_pl])), (a_kd, .inl (G.2 0, 401, .inl f_kd)), (a_nm, .inl (G.2 0, 401, .inl f_nm)), (a_rc, .inl (G.2 0, 400, .inl z10))] H := hP
  have hD : va_D A [(a_r, .inr (4, [.ref a_tk, .ref a_rh, .ref a_rs, .ref a_rc, .int z7, .int z8, .int z9, .int e_fp])), (a_tk, .inr (8, [.ref a_kd, .ref a_nm, .ref a_pl])), (a_kd, .inl (G.2 0, 401, .inl f_kd)), (a_nm, .inl (G.2 0, 401, .inl f_nm)), (a_rc, .inl (G.2 0, 400, .inl z10))] := hD
  refine g5_ti (v := z6) y11 ?_
  refine lv_if_ne (tgt := 10) hx hb dX4_readSum_5 (by decide) (fun c_12 => ?_) (fun c_12 => ?_)
  ·
    have n_12 : gNe (z6.toInt) (0) := by have z := g5_ne (a := z6.toInt) (b := 0) (by rfl) (by decide) c_12; unfold gNe; omega
    have i_12 : z6.toInt ≥ 1 := by have z := g5_ne (a := z6.toInt) (b := 0) (by rfl) (by decide) c_12; omega
    refine lv_iconst (v := (-1)) hx hb dX4_readSum_10 (by decide) ?_
    refine lv_istore_n (lv' := [(2, .int (-1)), (0, .ref a_r), (1, .int p_d)]) hx hb dX4_readSum_11 rfl hl (by decide) rfl (fun ls hl => ?_)
    refine lv_iconst (v := 0) hx hb dX4_readSum_12 (by decide) ?_
    refine lv_istore_n (lv' := [(3, .int 0), (2, .int (-1)), (0, .ref a_r), (1, .int p_d)]) hx hb dX4_readSum_13 rfl hl (by decide) rfl (fun ls hl => ?_)
    refine g5_loop (α := (Int32) × (Int32) × (Int32) × (Int32) × (Int32) × (Nat → Int32)) (fun (q : (Int32) × (Int32) × (Int32) × (Int32) × (Int32) × (Nat → Int32)) (ls : Array Slot) (H : Heap) (locs : List Loc) => match q with | (k_w, k_i, k_ln, k_pa, k_at, k_rc) => lv_has ls 6 [(2, .int k_w), (3, .int k_i), (0, .ref a_r), (1, .int p_d)] ∧ va_P G.1 vwCl [(a_r, .inr (4, [.ref a_tk, .ref a_rh, .ref a_rs, .ref a_rc, .int k_ln, .int k_pa, .int k_at, .int e_fp])), (a_tk, .inr (8, [.ref a_kd, .ref a_nm, .ref a_pl])), (a_kd, .inl (G.2 0, 401, .inl f_kd)), (a_nm, .inl (G.2 0, 401, .inl f_nm)), (a_rc, .inl (G.2 0, 400, .inl k_rc))] H ∧ va_D A [(a_r, .inr (4, [.ref a_tk, .ref a_rh, .ref a_rs, .ref a_rc, .int k_ln, .int k_pa, .int k_at, .int e_fp])), (a_tk, .inr (8, [.ref a_kd, .ref a_nm, .ref a_pl])), (a_kd, .inl (G.2 0, 401, .inl f_kd)), (a_nm, .inl (G.2 0, 401, .inl f_nm)), (a_rc, .inl (G.2 0, 400, .inl k_rc))] ∧ va_S A s.heap H locs ∧ ((-1) ≤ k_w.toInt ∧ k_w.toInt ≤ 3) ∧ (0 ≤ k_i.toInt ∧ k_i.toInt ≤ 400) ∧ (0 ≤ k_ln.toInt ∧ k_ln.toInt ≤ 400) ∧ (0 ≤ k_at.toInt ∧ k_at.toInt ≤ 401) ∧ (e_ln.toInt ≤ k_ln.toInt) ∧ (CDI k_rc k_ln.toInt) ∧ (OPK f_rc k_rc e_ln.toInt) ∧ (k_w.toInt = -1 ∨ k_w.toInt = 2 ∨ k_w.toInt = 3)) (fun (q : (Int32) × (Int32) × (Int32) × (Int32) × (Int32) × (Nat → Int32)) => match q with | (k_w, k_i, k_ln, k_pa, k_at, k_rc) => Int.toNat (400 - k_i.toInt)) ((-1), 0, z7, z8, z9, z10) ⟨lv_sub hl [1, 0, 2, 3] rfl, hP, hD, hS, ⟨by decide, by decide⟩, ⟨by decide, by decide⟩, ⟨by omega, by omega⟩, ⟨by omega, by omega⟩, by omega, i_4, i_5, Or.inl (by decide)⟩ ?_
    rintro ⟨k_w, k_i, k_ln, k_pa, k_at, k_rc⟩ ls H locs ⟨hl, hP, hD, hS, i_13, i_14, i_15, i_16, i_17, i_18, i_19, i_20⟩ ih_14_21
    have hl : lv_has ls 6 [(2, .int k_w), (3, .int k_i), (0, .ref a_r), (1, .int p_d)] := hl
    have i_13 : (-1) ≤ k_w.toInt ∧ k_w.toInt ≤ 3 := i_13
    have i_14 : 0 ≤ k_i.toInt ∧ k_i.toInt ≤ 400 := i_14
    have i_15 : 0 ≤ k_ln.toInt ∧ k_ln.toInt ≤ 400 := i_15
    have i_16 : 0 ≤ k_at.toInt ∧ k_at.toInt ≤ 401 := i_16
    have i_17 : e_ln.toInt ≤ k_ln.toInt := i_17
    have i_18 : CDI k_rc k_ln.toInt := i_18
    have i_19 : OPK f_rc k_rc e_ln.toInt := i_19
    have i_20 : k_w.toInt = -1 ∨ k_w.toInt = 2 ∨ k_w.toInt = 3 := i_20
    have hP : va_P G.1 vwCl [(a_r, .inr (4, [.ref a_tk, .ref a_rh, .ref a_rs, .ref a_rc, .int k_ln, .int k_pa, .int k_at, .int e_fp])), (a_tk, .inr (8, [.ref a_kd, .ref a_nm, .ref a_pl])), (a_kd, .inl (G.2 0, 401, .inl f_kd)), (a_nm, .inl (G.2 0, 401, .inl f_nm)), (a_rc, .inl (G.2 0, 400, .inl k_rc))] H := hP
    have hD : va_D A [(a_r, .inr (4, [.ref a_tk, .ref a_rh, .ref a_rs, .ref a_rc, .int k_ln, .int k_pa, .int k_at, .int e_fp])), (a_tk, .inr (8, [.ref a_kd, .ref a_nm, .ref a_pl])), (a_kd, .inl (G.2 0, 401, .inl f_kd)), (a_nm, .inl (G.2 0, 401, .inl f_nm)), (a_rc, .inl (G.2 0, 400, .inl k_rc))] := hD
    refine lv_iload_n hx hb dX4_readSum_14 rfl (lv_at hl 1 rfl) ?_
    refine lv_sipush (v := 400) hx hb dX4_readSum_15 (by decide) ?_
    refine lv_icmp_ge (tgt := 171) hx hb dX4_readSum_18 (by decide) (fun c_22 => ?_) (fun c_22 => ?_)
    ·
      have i_22 : k_i.toInt ≥ 400 := by have z := g5_ge (a := k_i.toInt) (b := 400) (by rfl) (by decide) c_22; omega
      refine lv_iconst (v := 0) hx hb dX4_readSum_171 (by decide) ?_
      exact W.zret (v := 0) hx hb hr rfl (fun t ht hW => ⟨⟨0, [(a_r, .inr (4, [.ref a_tk, .ref a_rh, .ref a_rs, .ref a_rc, .int k_ln, .int k_pa, .int k_at, .int e_fp])), (a_tk, .inr (8, [.ref a_kd, .ref a_nm, .ref a_pl])), (a_kd, .inl (G.2 0, 401, .inl f_kd)), (a_nm, .inl (G.2 0, 401, .inl f_nm)), (a_rc, .inl (G.2 0, 400, .inl k_rc))], rfl, ⟨0, k_ln, k_pa, k_at, k_rc, ⟨by have zc_o_r : (0 : Int32).toInt = 0 := (by decide); omega, by have zc_o_r : (0 : Int32).toInt = 0 := (by decide); omega⟩, ⟨by omega, by omega⟩, ⟨by omega, by omega⟩, i_18, i_19, rfl, rfl⟩, by rw [ht]; exact hP.sub [0, 1, 2, 3, 4] rfl, hD.sub [0, 1, 2, 3, 4] (by decide) rfl⟩, hS.F ht⟩) hS.2.2 dX4_readSum_172
    ·
      have i_22 : k_i.toInt < 400 := by have z := g5_geN (a := k_i.toInt) (b := 400) (by rfl) (by decide) c_22; omega
      refine lv_aload_n hx hb dX4_readSum_21 rfl (lv_at hl 2 rfl) ?_
      refine lv_bipush (v := 43) hx hb dX4_readSum_22 (by decide) ?_
      have hPc := hP.sub (ws' := [(a_r, .inr (4, [.ref a_tk, .ref a_rh, .ref a_rs, .ref a_rc, .int k_ln, .int k_pa, .int k_at, .int e_fp])), (a_tk, .inr (8, [.ref a_kd, .ref a_nm, .ref a_pl])), (a_kd, .inl (G.2 0, 401, .inl f_kd))]) [0, 1, 2] rfl
      have hDc := hD.sub (ws' := [(a_r, .inr (4, [.ref a_tk, .ref a_rh, .ref a_rs, .ref a_rc, .int k_ln, .int k_pa, .int k_at, .int e_fp])), (a_tk, .inr (8, [.ref a_kd, .ref a_nm, .ref a_pl])), (a_kd, .inl (G.2 0, 401, .inl f_kd))]) [0, 1, 2] (by decide) rfl
      have hFc := va_free (wc := [(a_r, .inr (4, [.ref a_tk, .ref a_rh, .ref a_rs, .ref a_rc, .int k_ln, .int k_pa, .int k_at, .int e_fp])), (a_tk, .inr (8, [.ref a_kd, .ref a_nm, .ref a_pl])), (a_kd, .inl (G.2 0, 401, .inl f_kd))]) hD hS hA [0, 1, 2] rfl
      refine va_calli (va_runV (As := [.int 43]) (rest := []) ⟨hx, hb, hml, hown, hts⟩ (r_isNext l G a_r a_tk a_kd a_rh a_rs a_rc a_nm a_pl H.size k_ln k_pa k_at e_fp 43 f_kd ⟨by omega, by omega⟩ ⟨by omega, by omega⟩) (cwV 1 hts gV_X4_49 rfl rfl rfl hv_X4_isNext ⟨by dsimp only; omega, by dsimp only; omega⟩) (g5_preV hPc hK hDc hN hT hS hFc (ci := 4) (q0 := 0) rfl rfl) rfl rfl hl.1 rfl (lv_room (Nat.le_of_ble_eq_true rfl)) dX4_readSum_24 ⟨Nat.le_of_ble_eq_true rfl, Nat.le_of_ble_eq_true rfl⟩) hS (fun q _ h => hFc q h) hFc (fun r u t H1 locs ht hvm hw hB hz1 hk1 hS => ?_)
      obtain ⟨hP1, hD1⟩ := hB
      rw [ht] at hP1
      rcases hw with ⟨i_23, i_24, rfl, rfl⟩ | ⟨rfl, rfl⟩
      ·
        have i_23 : k_at.toInt ≤ 400 := i_23
        have i_24 : f_kd k_at.toNatClampNeg = (43 : Int32) := i_24
        obtain ⟨hP, hD⟩ := va_join (wr := [(a_nm, .inl (G.2 0, 401, .inl f_nm)), (a_rc, .inl (G.2 0, 400, .inl k_rc))]) (w1 := [(a_r, .inr (4, [.ref a_tk, .ref a_rh, .ref a_rs, .ref a_rc, .int k_ln, .int k_pa, .int k_at, .int e_fp])), (a_tk, .inr (8, [.ref a_kd, .ref a_nm, .ref a_pl])), (a_kd, .inl (G.2 0, 401, .inl f_kd))]) hP hD [0, 1, 2] [3, 4] rfl rfl (by decide) (by decide) hk1 hFc hP1 hD1
        generalize H1 = H at hP hS ⊢
        have hP : va_P G.1 vwCl [(a_nm, .inl (G.2 0, 401, .inl f_nm)), (a_rc, .inl (G.2 0, 400, .inl k_rc)), (a_r, .inr (4, [.ref a_tk, .ref a_rh, .ref a_rs, .ref a_rc, .int k_ln, .int k_pa, .int k_at, .int e_fp])), (a_tk, .inr (8, [.ref a_kd, .ref a_nm, .ref a_pl])), (a_kd, .inl (G.2 0, 401, .inl f_kd))] H := hP
        have hD : va_D A [(a_nm, .inl (G.2 0, 401, .inl f_nm)), (a_rc, .inl (G.2 0, 400, .inl k_rc)), (a_r, .inr (4, [.ref a_tk, .ref a_rh, .ref a_rs, .ref a_rc, .int k_ln, .int k_pa, .int k_at, .int e_fp])), (a_tk, .inr (8, [.ref a_kd, .ref a_nm, .ref a_pl])), (a_kd, .inl (G.2 0, 401, .inl f_kd))] := hD
        refine lv_if_eq (tgt := 34) hx hb dX4_readSum_27 (by decide) (fun c_25 => ?_) (fun c_25 => ?_)
        ·
          exact absurd c_25 (by decide)
        ·
          refine lv_iconst (v := 2) hx hb dX4_readSum_30 (by decide) ?_
          refine lv_goto (tgt := 74) hx hb dX4_readSum_31 (by decide) ?_
          refine lv_istore (lv' := [(4, .int 2), (2, .int k_w), (3, .int k_i), (0, .ref a_r), (1, .int p_d)]) hx hb dX4_readSum_74 hl (by decide) rfl (fun ls hl => ?_)
          refine lv_iload hx hb dX4_readSum_76 (lv_at hl 0 rfl) ?_
          refine lv_iconst (v := 2) hx hb dX4_readSum_78 (by decide) ?_
          refine lv_icmp_eq (tgt := 88) hx hb dX4_readSum_79 (by decide) (fun c_26 => ?_) (fun c_26 => ?_)
          ·
            refine lv_iconst (v := 1) hx hb dX4_readSum_88 (by decide) ?_
            refine lv_goto (tgt := 93) hx hb dX4_readSum_89 (by decide) ?_
            refine lv_istore (lv' := [(5, .int 1), (4, .int 2), (2, .int k_w), (3, .int k_i), (0, .ref a_r), (1, .int p_d)]) hx hb dX4_readSum_93 hl (by decide) rfl (fun ls hl => ?_)
            refine lv_iload_n hx hb dX4_readSum_95 rfl (lv_at hl 2 rfl) ?_
            refine lv_iconst (v := (-1)) hx hb dX4_readSum_96 (by decide) ?_
            refine lv_icmp_eq (tgt := 118) hx hb dX4_readSum_97 (by decide) (fun c_27 => ?_) (fun c_27 => ?_)
            ·
              have i_27 : k_w.toInt = (-1) := by have z := g5_eq (a := k_w.toInt) (b := (-1)) (by rfl) (by decide) c_27; omega
              refine lv_iload hx hb dX4_readSum_118 (lv_at hl 1 rfl) ?_
              refine lv_iconst (v := (-1)) hx hb dX4_readSum_120 (by decide) ?_
              refine lv_icmp_ne (tgt := 126) hx hb dX4_readSum_121 (by decide) (fun c_28 => ?_) (fun c_28 => ?_)
              ·
                refine lv_aload_n hx hb dX4_readSum_126 rfl (lv_at hl 4 rfl) ?_
                refine lv_dup hx hb dX4_readSum_127 rfl ?_
                refine va_get (D := G.1) (ci := 4) (v := .int k_at) (C := RX4) (T := TX4) (N := 8) hx hb hts inG_X4 hown hK hP 2 rfl rfl 6 (by decide) (hts _ fl_X4_42) (fun _ h9 => h9) rfl dX4_readSum_128 ?_
                refine lv_iconst (v := 1) hx hb dX4_readSum_131 (by decide) ?_
                refine lv_iadd hx hb dX4_readSum_132 ?_
                have t_29 : (k_at + 1).toInt = k_at.toInt + 1 := g5_iadd (a := k_at.toInt) (b := 1) (by rfl) (by decide) (by omega) (by omega)
                refine va_put (D := G.1) (ci := 4) (v := .int (k_at + 1)) (ty := .int) (C := RX4) (T := TX4) (N := 8) hx hb hts inG_X4 tyX4 tyX4_ok nmX4 hown hK hP hD hS 2 rfl rfl 6 (by decide) (hts _ fl_X4_42) (fun _ h9 => h9) rfl (by decide +kernel) rfl rfl (Nat.le_of_ble_eq_true rfl) dX4_readSum_133 (fun H locs hP hD hS => ?_)
                have hP : va_P G.1 vwCl [(a_nm, .inl (G.2 0, 401, .inl f_nm)), (a_rc, .inl (G.2 0, 400, .inl k_rc)), (a_r, .inr (4, [.ref a_tk, .ref a_rh, .ref a_rs, .ref a_rc, .int k_ln, .int k_pa, .int (k_at + 1), .int e_fp])), (a_tk, .inr (8, [.ref a_kd, .ref a_nm, .ref a_pl])), (a_kd, .inl (G.2 0, 401, .inl f_kd))] H := hP
                have hD : va_D A [(a_nm, .inl (G.2 0, 401, .inl f_nm)), (a_rc, .inl (G.2 0, 400, .inl k_rc)), (a_r, .inr (4, [.ref a_tk, .ref a_rh, .ref a_rs, .ref a_rc, .int k_ln, .int k_pa, .int (k_at + 1), .int e_fp])), (a_tk, .inr (8, [.ref a_kd, .ref a_nm, .ref a_pl])), (a_kd, .inl (G.2 0, 401, .inl f_kd))] := hD
                refine lv_aload_n hx hb dX4_readSum_136 rfl (lv_at hl 4 rfl) ?_
                refine lv_iload_n hx hb dX4_readSum_137 rfl (lv_at hl 5 rfl) ?_
                have hPc := hP.sub (ws' := [(a_r, .inr (4, [.ref a_tk, .ref a_rh, .ref a_rs, .ref a_rc, .int k_ln, .int k_pa, .int (k_at + 1), .int e_fp])), (a_tk, .inr (8, [.ref a_kd, .ref a_nm, .ref a_pl])), (a_kd, .inl (G.2 0, 401, .inl f_kd)), (a_nm, .inl (G.2 0, 401, .inl f_nm)), (a_rc, .inl (G.2 0, 400, .inl k_rc))]) [2, 3, 4, 0, 1] rfl
                have hDc := hD.sub (ws' := [(a_r, .inr (4, [.ref a_tk, .ref a_rh, .ref a_rs, .ref a_rc, .int k_ln, .int k_pa, .int (k_at + 1), .int e_fp])), (a_tk, .inr (8, [.ref a_kd, .ref a_nm, .ref a_pl])), (a_kd, .inl (G.2 0, 401, .inl f_kd)), (a_nm, .inl (G.2 0, 401, .inl f_nm)), (a_rc, .inl (G.2 0, 400, .inl k_rc))]) [2, 3, 4, 0, 1] (by decide) rfl
                have hFc := va_free (wc := [(a_r, .inr (4, [.ref a_tk, .ref a_rh, .ref a_rs, .ref a_rc, .int k_ln, .int k_pa, .int (k_at + 1), .int e_fp])), (a_tk, .inr (8, [.ref a_kd, .ref a_nm, .ref a_pl])), (a_kd, .inl (G.2 0, 401, .inl f_kd)), (a_nm, .inl (G.2 0, 401, .inl f_nm)), (a_rc, .inl (G.2 0, 400, .inl k_rc))]) hD hS hA [2, 3, 4, 0, 1] rfl
                refine va_calli (va_runV (As := [.int p_d]) (rest := []) ⟨hx, hb, hml, hown, hts⟩ ((r_part fr lo p_d h_p_d h_sum) l G a_r a_tk a_kd a_nm a_rc a_rh a_rs a_pl H.size k_ln k_pa (k_at + 1) e_fp f_kd f_nm k_rc ⟨by omega, by omega⟩ ⟨by omega, by omega⟩ (e_tk) (i_18)) (cwV 1 hts gV_X4_90 rfl rfl rfl hv_X4_readPart ⟨by dsimp only; omega, by dsimp only; omega⟩) (g5_preV hPc hK hDc hN hT hS hFc (ci := 4) (q0 := 0) rfl rfl) rfl rfl hl.1 rfl (lv_room (Nat.le_of_ble_eq_true rfl)) dX4_readSum_138 ⟨Nat.le_of_ble_eq_true rfl, Nat.le_of_ble_eq_true rfl⟩) hS (fun q _ h => hFc q h) hFc (fun r u t H1 locs ht hvm hw hB hz1 hk1 hS => ?_)
                obtain ⟨hP1, hD1⟩ := hB
                rw [ht] at hP1
                obtain ⟨z35, z36, z37, z38, z39, i_30, i_31, i_32, i_33, i_34, y40, rfl⟩ := hw
                have i_30 : 0 ≤ z35.toInt ∧ z35.toInt ≤ 1 := i_30
                have i_31 : k_ln.toInt ≤ z36.toInt ∧ z36.toInt ≤ 400 := i_31
                have i_32 : 0 ≤ z38.toInt ∧ z38.toInt ≤ 401 := i_32
                have i_33 : CDI z39 z36.toInt := i_33
                have i_34 : OPK k_rc z39 k_ln.toInt := i_34
                obtain ⟨hP, hD⟩ := va_join (wr := []) (w1 := [(a_r, .inr (4, [.ref a_tk, .ref a_rh, .ref a_rs, .ref a_rc, .int z36, .int z37, .int z38, .int e_fp])), (a_tk, .inr (8, [.ref a_kd, .ref a_nm, .ref a_pl])), (a_kd, .inl (G.2 0, 401, .inl f_kd)), (a_nm, .inl (G.2 0, 401, .inl f_nm)), (a_rc, .inl (G.2 0, 400, .inl z39))]) hP hD [2, 3, 4, 0, 1] [] rfl rfl (by decide) (by decide) hk1 hFc hP1 hD1
                generalize H1 = H at hP hS ⊢
                have hP : va_P G.1 vwCl [(a_r, .inr (4, [.ref a_tk, .ref a_rh, .ref a_rs, .ref a_rc, .int z36, .int z37, .int z38, .int e_fp])), (a_tk, .inr (8, [.ref a_kd, .ref a_nm, .ref a_pl])), (a_kd, .inl (G.2 0, 401, .inl f_kd)), (a_nm, .inl (G.2 0, 401, .inl f_nm)), (a_rc, .inl (G.2 0, 400, .inl z39))] H := hP
                have hD : va_D A [(a_r, .inr (4, [.ref a_tk, .ref a_rh, .ref a_rs, .ref a_rc, .int z36, .int z37, .int z38, .int e_fp])), (a_tk, .inr (8, [.ref a_kd, .ref a_nm, .ref a_pl])), (a_kd, .inl (G.2 0, 401, .inl f_kd)), (a_nm, .inl (G.2 0, 401, .inl f_nm)), (a_rc, .inl (G.2 0, 400, .inl z39))] := hD
                refine g5_ti (v := z35) y40 ?_
                refine lv_if_ne (tgt := 146) hx hb dX4_readSum_141 (by decide) (fun c_41 => ?_) (fun c_41 => ?_)
                ·
                  have n_41 : gNe (z35.toInt) (0) := by have z := g5_ne (a := z35.toInt) (b := 0) (by rfl) (by decide) c_41; unfold gNe; omega
                  have i_41 : z35.toInt ≥ 1 := by have z := g5_ne (a := z35.toInt) (b := 0) (by rfl) (by decide) c_41; omega
                  refine lv_iload hx hb dX4_readSum_146 (lv_at hl 0 rfl) ?_
                  refine lv_if_eq (tgt := 157) hx hb dX4_readSum_148 (by decide) (fun c_42 => ?_) (fun c_42 => ?_)
                  ·
                    exact absurd c_42 (by decide)
                  ·
                    refine lv_iload hx hb dX4_readSum_151 (lv_at hl 1 rfl) ?_
                    refine lv_istore_n (lv' := [(2, .int 2), (5, .int 1), (4, .int 2), (3, .int k_i), (0, .ref a_r), (1, .int p_d)]) hx hb dX4_readSum_153 rfl hl (by decide) rfl (fun ls hl => ?_)
                    refine lv_goto (tgt := 165) hx hb dX4_readSum_154 (by decide) ?_
                    refine lv_iinc (v := (k_i + 1)) (lv' := [(3, .int (k_i + 1)), (2, .int 2), (5, .int 1), (4, .int 2), (0, .ref a_r), (1, .int p_d)]) hx hb dX4_readSum_165 hl (k := 3) rfl rfl (by decide) rfl (fun ls hl => ?_)
                    have t_43 : (k_i + 1).toInt = k_i.toInt + 1 := g5_iadd (a := k_i.toInt) (b := 1) rfl (by decide) (by omega) (by omega)
                    refine lv_goto (tgt := 14) hx hb dX4_readSum_168 (by decide) ?_
                    exact ih_14_21 (2, (k_i + 1), z36, z37, z38, z39) ls H locs (show Int.toNat (400 - (k_i + 1).toInt) < Int.toNat (400 - k_i.toInt) from g_up (show k_i.toInt < (k_i + 1).toInt by omega) (show k_i.toInt < 400 by omega)) ⟨lv_sub hl [1, 0, 4, 5] rfl, hP, hD, hS, ⟨by decide, by decide⟩, ⟨by omega, by omega⟩, ⟨by omega, by omega⟩, ⟨by omega, by omega⟩, by omega, i_33, opk_trans i_19 (i_34) (by omega), Or.inr (Or.inl (by decide))⟩
                ·
                  have i_41 : z35.toInt = 0 := by have z := g5_neN (a := z35.toInt) (b := 0) (by rfl) (by decide) c_41; omega
                  refine lv_iconst (v := 0) hx hb dX4_readSum_144 (by decide) ?_
                  exact W.zret (v := 0) hx hb hr rfl (fun t ht hW => ⟨⟨0, [(a_r, .inr (4, [.ref a_tk, .ref a_rh, .ref a_rs, .ref a_rc, .int z36, .int z37, .int z38, .int e_fp])), (a_tk, .inr (8, [.ref a_kd, .ref a_nm, .ref a_pl])), (a_kd, .inl (G.2 0, 401, .inl f_kd)), (a_nm, .inl (G.2 0, 401, .inl f_nm)), (a_rc, .inl (G.2 0, 400, .inl z39))], rfl, ⟨0, z36, z37, z38, z39, ⟨by have zc_o_r : (0 : Int32).toInt = 0 := (by decide); omega, by have zc_o_r : (0 : Int32).toInt = 0 := (by decide); omega⟩, ⟨by omega, by omega⟩, ⟨by omega, by omega⟩, i_33, opk_trans i_19 (i_34) (by omega), rfl, rfl⟩, by rw [ht]; exact hP.sub [0, 1, 2, 3, 4] rfl, hD.sub [0, 1, 2, 3, 4] (by decide) rfl⟩, hS.F ht⟩) hS.2.2 dX4_readSum_145
              ·
                exact absurd c_28 (by decide)
            ·
              have n_27 : gNe (k_w.toInt) ((-1)) := by have z := g5_eqN (a := k_w.toInt) (b := (-1)) (by rfl) (by decide) c_27; unfold gNe; omega
              have i_27 : k_w.toInt ≥ 0 := by have z := g5_eqN (a := k_w.toInt) (b := (-1)) (by rfl) (by decide) c_27; omega
              refine lv_iload hx hb dX4_readSum_100 (lv_at hl 0 rfl) ?_
              refine lv_if_ne (tgt := 111) hx hb dX4_readSum_102 (by decide) (fun c_44 => ?_) (fun c_44 => ?_)
              ·
                refine lv_aload_n hx hb dX4_readSum_111 rfl (lv_at hl 4 rfl) ?_
                refine lv_iload_n hx hb dX4_readSum_112 rfl (lv_at hl 2 rfl) ?_
                refine lv_iconst (v := 0) hx hb dX4_readSum_113 (by decide) ?_
                have hPc := hP.sub (ws' := [(a_r, .inr (4, [.ref a_tk, .ref a_rh, .ref a_rs, .ref a_rc, .int k_ln, .int k_pa, .int k_at, .int e_fp])), (a_rc, .inl (G.2 0, 400, .inl k_rc))]) [2, 1] rfl
                have hDc := hD.sub (ws' := [(a_r, .inr (4, [.ref a_tk, .ref a_rh, .ref a_rs, .ref a_rc, .int k_ln, .int k_pa, .int k_at, .int e_fp])), (a_rc, .inl (G.2 0, 400, .inl k_rc))]) [2, 1] (by decide) rfl
                have hFc := va_free (wc := [(a_r, .inr (4, [.ref a_tk, .ref a_rh, .ref a_rs, .ref a_rc, .int k_ln, .int k_pa, .int k_at, .int e_fp])), (a_rc, .inl (G.2 0, 400, .inl k_rc))]) hD hS hA [2, 1] rfl
                refine va_calli (va_runV (As := [.int k_w, .int 0]) (rest := []) ⟨hx, hb, hml, hown, hts⟩ (r_emit l G a_r a_rc a_tk a_rh a_rs H.size k_ln k_pa k_at e_fp k_w 0 k_rc ⟨by omega, by omega⟩ ⟨by omega, by omega⟩ (i_18) (wok_wait (by rcases i_20 with q | q | q; exact absurd q n_27; exact Or.inl q; exact Or.inr q))) (cwV 2 hts gV_X4_79 rfl rfl rfl hv_X4_emit ⟨by dsimp only; omega, by dsimp only; omega⟩) (g5_preV hPc hK hDc hN hT hS hFc (ci := 4) (q0 := 0) rfl rfl) rfl rfl hl.1 rfl (lv_room (Nat.le_of_ble_eq_true rfl)) dX4_readSum_114 ⟨Nat.le_of_ble_eq_true rfl, Nat.le_of_ble_eq_true rfl⟩) hS (fun q _ h => hFc q h) hFc (fun r u t H1 locs ht hvm hw hB hz1 hk1 hS => ?_)
                obtain ⟨hP1, hD1⟩ := hB
                rw [ht] at hP1
                obtain ⟨z50, z51, z52, i_45, i_46, i_47, i_48, i_49, y53, rfl⟩ := hw
                have i_45 : -1 ≤ z50.toInt ∧ z50.toInt ≤ 399 := i_45
                have i_46 : k_ln.toInt ≤ z51.toInt ∧ z51.toInt ≤ 400 := i_46
                have i_47 : CDI z52 z51.toInt := i_47
                have i_48 : OPK k_rc z52 k_ln.toInt := i_48
                have i_49 : 0 ≤ z50.toInt → z50.toInt < z51.toInt ∧ z52 z50.toNatClampNeg = ((k_w <<< (12 &&& 31)) ||| (0 : Int32)) := i_49
                obtain ⟨hP, hD⟩ := va_join (wr := [(a_nm, .inl (G.2 0, 401, .inl f_nm)), (a_tk, .inr (8, [.ref a_kd, .ref a_nm, .ref a_pl])), (a_kd, .inl (G.2 0, 401, .inl f_kd))]) (w1 := [(a_r, .inr (4, [.ref a_tk, .ref a_rh, .ref a_rs, .ref a_rc, .int z51, .int k_pa, .int k_at, .int e_fp])), (a_rc, .inl (G.2 0, 400, .inl z52))]) hP hD [2, 1] [0, 3, 4] rfl rfl (by decide) (by decide) hk1 hFc hP1 hD1
                generalize H1 = H at hP hS ⊢
                have hP : va_P G.1 vwCl [(a_nm, .inl (G.2 0, 401, .inl f_nm)), (a_tk, .inr (8, [.ref a_kd, .ref a_nm, .ref a_pl])), (a_kd, .inl (G.2 0, 401, .inl f_kd)), (a_r, .inr (4, [.ref a_tk, .ref a_rh, .ref a_rs, .ref a_rc, .int z51, .int k_pa, .int k_at, .int e_fp])), (a_rc, .inl (G.2 0, 400, .inl z52))] H := hP
                have hD : va_D A [(a_nm, .inl (G.2 0, 401, .inl f_nm)), (a_tk, .inr (8, [.ref a_kd, .ref a_nm, .ref a_pl])), (a_kd, .inl (G.2 0, 401, .inl f_kd)), (a_r, .inr (4, [.ref a_tk, .ref a_rh, .ref a_rs, .ref a_rc, .int z51, .int k_pa, .int k_at, .int e_fp])), (a_rc, .inl (G.2 0, 400, .inl z52))] := hD
                refine g5_ti (v := z50) y53 ?_
                refine lv_pop hx hb dX4_readSum_117 rfl ?_
                refine lv_iload hx hb dX4_readSum_118 (lv_at hl 1 rfl) ?_
                refine lv_iconst (v := (-1)) hx hb dX4_readSum_120 (by decide) ?_
                refine lv_icmp_ne (tgt := 126) hx hb dX4_readSum_121 (by decide) (fun c_54 => ?_) (fun c_54 => ?_)
                ·
                  refine lv_aload_n hx hb dX4_readSum_126 rfl (lv_at hl 4 rfl) ?_
                  refine lv_dup hx hb dX4_readSum_127 rfl ?_
                  refine va_get (D := G.1) (ci := 4) (v := .int k_at) (C := RX4) (T := TX4) (N := 8) hx hb hts inG_X4 hown hK hP 3 rfl rfl 6 (by decide) (hts _ fl_X4_42) (fun _ h9 => h9) rfl dX4_readSum_128 ?_
                  refine lv_iconst (v := 1) hx hb dX4_readSum_131 (by decide) ?_
                  refine lv_iadd hx hb dX4_readSum_132 ?_
                  have t_55 : (k_at + 1).toInt = k_at.toInt + 1 := g5_iadd (a := k_at.toInt) (b := 1) (by rfl) (by decide) (by omega) (by omega)
                  refine va_put (D := G.1) (ci := 4) (v := .int (k_at + 1)) (ty := .int) (C := RX4) (T := TX4) (N := 8) hx hb hts inG_X4 tyX4 tyX4_ok nmX4 hown hK hP hD hS 3 rfl rfl 6 (by decide) (hts _ fl_X4_42) (fun _ h9 => h9) rfl (by decide +kernel) rfl rfl (Nat.le_of_ble_eq_true rfl) dX4_readSum_133 (fun H locs hP hD hS => ?_)
                  have hP : va_P G.1 vwCl [(a_nm, .inl (G.2 0, 401, .inl f_nm)), (a_tk, .inr (8, [.ref a_kd, .ref a_nm, .ref a_pl])), (a_kd, .inl (G.2 0, 401, .inl f_kd)), (a_r, .inr (4, [.ref a_tk, .ref a_rh, .ref a_rs, .ref a_rc, .int z51, .int k_pa, .int (k_at + 1), .int e_fp])), (a_rc, .inl (G.2 0, 400, .inl z52))] H := hP
                  have hD : va_D A [(a_nm, .inl (G.2 0, 401, .inl f_nm)), (a_tk, .inr (8, [.ref a_kd, .ref a_nm, .ref a_pl])), (a_kd, .inl (G.2 0, 401, .inl f_kd)), (a_r, .inr (4, [.ref a_tk, .ref a_rh, .ref a_rs, .ref a_rc, .int z51, .int k_pa, .int (k_at + 1), .int e_fp])), (a_rc, .inl (G.2 0, 400, .inl z52))] := hD
                  refine lv_aload_n hx hb dX4_readSum_136 rfl (lv_at hl 4 rfl) ?_
                  refine lv_iload_n hx hb dX4_readSum_137 rfl (lv_at hl 5 rfl) ?_
                  have hPc := hP.sub (ws' := [(a_r, .inr (4, [.ref a_tk, .ref a_rh, .ref a_rs, .ref a_rc, .int z51, .int k_pa, .int (k_at + 1), .int e_fp])), (a_tk, .inr (8, [.ref a_kd, .ref a_nm, .ref a_pl])), (a_kd, .inl (G.2 0, 401, .inl f_kd)), (a_nm, .inl (G.2 0, 401, .inl f_nm)), (a_rc, .inl (G.2 0, 400, .inl z52))]) [3, 1, 2, 0, 4] rfl
                  have hDc := hD.sub (ws' := [(a_r, .inr (4, [.ref a_tk, .ref a_rh, .ref a_rs, .ref a_rc, .int z51, .int k_pa, .int (k_at + 1), .int e_fp])), (a_tk, .inr (8, [.ref a_kd, .ref a_nm, .ref a_pl])), (a_kd, .inl (G.2 0, 401, .inl f_kd)), (a_nm, .inl (G.2 0, 401, .inl f_nm)), (a_rc, .inl (G.2 0, 400, .inl z52))]) [3, 1, 2, 0, 4] (by decide) rfl
                  have hFc := va_free (wc := [(a_r, .inr (4, [.ref a_tk, .ref a_rh, .ref a_rs, .ref a_rc, .int z51, .int k_pa, .int (k_at + 1), .int e_fp])), (a_tk, .inr (8, [.ref a_kd, .ref a_nm, .ref a_pl])), (a_kd, .inl (G.2 0, 401, .inl f_kd)), (a_nm, .inl (G.2 0, 401, .inl f_nm)), (a_rc, .inl (G.2 0, 400, .inl z52))]) hD hS hA [3, 1, 2, 0, 4] rfl
                  refine va_calli (va_runV (As := [.int p_d]) (rest := []) ⟨hx, hb, hml, hown, hts⟩ ((r_part fr lo p_d h_p_d h_sum) l G a_r a_tk a_kd a_nm a_rc a_rh a_rs a_pl H.size z51 k_pa (k_at + 1) e_fp f_kd f_nm z52 ⟨by omega, by omega⟩ ⟨by omega, by omega⟩ (e_tk) (i_47)) (cwV 1 hts gV_X4_90 rfl rfl rfl hv_X4_readPart ⟨by dsimp only; omega, by dsimp only; omega⟩) (g5_preV hPc hK hDc hN hT hS hFc (ci := 4) (q0 := 0) rfl rfl) rfl rfl hl.1 rfl (lv_room (Nat.le_of_ble_eq_true rfl)) dX4_readSum_138 ⟨Nat.le_of_ble_eq_true rfl, Nat.le_of_ble_eq_true rfl⟩) hS (fun q _ h => hFc q h) hFc (fun r u t H1 locs ht hvm hw hB hz1 hk1 hS => ?_)
                  obtain ⟨hP1, hD1⟩ := hB
                  rw [ht] at hP1
                  obtain ⟨z61, z62, z63, z64, z65, i_56, i_57, i_58, i_59, i_60, y66, rfl⟩ := hw
                  have i_56 : 0 ≤ z61.toInt ∧ z61.toInt ≤ 1 := i_56
                  have i_57 : z51.toInt ≤ z62.toInt ∧ z62.toInt ≤ 400 := i_57
                  have i_58 : 0 ≤ z64.toInt ∧ z64.toInt ≤ 401 := i_58
                  have i_59 : CDI z65 z62.toInt := i_59
                  have i_60 : OPK z52 z65 z51.toInt := i_60
                  obtain ⟨hP, hD⟩ := va_join (wr := []) (w1 := [(a_r, .inr (4, [.ref a_tk, .ref a_rh, .ref a_rs, .ref a_rc, .int z62, .int z63, .int z64, .int e_fp])), (a_tk, .inr (8, [.ref a_kd, .ref a_nm, .ref a_pl])), (a_kd, .inl (G.2 0, 401, .inl f_kd)), (a_nm, .inl (G.2 0, 401, .inl f_nm)), (a_rc, .inl (G.2 0, 400, .inl z65))]) hP hD [3, 1, 2, 0, 4] [] rfl rfl (by decide) (by decide) hk1 hFc hP1 hD1
                  generalize H1 = H at hP hS ⊢
                  have hP : va_P G.1 vwCl [(a_r, .inr (4, [.ref a_tk, .ref a_rh, .ref a_rs, .ref a_rc, .int z62, .int z63, .int z64, .int e_fp])), (a_tk, .inr (8, [.ref a_kd, .ref a_nm, .ref a_pl])), (a_kd, .inl (G.2 0, 401, .inl f_kd)), (a_nm, .inl (G.2 0, 401, .inl f_nm)), (a_rc, .inl (G.2 0, 400, .inl z65))] H := hP
                  have hD : va_D A [(a_r, .inr (4, [.ref a_tk, .ref a_rh, .ref a_rs, .ref a_rc, .int z62, .int z63, .int z64, .int e_fp])), (a_tk, .inr (8, [.ref a_kd, .ref a_nm, .ref a_pl])), (a_kd, .inl (G.2 0, 401, .inl f_kd)), (a_nm, .inl (G.2 0, 401, .inl f_nm)), (a_rc, .inl (G.2 0, 400, .inl z65))] := hD
                  refine g5_ti (v := z61) y66 ?_
                  refine lv_if_ne (tgt := 146) hx hb dX4_readSum_141 (by decide) (fun c_67 => ?_) (fun c_67 => ?_)
                  ·
                    have n_67 : gNe (z61.toInt) (0) := by have z := g5_ne (a := z61.toInt) (b := 0) (by rfl) (by decide) c_67; unfold gNe; omega
                    have i_67 : z61.toInt ≥ 1 := by have z := g5_ne (a := z61.toInt) (b := 0) (by rfl) (by decide) c_67; omega
                    refine lv_iload hx hb dX4_readSum_146 (lv_at hl 0 rfl) ?_
                    refine lv_if_eq (tgt := 157) hx hb dX4_readSum_148 (by decide) (fun c_68 => ?_) (fun c_68 => ?_)
                    ·
                      exact absurd c_68 (by decide)
                    ·
                      refine lv_iload hx hb dX4_readSum_151 (lv_at hl 1 rfl) ?_
                      refine lv_istore_n (lv' := [(2, .int 2), (5, .int 1), (4, .int 2), (3, .int k_i), (0, .ref a_r), (1, .int p_d)]) hx hb dX4_readSum_153 rfl hl (by decide) rfl (fun ls hl => ?_)
                      refine lv_goto (tgt := 165) hx hb dX4_readSum_154 (by decide) ?_
                      refine lv_iinc (v := (k_i + 1)) (lv' := [(3, .int (k_i + 1)), (2, .int 2), (5, .int 1), (4, .int 2), (0, .ref a_r), (1, .int p_d)]) hx hb dX4_readSum_165 hl (k := 3) rfl rfl (by decide) rfl (fun ls hl => ?_)
                      have t_69 : (k_i + 1).toInt = k_i.toInt + 1 := g5_iadd (a := k_i.toInt) (b := 1) rfl (by decide) (by omega) (by omega)
                      refine lv_goto (tgt := 14) hx hb dX4_readSum_168 (by decide) ?_
                      exact ih_14_21 (2, (k_i + 1), z62, z63, z64, z65) ls H locs (show Int.toNat (400 - (k_i + 1).toInt) < Int.toNat (400 - k_i.toInt) from g_up (show k_i.toInt < (k_i + 1).toInt by omega) (show k_i.toInt < 400 by omega)) ⟨lv_sub hl [1, 0, 4, 5] rfl, hP, hD, hS, ⟨by decide, by decide⟩, ⟨by omega, by omega⟩, ⟨by omega, by omega⟩, ⟨by omega, by omega⟩, by omega, i_59, opk_trans i_19 (opk_trans i_48 (i_60) (by omega)) (by omega), Or.inr (Or.inl (by decide))⟩
                  ·
                    have i_67 : z61.toInt = 0 := by have z := g5_neN (a := z61.toInt) (b := 0) (by rfl) (by decide) c_67; omega
                    refine lv_iconst (v := 0) hx hb dX4_readSum_144 (by decide) ?_
                    exact W.zret (v := 0) hx hb hr rfl (fun t ht hW => ⟨⟨0, [(a_r, .inr (4, [.ref a_tk, .ref a_rh, .ref a_rs, .ref a_rc, .int z62, .int z63, .int z64, .int e_fp])), (a_tk, .inr (8, [.ref a_kd, .ref a_nm, .ref a_pl])), (a_kd, .inl (G.2 0, 401, .inl f_kd)), (a_nm, .inl (G.2 0, 401, .inl f_nm)), (a_rc, .inl (G.2 0, 400, .inl z65))], rfl, ⟨0, z62, z63, z64, z65, ⟨by have zc_o_r : (0 : Int32).toInt = 0 := (by decide); omega, by have zc_o_r : (0 : Int32).toInt = 0 := (by decide); omega⟩, ⟨by omega, by omega⟩, ⟨by omega, by omega⟩, i_59, opk_trans i_19 (opk_trans i_48 (i_60) (by omega)) (by omega), rfl, rfl⟩, by rw [ht]; exact hP.sub [0, 1, 2, 3, 4] rfl, hD.sub [0, 1, 2, 3, 4] (by decide) rfl⟩, hS.F ht⟩) hS.2.2 dX4_readSum_145
                ·
                  exact absurd c_54 (by decide)
              ·
                exact absurd c_44 (by decide)
          ·
            exact absurd c_26 (by decide)
      ·
        obtain ⟨hP, hD⟩ := va_join (wr := [(a_nm, .inl (G.2 0, 401, .inl f_nm)), (a_rc, .inl (G.2 0, 400, .inl k_rc))]) (w1 := [(a_r, .inr (4, [.ref a_tk, .ref a_rh, .ref a_rs, .ref a_rc, .int k_ln, .int k_pa, .int k_at, .int e_fp])), (a_tk, .inr (8, [.ref a_kd, .ref a_nm, .ref a_pl])), (a_kd, .inl (G.2 0, 401, .inl f_kd))]) hP hD [0, 1, 2] [3, 4] rfl rfl (by decide) (by decide) hk1 hFc hP1 hD1
        generalize H1 = H at hP hS ⊢
        have hP : va_P G.1 vwCl [(a_nm, .inl (G.2 0, 401, .inl f_nm)), (a_rc, .inl (G.2 0, 400, .inl k_rc)), (a_r, .inr (4, [.ref a_tk, .ref a_rh, .ref a_rs, .ref a_rc, .int k_ln, .int k_pa, .int k_at, .int e_fp])), (a_tk, .inr (8, [.ref a_kd, .ref a_nm, .ref a_pl])), (a_kd, .inl (G.2 0, 401, .inl f_kd))] H := hP
        have hD : va_D A [(a_nm, .inl (G.2 0, 401, .inl f_nm)), (a_rc, .inl (G.2 0, 400, .inl k_rc)), (a_r, .inr (4, [.ref a_tk, .ref a_rh, .ref a_rs, .ref a_rc, .int k_ln, .int k_pa, .int k_at, .int e_fp])), (a_tk, .inr (8, [.ref a_kd, .ref a_nm, .ref a_pl])), (a_kd, .inl (G.2 0, 401, .inl f_kd))] := hD
        refine lv_if_eq (tgt := 34) hx hb dX4_readSum_27 (by decide) (fun c_70 => ?_) (fun c_70 => ?_)
        ·
          refine lv_aload_n hx hb dX4_readSum_34 rfl (lv_at hl 2 rfl) ?_
          refine lv_bipush (v := 45) hx hb dX4_readSum_35 (by decide) ?_
          have hPc := hP.sub (ws' := [(a_r, .inr (4, [.ref a_tk, .ref a_rh, .ref a_rs, .ref a_rc, .int k_ln, .int k_pa, .int k_at, .int e_fp])), (a_tk, .inr (8, [.ref a_kd, .ref a_nm, .ref a_pl])), (a_kd, .inl (G.2 0, 401, .inl f_kd))]) [2, 3, 4] rfl
          have hDc := hD.sub (ws' := [(a_r, .inr (4, [.ref a_tk, .ref a_rh, .ref a_rs, .ref a_rc, .int k_ln, .int k_pa, .int k_at, .int e_fp])), (a_tk, .inr (8, [.ref a_kd, .ref a_nm, .ref a_pl])), (a_kd, .inl (G.2 0, 401, .inl f_kd))]) [2, 3, 4] (by decide) rfl
          have hFc := va_free (wc := [(a_r, .inr (4, [.ref a_tk, .ref a_rh, .ref a_rs, .ref a_rc, .int k_ln, .int k_pa, .int k_at, .int e_fp])), (a_tk, .inr (8, [.ref a_kd, .ref a_nm, .ref a_pl])), (a_kd, .inl (G.2 0, 401, .inl f_kd))]) hD hS hA [2, 3, 4] rfl
          refine va_calli (va_runV (As := [.int 45]) (rest := []) ⟨hx, hb, hml, hown, hts⟩ (r_isNext l G a_r a_tk a_kd a_rh a_rs a_rc a_nm a_pl H.size k_ln k_pa k_at e_fp 45 f_kd ⟨by omega, by omega⟩ ⟨by omega, by omega⟩) (cwV 1 hts gV_X4_49 rfl rfl rfl hv_X4_isNext ⟨by dsimp only; omega, by dsimp only; omega⟩) (g5_preV hPc hK hDc hN hT hS hFc (ci := 4) (q0 := 0) rfl rfl) rfl rfl hl.1 rfl (lv_room (Nat.le_of_ble_eq_true rfl)) dX4_readSum_37 ⟨Nat.le_of_ble_eq_true rfl, Nat.le_of_ble_eq_true rfl⟩) hS (fun q _ h => hFc q h) hFc (fun r u t H1 locs ht hvm hw hB hz1 hk1 hS => ?_)
          obtain ⟨hP1, hD1⟩ := hB
          rw [ht] at hP1
          rcases hw with ⟨i_71, i_72, rfl, rfl⟩ | ⟨rfl, rfl⟩
          ·
            have i_71 : k_at.toInt ≤ 400 := i_71
            have i_72 : f_kd k_at.toNatClampNeg = (45 : Int32) := i_72
            obtain ⟨hP, hD⟩ := va_join (wr := [(a_nm, .inl (G.2 0, 401, .inl f_nm)), (a_rc, .inl (G.2 0, 400, .inl k_rc))]) (w1 := [(a_r, .inr (4, [.ref a_tk, .ref a_rh, .ref a_rs, .ref a_rc, .int k_ln, .int k_pa, .int k_at, .int e_fp])), (a_tk, .inr (8, [.ref a_kd, .ref a_nm, .ref a_pl])), (a_kd, .inl (G.2 0, 401, .inl f_kd))]) hP hD [2, 3, 4] [0, 1] rfl rfl (by decide) (by decide) hk1 hFc hP1 hD1
            generalize H1 = H at hP hS ⊢
            have hP : va_P G.1 vwCl [(a_nm, .inl (G.2 0, 401, .inl f_nm)), (a_rc, .inl (G.2 0, 400, .inl k_rc)), (a_r, .inr (4, [.ref a_tk, .ref a_rh, .ref a_rs, .ref a_rc, .int k_ln, .int k_pa, .int k_at, .int e_fp])), (a_tk, .inr (8, [.ref a_kd, .ref a_nm, .ref a_pl])), (a_kd, .inl (G.2 0, 401, .inl f_kd))] H := hP
            have hD : va_D A [(a_nm, .inl (G.2 0, 401, .inl f_nm)), (a_rc, .inl (G.2 0, 400, .inl k_rc)), (a_r, .inr (4, [.ref a_tk, .ref a_rh, .ref a_rs, .ref a_rc, .int k_ln, .int k_pa, .int k_at, .int e_fp])), (a_tk, .inr (8, [.ref a_kd, .ref a_nm, .ref a_pl])), (a_kd, .inl (G.2 0, 401, .inl f_kd))] := hD
            refine lv_if_eq (tgt := 47) hx hb dX4_readSum_40 (by decide) (fun c_73 => ?_) (fun c_73 => ?_)
            ·
              exact absurd c_73 (by decide)
            ·
              refine lv_iconst (v := 3) hx hb dX4_readSum_43 (by decide) ?_
              refine lv_goto (tgt := 74) hx hb dX4_readSum_44 (by decide) ?_
              refine lv_istore (lv' := [(4, .int 3), (2, .int k_w), (3, .int k_i), (0, .ref a_r), (1, .int p_d)]) hx hb dX4_readSum_74 hl (by decide) rfl (fun ls hl => ?_)
              refine lv_iload hx hb dX4_readSum_76 (lv_at hl 0 rfl) ?_
              refine lv_iconst (v := 2) hx hb dX4_readSum_78 (by decide) ?_
              refine lv_icmp_eq (tgt := 88) hx hb dX4_readSum_79 (by decide) (fun c_74 => ?_) (fun c_74 => ?_)
              ·
                exact absurd c_74 (by decide)
              ·
                refine lv_iload hx hb dX4_readSum_82 (lv_at hl 0 rfl) ?_
                refine lv_iconst (v := 3) hx hb dX4_readSum_84 (by decide) ?_
                refine lv_icmp_ne (tgt := 92) hx hb dX4_readSum_85 (by decide) (fun c_75 => ?_) (fun c_75 => ?_)
                ·
                  exact absurd c_75 (by decide)
                ·
                  refine lv_iconst (v := 1) hx hb dX4_readSum_88 (by decide) ?_
                  refine lv_goto (tgt := 93) hx hb dX4_readSum_89 (by decide) ?_
                  refine lv_istore (lv' := [(5, .int 1), (4, .int 3), (2, .int k_w), (3, .int k_i), (0, .ref a_r), (1, .int p_d)]) hx hb dX4_readSum_93 hl (by decide) rfl (fun ls hl => ?_)
                  refine lv_iload_n hx hb dX4_readSum_95 rfl (lv_at hl 2 rfl) ?_
                  refine lv_iconst (v := (-1)) hx hb dX4_readSum_96 (by decide) ?_
                  refine lv_icmp_eq (tgt := 118) hx hb dX4_readSum_97 (by decide) (fun c_76 => ?_) (fun c_76 => ?_)
                  ·
                    have i_76 : k_w.toInt = (-1) := by have z := g5_eq (a := k_w.toInt) (b := (-1)) (by rfl) (by decide) c_76; omega
                    refine lv_iload hx hb dX4_readSum_118 (lv_at hl 1 rfl) ?_
                    refine lv_iconst (v := (-1)) hx hb dX4_readSum_120 (by decide) ?_
                    refine lv_icmp_ne (tgt := 126) hx hb dX4_readSum_121 (by decide) (fun c_77 => ?_) (fun c_77 => ?_)
                    ·
                      refine lv_aload_n hx hb dX4_readSum_126 rfl (lv_at hl 4 rfl) ?_
                      refine lv_dup hx hb dX4_readSum_127 rfl ?_
                      refine va_get (D := G.1) (ci := 4) (v := .int k_at) (C := RX4) (T := TX4) (N := 8) hx hb hts inG_X4 hown hK hP 2 rfl rfl 6 (by decide) (hts _ fl_X4_42) (fun _ h9 => h9) rfl dX4_readSum_128 ?_
                      refine lv_iconst (v := 1) hx hb dX4_readSum_131 (by decide) ?_
                      refine lv_iadd hx hb dX4_readSum_132 ?_
                      have t_78 : (k_at + 1).toInt = k_at.toInt + 1 := g5_iadd (a := k_at.toInt) (b := 1) (by rfl) (by decide) (by omega) (by omega)
                      refine va_put (D := G.1) (ci := 4) (v := .int (k_at + 1)) (ty := .int) (C := RX4) (T := TX4) (N := 8) hx hb hts inG_X4 tyX4 tyX4_ok nmX4 hown hK hP hD hS 2 rfl rfl 6 (by decide) (hts _ fl_X4_42) (fun _ h9 => h9) rfl (by decide +kernel) rfl rfl (Nat.le_of_ble_eq_true rfl) dX4_readSum_133 (fun H locs hP hD hS => ?_)
                      have hP : va_P G.1 vwCl [(a_nm, .inl (G.2 0, 401, .inl f_nm)), (a_rc, .inl (G.2 0, 400, .inl k_rc)), (a_r, .inr (4, [.ref a_tk, .ref a_rh, .ref a_rs, .ref a_rc, .int k_ln, .int k_pa, .int (k_at + 1), .int e_fp])), (a_tk, .inr (8, [.ref a_kd, .ref a_nm, .ref a_pl])), (a_kd, .inl (G.2 0, 401, .inl f_kd))] H := hP
                      have hD : va_D A [(a_nm, .inl (G.2 0, 401, .inl f_nm)), (a_rc, .inl (G.2 0, 400, .inl k_rc)), (a_r, .inr (4, [.ref a_tk, .ref a_rh, .ref a_rs, .ref a_rc, .int k_ln, .int k_pa, .int (k_at + 1), .int e_fp])), (a_tk, .inr (8, [.ref a_kd, .ref a_nm, .ref a_pl])), (a_kd, .inl (G.2 0, 401, .inl f_kd))] := hD
                      refine lv_aload_n hx hb dX4_readSum_136 rfl (lv_at hl 4 rfl) ?_
                      refine lv_iload_n hx hb dX4_readSum_137 rfl (lv_at hl 5 rfl) ?_
                      have hPc := hP.sub (ws' := [(a_r, .inr (4, [.ref a_tk, .ref a_rh, .ref a_rs, .ref a_rc, .int k_ln, .int k_pa, .int (k_at + 1), .int e_fp])), (a_tk, .inr (8, [.ref a_kd, .ref a_nm, .ref a_pl])), (a_kd, .inl (G.2 0, 401, .inl f_kd)), (a_nm, .inl (G.2 0, 401, .inl f_nm)), (a_rc, .inl (G.2 0, 400, .inl k_rc))]) [2, 3, 4, 0, 1] rfl
                      have hDc := hD.sub (ws' := [(a_r, .inr (4, [.ref a_tk, .ref a_rh, .ref a_rs, .ref a_rc, .int k_ln, .int k_pa, .int (k_at + 1), .int e_fp])), (a_tk, .inr (8, [.ref a_kd, .ref a_nm, .ref a_pl])), (a_kd, .inl (G.2 0, 401, .inl f_kd)), (a_nm, .inl (G.2 0, 401, .inl f_nm)), (a_rc, .inl (G.2 0, 400, .inl k_rc))]) [2, 3, 4, 0, 1] (by decide) rfl
                      have hFc := va_free (wc := [(a_r, .inr (4, [.ref a_tk, .ref a_rh, .ref a_rs, .ref a_rc, .int k_ln, .int k_pa, .int (k_at + 1), .int e_fp])), (a_tk, .inr (8, [.ref a_kd, .ref a_nm, .ref a_pl])), (a_kd, .inl (G.2 0, 401, .inl f_kd)), (a_nm, .inl (G.2 0, 401, .inl f_nm)), (a_rc, .inl (G.2 0, 400, .inl k_rc))]) hD hS hA [2, 3, 4, 0, 1] rfl
                      refine va_calli (va_runV (As := [.int p_d]) (rest := []) ⟨hx, hb, hml, hown, hts⟩ ((r_part fr lo p_d h_p_d h_sum) l G a_r a_tk a_kd a_nm a_rc a_rh a_rs a_pl H.size k_ln k_pa (k_at + 1) e_fp f_kd f_nm k_rc ⟨by omega, by omega⟩ ⟨by omega, by omega⟩ (e_tk) (i_18)) (cwV 1 hts gV_X4_90 rfl rfl rfl hv_X4_readPart ⟨by dsimp only; omega, by dsimp only; omega⟩) (g5_preV hPc hK hDc hN hT hS hFc (ci := 4) (q0 := 0) rfl rfl) rfl rfl hl.1 rfl (lv_room (Nat.le_of_ble_eq_true rfl)) dX4_readSum_138 ⟨Nat.le_of_ble_eq_true rfl, Nat.le_of_ble_eq_true rfl⟩) hS (fun q _ h => hFc q h) hFc (fun r u t H1 locs ht hvm hw hB hz1 hk1 hS => ?_)
                      obtain ⟨hP1, hD1⟩ := hB
                      rw [ht] at hP1
                      obtain ⟨z84, z85, z86, z87, z88, i_79, i_80, i_81, i_82, i_83, y89, rfl⟩ := hw
                      have i_79 : 0 ≤ z84.toInt ∧ z84.toInt ≤ 1 := i_79
                      have i_80 : k_ln.toInt ≤ z85.toInt ∧ z85.toInt ≤ 400 := i_80
                      have i_81 : 0 ≤ z87.toInt ∧ z87.toInt ≤ 401 := i_81
                      have i_82 : CDI z88 z85.toInt := i_82
                      have i_83 : OPK k_rc z88 k_ln.toInt := i_83
                      obtain ⟨hP, hD⟩ := va_join (wr := []) (w1 := [(a_r, .inr (4, [.ref a_tk, .ref a_rh, .ref a_rs, .ref a_rc, .int z85, .int z86, .int z87, .int e_fp])), (a_tk, .inr (8, [.ref a_kd, .ref a_nm, .ref a_pl])), (a_kd, .inl (G.2 0, 401, .inl f_kd)), (a_nm, .inl (G.2 0, 401, .inl f_nm)), (a_rc, .inl (G.2 0, 400, .inl z88))]) hP hD [2, 3, 4, 0, 1] [] rfl rfl (by decide) (by decide) hk1 hFc hP1 hD1
                      generalize H1 = H at hP hS ⊢
                      have hP : va_P G.1 vwCl [(a_r, .inr (4, [.ref a_tk, .ref a_rh, .ref a_rs, .ref a_rc, .int z85, .int z86, .int z87, .int e_fp])), (a_tk, .inr (8, [.ref a_kd, .ref a_nm, .ref a_pl])), (a_kd, .inl (G.2 0, 401, .inl f_kd)), (a_nm, .inl (G.2 0, 401, .inl f_nm)), (a_rc, .inl (G.2 0, 400, .inl z88))] H := hP
                      have hD : va_D A [(a_r, .inr (4, [.ref a_tk, .ref a_rh, .ref a_rs, .ref a_rc, .int z85, .int z86, .int z87, .int e_fp])), (a_tk, .inr (8, [.ref a_kd, .ref a_nm, .ref a_pl])), (a_kd, .inl (G.2 0, 401, .inl f_kd)), (a_nm, .inl (G.2 0, 401, .inl f_nm)), (a_rc, .inl (G.2 0, 400, .inl z88))] := hD
                      refine g5_ti (v := z84) y89 ?_
                      refine lv_if_ne (tgt := 146) hx hb dX4_readSum_141 (by decide) (fun c_90 => ?_) (fun c_90 => ?_)
                      ·
                        have n_90 : gNe (z84.toInt) (0) := by have z := g5_ne (a := z84.toInt) (b := 0) (by rfl) (by decide) c_90; unfold gNe; omega
                        have i_90 : z84.toInt ≥ 1 := by have z := g5_ne (a := z84.toInt) (b := 0) (by rfl) (by decide) c_90; omega
                        refine lv_iload hx hb dX4_readSum_146 (lv_at hl 0 rfl) ?_
                        refine lv_if_eq (tgt := 157) hx hb dX4_readSum_148 (by decide) (fun c_91 => ?_) (fun c_91 => ?_)
                        ·
                          exact absurd c_91 (by decide)
                        ·
                          refine lv_iload hx hb dX4_readSum_151 (lv_at hl 1 rfl) ?_
                          refine lv_istore_n (lv' := [(2, .int 3), (5, .int 1), (4, .int 3), (3, .int k_i), (0, .ref a_r), (1, .int p_d)]) hx hb dX4_readSum_153 rfl hl (by decide) rfl (fun ls hl => ?_)
                          refine lv_goto (tgt := 165) hx hb dX4_readSum_154 (by decide) ?_
                          refine lv_iinc (v := (k_i + 1)) (lv' := [(3, .int (k_i + 1)), (2, .int 3), (5, .int 1), (4, .int 3), (0, .ref a_r), (1, .int p_d)]) hx hb dX4_readSum_165 hl (k := 3) rfl rfl (by decide) rfl (fun ls hl => ?_)
                          have t_92 : (k_i + 1).toInt = k_i.toInt + 1 := g5_iadd (a := k_i.toInt) (b := 1) rfl (by decide) (by omega) (by omega)
                          refine lv_goto (tgt := 14) hx hb dX4_readSum_168 (by decide) ?_
                          exact ih_14_21 (3, (k_i + 1), z85, z86, z87, z88) ls H locs (show Int.toNat (400 - (k_i + 1).toInt) < Int.toNat (400 - k_i.toInt) from g_up (show k_i.toInt < (k_i + 1).toInt by omega) (show k_i.toInt < 400 by omega)) ⟨lv_sub hl [1, 0, 4, 5] rfl, hP, hD, hS, ⟨by decide, by decide⟩, ⟨by omega, by omega⟩, ⟨by omega, by omega⟩, ⟨by omega, by omega⟩, by omega, i_82, opk_trans i_19 (i_83) (by omega), Or.inr (Or.inr (by decide))⟩
                      ·
                        have i_90 : z84.toInt = 0 := by have z := g5_neN (a := z84.toInt) (b := 0) (by rfl) (by decide) c_90; omega
                        refine lv_iconst (v := 0) hx hb dX4_readSum_144 (by decide) ?_
                        exact W.zret (v := 0) hx hb hr rfl (fun t ht hW => ⟨⟨0, [(a_r, .inr (4, [.ref a_tk, .ref a_rh, .ref a_rs, .ref a_rc, .int z85, .int z86, .int z87, .int e_fp])), (a_tk, .inr (8, [.ref a_kd, .ref a_nm, .ref a_pl])), (a_kd, .inl (G.2 0, 401, .inl f_kd)), (a_nm, .inl (G.2 0, 401, .inl f_nm)), (a_rc, .inl (G.2 0, 400, .inl z88))], rfl, ⟨0, z85, z86, z87, z88, ⟨by have zc_o_r : (0 : Int32).toInt = 0 := (by decide); omega, by have zc_o_r : (0 : Int32).toInt = 0 := (by decide); omega⟩, ⟨by omega, by omega⟩, ⟨by omega, by omega⟩, i_82, opk_trans i_19 (i_83) (by omega), rfl, rfl⟩, by rw [ht]; exact hP.sub [0, 1, 2, 3, 4] rfl, hD.sub [0, 1, 2, 3, 4] (by decide) rfl⟩, hS.F ht⟩) hS.2.2 dX4_readSum_145
                    ·
                      exact absurd c_77 (by decide)
                  ·
                    have n_76 : gNe (k_w.toInt) ((-1)) := by have z := g5_eqN (a := k_w.toInt) (b := (-1)) (by rfl) (by decide) c_76; unfold gNe; omega
                    have i_76 : k_w.toInt ≥ 0 := by have z := g5_eqN (a := k_w.toInt) (b := (-1)) (by rfl) (by decide) c_76; omega
                    refine lv_iload hx hb dX4_readSum_100 (lv_at hl 0 rfl) ?_
                    refine lv_if_ne (tgt := 111) hx hb dX4_readSum_102 (by decide) (fun c_93 => ?_) (fun c_93 => ?_)
                    ·
                      refine lv_aload_n hx hb dX4_readSum_111 rfl (lv_at hl 4 rfl) ?_
                      refine lv_iload_n hx hb dX4_readSum_112 rfl (lv_at hl 2 rfl) ?_
                      refine lv_iconst (v := 0) hx hb dX4_readSum_113 (by decide) ?_
                      have hPc := hP.sub (ws' := [(a_r, .inr (4, [.ref a_tk, .ref a_rh, .ref a_rs, .ref a_rc, .int k_ln, .int k_pa, .int k_at, .int e_fp])), (a_rc, .inl (G.2 0, 400, .inl k_rc))]) [2, 1] rfl
                      have hDc := hD.sub (ws' := [(a_r, .inr (4, [.ref a_tk, .ref a_rh, .ref a_rs, .ref a_rc, .int k_ln, .int k_pa, .int k_at, .int e_fp])), (a_rc, .inl (G.2 0, 400, .inl k_rc))]) [2, 1] (by decide) rfl
                      have hFc := va_free (wc := [(a_r, .inr (4, [.ref a_tk, .ref a_rh, .ref a_rs, .ref a_rc, .int k_ln, .int k_pa, .int k_at, .int e_fp])), (a_rc, .inl (G.2 0, 400, .inl k_rc))]) hD hS hA [2, 1] rfl
                      refine va_calli (va_runV (As := [.int k_w, .int 0]) (rest := []) ⟨hx, hb, hml, hown, hts⟩ (r_emit l G a_r a_rc a_tk a_rh a_rs H.size k_ln k_pa k_at e_fp k_w 0 k_rc ⟨by omega, by omega⟩ ⟨by omega, by omega⟩ (i_18) (wok_wait (by rcases i_20 with q | q | q; exact absurd q n_76; exact Or.inl q; exact Or.inr q))) (cwV 2 hts gV_X4_79 rfl rfl rfl hv_X4_emit ⟨by dsimp only; omega, by dsimp only; omega⟩) (g5_preV hPc hK hDc hN hT hS hFc (ci := 4) (q0 := 0) rfl rfl) rfl rfl hl.1 rfl (lv_room (Nat.le_of_ble_eq_true rfl)) dX4_readSum_114 ⟨Nat.le_of_ble_eq_true rfl, Nat.le_of_ble_eq_true rfl⟩) hS (fun q _ h => hFc q h) hFc (fun r u t H1 locs ht hvm hw hB hz1 hk1 hS => ?_)
                      obtain ⟨hP1, hD1⟩ := hB
                      rw [ht] at hP1
                      obtain ⟨z99, z100, z101, i_94, i_95, i_96, i_97, i_98, y102, rfl⟩ := hw
                      have i_94 : -1 ≤ z99.toInt ∧ z99.toInt ≤ 399 := i_94
                      have i_95 : k_ln.toInt ≤ z100.toInt ∧ z100.toInt ≤ 400 := i_95
                      have i_96 : CDI z101 z100.toInt := i_96
                      have i_97 : OPK k_rc z101 k_ln.toInt := i_97
                      have i_98 : 0 ≤ z99.toInt → z99.toInt < z100.toInt ∧ z101 z99.toNatClampNeg = ((k_w <<< (12 &&& 31)) ||| (0 : Int32)) := i_98
                      obtain ⟨hP, hD⟩ := va_join (wr := [(a_nm, .inl (G.2 0, 401, .inl f_nm)), (a_tk, .inr (8, [.ref a_kd, .ref a_nm, .ref a_pl])), (a_kd, .inl (G.2 0, 401, .inl f_kd))]) (w1 := [(a_r, .inr (4, [.ref a_tk, .ref a_rh, .ref a_rs, .ref a_rc, .int z100, .int k_pa, .int k_at, .int e_fp])), (a_rc, .inl (G.2 0, 400, .inl z101))]) hP hD [2, 1] [0, 3, 4] rfl rfl (by decide) (by decide) hk1 hFc hP1 hD1
                      generalize H1 = H at hP hS ⊢
                      have hP : va_P G.1 vwCl [(a_nm, .inl (G.2 0, 401, .inl f_nm)), (a_tk, .inr (8, [.ref a_kd, .ref a_nm, .ref a_pl])), (a_kd, .inl (G.2 0, 401, .inl f_kd)), (a_r, .inr (4, [.ref a_tk, .ref a_rh, .ref a_rs, .ref a_rc, .int z100, .int k_pa, .int k_at, .int e_fp])), (a_rc, .inl (G.2 0, 400, .inl z101))] H := hP
                      have hD : va_D A [(a_nm, .inl (G.2 0, 401, .inl f_nm)), (a_tk, .inr (8, [.ref a_kd, .ref a_nm, .ref a_pl])), (a_kd, .inl (G.2 0, 401, .inl f_kd)), (a_r, .inr (4, [.ref a_tk, .ref a_rh, .ref a_rs, .ref a_rc, .int z100, .int k_pa, .int k_at, .int e_fp])), (a_rc, .inl (G.2 0, 400, .inl z101))] := hD
                      refine g5_ti (v := z99) y102 ?_
                      refine lv_pop hx hb dX4_readSum_117 rfl ?_
                      refine lv_iload hx hb dX4_readSum_118 (lv_at hl 1 rfl) ?_
                      refine lv_iconst (v := (-1)) hx hb dX4_readSum_120 (by decide) ?_
                      refine lv_icmp_ne (tgt := 126) hx hb dX4_readSum_121 (by decide) (fun c_103 => ?_) (fun c_103 => ?_)
                      ·
                        refine lv_aload_n hx hb dX4_readSum_126 rfl (lv_at hl 4 rfl) ?_
                        refine lv_dup hx hb dX4_readSum_127 rfl ?_
                        refine va_get (D := G.1) (ci := 4) (v := .int k_at) (C := RX4) (T := TX4) (N := 8) hx hb hts inG_X4 hown hK hP 3 rfl rfl 6 (by decide) (hts _ fl_X4_42) (fun _ h9 => h9) rfl dX4_readSum_128 ?_
                        refine lv_iconst (v := 1) hx hb dX4_readSum_131 (by decide) ?_
                        refine lv_iadd hx hb dX4_readSum_132 ?_
                        have t_104 : (k_at + 1).toInt = k_at.toInt + 1 := g5_iadd (a := k_at.toInt) (b := 1) (by rfl) (by decide) (by omega) (by omega)
                        refine va_put (D := G.1) (ci := 4) (v := .int (k_at + 1)) (ty := .int) (C := RX4) (T := TX4) (N := 8) hx hb hts inG_X4 tyX4 tyX4_ok nmX4 hown hK hP hD hS 3 rfl rfl 6 (by decide) (hts _ fl_X4_42) (fun _ h9 => h9) rfl (by decide +kernel) rfl rfl (Nat.le_of_ble_eq_true rfl) dX4_readSum_133 (fun H locs hP hD hS => ?_)
                        have hP : va_P G.1 vwCl [(a_nm, .inl (G.2 0, 401, .inl f_nm)), (a_tk, .inr (8, [.ref a_kd, .ref a_nm, .ref a_pl])), (a_kd, .inl (G.2 0, 401, .inl f_kd)), (a_r, .inr (4, [.ref a_tk, .ref a_rh, .ref a_rs, .ref a_rc, .int z100, .int k_pa, .int (k_at + 1), .int e_fp])), (a_rc, .inl (G.2 0, 400, .inl z101))] H := hP
                        have hD : va_D A [(a_nm, .inl (G.2 0, 401, .inl f_nm)), (a_tk, .inr (8, [.ref a_kd, .ref a_nm, .ref a_pl])), (a_kd, .inl (G.2 0, 401, .inl f_kd)), (a_r, .inr (4, [.ref a_tk, .ref a_rh, .ref a_rs, .ref a_rc, .int z100, .int k_pa, .int (k_at + 1), .int e_fp])), (a_rc, .inl (G.2 0, 400, .inl z101))] := hD
                        refine lv_aload_n hx hb dX4_readSum_136 rfl (lv_at hl 4 rfl) ?_
                        refine lv_iload_n hx hb dX4_readSum_137 rfl (lv_at hl 5 rfl) ?_
                        have hPc := hP.sub (ws' := [(a_r, .inr (4, [.ref a_tk, .ref a_rh, .ref a_rs, .ref a_rc, .int z100, .int k_pa, .int (k_at + 1), .int e_fp])), (a_tk, .inr (8, [.ref a_kd, .ref a_nm, .ref a_pl])), (a_kd, .inl (G.2 0, 401, .inl f_kd)), (a_nm, .inl (G.2 0, 401, .inl f_nm)), (a_rc, .inl (G.2 0, 400, .inl z101))]) [3, 1, 2, 0, 4] rfl
                        have hDc := hD.sub (ws' := [(a_r, .inr (4, [.ref a_tk, .ref a_rh, .ref a_rs, .ref a_rc, .int z100, .int k_pa, .int (k_at + 1), .int e_fp])), (a_tk, .inr (8, [.ref a_kd, .ref a_nm, .ref a_pl])), (a_kd, .inl (G.2 0, 401, .inl f_kd)), (a_nm, .inl (G.2 0, 401, .inl f_nm)), (a_rc, .inl (G.2 0, 400, .inl z101))]) [3, 1, 2, 0, 4] (by decide) rfl
                        have hFc := va_free (wc := [(a_r, .inr (4, [.ref a_tk, .ref a_rh, .ref a_rs, .ref a_rc, .int z100, .int k_pa, .int (k_at + 1), .int e_fp])), (a_tk, .inr (8, [.ref a_kd, .ref a_nm, .ref a_pl])), (a_kd, .inl (G.2 0, 401, .inl f_kd)), (a_nm, .inl (G.2 0, 401, .inl f_nm)), (a_rc, .inl (G.2 0, 400, .inl z101))]) hD hS hA [3, 1, 2, 0, 4] rfl
                        refine va_calli (va_runV (As := [.int p_d]) (rest := []) ⟨hx, hb, hml, hown, hts⟩ ((r_part fr lo p_d h_p_d h_sum) l G a_r a_tk a_kd a_nm a_rc a_rh a_rs a_pl H.size z100 k_pa (k_at + 1) e_fp f_kd f_nm z101 ⟨by omega, by omega⟩ ⟨by omega, by omega⟩ (e_tk) (i_96)) (cwV 1 hts gV_X4_90 rfl rfl rfl hv_X4_readPart ⟨by dsimp only; omega, by dsimp only; omega⟩) (g5_preV hPc hK hDc hN hT hS hFc (ci := 4) (q0 := 0) rfl rfl) rfl rfl hl.1 rfl (lv_room (Nat.le_of_ble_eq_true rfl)) dX4_readSum_138 ⟨Nat.le_of_ble_eq_true rfl, Nat.le_of_ble_eq_true rfl⟩) hS (fun q _ h => hFc q h) hFc (fun r u t H1 locs ht hvm hw hB hz1 hk1 hS => ?_)
                        obtain ⟨hP1, hD1⟩ := hB
                        rw [ht] at hP1
                        obtain ⟨z110, z111, z112, z113, z114, i_105, i_106, i_107, i_108, i_109, y115, rfl⟩ := hw
                        have i_105 : 0 ≤ z110.toInt ∧ z110.toInt ≤ 1 := i_105
                        have i_106 : z100.toInt ≤ z111.toInt ∧ z111.toInt ≤ 400 := i_106
                        have i_107 : 0 ≤ z113.toInt ∧ z113.toInt ≤ 401 := i_107
                        have i_108 : CDI z114 z111.toInt := i_108
                        have i_109 : OPK z101 z114 z100.toInt := i_109
                        obtain ⟨hP, hD⟩ := va_join (wr := []) (w1 := [(a_r, .inr (4, [.ref a_tk, .ref a_rh, .ref a_rs, .ref a_rc, .int z111, .int z112, .int z113, .int e_fp])), (a_tk, .inr (8, [.ref a_kd, .ref a_nm, .ref a_pl])), (a_kd, .inl (G.2 0, 401, .inl f_kd)), (a_nm, .inl (G.2 0, 401, .inl f_nm)), (a_rc, .inl (G.2 0, 400, .inl z114))]) hP hD [3, 1, 2, 0, 4] [] rfl rfl (by decide) (by decide) hk1 hFc hP1 hD1
                        generalize H1 = H at hP hS ⊢
                        have hP : va_P G.1 vwCl [(a_r, .inr (4, [.ref a_tk, .ref a_rh, .ref a_rs, .ref a_rc, .int z111, .int z112, .int z113, .int e_fp])), (a_tk, .inr (8, [.ref a_kd, .ref a_nm, .ref a_pl])), (a_kd, .inl (G.2 0, 401, .inl f_kd)), (a_nm, .inl (G.2 0, 401, .inl f_nm)), (a_rc, .inl (G.2 0, 400, .inl z114))] H := hP
                        have hD : va_D A [(a_r, .inr (4, [.ref a_tk, .ref a_rh, .ref a_rs, .ref a_rc, .int z111, .int z112, .int z113, .int e_fp])), (a_tk, .inr (8, [.ref a_kd, .ref a_nm, .ref a_pl])), (a_kd, .inl (G.2 0, 401, .inl f_kd)), (a_nm, .inl (G.2 0, 401, .inl f_nm)), (a_rc, .inl (G.2 0, 400, .inl z114))] := hD
                        refine g5_ti (v := z110) y115 ?_
                        refine lv_if_ne (tgt := 146) hx hb dX4_readSum_141 (by decide) (fun c_116 => ?_) (fun c_116 => ?_)
                        ·
                          have n_116 : gNe (z110.toInt) (0) := by have z := g5_ne (a := z110.toInt) (b := 0) (by rfl) (by decide) c_116; unfold gNe; omega
                          have i_116 : z110.toInt ≥ 1 := by have z := g5_ne (a := z110.toInt) (b := 0) (by rfl) (by decide) c_116; omega
                          refine lv_iload hx hb dX4_readSum_146 (lv_at hl 0 rfl) ?_
                          refine lv_if_eq (tgt := 157) hx hb dX4_readSum_148 (by decide) (fun c_117 => ?_) (fun c_117 => ?_)
                          ·
                            exact absurd c_117 (by decide)
                          ·
                            refine lv_iload hx hb dX4_readSum_151 (lv_at hl 1 rfl) ?_
                            refine lv_istore_n (lv' := [(2, .int 3), (5, .int 1), (4, .int 3), (3, .int k_i), (0, .ref a_r), (1, .int p_d)]) hx hb dX4_readSum_153 rfl hl (by decide) rfl (fun ls hl => ?_)
                            refine lv_goto (tgt := 165) hx hb dX4_readSum_154 (by decide) ?_
                            refine lv_iinc (v := (k_i + 1)) (lv' := [(3, .int (k_i + 1)), (2, .int 3), (5, .int 1), (4, .int 3), (0, .ref a_r), (1, .int p_d)]) hx hb dX4_readSum_165 hl (k := 3) rfl rfl (by decide) rfl (fun ls hl => ?_)
                            have t_118 : (k_i + 1).toInt = k_i.toInt + 1 := g5_iadd (a := k_i.toInt) (b := 1) rfl (by decide) (by omega) (by omega)
                            refine lv_goto (tgt := 14) hx hb dX4_readSum_168 (by decide) ?_
                            exact ih_14_21 (3, (k_i + 1), z111, z112, z113, z114) ls H locs (show Int.toNat (400 - (k_i + 1).toInt) < Int.toNat (400 - k_i.toInt) from g_up (show k_i.toInt < (k_i + 1).toInt by omega) (show k_i.toInt < 400 by omega)) ⟨lv_sub hl [1, 0, 4, 5] rfl, hP, hD, hS, ⟨by decide, by decide⟩, ⟨by omega, by omega⟩, ⟨by omega, by omega⟩, ⟨by omega, by omega⟩, by omega, i_108, opk_trans i_19 (opk_trans i_97 (i_109) (by omega)) (by omega), Or.inr (Or.inr (by decide))⟩
                        ·
                          have i_116 : z110.toInt = 0 := by have z := g5_neN (a := z110.toInt) (b := 0) (by rfl) (by decide) c_116; omega
                          refine lv_iconst (v := 0) hx hb dX4_readSum_144 (by decide) ?_
                          exact W.zret (v := 0) hx hb hr rfl (fun t ht hW => ⟨⟨0, [(a_r, .inr (4, [.ref a_tk, .ref a_rh, .ref a_rs, .ref a_rc, .int z111, .int z112, .int z113, .int e_fp])), (a_tk, .inr (8, [.ref a_kd, .ref a_nm, .ref a_pl])), (a_kd, .inl (G.2 0, 401, .inl f_kd)), (a_nm, .inl (G.2 0, 401, .inl f_nm)), (a_rc, .inl (G.2 0, 400, .inl z114))], rfl, ⟨0, z111, z112, z113, z114, ⟨by have zc_o_r : (0 : Int32).toInt = 0 := (by decide); omega, by have zc_o_r : (0 : Int32).toInt = 0 := (by decide); omega⟩, ⟨by omega, by omega⟩, ⟨by omega, by omega⟩, i_108, opk_trans i_19 (opk_trans i_97 (i_109) (by omega)) (by omega), rfl, rfl⟩, by rw [ht]; exact hP.sub [0, 1, 2, 3, 4] rfl, hD.sub [0, 1, 2, 3, 4] (by decide) rfl⟩, hS.F ht⟩) hS.2.2 dX4_readSum_145
                      ·
                        exact absurd c_103 (by decide)
                    ·
                      exact absurd c_93 (by decide)
          ·
            obtain ⟨hP, hD⟩ := va_join (wr := [(a_nm, .inl (G.2 0, 401, .inl f_nm)), (a_rc, .inl (G.2 0, 400, .inl k_rc))]) (w1 := [(a_r, .inr (4, [.ref a_tk, .ref a_rh, .ref a_rs, .ref a_rc, .int k_ln, .int k_pa, .int k_at, .int e_fp])), (a_tk, .inr (8, [.ref a_kd, .ref a_nm, .ref a_pl])), (a_kd, .inl (G.2 0, 401, .inl f_kd))]) hP hD [2, 3, 4] [0, 1] rfl rfl (by decide) (by decide) hk1 hFc hP1 hD1
            generalize H1 = H at hP hS ⊢
            have hP : va_P G.1 vwCl [(a_nm, .inl (G.2 0, 401, .inl f_nm)), (a_rc, .inl (G.2 0, 400, .inl k_rc)), (a_r, .inr (4, [.ref a_tk, .ref a_rh, .ref a_rs, .ref a_rc, .int k_ln, .int k_pa, .int k_at, .int e_fp])), (a_tk, .inr (8, [.ref a_kd, .ref a_nm, .ref a_pl])), (a_kd, .inl (G.2 0, 401, .inl f_kd))] H := hP
            have hD : va_D A [(a_nm, .inl (G.2 0, 401, .inl f_nm)), (a_rc, .inl (G.2 0, 400, .inl k_rc)), (a_r, .inr (4, [.ref a_tk, .ref a_rh, .ref a_rs, .ref a_rc, .int k_ln, .int k_pa, .int k_at, .int e_fp])), (a_tk, .inr (8, [.ref a_kd, .ref a_nm, .ref a_pl])), (a_kd, .inl (G.2 0, 401, .inl f_kd))] := hD
            refine lv_if_eq (tgt := 47) hx hb dX4_readSum_40 (by decide) (fun c_119 => ?_) (fun c_119 => ?_)
            ·
              refine lv_aload_n hx hb dX4_readSum_47 rfl (lv_at hl 2 rfl) ?_
              refine lv_bipush (v := 42) hx hb dX4_readSum_48 (by decide) ?_
              have hPc := hP.sub (ws' := [(a_r, .inr (4, [.ref a_tk, .ref a_rh, .ref a_rs, .ref a_rc, .int k_ln, .int k_pa, .int k_at, .int e_fp])), (a_tk, .inr (8, [.ref a_kd, .ref a_nm, .ref a_pl])), (a_kd, .inl (G.2 0, 401, .inl f_kd))]) [2, 3, 4] rfl
              have hDc := hD.sub (ws' := [(a_r, .inr (4, [.ref a_tk, .ref a_rh, .ref a_rs, .ref a_rc, .int k_ln, .int k_pa, .int k_at, .int e_fp])), (a_tk, .inr (8, [.ref a_kd, .ref a_nm, .ref a_pl])), (a_kd, .inl (G.2 0, 401, .inl f_kd))]) [2, 3, 4] (by decide) rfl
              have hFc := va_free (wc := [(a_r, .inr (4, [.ref a_tk, .ref a_rh, .ref a_rs, .ref a_rc, .int k_ln, .int k_pa, .int k_at, .int e_fp])), (a_tk, .inr (8, [.ref a_kd, .ref a_nm, .ref a_pl])), (a_kd, .inl (G.2 0, 401, .inl f_kd))]) hD hS hA [2, 3, 4] rfl
              refine va_calli (va_runV (As := [.int 42]) (rest := []) ⟨hx, hb, hml, hown, hts⟩ (r_isNext l G a_r a_tk a_kd a_rh a_rs a_rc a_nm a_pl H.size k_ln k_pa k_at e_fp 42 f_kd ⟨by omega, by omega⟩ ⟨by omega, by omega⟩) (cwV 1 hts gV_X4_49 rfl rfl rfl hv_X4_isNext ⟨by dsimp only; omega, by dsimp only; omega⟩) (g5_preV hPc hK hDc hN hT hS hFc (ci := 4) (q0 := 0) rfl rfl) rfl rfl hl.1 rfl (lv_room (Nat.le_of_ble_eq_true rfl)) dX4_readSum_50 ⟨Nat.le_of_ble_eq_true rfl, Nat.le_of_ble_eq_true rfl⟩) hS (fun q _ h => hFc q h) hFc (fun r u t H1 locs ht hvm hw hB hz1 hk1 hS => ?_)
              obtain ⟨hP1, hD1⟩ := hB
              rw [ht] at hP1
              rcases hw with ⟨i_120, i_121, rfl, rfl⟩ | ⟨rfl, rfl⟩
              ·
                have i_120 : k_at.toInt ≤ 400 := i_120
                have i_121 : f_kd k_at.toNatClampNeg = (42 : Int32) := i_121
                obtain ⟨hP, hD⟩ := va_join (wr := [(a_nm, .inl (G.2 0, 401, .inl f_nm)), (a_rc, .inl (G.2 0, 400, .inl k_rc))]) (w1 := [(a_r, .inr (4, [.ref a_tk, .ref a_rh, .ref a_rs, .ref a_rc, .int k_ln, .int k_pa, .int k_at, .int e_fp])), (a_tk, .inr (8, [.ref a_kd, .ref a_nm, .ref a_pl])), (a_kd, .inl (G.2 0, 401, .inl f_kd))]) hP hD [2, 3, 4] [0, 1] rfl rfl (by decide) (by decide) hk1 hFc hP1 hD1
                generalize H1 = H at hP hS ⊢
                have hP : va_P G.1 vwCl [(a_nm, .inl (G.2 0, 401, .inl f_nm)), (a_rc, .inl (G.2 0, 400, .inl k_rc)), (a_r, .inr (4, [.ref a_tk, .ref a_rh, .ref a_rs, .ref a_rc, .int k_ln, .int k_pa, .int k_at, .int e_fp])), (a_tk, .inr (8, [.ref a_kd, .ref a_nm, .ref a_pl])), (a_kd, .inl (G.2 0, 401, .inl f_kd))] H := hP
                have hD : va_D A [(a_nm, .inl (G.2 0, 401, .inl f_nm)), (a_rc, .inl (G.2 0, 400, .inl k_rc)), (a_r, .inr (4, [.ref a_tk, .ref a_rh, .ref a_rs, .ref a_rc, .int k_ln, .int k_pa, .int k_at, .int e_fp])), (a_tk, .inr (8, [.ref a_kd, .ref a_nm, .ref a_pl])), (a_kd, .inl (G.2 0, 401, .inl f_kd))] := hD
                refine lv_if_eq (tgt := 60) hx hb dX4_readSum_53 (by decide) (fun c_122 => ?_) (fun c_122 => ?_)
                ·
                  exact absurd c_122 (by decide)
                ·
                  refine lv_iconst (v := 4) hx hb dX4_readSum_56 (by decide) ?_
                  refine lv_goto (tgt := 74) hx hb dX4_readSum_57 (by decide) ?_
                  refine lv_istore (lv' := [(4, .int 4), (2, .int k_w), (3, .int k_i), (0, .ref a_r), (1, .int p_d)]) hx hb dX4_readSum_74 hl (by decide) rfl (fun ls hl => ?_)
                  refine lv_iload hx hb dX4_readSum_76 (lv_at hl 0 rfl) ?_
                  refine lv_iconst (v := 2) hx hb dX4_readSum_78 (by decide) ?_
                  refine lv_icmp_eq (tgt := 88) hx hb dX4_readSum_79 (by decide) (fun c_123 => ?_) (fun c_123 => ?_)
                  ·
                    exact absurd c_123 (by decide)
                  ·
                    refine lv_iload hx hb dX4_readSum_82 (lv_at hl 0 rfl) ?_
                    refine lv_iconst (v := 3) hx hb dX4_readSum_84 (by decide) ?_
                    refine lv_icmp_ne (tgt := 92) hx hb dX4_readSum_85 (by decide) (fun c_124 => ?_) (fun c_124 => ?_)
                    ·
                      refine lv_iconst (v := 0) hx hb dX4_readSum_92 (by decide) ?_
                      refine lv_istore (lv' := [(5, .int 0), (4, .int 4), (2, .int k_w), (3, .int k_i), (0, .ref a_r), (1, .int p_d)]) hx hb dX4_readSum_93 hl (by decide) rfl (fun ls hl => ?_)
                      refine lv_iload_n hx hb dX4_readSum_95 rfl (lv_at hl 2 rfl) ?_
                      refine lv_iconst (v := (-1)) hx hb dX4_readSum_96 (by decide) ?_
                      refine lv_icmp_eq (tgt := 118) hx hb dX4_readSum_97 (by decide) (fun c_125 => ?_) (fun c_125 => ?_)
                      ·
                        have i_125 : k_w.toInt = (-1) := by have z := g5_eq (a := k_w.toInt) (b := (-1)) (by rfl) (by decide) c_125; omega
                        refine lv_iload hx hb dX4_readSum_118 (lv_at hl 1 rfl) ?_
                        refine lv_iconst (v := (-1)) hx hb dX4_readSum_120 (by decide) ?_
                        refine lv_icmp_ne (tgt := 126) hx hb dX4_readSum_121 (by decide) (fun c_126 => ?_) (fun c_126 => ?_)
                        ·
                          refine lv_aload_n hx hb dX4_readSum_126 rfl (lv_at hl 4 rfl) ?_
                          refine lv_dup hx hb dX4_readSum_127 rfl ?_
                          refine va_get (D := G.1) (ci := 4) (v := .int k_at) (C := RX4) (T := TX4) (N := 8) hx hb hts inG_X4 hown hK hP 2 rfl rfl 6 (by decide) (hts _ fl_X4_42) (fun _ h9 => h9) rfl dX4_readSum_128 ?_
                          refine lv_iconst (v := 1) hx hb dX4_readSum_131 (by decide) ?_
                          refine lv_iadd hx hb dX4_readSum_132 ?_
                          have t_127 : (k_at + 1).toInt = k_at.toInt + 1 := g5_iadd (a := k_at.toInt) (b := 1) (by rfl) (by decide) (by omega) (by omega)
                          refine va_put (D := G.1) (ci := 4) (v := .int (k_at + 1)) (ty := .int) (C := RX4) (T := TX4) (N := 8) hx hb hts inG_X4 tyX4 tyX4_ok nmX4 hown hK hP hD hS 2 rfl rfl 6 (by decide) (hts _ fl_X4_42) (fun _ h9 => h9) rfl (by decide +kernel) rfl rfl (Nat.le_of_ble_eq_true rfl) dX4_readSum_133 (fun H locs hP hD hS => ?_)
                          have hP : va_P G.1 vwCl [(a_nm, .inl (G.2 0, 401, .inl f_nm)), (a_rc, .inl (G.2 0, 400, .inl k_rc)), (a_r, .inr (4, [.ref a_tk, .ref a_rh, .ref a_rs, .ref a_rc, .int k_ln, .int k_pa, .int (k_at + 1), .int e_fp])), (a_tk, .inr (8, [.ref a_kd, .ref a_nm, .ref a_pl])), (a_kd, .inl (G.2 0, 401, .inl f_kd))] H := hP
                          have hD : va_D A [(a_nm, .inl (G.2 0, 401, .inl f_nm)), (a_rc, .inl (G.2 0, 400, .inl k_rc)), (a_r, .inr (4, [.ref a_tk, .ref a_rh, .ref a_rs, .ref a_rc, .int k_ln, .int k_pa, .int (k_at + 1), .int e_fp])), (a_tk, .inr (8, [.ref a_kd, .ref a_nm, .ref a_pl])), (a_kd, .inl (G.2 0, 401, .inl f_kd))] := hD
                          refine lv_aload_n hx hb dX4_readSum_136 rfl (lv_at hl 4 rfl) ?_
                          refine lv_iload_n hx hb dX4_readSum_137 rfl (lv_at hl 5 rfl) ?_
                          have hPc := hP.sub (ws' := [(a_r, .inr (4, [.ref a_tk, .ref a_rh, .ref a_rs, .ref a_rc, .int k_ln, .int k_pa, .int (k_at + 1), .int e_fp])), (a_tk, .inr (8, [.ref a_kd, .ref a_nm, .ref a_pl])), (a_kd, .inl (G.2 0, 401, .inl f_kd)), (a_nm, .inl (G.2 0, 401, .inl f_nm)), (a_rc, .inl (G.2 0, 400, .inl k_rc))]) [2, 3, 4, 0, 1] rfl
                          have hDc := hD.sub (ws' := [(a_r, .inr (4, [.ref a_tk, .ref a_rh, .ref a_rs, .ref a_rc, .int k_ln, .int k_pa, .int (k_at + 1), .int e_fp])), (a_tk, .inr (8, [.ref a_kd, .ref a_nm, .ref a_pl])), (a_kd, .inl (G.2 0, 401, .inl f_kd)), (a_nm, .inl (G.2 0, 401, .inl f_nm)), (a_rc, .inl (G.2 0, 400, .inl k_rc))]) [2, 3, 4, 0, 1] (by decide) rfl
                          have hFc := va_free (wc := [(a_r, .inr (4, [.ref a_tk, .ref a_rh, .ref a_rs, .ref a_rc, .int k_ln, .int k_pa, .int (k_at + 1), .int e_fp])), (a_tk, .inr (8, [.ref a_kd, .ref a_nm, .ref a_pl])), (a_kd, .inl (G.2 0, 401, .inl f_kd)), (a_nm, .inl (G.2 0, 401, .inl f_nm)), (a_rc, .inl (G.2 0, 400, .inl k_rc))]) hD hS hA [2, 3, 4, 0, 1] rfl
                          refine va_calli (va_runV (As := [.int p_d]) (rest := []) ⟨hx, hb, hml, hown, hts⟩ ((r_part fr lo p_d h_p_d h_sum) l G a_r a_tk a_kd a_nm a_rc a_rh a_rs a_pl H.size k_ln k_pa (k_at + 1) e_fp f_kd f_nm k_rc ⟨by omega, by omega⟩ ⟨by omega, by omega⟩ (e_tk) (i_18)) (cwV 1 hts gV_X4_90 rfl rfl rfl hv_X4_readPart ⟨by dsimp only; omega, by dsimp only; omega⟩) (g5_preV hPc hK hDc hN hT hS hFc (ci := 4) (q0 := 0) rfl rfl) rfl rfl hl.1 rfl (lv_room (Nat.le_of_ble_eq_true rfl)) dX4_readSum_138 ⟨Nat.le_of_ble_eq_true rfl, Nat.le_of_ble_eq_true rfl⟩) hS (fun q _ h => hFc q h) hFc (fun r u t H1 locs ht hvm hw hB hz1 hk1 hS => ?_)
                          obtain ⟨hP1, hD1⟩ := hB
                          rw [ht] at hP1
                          obtain ⟨z133, z134, z135, z136, z137, i_128, i_129, i_130, i_131, i_132, y138, rfl⟩ := hw
                          have i_128 : 0 ≤ z133.toInt ∧ z133.toInt ≤ 1 := i_128
                          have i_129 : k_ln.toInt ≤ z134.toInt ∧ z134.toInt ≤ 400 := i_129
                          have i_130 : 0 ≤ z136.toInt ∧ z136.toInt ≤ 401 := i_130
                          have i_131 : CDI z137 z134.toInt := i_131
                          have i_132 : OPK k_rc z137 k_ln.toInt := i_132
                          obtain ⟨hP, hD⟩ := va_join (wr := []) (w1 := [(a_r, .inr (4, [.ref a_tk, .ref a_rh, .ref a_rs, .ref a_rc, .int z134, .int z135, .int z136, .int e_fp])), (a_tk, .inr (8, [.ref a_kd, .ref a_nm, .ref a_pl])), (a_kd, .inl (G.2 0, 401, .inl f_kd)), (a_nm, .inl (G.2 0, 401, .inl f_nm)), (a_rc, .inl (G.2 0, 400, .inl z137))]) hP hD [2, 3, 4, 0, 1] [] rfl rfl (by decide) (by decide) hk1 hFc hP1 hD1
                          generalize H1 = H at hP hS ⊢
                          have hP : va_P G.1 vwCl [(a_r, .inr (4, [.ref a_tk, .ref a_rh, .ref a_rs, .ref a_rc, .int z134, .int z135, .int z136, .int e_fp])), (a_tk, .inr (8, [.ref a_kd, .ref a_nm, .ref a_pl])), (a_kd, .inl (G.2 0, 401, .inl f_kd)), (a_nm, .inl (G.2 0, 401, .inl f_nm)), (a_rc, .inl (G.2 0, 400, .inl z137))] H := hP
                          have hD : va_D A [(a_r, .inr (4, [.ref a_tk, .ref a_rh, .ref a_rs, .ref a_rc, .int z134, .int z135, .int z136, .int e_fp])), (a_tk, .inr (8, [.ref a_kd, .ref a_nm, .ref a_pl])), (a_kd, .inl (G.2 0, 401, .inl f_kd)), (a_nm, .inl (G.2 0, 401, .inl f_nm)), (a_rc, .inl (G.2 0, 400, .inl z137))] := hD
                          refine g5_ti (v := z133) y138 ?_
                          refine lv_if_ne (tgt := 146) hx hb dX4_readSum_141 (by decide) (fun c_139 => ?_) (fun c_139 => ?_)
                          ·
                            have n_139 : gNe (z133.toInt) (0) := by have z := g5_ne (a := z133.toInt) (b := 0) (by rfl) (by decide) c_139; unfold gNe; omega
                            have i_139 : z133.toInt ≥ 1 := by have z := g5_ne (a := z133.toInt) (b := 0) (by rfl) (by decide) c_139; omega
                            refine lv_iload hx hb dX4_readSum_146 (lv_at hl 0 rfl) ?_
                            refine lv_if_eq (tgt := 157) hx hb dX4_readSum_148 (by decide) (fun c_140 => ?_) (fun c_140 => ?_)
                            ·
                              refine lv_aload_n hx hb dX4_readSum_157 rfl (lv_at hl 4 rfl) ?_
                              refine lv_iload hx hb dX4_readSum_158 (lv_at hl 1 rfl) ?_
                              refine lv_iconst (v := 0) hx hb dX4_readSum_160 (by decide) ?_
                              have hPc := hP.sub (ws' := [(a_r, .inr (4, [.ref a_tk, .ref a_rh, .ref a_rs, .ref a_rc, .int z134, .int z135, .int z136, .int e_fp])), (a_rc, .inl (G.2 0, 400, .inl z137))]) [0, 4] rfl
                              have hDc := hD.sub (ws' := [(a_r, .inr (4, [.ref a_tk, .ref a_rh, .ref a_rs, .ref a_rc, .int z134, .int z135, .int z136, .int e_fp])), (a_rc, .inl (G.2 0, 400, .inl z137))]) [0, 4] (by decide) rfl
                              have hFc := va_free (wc := [(a_r, .inr (4, [.ref a_tk, .ref a_rh, .ref a_rs, .ref a_rc, .int z134, .int z135, .int z136, .int e_fp])), (a_rc, .inl (G.2 0, 400, .inl z137))]) hD hS hA [0, 4] rfl
                              refine va_calli (va_runV (As := [.int 4, .int 0]) (rest := []) ⟨hx, hb, hml, hown, hts⟩ (r_emit l G a_r a_rc a_tk a_rh a_rs H.size z134 z135 z136 e_fp 4 0 z137 ⟨by omega, by omega⟩ ⟨by omega, by omega⟩ (i_131) (by unfold wOK; decide)) (cwV 2 hts gV_X4_79 rfl rfl rfl hv_X4_emit ⟨by dsimp only; omega, by dsimp only; omega⟩) (g5_preV hPc hK hDc hN hT hS hFc (ci := 4) (q0 := 0) rfl rfl) rfl rfl hl.1 rfl (lv_room (Nat.le_of_ble_eq_true rfl)) dX4_readSum_161 ⟨Nat.le_of_ble_eq_true rfl, Nat.le_of_ble_eq_true rfl⟩) hS (fun q _ h => hFc q h) hFc (fun r u t H1 locs ht hvm hw hB hz1 hk1 hS => ?_)
                              obtain ⟨hP1, hD1⟩ := hB
                              rw [ht] at hP1
                              obtain ⟨z146, z147, z148, i_141, i_142, i_143, i_144, i_145, y149, rfl⟩ := hw
                              have i_141 : -1 ≤ z146.toInt ∧ z146.toInt ≤ 399 := i_141
                              have i_142 : z134.toInt ≤ z147.toInt ∧ z147.toInt ≤ 400 := i_142
                              have i_143 : CDI z148 z147.toInt := i_143
                              have i_144 : OPK z137 z148 z134.toInt := i_144
                              have i_145 : 0 ≤ z146.toInt → z146.toInt < z147.toInt ∧ z148 z146.toNatClampNeg = (((4 : Int32) <<< (12 &&& 31)) ||| (0 : Int32)) := i_145
                              obtain ⟨hP, hD⟩ := va_join (wr := [(a_tk, .inr (8, [.ref a_kd, .ref a_nm, .ref a_pl])), (a_kd, .inl (G.2 0, 401, .inl f_kd)), (a_nm, .inl (G.2 0, 401, .inl f_nm))]) (w1 := [(a_r, .inr (4, [.ref a_tk, .ref a_rh, .ref a_rs, .ref a_rc, .int z147, .int z135, .int z136, .int e_fp])), (a_rc, .inl (G.2 0, 400, .inl z148))]) hP hD [0, 4] [1, 2, 3] rfl rfl (by decide) (by decide) hk1 hFc hP1 hD1
                              generalize H1 = H at hP hS ⊢
                              have hP : va_P G.1 vwCl [(a_tk, .inr (8, [.ref a_kd, .ref a_nm, .ref a_pl])), (a_kd, .inl (G.2 0, 401, .inl f_kd)), (a_nm, .inl (G.2 0, 401, .inl f_nm)), (a_r, .inr (4, [.ref a_tk, .ref a_rh, .ref a_rs, .ref a_rc, .int z147, .int z135, .int z136, .int e_fp])), (a_rc, .inl (G.2 0, 400, .inl z148))] H := hP
                              have hD : va_D A [(a_tk, .inr (8, [.ref a_kd, .ref a_nm, .ref a_pl])), (a_kd, .inl (G.2 0, 401, .inl f_kd)), (a_nm, .inl (G.2 0, 401, .inl f_nm)), (a_r, .inr (4, [.ref a_tk, .ref a_rh, .ref a_rs, .ref a_rc, .int z147, .int z135, .int z136, .int e_fp])), (a_rc, .inl (G.2 0, 400, .inl z148))] := hD
                              refine g5_ti (v := z146) y149 ?_
                              refine lv_pop hx hb dX4_readSum_164 rfl ?_
                              refine lv_iinc (v := (k_i + 1)) (lv' := [(3, .int (k_i + 1)), (5, .int 0), (4, .int 4), (2, .int k_w), (0, .ref a_r), (1, .int p_d)]) hx hb dX4_readSum_165 hl (k := 3) rfl rfl (by decide) rfl (fun ls hl => ?_)
                              have t_150 : (k_i + 1).toInt = k_i.toInt + 1 := g5_iadd (a := k_i.toInt) (b := 1) rfl (by decide) (by omega) (by omega)
                              refine lv_goto (tgt := 14) hx hb dX4_readSum_168 (by decide) ?_
                              exact ih_14_21 (k_w, (k_i + 1), z147, z135, z136, z148) ls H locs (show Int.toNat (400 - (k_i + 1).toInt) < Int.toNat (400 - k_i.toInt) from g_up (show k_i.toInt < (k_i + 1).toInt by omega) (show k_i.toInt < 400 by omega)) ⟨lv_sub hl [3, 0, 4, 5] rfl, hP.sub [3, 0, 1, 2, 4] rfl, hD.sub [3, 0, 1, 2, 4] (by decide) rfl, hS, ⟨by omega, by omega⟩, ⟨by omega, by omega⟩, ⟨by omega, by omega⟩, ⟨by omega, by omega⟩, by omega, i_143, opk_trans i_19 (opk_trans i_132 (i_144) (by omega)) (by omega), i_20⟩
                            ·
                              exact absurd c_140 (by decide)
                          ·
                            have i_139 : z133.toInt = 0 := by have z := g5_neN (a := z133.toInt) (b := 0) (by rfl) (by decide) c_139; omega
                            refine lv_iconst (v := 0) hx hb dX4_readSum_144 (by decide) ?_
                            exact W.zret (v := 0) hx hb hr rfl (fun t ht hW => ⟨⟨0, [(a_r, .inr (4, [.ref a_tk, .ref a_rh, .ref a_rs, .ref a_rc, .int z134, .int z135, .int z136, .int e_fp])), (a_tk, .inr (8, [.ref a_kd, .ref a_nm, .ref a_pl])), (a_kd, .inl (G.2 0, 401, .inl f_kd)), (a_nm, .inl (G.2 0, 401, .inl f_nm)), (a_rc, .inl (G.2 0, 400, .inl z137))], rfl, ⟨0, z134, z135, z136, z137, ⟨by have zc_o_r : (0 : Int32).toInt = 0 := (by decide); omega, by have zc_o_r : (0 : Int32).toInt = 0 := (by decide); omega⟩, ⟨by omega, by omega⟩, ⟨by omega, by omega⟩, i_131, opk_trans i_19 (i_132) (by omega), rfl, rfl⟩, by rw [ht]; exact hP.sub [0, 1, 2, 3, 4] rfl, hD.sub [0, 1, 2, 3, 4] (by decide) rfl⟩, hS.F ht⟩) hS.2.2 dX4_readSum_145
                        ·
                          exact absurd c_126 (by decide)
                      ·
                        have n_125 : gNe (k_w.toInt) ((-1)) := by have z := g5_eqN (a := k_w.toInt) (b := (-1)) (by rfl) (by decide) c_125; unfold gNe; omega
                        have i_125 : k_w.toInt ≥ 0 := by have z := g5_eqN (a := k_w.toInt) (b := (-1)) (by rfl) (by decide) c_125; omega
                        refine lv_iload hx hb dX4_readSum_100 (lv_at hl 0 rfl) ?_
                        refine lv_if_ne (tgt := 111) hx hb dX4_readSum_102 (by decide) (fun c_151 => ?_) (fun c_151 => ?_)
                        ·
                          exact absurd c_151 (by decide)
                        ·
                          refine lv_iload hx hb dX4_readSum_105 (lv_at hl 1 rfl) ?_
                          refine lv_iconst (v := (-1)) hx hb dX4_readSum_107 (by decide) ?_
                          refine lv_icmp_ne (tgt := 118) hx hb dX4_readSum_108 (by decide) (fun c_152 => ?_) (fun c_152 => ?_)
                          ·
                            refine lv_iload hx hb dX4_readSum_118 (lv_at hl 1 rfl) ?_
                            refine lv_iconst (v := (-1)) hx hb dX4_readSum_120 (by decide) ?_
                            refine lv_icmp_ne (tgt := 126) hx hb dX4_readSum_121 (by decide) (fun c_153 => ?_) (fun c_153 => ?_)
                            ·
                              refine lv_aload_n hx hb dX4_readSum_126 rfl (lv_at hl 4 rfl) ?_
                              refine lv_dup hx hb dX4_readSum_127 rfl ?_
                              refine va_get (D := G.1) (ci := 4) (v := .int k_at) (C := RX4) (T := TX4) (N := 8) hx hb hts inG_X4 hown hK hP 2 rfl rfl 6 (by decide) (hts _ fl_X4_42) (fun _ h9 => h9) rfl dX4_readSum_128 ?_
                              refine lv_iconst (v := 1) hx hb dX4_readSum_131 (by decide) ?_
                              refine lv_iadd hx hb dX4_readSum_132 ?_
                              have t_154 : (k_at + 1).toInt = k_at.toInt + 1 := g5_iadd (a := k_at.toInt) (b := 1) (by rfl) (by decide) (by omega) (by omega)
                              refine va_put (D := G.1) (ci := 4) (v := .int (k_at + 1)) (ty := .int) (C := RX4) (T := TX4) (N := 8) hx hb hts inG_X4 tyX4 tyX4_ok nmX4 hown hK hP hD hS 2 rfl rfl 6 (by decide) (hts _ fl_X4_42) (fun _ h9 => h9) rfl (by decide +kernel) rfl rfl (Nat.le_of_ble_eq_true rfl) dX4_readSum_133 (fun H locs hP hD hS => ?_)
                              have hP : va_P G.1 vwCl [(a_nm, .inl (G.2 0, 401, .inl f_nm)), (a_rc, .inl (G.2 0, 400, .inl k_rc)), (a_r, .inr (4, [.ref a_tk, .ref a_rh, .ref a_rs, .ref a_rc, .int k_ln, .int k_pa, .int (k_at + 1), .int e_fp])), (a_tk, .inr (8, [.ref a_kd, .ref a_nm, .ref a_pl])), (a_kd, .inl (G.2 0, 401, .inl f_kd))] H := hP
                              have hD : va_D A [(a_nm, .inl (G.2 0, 401, .inl f_nm)), (a_rc, .inl (G.2 0, 400, .inl k_rc)), (a_r, .inr (4, [.ref a_tk, .ref a_rh, .ref a_rs, .ref a_rc, .int k_ln, .int k_pa, .int (k_at + 1), .int e_fp])), (a_tk, .inr (8, [.ref a_kd, .ref a_nm, .ref a_pl])), (a_kd, .inl (G.2 0, 401, .inl f_kd))] := hD
                              refine lv_aload_n hx hb dX4_readSum_136 rfl (lv_at hl 4 rfl) ?_
                              refine lv_iload_n hx hb dX4_readSum_137 rfl (lv_at hl 5 rfl) ?_
                              have hPc := hP.sub (ws' := [(a_r, .inr (4, [.ref a_tk, .ref a_rh, .ref a_rs, .ref a_rc, .int k_ln, .int k_pa, .int (k_at + 1), .int e_fp])), (a_tk, .inr (8, [.ref a_kd, .ref a_nm, .ref a_pl])), (a_kd, .inl (G.2 0, 401, .inl f_kd)), (a_nm, .inl (G.2 0, 401, .inl f_nm)), (a_rc, .inl (G.2 0, 400, .inl k_rc))]) [2, 3, 4, 0, 1] rfl
                              have hDc := hD.sub (ws' := [(a_r, .inr (4, [.ref a_tk, .ref a_rh, .ref a_rs, .ref a_rc, .int k_ln, .int k_pa, .int (k_at + 1), .int e_fp])), (a_tk, .inr (8, [.ref a_kd, .ref a_nm, .ref a_pl])), (a_kd, .inl (G.2 0, 401, .inl f_kd)), (a_nm, .inl (G.2 0, 401, .inl f_nm)), (a_rc, .inl (G.2 0, 400, .inl k_rc))]) [2, 3, 4, 0, 1] (by decide) rfl
                              have hFc := va_free (wc := [(a_r, .inr (4, [.ref a_tk, .ref a_rh, .ref a_rs, .ref a_rc, .int k_ln, .int k_pa, .int (k_at + 1), .int e_fp])), (a_tk, .inr (8, [.ref a_kd, .ref a_nm, .ref a_pl])), (a_kd, .inl (G.2 0, 401, .inl f_kd)), (a_nm, .inl (G.2 0, 401, .inl f_nm)), (a_rc, .inl (G.2 0, 400, .inl k_rc))]) hD hS hA [2, 3, 4, 0, 1] rfl
                              refine va_calli (va_runV (As := [.int p_d]) (rest := []) ⟨hx, hb, hml, hown, hts⟩ ((r_part fr lo p_d h_p_d h_sum) l G a_r a_tk a_kd a_nm a_rc a_rh a_rs a_pl H.size k_ln k_pa (k_at + 1) e_fp f_kd f_nm k_rc ⟨by omega, by omega⟩ ⟨by omega, by omega⟩ (e_tk) (i_18)) (cwV 1 hts gV_X4_90 rfl rfl rfl hv_X4_readPart ⟨by dsimp only; omega, by dsimp only; omega⟩) (g5_preV hPc hK hDc hN hT hS hFc (ci := 4) (q0 := 0) rfl rfl) rfl rfl hl.1 rfl (lv_room (Nat.le_of_ble_eq_true rfl)) dX4_readSum_138 ⟨Nat.le_of_ble_eq_true rfl, Nat.le_of_ble_eq_true rfl⟩) hS (fun q _ h => hFc q h) hFc (fun r u t H1 locs ht hvm hw hB hz1 hk1 hS => ?_)
                              obtain ⟨hP1, hD1⟩ := hB
                              rw [ht] at hP1
                              obtain ⟨z160, z161, z162, z163, z164, i_155, i_156, i_157, i_158, i_159, y165, rfl⟩ := hw
                              have i_155 : 0 ≤ z160.toInt ∧ z160.toInt ≤ 1 := i_155
                              have i_156 : k_ln.toInt ≤ z161.toInt ∧ z161.toInt ≤ 400 := i_156
                              have i_157 : 0 ≤ z163.toInt ∧ z163.toInt ≤ 401 := i_157
                              have i_158 : CDI z164 z161.toInt := i_158
                              have i_159 : OPK k_rc z164 k_ln.toInt := i_159
                              obtain ⟨hP, hD⟩ := va_join (wr := []) (w1 := [(a_r, .inr (4, [.ref a_tk, .ref a_rh, .ref a_rs, .ref a_rc, .int z161, .int z162, .int z163, .int e_fp])), (a_tk, .inr (8, [.ref a_kd, .ref a_nm, .ref a_pl])), (a_kd, .inl (G.2 0, 401, .inl f_kd)), (a_nm, .inl (G.2 0, 401, .inl f_nm)), (a_rc, .inl (G.2 0, 400, .inl z164))]) hP hD [2, 3, 4, 0, 1] [] rfl rfl (by decide) (by decide) hk1 hFc hP1 hD1
                              generalize H1 = H at hP hS ⊢
                              have hP : va_P G.1 vwCl [(a_r, .inr (4, [.ref a_tk, .ref a_rh, .ref a_rs, .ref a_rc, .int z161, .int z162, .int z163, .int e_fp])), (a_tk, .inr (8, [.ref a_kd, .ref a_nm, .ref a_pl])), (a_kd, .inl (G.2 0, 401, .inl f_kd)), (a_nm, .inl (G.2 0, 401, .inl f_nm)), (a_rc, .inl (G.2 0, 400, .inl z164))] H := hP
                              have hD : va_D A [(a_r, .inr (4, [.ref a_tk, .ref a_rh, .ref a_rs, .ref a_rc, .int z161, .int z162, .int z163, .int e_fp])), (a_tk, .inr (8, [.ref a_kd, .ref a_nm, .ref a_pl])), (a_kd, .inl (G.2 0, 401, .inl f_kd)), (a_nm, .inl (G.2 0, 401, .inl f_nm)), (a_rc, .inl (G.2 0, 400, .inl z164))] := hD
                              refine g5_ti (v := z160) y165 ?_
                              refine lv_if_ne (tgt := 146) hx hb dX4_readSum_141 (by decide) (fun c_166 => ?_) (fun c_166 => ?_)
                              ·
                                have n_166 : gNe (z160.toInt) (0) := by have z := g5_ne (a := z160.toInt) (b := 0) (by rfl) (by decide) c_166; unfold gNe; omega
                                have i_166 : z160.toInt ≥ 1 := by have z := g5_ne (a := z160.toInt) (b := 0) (by rfl) (by decide) c_166; omega
                                refine lv_iload hx hb dX4_readSum_146 (lv_at hl 0 rfl) ?_
                                refine lv_if_eq (tgt := 157) hx hb dX4_readSum_148 (by decide) (fun c_167 => ?_) (fun c_167 => ?_)
                                ·
                                  refine lv_aload_n hx hb dX4_readSum_157 rfl (lv_at hl 4 rfl) ?_
                                  refine lv_iload hx hb dX4_readSum_158 (lv_at hl 1 rfl) ?_
                                  refine lv_iconst (v := 0) hx hb dX4_readSum_160 (by decide) ?_
                                  have hPc := hP.sub (ws' := [(a_r, .inr (4, [.ref a_tk, .ref a_rh, .ref a_rs, .ref a_rc, .int z161, .int z162, .int z163, .int e_fp])), (a_rc, .inl (G.2 0, 400, .inl z164))]) [0, 4] rfl
                                  have hDc := hD.sub (ws' := [(a_r, .inr (4, [.ref a_tk, .ref a_rh, .ref a_rs, .ref a_rc, .int z161, .int z162, .int z163, .int e_fp])), (a_rc, .inl (G.2 0, 400, .inl z164))]) [0, 4] (by decide) rfl
                                  have hFc := va_free (wc := [(a_r, .inr (4, [.ref a_tk, .ref a_rh, .ref a_rs, .ref a_rc, .int z161, .int z162, .int z163, .int e_fp])), (a_rc, .inl (G.2 0, 400, .inl z164))]) hD hS hA [0, 4] rfl
                                  refine va_calli (va_runV (As := [.int 4, .int 0]) (rest := []) ⟨hx, hb, hml, hown, hts⟩ (r_emit l G a_r a_rc a_tk a_rh a_rs H.size z161 z162 z163 e_fp 4 0 z164 ⟨by omega, by omega⟩ ⟨by omega, by omega⟩ (i_158) (by unfold wOK; decide)) (cwV 2 hts gV_X4_79 rfl rfl rfl hv_X4_emit ⟨by dsimp only; omega, by dsimp only; omega⟩) (g5_preV hPc hK hDc hN hT hS hFc (ci := 4) (q0 := 0) rfl rfl) rfl rfl hl.1 rfl (lv_room (Nat.le_of_ble_eq_true rfl)) dX4_readSum_161 ⟨Nat.le_of_ble_eq_true rfl, Nat.le_of_ble_eq_true rfl⟩) hS (fun q _ h => hFc q h) hFc (fun r u t H1 locs ht hvm hw hB hz1 hk1 hS => ?_)
                                  obtain ⟨hP1, hD1⟩ := hB
                                  rw [ht] at hP1
                                  obtain ⟨z173, z174, z175, i_168, i_169, i_170, i_171, i_172, y176, rfl⟩ := hw
                                  have i_168 : -1 ≤ z173.toInt ∧ z173.toInt ≤ 399 := i_168
                                  have i_169 : z161.toInt ≤ z174.toInt ∧ z174.toInt ≤ 400 := i_169
                                  have i_170 : CDI z175 z174.toInt := i_170
                                  have i_171 : OPK z164 z175 z161.toInt := i_171
                                  have i_172 : 0 ≤ z173.toInt → z173.toInt < z174.toInt ∧ z175 z173.toNatClampNeg = (((4 : Int32) <<< (12 &&& 31)) ||| (0 : Int32)) := i_172
                                  obtain ⟨hP, hD⟩ := va_join (wr := [(a_tk, .inr (8, [.ref a_kd, .ref a_nm, .ref a_pl])), (a_kd, .inl (G.2 0, 401, .inl f_kd)), (a_nm, .inl (G.2 0, 401, .inl f_nm))]) (w1 := [(a_r, .inr (4, [.ref a_tk, .ref a_rh, .ref a_rs, .ref a_rc, .int z174, .int z162, .int z163, .int e_fp])), (a_rc, .inl (G.2 0, 400, .inl z175))]) hP hD [0, 4] [1, 2, 3] rfl rfl (by decide) (by decide) hk1 hFc hP1 hD1
                                  generalize H1 = H at hP hS ⊢
                                  have hP : va_P G.1 vwCl [(a_tk, .inr (8, [.ref a_kd, .ref a_nm, .ref a_pl])), (a_kd, .inl (G.2 0, 401, .inl f_kd)), (a_nm, .inl (G.2 0, 401, .inl f_nm)), (a_r, .inr (4, [.ref a_tk, .ref a_rh, .ref a_rs, .ref a_rc, .int z174, .int z162, .int z163, .int e_fp])), (a_rc, .inl (G.2 0, 400, .inl z175))] H := hP
                                  have hD : va_D A [(a_tk, .inr (8, [.ref a_kd, .ref a_nm, .ref a_pl])), (a_kd, .inl (G.2 0, 401, .inl f_kd)), (a_nm, .inl (G.2 0, 401, .inl f_nm)), (a_r, .inr (4, [.ref a_tk, .ref a_rh, .ref a_rs, .ref a_rc, .int z174, .int z162, .int z163, .int e_fp])), (a_rc, .inl (G.2 0, 400, .inl z175))] := hD
                                  refine g5_ti (v := z173) y176 ?_
                                  refine lv_pop hx hb dX4_readSum_164 rfl ?_
                                  refine lv_iinc (v := (k_i + 1)) (lv' := [(3, .int (k_i + 1)), (5, .int 0), (4, .int 4), (2, .int k_w), (0, .ref a_r), (1, .int p_d)]) hx hb dX4_readSum_165 hl (k := 3) rfl rfl (by decide) rfl (fun ls hl => ?_)
                                  have t_177 : (k_i + 1).toInt = k_i.toInt + 1 := g5_iadd (a := k_i.toInt) (b := 1) rfl (by decide) (by omega) (by omega)
                                  refine lv_goto (tgt := 14) hx hb dX4_readSum_168 (by decide) ?_
                                  exact ih_14_21 (k_w, (k_i + 1), z174, z162, z163, z175) ls H locs (show Int.toNat (400 - (k_i + 1).toInt) < Int.toNat (400 - k_i.toInt) from g_up (show k_i.toInt < (k_i + 1).toInt by omega) (show k_i.toInt < 400 by omega)) ⟨lv_sub hl [3, 0, 4, 5] rfl, hP.sub [3, 0, 1, 2, 4] rfl, hD.sub [3, 0, 1, 2, 4] (by decide) rfl, hS, ⟨by omega, by omega⟩, ⟨by omega, by omega⟩, ⟨by omega, by omega⟩, ⟨by omega, by omega⟩, by omega, i_170, opk_trans i_19 (opk_trans i_159 (i_171) (by omega)) (by omega), i_20⟩
                                ·
                                  exact absurd c_167 (by decide)
                              ·
                                have i_166 : z160.toInt = 0 := by have z := g5_neN (a := z160.toInt) (b := 0) (by rfl) (by decide) c_166; omega
                                refine lv_iconst (v := 0) hx hb dX4_readSum_144 (by decide) ?_
                                exact W.zret (v := 0) hx hb hr rfl (fun t ht hW => ⟨⟨0, [(a_r, .inr (4, [.ref a_tk, .ref a_rh, .ref a_rs, .ref a_rc, .int z161, .int z162, .int z163, .int e_fp])), (a_tk, .inr (8, [.ref a_kd, .ref a_nm, .ref a_pl])), (a_kd, .inl (G.2 0, 401, .inl f_kd)), (a_nm, .inl (G.2 0, 401, .inl f_nm)), (a_rc, .inl (G.2 0, 400, .inl z164))], rfl, ⟨0, z161, z162, z163, z164, ⟨by have zc_o_r : (0 : Int32).toInt = 0 := (by decide); omega, by have zc_o_r : (0 : Int32).toInt = 0 := (by decide); omega⟩, ⟨by omega, by omega⟩, ⟨by omega, by omega⟩, i_158, opk_trans i_19 (i_159) (by omega), rfl, rfl⟩, by rw [ht]; exact hP.sub [0, 1, 2, 3, 4] rfl, hD.sub [0, 1, 2, 3, 4] (by decide) rfl⟩, hS.F ht⟩) hS.2.2 dX4_readSum_145
                            ·
                              exact absurd c_153 (by decide)
                          ·
                            exact absurd c_152 (by decide)
                    ·
                      exact absurd c_124 (by decide)
              ·
                obtain ⟨hP, hD⟩ := va_join (wr := [(a_nm, .inl (G.2 0, 401, .inl f_nm)), (a_rc, .inl (G.2 0, 400, .inl k_rc))]) (w1 := [(a_r, .inr (4, [.ref a_tk, .ref a_rh, .ref a_rs, .ref a_rc, .int k_ln, .int k_pa, .int k_at, .int e_fp])), (a_tk, .inr (8, [.ref a_kd, .ref a_nm, .ref a_pl])), (a_kd, .inl (G.2 0, 401, .inl f_kd))]) hP hD [2, 3, 4] [0, 1] rfl rfl (by decide) (by decide) hk1 hFc hP1 hD1
                generalize H1 = H at hP hS ⊢
                have hP : va_P G.1 vwCl [(a_nm, .inl (G.2 0, 401, .inl f_nm)), (a_rc, .inl (G.2 0, 400, .inl k_rc)), (a_r, .inr (4, [.ref a_tk, .ref a_rh, .ref a_rs, .ref a_rc, .int k_ln, .int k_pa, .int k_at, .int e_fp])), (a_tk, .inr (8, [.ref a_kd, .ref a_nm, .ref a_pl])), (a_kd, .inl (G.2 0, 401, .inl f_kd))] H := hP
                have hD : va_D A [(a_nm, .inl (G.2 0, 401, .inl f_nm)), (a_rc, .inl (G.2 0, 400, .inl k_rc)), (a_r, .inr (4, [.ref a_tk, .ref a_rh, .ref a_rs, .ref a_rc, .int k_ln, .int k_pa, .int k_at, .int e_fp])), (a_tk, .inr (8, [.ref a_kd, .ref a_nm, .ref a_pl])), (a_kd, .inl (G.2 0, 401, .inl f_kd))] := hD
                refine lv_if_eq (tgt := 60) hx hb dX4_readSum_53 (by decide) (fun c_178 => ?_) (fun c_178 => ?_)
                ·
                  refine lv_aload_n hx hb dX4_readSum_60 rfl (lv_at hl 2 rfl) ?_
                  refine lv_bipush (v := 47) hx hb dX4_readSum_61 (by decide) ?_
                  have hPc := hP.sub (ws' := [(a_r, .inr (4, [.ref a_tk, .ref a_rh, .ref a_rs, .ref a_rc, .int k_ln, .int k_pa, .int k_at, .int e_fp])), (a_tk, .inr (8, [.ref a_kd, .ref a_nm, .ref a_pl])), (a_kd, .inl (G.2 0, 401, .inl f_kd))]) [2, 3, 4] rfl
                  have hDc := hD.sub (ws' := [(a_r, .inr (4, [.ref a_tk, .ref a_rh, .ref a_rs, .ref a_rc, .int k_ln, .int k_pa, .int k_at, .int e_fp])), (a_tk, .inr (8, [.ref a_kd, .ref a_nm, .ref a_pl])), (a_kd, .inl (G.2 0, 401, .inl f_kd))]) [2, 3, 4] (by decide) rfl
                  have hFc := va_free (wc := [(a_r, .inr (4, [.ref a_tk, .ref a_rh, .ref a_rs, .ref a_rc, .int k_ln, .int k_pa, .int k_at, .int e_fp])), (a_tk, .inr (8, [.ref a_kd, .ref a_nm, .ref a_pl])), (a_kd, .inl (G.2 0, 401, .inl f_kd))]) hD hS hA [2, 3, 4] rfl
                  refine va_calli (va_runV (As := [.int 47]) (rest := []) ⟨hx, hb, hml, hown, hts⟩ (r_isNext l G a_r a_tk a_kd a_rh a_rs a_rc a_nm a_pl H.size k_ln k_pa k_at e_fp 47 f_kd ⟨by omega, by omega⟩ ⟨by omega, by omega⟩) (cwV 1 hts gV_X4_49 rfl rfl rfl hv_X4_isNext ⟨by dsimp only; omega, by dsimp only; omega⟩) (g5_preV hPc hK hDc hN hT hS hFc (ci := 4) (q0 := 0) rfl rfl) rfl rfl hl.1 rfl (lv_room (Nat.le_of_ble_eq_true rfl)) dX4_readSum_63 ⟨Nat.le_of_ble_eq_true rfl, Nat.le_of_ble_eq_true rfl⟩) hS (fun q _ h => hFc q h) hFc (fun r u t H1 locs ht hvm hw hB hz1 hk1 hS => ?_)
                  obtain ⟨hP1, hD1⟩ := hB
                  rw [ht] at hP1
                  rcases hw with ⟨i_179, i_180, rfl, rfl⟩ | ⟨rfl, rfl⟩
                  ·
                    have i_179 : k_at.toInt ≤ 400 := i_179
                    have i_180 : f_kd k_at.toNatClampNeg = (47 : Int32) := i_180
                    obtain ⟨hP, hD⟩ := va_join (wr := [(a_nm, .inl (G.2 0, 401, .inl f_nm)), (a_rc, .inl (G.2 0, 400, .inl k_rc))]) (w1 := [(a_r, .inr (4, [.ref a_tk, .ref a_rh, .ref a_rs, .ref a_rc, .int k_ln, .int k_pa, .int k_at, .int e_fp])), (a_tk, .inr (8, [.ref a_kd, .ref a_nm, .ref a_pl])), (a_kd, .inl (G.2 0, 401, .inl f_kd))]) hP hD [2, 3, 4] [0, 1] rfl rfl (by decide) (by decide) hk1 hFc hP1 hD1
                    generalize H1 = H at hP hS ⊢
                    have hP : va_P G.1 vwCl [(a_nm, .inl (G.2 0, 401, .inl f_nm)), (a_rc, .inl (G.2 0, 400, .inl k_rc)), (a_r, .inr (4, [.ref a_tk, .ref a_rh, .ref a_rs, .ref a_rc, .int k_ln, .int k_pa, .int k_at, .int e_fp])), (a_tk, .inr (8, [.ref a_kd, .ref a_nm, .ref a_pl])), (a_kd, .inl (G.2 0, 401, .inl f_kd))] H := hP
                    have hD : va_D A [(a_nm, .inl (G.2 0, 401, .inl f_nm)), (a_rc, .inl (G.2 0, 400, .inl k_rc)), (a_r, .inr (4, [.ref a_tk, .ref a_rh, .ref a_rs, .ref a_rc, .int k_ln, .int k_pa, .int k_at, .int e_fp])), (a_tk, .inr (8, [.ref a_kd, .ref a_nm, .ref a_pl])), (a_kd, .inl (G.2 0, 401, .inl f_kd))] := hD
                    refine lv_if_eq (tgt := 73) hx hb dX4_readSum_66 (by decide) (fun c_181 => ?_) (fun c_181 => ?_)
                    ·
                      exact absurd c_181 (by decide)
                    ·
                      refine lv_iconst (v := 5) hx hb dX4_readSum_69 (by decide) ?_
                      refine lv_goto (tgt := 74) hx hb dX4_readSum_70 (by decide) ?_
                      refine lv_istore (lv' := [(4, .int 5), (2, .int k_w), (3, .int k_i), (0, .ref a_r), (1, .int p_d)]) hx hb dX4_readSum_74 hl (by decide) rfl (fun ls hl => ?_)
                      refine lv_iload hx hb dX4_readSum_76 (lv_at hl 0 rfl) ?_
                      refine lv_iconst (v := 2) hx hb dX4_readSum_78 (by decide) ?_
                      refine lv_icmp_eq (tgt := 88) hx hb dX4_readSum_79 (by decide) (fun c_182 => ?_) (fun c_182 => ?_)
                      ·
                        exact absurd c_182 (by decide)
                      ·
                        refine lv_iload hx hb dX4_readSum_82 (lv_at hl 0 rfl) ?_
                        refine lv_iconst (v := 3) hx hb dX4_readSum_84 (by decide) ?_
                        refine lv_icmp_ne (tgt := 92) hx hb dX4_readSum_85 (by decide) (fun c_183 => ?_) (fun c_183 => ?_)
                        ·
                          refine lv_iconst (v := 0) hx hb dX4_readSum_92 (by decide) ?_
                          refine lv_istore (lv' := [(5, .int 0), (4, .int 5), (2, .int k_w), (3, .int k_i), (0, .ref a_r), (1, .int p_d)]) hx hb dX4_readSum_93 hl (by decide) rfl (fun ls hl => ?_)
                          refine lv_iload_n hx hb dX4_readSum_95 rfl (lv_at hl 2 rfl) ?_
                          refine lv_iconst (v := (-1)) hx hb dX4_readSum_96 (by decide) ?_
                          refine lv_icmp_eq (tgt := 118) hx hb dX4_readSum_97 (by decide) (fun c_184 => ?_) (fun c_184 => ?_)
                          ·
                            have i_184 : k_w.toInt = (-1) := by have z := g5_eq (a := k_w.toInt) (b := (-1)) (by rfl) (by decide) c_184; omega
                            refine lv_iload hx hb dX4_readSum_118 (lv_at hl 1 rfl) ?_
                            refine lv_iconst (v := (-1)) hx hb dX4_readSum_120 (by decide) ?_
                            refine lv_icmp_ne (tgt := 126) hx hb dX4_readSum_121 (by decide) (fun c_185 => ?_) (fun c_185 => ?_)
                            ·
                              refine lv_aload_n hx hb dX4_readSum_126 rfl (lv_at hl 4 rfl) ?_
                              refine lv_dup hx hb dX4_readSum_127 rfl ?_
                              refine va_get (D := G.1) (ci := 4) (v := .int k_at) (C := RX4) (T := TX4) (N := 8) hx hb hts inG_X4 hown hK hP 2 rfl rfl 6 (by decide) (hts _ fl_X4_42) (fun _ h9 => h9) rfl dX4_readSum_128 ?_
                              refine lv_iconst (v := 1) hx hb dX4_readSum_131 (by decide) ?_
                              refine lv_iadd hx hb dX4_readSum_132 ?_
                              have t_186 : (k_at + 1).toInt = k_at.toInt + 1 := g5_iadd (a := k_at.toInt) (b := 1) (by rfl) (by decide) (by omega) (by omega)
                              refine va_put (D := G.1) (ci := 4) (v := .int (k_at + 1)) (ty := .int) (C := RX4) (T := TX4) (N := 8) hx hb hts inG_X4 tyX4 tyX4_ok nmX4 hown hK hP hD hS 2 rfl rfl 6 (by decide) (hts _ fl_X4_42) (fun _ h9 => h9) rfl (by decide +kernel) rfl rfl (Nat.le_of_ble_eq_true rfl) dX4_readSum_133 (fun H locs hP hD hS => ?_)
                              have hP : va_P G.1 vwCl [(a_nm, .inl (G.2 0, 401, .inl f_nm)), (a_rc, .inl (G.2 0, 400, .inl k_rc)), (a_r, .inr (4, [.ref a_tk, .ref a_rh, .ref a_rs, .ref a_rc, .int k_ln, .int k_pa, .int (k_at + 1), .int e_fp])), (a_tk, .inr (8, [.ref a_kd, .ref a_nm, .ref a_pl])), (a_kd, .inl (G.2 0, 401, .inl f_kd))] H := hP
                              have hD : va_D A [(a_nm, .inl (G.2 0, 401, .inl f_nm)), (a_rc, .inl (G.2 0, 400, .inl k_rc)), (a_r, .inr (4, [.ref a_tk, .ref a_rh, .ref a_rs, .ref a_rc, .int k_ln, .int k_pa, .int (k_at + 1), .int e_fp])), (a_tk, .inr (8, [.ref a_kd, .ref a_nm, .ref a_pl])), (a_kd, .inl (G.2 0, 401, .inl f_kd))] := hD
                              refine lv_aload_n hx hb dX4_readSum_136 rfl (lv_at hl 4 rfl) ?_
                              refine lv_iload_n hx hb dX4_readSum_137 rfl (lv_at hl 5 rfl) ?_
                              have hPc := hP.sub (ws' := [(a_r, .inr (4, [.ref a_tk, .ref a_rh, .ref a_rs, .ref a_rc, .int k_ln, .int k_pa, .int (k_at + 1), .int e_fp])), (a_tk, .inr (8, [.ref a_kd, .ref a_nm, .ref a_pl])), (a_kd, .inl (G.2 0, 401, .inl f_kd)), (a_nm, .inl (G.2 0, 401, .inl f_nm)), (a_rc, .inl (G.2 0, 400, .inl k_rc))]) [2, 3, 4, 0, 1] rfl
                              have hDc := hD.sub (ws' := [(a_r, .inr (4, [.ref a_tk, .ref a_rh, .ref a_rs, .ref a_rc, .int k_ln, .int k_pa, .int (k_at + 1), .int e_fp])), (a_tk, .inr (8, [.ref a_kd, .ref a_nm, .ref a_pl])), (a_kd, .inl (G.2 0, 401, .inl f_kd)), (a_nm, .inl (G.2 0, 401, .inl f_nm)), (a_rc, .inl (G.2 0, 400, .inl k_rc))]) [2, 3, 4, 0, 1] (by decide) rfl
                              have hFc := va_free (wc := [(a_r, .inr (4, [.ref a_tk, .ref a_rh, .ref a_rs, .ref a_rc, .int k_ln, .int k_pa, .int (k_at + 1), .int e_fp])), (a_tk, .inr (8, [.ref a_kd, .ref a_nm, .ref a_pl])), (a_kd, .inl (G.2 0, 401, .inl f_kd)), (a_nm, .inl (G.2 0, 401, .inl f_nm)), (a_rc, .inl (G.2 0, 400, .inl k_rc))]) hD hS hA [2, 3, 4, 0, 1] rfl
                              refine va_calli (va_runV (As := [.int p_d]) (rest := []) ⟨hx, hb, hml, hown, hts⟩ ((r_part fr lo p_d h_p_d h_sum) l G a_r a_tk a_kd a_nm a_rc a_rh a_rs a_pl H.size k_ln k_pa (k_at + 1) e_fp f_kd f_nm k_rc ⟨by omega, by omega⟩ ⟨by omega, by omega⟩ (e_tk) (i_18)) (cwV 1 hts gV_X4_90 rfl rfl rfl hv_X4_readPart ⟨by dsimp only; omega, by dsimp only; omega⟩) (g5_preV hPc hK hDc hN hT hS hFc (ci := 4) (q0 := 0) rfl rfl) rfl rfl hl.1 rfl (lv_room (Nat.le_of_ble_eq_true rfl)) dX4_readSum_138 ⟨Nat.le_of_ble_eq_true rfl, Nat.le_of_ble_eq_true rfl⟩) hS (fun q _ h => hFc q h) hFc (fun r u t H1 locs ht hvm hw hB hz1 hk1 hS => ?_)
                              obtain ⟨hP1, hD1⟩ := hB
                              rw [ht] at hP1
                              obtain ⟨z192, z193, z194, z195, z196, i_187, i_188, i_189, i_190, i_191, y197, rfl⟩ := hw
                              have i_187 : 0 ≤ z192.toInt ∧ z192.toInt ≤ 1 := i_187
                              have i_188 : k_ln.toInt ≤ z193.toInt ∧ z193.toInt ≤ 400 := i_188
                              have i_189 : 0 ≤ z195.toInt ∧ z195.toInt ≤ 401 := i_189
                              have i_190 : CDI z196 z193.toInt := i_190
                              have i_191 : OPK k_rc z196 k_ln.toInt := i_191
                              obtain ⟨hP, hD⟩ := va_join (wr := []) (w1 := [(a_r, .inr (4, [.ref a_tk, .ref a_rh, .ref a_rs, .ref a_rc, .int z193, .int z194, .int z195, .int e_fp])), (a_tk, .inr (8, [.ref a_kd, .ref a_nm, .ref a_pl])), (a_kd, .inl (G.2 0, 401, .inl f_kd)), (a_nm, .inl (G.2 0, 401, .inl f_nm)), (a_rc, .inl (G.2 0, 400, .inl z196))]) hP hD [2, 3, 4, 0, 1] [] rfl rfl (by decide) (by decide) hk1 hFc hP1 hD1
                              generalize H1 = H at hP hS ⊢
                              have hP : va_P G.1 vwCl [(a_r, .inr (4, [.ref a_tk, .ref a_rh, .ref a_rs, .ref a_rc, .int z193, .int z194, .int z195, .int e_fp])), (a_tk, .inr (8, [.ref a_kd, .ref a_nm, .ref a_pl])), (a_kd, .inl (G.2 0, 401, .inl f_kd)), (a_nm, .inl (G.2 0, 401, .inl f_nm)), (a_rc, .inl (G.2 0, 400, .inl z196))] H := hP
                              have hD : va_D A [(a_r, .inr (4, [.ref a_tk, .ref a_rh, .ref a_rs, .ref a_rc, .int z193, .int z194, .int z195, .int e_fp])), (a_tk, .inr (8, [.ref a_kd, .ref a_nm, .ref a_pl])), (a_kd, .inl (G.2 0, 401, .inl f_kd)), (a_nm, .inl (G.2 0, 401, .inl f_nm)), (a_rc, .inl (G.2 0, 400, .inl z196))] := hD
                              refine g5_ti (v := z192) y197 ?_
                              refine lv_if_ne (tgt := 146) hx hb dX4_readSum_141 (by decide) (fun c_198 => ?_) (fun c_198 => ?_)
                              ·
                                have n_198 : gNe (z192.toInt) (0) := by have z := g5_ne (a := z192.toInt) (b := 0) (by rfl) (by decide) c_198; unfold gNe; omega
                                have i_198 : z192.toInt ≥ 1 := by have z := g5_ne (a := z192.toInt) (b := 0) (by rfl) (by decide) c_198; omega
                                refine lv_iload hx hb dX4_readSum_146 (lv_at hl 0 rfl) ?_
                                refine lv_if_eq (tgt := 157) hx hb dX4_readSum_148 (by decide) (fun c_199 => ?_) (fun c_199 => ?_)
                                ·
                                  refine lv_aload_n hx hb dX4_readSum_157 rfl (lv_at hl 4 rfl) ?_
                                  refine lv_iload hx hb dX4_readSum_158 (lv_at hl 1 rfl) ?_
                                  refine lv_iconst (v := 0) hx hb dX4_readSum_160 (by decide) ?_
                                  have hPc := hP.sub (ws' := [(a_r, .inr (4, [.ref a_tk, .ref a_rh, .ref a_rs, .ref a_rc, .int z193, .int z194, .int z195, .int e_fp])), (a_rc, .inl (G.2 0, 400, .inl z196))]) [0, 4] rfl
                                  have hDc := hD.sub (ws' := [(a_r, .inr (4, [.ref a_tk, .ref a_rh, .ref a_rs, .ref a_rc, .int z193, .int z194, .int z195, .int e_fp])), (a_rc, .inl (G.2 0, 400, .inl z196))]) [0, 4] (by decide) rfl
                                  have hFc := va_free (wc := [(a_r, .inr (4, [.ref a_tk, .ref a_rh, .ref a_rs, .ref a_rc, .int z193, .int z194, .int z195, .int e_fp])), (a_rc, .inl (G.2 0, 400, .inl z196))]) hD hS hA [0, 4] rfl
                                  refine va_calli (va_runV (As := [.int 5, .int 0]) (rest := []) ⟨hx, hb, hml, hown, hts⟩ (r_emit l G a_r a_rc a_tk a_rh a_rs H.size z193 z194 z195 e_fp 5 0 z196 ⟨by omega, by omega⟩ ⟨by omega, by omega⟩ (i_190) (by unfold wOK; decide)) (cwV 2 hts gV_X4_79 rfl rfl rfl hv_X4_emit ⟨by dsimp only; omega, by dsimp only; omega⟩) (g5_preV hPc hK hDc hN hT hS hFc (ci := 4) (q0 := 0) rfl rfl) rfl rfl hl.1 rfl (lv_room (Nat.le_of_ble_eq_true rfl)) dX4_readSum_161 ⟨Nat.le_of_ble_eq_true rfl, Nat.le_of_ble_eq_true rfl⟩) hS (fun q _ h => hFc q h) hFc (fun r u t H1 locs ht hvm hw hB hz1 hk1 hS => ?_)
                                  obtain ⟨hP1, hD1⟩ := hB
                                  rw [ht] at hP1
                                  obtain ⟨z205, z206, z207, i_200, i_201, i_202, i_203, i_204, y208, rfl⟩ := hw
                                  have i_200 : -1 ≤ z205.toInt ∧ z205.toInt ≤ 399 := i_200
                                  have i_201 : z193.toInt ≤ z206.toInt ∧ z206.toInt ≤ 400 := i_201
                                  have i_202 : CDI z207 z206.toInt := i_202
                                  have i_203 : OPK z196 z207 z193.toInt := i_203
                                  have i_204 : 0 ≤ z205.toInt → z205.toInt < z206.toInt ∧ z207 z205.toNatClampNeg = (((5 : Int32) <<< (12 &&& 31)) ||| (0 : Int32)) := i_204
                                  obtain ⟨hP, hD⟩ := va_join (wr := [(a_tk, .inr (8, [.ref a_kd, .ref a_nm, .ref a_pl])), (a_kd, .inl (G.2 0, 401, .inl f_kd)), (a_nm, .inl (G.2 0, 401, .inl f_nm))]) (w1 := [(a_r, .inr (4, [.ref a_tk, .ref a_rh, .ref a_rs, .ref a_rc, .int z206, .int z194, .int z195, .int e_fp])), (a_rc, .inl (G.2 0, 400, .inl z207))]) hP hD [0, 4] [1, 2, 3] rfl rfl (by decide) (by decide) hk1 hFc hP1 hD1
                                  generalize H1 = H at hP hS ⊢
                                  have hP : va_P G.1 vwCl [(a_tk, .inr (8, [.ref a_kd, .ref a_nm, .ref a_pl])), (a_kd, .inl (G.2 0, 401, .inl f_kd)), (a_nm, .inl (G.2 0, 401, .inl f_nm)), (a_r, .inr (4, [.ref a_tk, .ref a_rh, .ref a_rs, .ref a_rc, .int z206, .int z194, .int z195, .int e_fp])), (a_rc, .inl (G.2 0, 400, .inl z207))] H := hP
                                  have hD : va_D A [(a_tk, .inr (8, [.ref a_kd, .ref a_nm, .ref a_pl])), (a_kd, .inl (G.2 0, 401, .inl f_kd)), (a_nm, .inl (G.2 0, 401, .inl f_nm)), (a_r, .inr (4, [.ref a_tk, .ref a_rh, .ref a_rs, .ref a_rc, .int z206, .int z194, .int z195, .int e_fp])), (a_rc, .inl (G.2 0, 400, .inl z207))] := hD
                                  refine g5_ti (v := z205) y208 ?_
                                  refine lv_pop hx hb dX4_readSum_164 rfl ?_
                                  refine lv_iinc (v := (k_i + 1)) (lv' := [(3, .int (k_i + 1)), (5, .int 0), (4, .int 5), (2, .int k_w), (0, .ref a_r), (1, .int p_d)]) hx hb dX4_readSum_165 hl (k := 3) rfl rfl (by decide) rfl (fun ls hl => ?_)
                                  have t_209 : (k_i + 1).toInt = k_i.toInt + 1 := g5_iadd (a := k_i.toInt) (b := 1) rfl (by decide) (by omega) (by omega)
                                  refine lv_goto (tgt := 14) hx hb dX4_readSum_168 (by decide) ?_
                                  exact ih_14_21 (k_w, (k_i + 1), z206, z194, z195, z207) ls H locs (show Int.toNat (400 - (k_i + 1).toInt) < Int.toNat (400 - k_i.toInt) from g_up (show k_i.toInt < (k_i + 1).toInt by omega) (show k_i.toInt < 400 by omega)) ⟨lv_sub hl [3, 0, 4, 5] rfl, hP.sub [3, 0, 1, 2, 4] rfl, hD.sub [3, 0, 1, 2, 4] (by decide) rfl, hS, ⟨by omega, by omega⟩, ⟨by omega, by omega⟩, ⟨by omega, by omega⟩, ⟨by omega, by omega⟩, by omega, i_202, opk_trans i_19 (opk_trans i_191 (i_203) (by omega)) (by omega), i_20⟩
                                ·
                                  exact absurd c_199 (by decide)
                              ·
                                have i_198 : z192.toInt = 0 := by have z := g5_neN (a := z192.toInt) (b := 0) (by rfl) (by decide) c_198; omega
                                refine lv_iconst (v := 0) hx hb dX4_readSum_144 (by decide) ?_
                                exact W.zret (v := 0) hx hb hr rfl (fun t ht hW => ⟨⟨0, [(a_r, .inr (4, [.ref a_tk, .ref a_rh, .ref a_rs, .ref a_rc, .int z193, .int z194, .int z195, .int e_fp])), (a_tk, .inr (8, [.ref a_kd, .ref a_nm, .ref a_pl])), (a_kd, .inl (G.2 0, 401, .inl f_kd)), (a_nm, .inl (G.2 0, 401, .inl f_nm)), (a_rc, .inl (G.2 0, 400, .inl z196))], rfl, ⟨0, z193, z194, z195, z196, ⟨by have zc_o_r : (0 : Int32).toInt = 0 := (by decide); omega, by have zc_o_r : (0 : Int32).toInt = 0 := (by decide); omega⟩, ⟨by omega, by omega⟩, ⟨by omega, by omega⟩, i_190, opk_trans i_19 (i_191) (by omega), rfl, rfl⟩, by rw [ht]; exact hP.sub [0, 1, 2, 3, 4] rfl, hD.sub [0, 1, 2, 3, 4] (by decide) rfl⟩, hS.F ht⟩) hS.2.2 dX4_readSum_145
                            ·
                              exact absurd c_185 (by decide)
                          ·
                            have n_184 : gNe (k_w.toInt) ((-1)) := by have z := g5_eqN (a := k_w.toInt) (b := (-1)) (by rfl) (by decide) c_184; unfold gNe; omega
                            have i_184 : k_w.toInt ≥ 0 := by have z := g5_eqN (a := k_w.toInt) (b := (-1)) (by rfl) (by decide) c_184; omega
                            refine lv_iload hx hb dX4_readSum_100 (lv_at hl 0 rfl) ?_
                            refine lv_if_ne (tgt := 111) hx hb dX4_readSum_102 (by decide) (fun c_210 => ?_) (fun c_210 => ?_)
                            ·
                              exact absurd c_210 (by decide)
                            ·
                              refine lv_iload hx hb dX4_readSum_105 (lv_at hl 1 rfl) ?_
                              refine lv_iconst (v := (-1)) hx hb dX4_readSum_107 (by decide) ?_
                              refine lv_icmp_ne (tgt := 118) hx hb dX4_readSum_108 (by decide) (fun c_211 => ?_) (fun c_211 => ?_)
                              ·
                                refine lv_iload hx hb dX4_readSum_118 (lv_at hl 1 rfl) ?_
                                refine lv_iconst (v := (-1)) hx hb dX4_readSum_120 (by decide) ?_
                                refine lv_icmp_ne (tgt := 126) hx hb dX4_readSum_121 (by decide) (fun c_212 => ?_) (fun c_212 => ?_)
                                ·
                                  refine lv_aload_n hx hb dX4_readSum_126 rfl (lv_at hl 4 rfl) ?_
                                  refine lv_dup hx hb dX4_readSum_127 rfl ?_
                                  refine va_get (D := G.1) (ci := 4) (v := .int k_at) (C := RX4) (T := TX4) (N := 8) hx hb hts inG_X4 hown hK hP 2 rfl rfl 6 (by decide) (hts _ fl_X4_42) (fun _ h9 => h9) rfl dX4_readSum_128 ?_
                                  refine lv_iconst (v := 1) hx hb dX4_readSum_131 (by decide) ?_
                                  refine lv_iadd hx hb dX4_readSum_132 ?_
                                  have t_213 : (k_at + 1).toInt = k_at.toInt + 1 := g5_iadd (a := k_at.toInt) (b := 1) (by rfl) (by decide) (by omega) (by omega)
                                  refine va_put (D := G.1) (ci := 4) (v := .int (k_at + 1)) (ty := .int) (C := RX4) (T := TX4) (N := 8) hx hb hts inG_X4 tyX4 tyX4_ok nmX4 hown hK hP hD hS 2 rfl rfl 6 (by decide) (hts _ fl_X4_42) (fun _ h9 => h9) rfl (by decide +kernel) rfl rfl (Nat.le_of_ble_eq_true rfl) dX4_readSum_133 (fun H locs hP hD hS => ?_)
                                  have hP : va_P G.1 vwCl [(a_nm, .inl (G.2 0, 401, .inl f_nm)), (a_rc, .inl (G.2 0, 400, .inl k_rc)), (a_r, .inr (4, [.ref a_tk, .ref a_rh, .ref a_rs, .ref a_rc, .int k_ln, .int k_pa, .int (k_at + 1), .int e_fp])), (a_tk, .inr (8, [.ref a_kd, .ref a_nm, .ref a_pl])), (a_kd, .inl (G.2 0, 401, .inl f_kd))] H := hP
                                  have hD : va_D A [(a_nm, .inl (G.2 0, 401, .inl f_nm)), (a_rc, .inl (G.2 0, 400, .inl k_rc)), (a_r, .inr (4, [.ref a_tk, .ref a_rh, .ref a_rs, .ref a_rc, .int k_ln, .int k_pa, .int (k_at + 1), .int e_fp])), (a_tk, .inr (8, [.ref a_kd, .ref a_nm, .ref a_pl])), (a_kd, .inl (G.2 0, 401, .inl f_kd))] := hD
                                  refine lv_aload_n hx hb dX4_readSum_136 rfl (lv_at hl 4 rfl) ?_
                                  refine lv_iload_n hx hb dX4_readSum_137 rfl (lv_at hl 5 rfl) ?_
                                  have hPc := hP.sub (ws' := [(a_r, .inr (4, [.ref a_tk, .ref a_rh, .ref a_rs, .ref a_rc, .int k_ln, .int k_pa, .int (k_at + 1), .int e_fp])), (a_tk, .inr (8, [.ref a_kd, .ref a_nm, .ref a_pl])), (a_kd, .inl (G.2 0, 401, .inl f_kd)), (a_nm, .inl (G.2 0, 401, .inl f_nm)), (a_rc, .inl (G.2 0, 400, .inl k_rc))]) [2, 3, 4, 0, 1] rfl
                                  have hDc := hD.sub (ws' := [(a_r, .inr (4, [.ref a_tk, .ref a_rh, .ref a_rs, .ref a_rc, .int k_ln, .int k_pa, .int (k_at + 1), .int e_fp])), (a_tk, .inr (8, [.ref a_kd, .ref a_nm, .ref a_pl])), (a_kd, .inl (G.2 0, 401, .inl f_kd)), (a_nm, .inl (G.2 0, 401, .inl f_nm)), (a_rc, .inl (G.2 0, 400, .inl k_rc))]) [2, 3, 4, 0, 1] (by decide) rfl
                                  have hFc := va_free (wc := [(a_r, .inr (4, [.ref a_tk, .ref a_rh, .ref a_rs, .ref a_rc, .int k_ln, .int k_pa, .int (k_at + 1), .int e_fp])), (a_tk, .inr (8, [.ref a_kd, .ref a_nm, .ref a_pl])), (a_kd, .inl (G.2 0, 401, .inl f_kd)), (a_nm, .inl (G.2 0, 401, .inl f_nm)), (a_rc, .inl (G.2 0, 400, .inl k_rc))]) hD hS hA [2, 3, 4, 0, 1] rfl
                                  refine va_calli (va_runV (As := [.int p_d]) (rest := []) ⟨hx, hb, hml, hown, hts⟩ ((r_part fr lo p_d h_p_d h_sum) l G a_r a_tk a_kd a_nm a_rc a_rh a_rs a_pl H.size k_ln k_pa (k_at + 1) e_fp f_kd f_nm k_rc ⟨by omega, by omega⟩ ⟨by omega, by omega⟩ (e_tk) (i_18)) (cwV 1 hts gV_X4_90 rfl rfl rfl hv_X4_readPart ⟨by dsimp only; omega, by dsimp only; omega⟩) (g5_preV hPc hK hDc hN hT hS hFc (ci := 4) (q0 := 0) rfl rfl) rfl rfl hl.1 rfl (lv_room (Nat.le_of_ble_eq_true rfl)) dX4_readSum_138 ⟨Nat.le_of_ble_eq_true rfl, Nat.le_of_ble_eq_true rfl⟩) hS (fun q _ h => hFc q h) hFc (fun r u t H1 locs ht hvm hw hB hz1 hk1 hS => ?_)
                                  obtain ⟨hP1, hD1⟩ := hB
                                  rw [ht] at hP1
                                  obtain ⟨z219, z220, z221, z222, z223, i_214, i_215, i_216, i_217, i_218, y224, rfl⟩ := hw
                                  have i_214 : 0 ≤ z219.toInt ∧ z219.toInt ≤ 1 := i_214
                                  have i_215 : k_ln.toInt ≤ z220.toInt ∧ z220.toInt ≤ 400 := i_215
                                  have i_216 : 0 ≤ z222.toInt ∧ z222.toInt ≤ 401 := i_216
                                  have i_217 : CDI z223 z220.toInt := i_217
                                  have i_218 : OPK k_rc z223 k_ln.toInt := i_218
                                  obtain ⟨hP, hD⟩ := va_join (wr := []) (w1 := [(a_r, .inr (4, [.ref a_tk, .ref a_rh, .ref a_rs, .ref a_rc, .int z220, .int z221, .int z222, .int e_fp])), (a_tk, .inr (8, [.ref a_kd, .ref a_nm, .ref a_pl])), (a_kd, .inl (G.2 0, 401, .inl f_kd)), (a_nm, .inl (G.2 0, 401, .inl f_nm)), (a_rc, .inl (G.2 0, 400, .inl z223))]) hP hD [2, 3, 4, 0, 1] [] rfl rfl (by decide) (by decide) hk1 hFc hP1 hD1
                                  generalize H1 = H at hP hS ⊢
                                  have hP : va_P G.1 vwCl [(a_r, .inr (4, [.ref a_tk, .ref a_rh, .ref a_rs, .ref a_rc, .int z220, .int z221, .int z222, .int e_fp])), (a_tk, .inr (8, [.ref a_kd, .ref a_nm, .ref a_pl])), (a_kd, .inl (G.2 0, 401, .inl f_kd)), (a_nm, .inl (G.2 0, 401, .inl f_nm)), (a_rc, .inl (G.2 0, 400, .inl z223))] H := hP
                                  have hD : va_D A [(a_r, .inr (4, [.ref a_tk, .ref a_rh, .ref a_rs, .ref a_rc, .int z220, .int z221, .int z222, .int e_fp])), (a_tk, .inr (8, [.ref a_kd, .ref a_nm, .ref a_pl])), (a_kd, .inl (G.2 0, 401, .inl f_kd)), (a_nm, .inl (G.2 0, 401, .inl f_nm)), (a_rc, .inl (G.2 0, 400, .inl z223))] := hD
                                  refine g5_ti (v := z219) y224 ?_
                                  refine lv_if_ne (tgt := 146) hx hb dX4_readSum_141 (by decide) (fun c_225 => ?_) (fun c_225 => ?_)
                                  ·
                                    have n_225 : gNe (z219.toInt) (0) := by have z := g5_ne (a := z219.toInt) (b := 0) (by rfl) (by decide) c_225; unfold gNe; omega
                                    have i_225 : z219.toInt ≥ 1 := by have z := g5_ne (a := z219.toInt) (b := 0) (by rfl) (by decide) c_225; omega
                                    refine lv_iload hx hb dX4_readSum_146 (lv_at hl 0 rfl) ?_
                                    refine lv_if_eq (tgt := 157) hx hb dX4_readSum_148 (by decide) (fun c_226 => ?_) (fun c_226 => ?_)
                                    ·
                                      refine lv_aload_n hx hb dX4_readSum_157 rfl (lv_at hl 4 rfl) ?_
                                      refine lv_iload hx hb dX4_readSum_158 (lv_at hl 1 rfl) ?_
                                      refine lv_iconst (v := 0) hx hb dX4_readSum_160 (by decide) ?_
                                      have hPc := hP.sub (ws' := [(a_r, .inr (4, [.ref a_tk, .ref a_rh, .ref a_rs, .ref a_rc, .int z220, .int z221, .int z222, .int e_fp])), (a_rc, .inl (G.2 0, 400, .inl z223))]) [0, 4] rfl
                                      have hDc := hD.sub (ws' := [(a_r, .inr (4, [.ref a_tk, .ref a_rh, .ref a_rs, .ref a_rc, .int z220, .int z221, .int z222, .int e_fp])), (a_rc, .inl (G.2 0, 400, .inl z223))]) [0, 4] (by decide) rfl
                                      have hFc := va_free (wc := [(a_r, .inr (4, [.ref a_tk, .ref a_rh, .ref a_rs, .ref a_rc, .int z220, .int z221, .int z222, .int e_fp])), (a_rc, .inl (G.2 0, 400, .inl z223))]) hD hS hA [0, 4] rfl
                                      refine va_calli (va_runV (As := [.int 5, .int 0]) (rest := []) ⟨hx, hb, hml, hown, hts⟩ (r_emit l G a_r a_rc a_tk a_rh a_rs H.size z220 z221 z222 e_fp 5 0 z223 ⟨by omega, by omega⟩ ⟨by omega, by omega⟩ (i_217) (by unfold wOK; decide)) (cwV 2 hts gV_X4_79 rfl rfl rfl hv_X4_emit ⟨by dsimp only; omega, by dsimp only; omega⟩) (g5_preV hPc hK hDc hN hT hS hFc (ci := 4) (q0 := 0) rfl rfl) rfl rfl hl.1 rfl (lv_room (Nat.le_of_ble_eq_true rfl)) dX4_readSum_161 ⟨Nat.le_of_ble_eq_true rfl, Nat.le_of_ble_eq_true rfl⟩) hS (fun q _ h => hFc q h) hFc (fun r u t H1 locs ht hvm hw hB hz1 hk1 hS => ?_)
                                      obtain ⟨hP1, hD1⟩ := hB
                                      rw [ht] at hP1
                                      obtain ⟨z232, z233, z234, i_227, i_228, i_229, i_230, i_231, y235, rfl⟩ := hw
                                      have i_227 : -1 ≤ z232.toInt ∧ z232.toInt ≤ 399 := i_227
                                      have i_228 : z220.toInt ≤ z233.toInt ∧ z233.toInt ≤ 400 := i_228
                                      have i_229 : CDI z234 z233.toInt := i_229
                                      have i_230 : OPK z223 z234 z220.toInt := i_230
                                      have i_231 : 0 ≤ z232.toInt → z232.toInt < z233.toInt ∧ z234 z232.toNatClampNeg = (((5 : Int32) <<< (12 &&& 31)) ||| (0 : Int32)) := i_231
                                      obtain ⟨hP, hD⟩ := va_join (wr := [(a_tk, .inr (8, [.ref a_kd, .ref a_nm, .ref a_pl])), (a_kd, .inl (G.2 0, 401, .inl f_kd)), (a_nm, .inl (G.2 0, 401, .inl f_nm))]) (w1 := [(a_r, .inr (4, [.ref a_tk, .ref a_rh, .ref a_rs, .ref a_rc, .int z233, .int z221, .int z222, .int e_fp])), (a_rc, .inl (G.2 0, 400, .inl z234))]) hP hD [0, 4] [1, 2, 3] rfl rfl (by decide) (by decide) hk1 hFc hP1 hD1
                                      generalize H1 = H at hP hS ⊢
                                      have hP : va_P G.1 vwCl [(a_tk, .inr (8, [.ref a_kd, .ref a_nm, .ref a_pl])), (a_kd, .inl (G.2 0, 401, .inl f_kd)), (a_nm, .inl (G.2 0, 401, .inl f_nm)), (a_r, .inr (4, [.ref a_tk, .ref a_rh, .ref a_rs, .ref a_rc, .int z233, .int z221, .int z222, .int e_fp])), (a_rc, .inl (G.2 0, 400, .inl z234))] H := hP
                                      have hD : va_D A [(a_tk, .inr (8, [.ref a_kd, .ref a_nm, .ref a_pl])), (a_kd, .inl (G.2 0, 401, .inl f_kd)), (a_nm, .inl (G.2 0, 401, .inl f_nm)), (a_r, .inr (4, [.ref a_tk, .ref a_rh, .ref a_rs, .ref a_rc, .int z233, .int z221, .int z222, .int e_fp])), (a_rc, .inl (G.2 0, 400, .inl z234))] := hD
                                      refine g5_ti (v := z232) y235 ?_
                                      refine lv_pop hx hb dX4_readSum_164 rfl ?_
                                      refine lv_iinc (v := (k_i + 1)) (lv' := [(3, .int (k_i + 1)), (5, .int 0), (4, .int 5), (2, .int k_w), (0, .ref a_r), (1, .int p_d)]) hx hb dX4_readSum_165 hl (k := 3) rfl rfl (by decide) rfl (fun ls hl => ?_)
                                      have t_236 : (k_i + 1).toInt = k_i.toInt + 1 := g5_iadd (a := k_i.toInt) (b := 1) rfl (by decide) (by omega) (by omega)
                                      refine lv_goto (tgt := 14) hx hb dX4_readSum_168 (by decide) ?_
                                      exact ih_14_21 (k_w, (k_i + 1), z233, z221, z222, z234) ls H locs (show Int.toNat (400 - (k_i + 1).toInt) < Int.toNat (400 - k_i.toInt) from g_up (show k_i.toInt < (k_i + 1).toInt by omega) (show k_i.toInt < 400 by omega)) ⟨lv_sub hl [3, 0, 4, 5] rfl, hP.sub [3, 0, 1, 2, 4] rfl, hD.sub [3, 0, 1, 2, 4] (by decide) rfl, hS, ⟨by omega, by omega⟩, ⟨by omega, by omega⟩, ⟨by omega, by omega⟩, ⟨by omega, by omega⟩, by omega, i_229, opk_trans i_19 (opk_trans i_218 (i_230) (by omega)) (by omega), i_20⟩
                                    ·
                                      exact absurd c_226 (by decide)
                                  ·
                                    have i_225 : z219.toInt = 0 := by have z := g5_neN (a := z219.toInt) (b := 0) (by rfl) (by decide) c_225; omega
                                    refine lv_iconst (v := 0) hx hb dX4_readSum_144 (by decide) ?_
                                    exact W.zret (v := 0) hx hb hr rfl (fun t ht hW => ⟨⟨0, [(a_r, .inr (4, [.ref a_tk, .ref a_rh, .ref a_rs, .ref a_rc, .int z220, .int z221, .int z222, .int e_fp])), (a_tk, .inr (8, [.ref a_kd, .ref a_nm, .ref a_pl])), (a_kd, .inl (G.2 0, 401, .inl f_kd)), (a_nm, .inl (G.2 0, 401, .inl f_nm)), (a_rc, .inl (G.2 0, 400, .inl z223))], rfl, ⟨0, z220, z221, z222, z223, ⟨by have zc_o_r : (0 : Int32).toInt = 0 := (by decide); omega, by have zc_o_r : (0 : Int32).toInt = 0 := (by decide); omega⟩, ⟨by omega, by omega⟩, ⟨by omega, by omega⟩, i_217, opk_trans i_19 (i_218) (by omega), rfl, rfl⟩, by rw [ht]; exact hP.sub [0, 1, 2, 3, 4] rfl, hD.sub [0, 1, 2, 3, 4] (by decide) rfl⟩, hS.F ht⟩) hS.2.2 dX4_readSum_145
                                ·
                                  exact absurd c_212 (by decide)
                              ·
                                exact absurd c_211 (by decide)
                        ·
                          exact absurd c_183 (by decide)
                  ·
                    obtain ⟨hP, hD⟩ := va_join (wr := [(a_nm, .inl (G.2 0, 401, .inl f_nm)), (a_rc, .inl (G.2 0, 400, .inl k_rc))]) (w1 := [(a_r, .inr (4, [.ref a_tk, .ref a_rh, .ref a_rs, .ref a_rc, .int k_ln, .int k_pa, .int k_at, .int e_fp])), (a_tk, .inr (8, [.ref a_kd, .ref a_nm, .ref a_pl])), (a_kd, .inl (G.2 0, 401, .inl f_kd))]) hP hD [2, 3, 4] [0, 1] rfl rfl (by decide) (by decide) hk1 hFc hP1 hD1
                    generalize H1 = H at hP hS ⊢
                    have hP : va_P G.1 vwCl [(a_nm, .inl (G.2 0, 401, .inl f_nm)), (a_rc, .inl (G.2 0, 400, .inl k_rc)), (a_r, .inr (4, [.ref a_tk, .ref a_rh, .ref a_rs, .ref a_rc, .int k_ln, .int k_pa, .int k_at, .int e_fp])), (a_tk, .inr (8, [.ref a_kd, .ref a_nm, .ref a_pl])), (a_kd, .inl (G.2 0, 401, .inl f_kd))] H := hP
                    have hD : va_D A [(a_nm, .inl (G.2 0, 401, .inl f_nm)), (a_rc, .inl (G.2 0, 400, .inl k_rc)), (a_r, .inr (4, [.ref a_tk, .ref a_rh, .ref a_rs, .ref a_rc, .int k_ln, .int k_pa, .int k_at, .int e_fp])), (a_tk, .inr (8, [.ref a_kd, .ref a_nm, .ref a_pl])), (a_kd, .inl (G.2 0, 401, .inl f_kd))] := hD
                    refine lv_if_eq (tgt := 73) hx hb dX4_readSum_66 (by decide) (fun c_237 => ?_) (fun c_237 => ?_)
                    ·
                      refine lv_iconst (v := (-1)) hx hb dX4_readSum_73 (by decide) ?_
                      refine lv_istore (lv' := [(4, .int (-1)), (2, .int k_w), (3, .int k_i), (0, .ref a_r), (1, .int p_d)]) hx hb dX4_readSum_74 hl (by decide) rfl (fun ls hl => ?_)
                      refine lv_iload hx hb dX4_readSum_76 (lv_at hl 0 rfl) ?_
                      refine lv_iconst (v := 2) hx hb dX4_readSum_78 (by decide) ?_
                      refine lv_icmp_eq (tgt := 88) hx hb dX4_readSum_79 (by decide) (fun c_238 => ?_) (fun c_238 => ?_)
                      ·
                        exact absurd c_238 (by decide)
                      ·
                        refine lv_iload hx hb dX4_readSum_82 (lv_at hl 0 rfl) ?_
                        refine lv_iconst (v := 3) hx hb dX4_readSum_84 (by decide) ?_
                        refine lv_icmp_ne (tgt := 92) hx hb dX4_readSum_85 (by decide) (fun c_239 => ?_) (fun c_239 => ?_)
                        ·
                          refine lv_iconst (v := 0) hx hb dX4_readSum_92 (by decide) ?_
                          refine lv_istore (lv' := [(5, .int 0), (4, .int (-1)), (2, .int k_w), (3, .int k_i), (0, .ref a_r), (1, .int p_d)]) hx hb dX4_readSum_93 hl (by decide) rfl (fun ls hl => ?_)
                          refine lv_iload_n hx hb dX4_readSum_95 rfl (lv_at hl 2 rfl) ?_
                          refine lv_iconst (v := (-1)) hx hb dX4_readSum_96 (by decide) ?_
                          refine lv_icmp_eq (tgt := 118) hx hb dX4_readSum_97 (by decide) (fun c_240 => ?_) (fun c_240 => ?_)
                          ·
                            have i_240 : k_w.toInt = (-1) := by have z := g5_eq (a := k_w.toInt) (b := (-1)) (by rfl) (by decide) c_240; omega
                            refine lv_iload hx hb dX4_readSum_118 (lv_at hl 1 rfl) ?_
                            refine lv_iconst (v := (-1)) hx hb dX4_readSum_120 (by decide) ?_
                            refine lv_icmp_ne (tgt := 126) hx hb dX4_readSum_121 (by decide) (fun c_241 => ?_) (fun c_241 => ?_)
                            ·
                              exact absurd c_241 (by decide)
                            ·
                              refine lv_iconst (v := 1) hx hb dX4_readSum_124 (by decide) ?_
                              exact W.zret (v := 1) hx hb hr rfl (fun t ht hW => ⟨⟨1, [(a_r, .inr (4, [.ref a_tk, .ref a_rh, .ref a_rs, .ref a_rc, .int k_ln, .int k_pa, .int k_at, .int e_fp])), (a_tk, .inr (8, [.ref a_kd, .ref a_nm, .ref a_pl])), (a_kd, .inl (G.2 0, 401, .inl f_kd)), (a_nm, .inl (G.2 0, 401, .inl f_nm)), (a_rc, .inl (G.2 0, 400, .inl k_rc))], rfl, ⟨1, k_ln, k_pa, k_at, k_rc, ⟨by have zc_o_r : (1 : Int32).toInt = 1 := (by decide); omega, by have zc_o_r : (1 : Int32).toInt = 1 := (by decide); omega⟩, ⟨by omega, by omega⟩, ⟨by omega, by omega⟩, i_18, i_19, rfl, rfl⟩, by rw [ht]; exact hP.sub [2, 3, 4, 0, 1] rfl, hD.sub [2, 3, 4, 0, 1] (by decide) rfl⟩, hS.F ht⟩) hS.2.2 dX4_readSum_125
                          ·
                            have n_240 : gNe (k_w.toInt) ((-1)) := by have z := g5_eqN (a := k_w.toInt) (b := (-1)) (by rfl) (by decide) c_240; unfold gNe; omega
                            have i_240 : k_w.toInt ≥ 0 := by have z := g5_eqN (a := k_w.toInt) (b := (-1)) (by rfl) (by decide) c_240; omega
                            refine lv_iload hx hb dX4_readSum_100 (lv_at hl 0 rfl) ?_
                            refine lv_if_ne (tgt := 111) hx hb dX4_readSum_102 (by decide) (fun c_242 => ?_) (fun c_242 => ?_)
                            ·
                              exact absurd c_242 (by decide)
                            ·
                              refine lv_iload hx hb dX4_readSum_105 (lv_at hl 1 rfl) ?_
                              refine lv_iconst (v := (-1)) hx hb dX4_readSum_107 (by decide) ?_
                              refine lv_icmp_ne (tgt := 118) hx hb dX4_readSum_108 (by decide) (fun c_243 => ?_) (fun c_243 => ?_)
                              ·
                                exact absurd c_243 (by decide)
                              ·
                                refine lv_aload_n hx hb dX4_readSum_111 rfl (lv_at hl 4 rfl) ?_
                                refine lv_iload_n hx hb dX4_readSum_112 rfl (lv_at hl 2 rfl) ?_
                                refine lv_iconst (v := 0) hx hb dX4_readSum_113 (by decide) ?_
                                have hPc := hP.sub (ws' := [(a_r, .inr (4, [.ref a_tk, .ref a_rh, .ref a_rs, .ref a_rc, .int k_ln, .int k_pa, .int k_at, .int e_fp])), (a_rc, .inl (G.2 0, 400, .inl k_rc))]) [2, 1] rfl
                                have hDc := hD.sub (ws' := [(a_r, .inr (4, [.ref a_tk, .ref a_rh, .ref a_rs, .ref a_rc, .int k_ln, .int k_pa, .int k_at, .int e_fp])), (a_rc, .inl (G.2 0, 400, .inl k_rc))]) [2, 1] (by decide) rfl
                                have hFc := va_free (wc := [(a_r, .inr (4, [.ref a_tk, .ref a_rh, .ref a_rs, .ref a_rc, .int k_ln, .int k_pa, .int k_at, .int e_fp])), (a_rc, .inl (G.2 0, 400, .inl k_rc))]) hD hS hA [2, 1] rfl
                                refine va_calli (va_runV (As := [.int k_w, .int 0]) (rest := []) ⟨hx, hb, hml, hown, hts⟩ (r_emit l G a_r a_rc a_tk a_rh a_rs H.size k_ln k_pa k_at e_fp k_w 0 k_rc ⟨by omega, by omega⟩ ⟨by omega, by omega⟩ (i_18) (wok_wait (by rcases i_20 with q | q | q; exact absurd q n_240; exact Or.inl q; exact Or.inr q))) (cwV 2 hts gV_X4_79 rfl rfl rfl hv_X4_emit ⟨by dsimp only; omega, by dsimp only; omega⟩) (g5_preV hPc hK hDc hN hT hS hFc (ci := 4) (q0 := 0) rfl rfl) rfl rfl hl.1 rfl (lv_room (Nat.le_of_ble_eq_true rfl)) dX4_readSum_114 ⟨Nat.le_of_ble_eq_true rfl, Nat.le_of_ble_eq_true rfl⟩) hS (fun q _ h => hFc q h) hFc (fun r u t H1 locs ht hvm hw hB hz1 hk1 hS => ?_)
                                obtain ⟨hP1, hD1⟩ := hB
                                rw [ht] at hP1
                                obtain ⟨z249, z250, z251, i_244, i_245, i_246, i_247, i_248, y252, rfl⟩ := hw
                                have i_244 : -1 ≤ z249.toInt ∧ z249.toInt ≤ 399 := i_244
                                have i_245 : k_ln.toInt ≤ z250.toInt ∧ z250.toInt ≤ 400 := i_245
                                have i_246 : CDI z251 z250.toInt := i_246
                                have i_247 : OPK k_rc z251 k_ln.toInt := i_247
                                have i_248 : 0 ≤ z249.toInt → z249.toInt < z250.toInt ∧ z251 z249.toNatClampNeg = ((k_w <<< (12 &&& 31)) ||| (0 : Int32)) := i_248
                                obtain ⟨hP, hD⟩ := va_join (wr := [(a_nm, .inl (G.2 0, 401, .inl f_nm)), (a_tk, .inr (8, [.ref a_kd, .ref a_nm, .ref a_pl])), (a_kd, .inl (G.2 0, 401, .inl f_kd))]) (w1 := [(a_r, .inr (4, [.ref a_tk, .ref a_rh, .ref a_rs, .ref a_rc, .int z250, .int k_pa, .int k_at, .int e_fp])), (a_rc, .inl (G.2 0, 400, .inl z251))]) hP hD [2, 1] [0, 3, 4] rfl rfl (by decide) (by decide) hk1 hFc hP1 hD1
                                generalize H1 = H at hP hS ⊢
                                have hP : va_P G.1 vwCl [(a_nm, .inl (G.2 0, 401, .inl f_nm)), (a_tk, .inr (8, [.ref a_kd, .ref a_nm, .ref a_pl])), (a_kd, .inl (G.2 0, 401, .inl f_kd)), (a_r, .inr (4, [.ref a_tk, .ref a_rh, .ref a_rs, .ref a_rc, .int z250, .int k_pa, .int k_at, .int e_fp])), (a_rc, .inl (G.2 0, 400, .inl z251))] H := hP
                                have hD : va_D A [(a_nm, .inl (G.2 0, 401, .inl f_nm)), (a_tk, .inr (8, [.ref a_kd, .ref a_nm, .ref a_pl])), (a_kd, .inl (G.2 0, 401, .inl f_kd)), (a_r, .inr (4, [.ref a_tk, .ref a_rh, .ref a_rs, .ref a_rc, .int z250, .int k_pa, .int k_at, .int e_fp])), (a_rc, .inl (G.2 0, 400, .inl z251))] := hD
                                refine g5_ti (v := z249) y252 ?_
                                refine lv_pop hx hb dX4_readSum_117 rfl ?_
                                refine lv_iload hx hb dX4_readSum_118 (lv_at hl 1 rfl) ?_
                                refine lv_iconst (v := (-1)) hx hb dX4_readSum_120 (by decide) ?_
                                refine lv_icmp_ne (tgt := 126) hx hb dX4_readSum_121 (by decide) (fun c_253 => ?_) (fun c_253 => ?_)
                                ·
                                  exact absurd c_253 (by decide)
                                ·
                                  refine lv_iconst (v := 1) hx hb dX4_readSum_124 (by decide) ?_
                                  exact W.zret (v := 1) hx hb hr rfl (fun t ht hW => ⟨⟨1, [(a_r, .inr (4, [.ref a_tk, .ref a_rh, .ref a_rs, .ref a_rc, .int z250, .int k_pa, .int k_at, .int e_fp])), (a_tk, .inr (8, [.ref a_kd, .ref a_nm, .ref a_pl])), (a_kd, .inl (G.2 0, 401, .inl f_kd)), (a_nm, .inl (G.2 0, 401, .inl f_nm)), (a_rc, .inl (G.2 0, 400, .inl z251))], rfl, ⟨1, z250, k_pa, k_at, z251, ⟨by have zc_o_r : (1 : Int32).toInt = 1 := (by decide); omega, by have zc_o_r : (1 : Int32).toInt = 1 := (by decide); omega⟩, ⟨by omega, by omega⟩, ⟨by omega, by omega⟩, i_246, opk_trans i_19 (i_247) (by omega), rfl, rfl⟩, by rw [ht]; exact hP.sub [3, 1, 2, 0, 4] rfl, hD.sub [3, 1, 2, 0, 4] (by decide) rfl⟩, hS.F ht⟩) hS.2.2 dX4_readSum_125
                        ·
                          exact absurd c_239 (by decide)
                    ·
                      exact absurd c_237 (by decide)
                ·
                  exact absurd c_178 (by decide)
            ·
              exact absurd c_119 (by decide)
        ·
          exact absurd c_70 (by decide)
  ·
    have i_12 : z6.toInt = 0 := by have z := g5_neN (a := z6.toInt) (b := 0) (by rfl) (by decide) c_12; omega
    refine lv_iconst (v := 0) hx hb dX4_readSum_8 (by decide) ?_
    exact W.zret (v := 0) hx hb hr rfl (fun t ht hW => ⟨⟨0, [(a_r, .inr (4, [.ref a_tk, .ref a_rh, .ref a_rs, .ref a_rc, .int z7, .int z8, .int z9, .int e_fp])), (a_tk, .inr (8, [.ref a_kd, .ref a_nm, .ref a_pl])), (a_kd, .inl (G.2 0, 401, .inl f_kd)), (a_nm, .inl (G.2 0, 401, .inl f_nm)), (a_rc, .inl (G.2 0, 400, .inl z10))], rfl, ⟨0, z7, z8, z9, z10, ⟨by have zc_o_r : (0 : Int32).toInt = 0 := (by decide); omega, by have zc_o_r : (0 : Int32).toInt = 0 := (by decide); omega⟩, ⟨by omega, by omega⟩, ⟨by omega, by omega⟩, i_4, i_5, rfl, rfl⟩, by rw [ht]; exact hP.sub [0, 1, 2, 3, 4] rfl, hD.sub [0, 1, 2, 3, 4] (by decide) rfl⟩, hS.F ht⟩) hS.2.2 dX4_readSum_9
