set_option maxHeartbeats 4000000 in
set_option maxRecDepth 100000 in
theorem r_sumX (fr lo : Nat) (p_d : Int32) (h_p_d : 0 ≤ p_d.toInt ∧ p_d.toInt ≤ 8) (h_sum : ∀ x : Int32, x.toInt = p_d.toInt + 1 → p_d.toInt < 8 → ∀ (l : Launch) (G : g5_G) (a_r a_tk a_kd a_nm a_rc a_rh a_rs a_pl : Nat) (sz : Nat) (e_ln : Int32) (e_pa : Int32) (e_at : Int32) (e_fp : Int32) (f_kd : Nat → Int32) (f_nm : Nat → Int32) (f_rc : Nat → Int32) (g_x : Nat → Int32) (g_n : Nat) (g_T : Nat) (h_e_ln : 0 ≤ e_ln.toInt ∧ e_ln.toInt ≤ 400) (h_e_pa : 0 ≤ e_pa.toInt ∧ e_pa.toInt ≤ 50) (h_e_at : 0 ≤ e_at.toInt ∧ e_at.toInt ≤ 401) (e_tk : TOKI f_kd f_nm) (e_cd : CDI f_rc e_ln.toInt) (e_by : byOK g_x) (e_kr : TKR f_kd f_nm g_x g_n g_T) (e_aT : e_at.toInt ≤ (g_T : Int)) (e_la : e_ln.toInt ≤ e_at.toInt) (e_lv : lvC f_rc e_ln.toInt.toNat = e_pa.toInt.toNat), Met l yX4_readSum (wsG yX4_readSum cX4_readSum 6 (some .boolean)) ({ frames := fr + 0, cells := 0, slots := 0, locals := lo + 0 }) (va_Pc [.ref a_r, .int x] (g5_P G [(a_r, (oc4 a_tk a_rh a_rs a_rc e_ln e_pa e_at e_fp)), (a_tk, (oc8 a_kd a_nm a_pl)), (a_kd, (arI G 401 f_kd)), (a_nm, (arI G 401 f_nm)), (a_rc, (arI G 400 f_rc))] sz)) (va_Qi (fun (r : Int32) (u : va_W) => (∃ (o_ln : Int32) (o_pa : Int32) (o_at : Int32) (o_rc : Nat → Int32), (e_ln.toInt ≤ o_ln.toInt ∧ o_ln.toInt ≤ 400) ∧ (0 ≤ o_at.toInt ∧ o_at.toInt ≤ 401) ∧ (0 ≤ o_pa.toInt ∧ o_pa.toInt ≤ 50) ∧ (CDI o_rc o_ln.toInt) ∧ (OPK f_rc o_rc e_ln.toInt) ∧ (∃ d : DS, (smF (KDT g_x g_n) (NMT g_x g_n) x) e_at.toInt.toNat e_pa.toInt.toNat = (o_at.toInt.toNat, o_pa.toInt.toNat, some d) ∧ KCC f_rc o_rc e_ln.toInt ∧ MCC o_rc e_ln.toInt.toNat o_ln.toInt.toNat d ∧ lvC o_rc o_ln.toInt.toNat = o_pa.toInt.toNat) ∧ (o_at.toInt ≤ (g_T : Int) ∧ e_at.toInt < o_at.toInt ∧ o_ln.toInt + e_at.toInt ≤ e_ln.toInt + o_at.toInt) ∧ (r = 1) ∧ (u = [(a_r, (oc4 a_tk a_rh a_rs a_rc o_ln o_pa o_at e_fp)), (a_tk, (oc8 a_kd a_nm a_pl)), (a_kd, (arI G 401 f_kd)), (a_nm, (arI G 401 f_nm)), (a_rc, (arI G 400 o_rc))])) ∨ (∃ (o_ln : Int32) (o_pa : Int32) (o_at : Int32) (o_rc : Nat → Int32), (e_ln.toInt ≤ o_ln.toInt ∧ o_ln.toInt ≤ 400) ∧ (0 ≤ o_at.toInt ∧ o_at.toInt ≤ 401) ∧ (0 ≤ o_pa.toInt ∧ o_pa.toInt ≤ 50) ∧ (CDI o_rc o_ln.toInt) ∧ (OPK f_rc o_rc e_ln.toInt) ∧ (∃ q : Nat, (smF (KDT g_x g_n) (NMT g_x g_n) x) e_at.toInt.toNat e_pa.toInt.toNat = (o_at.toInt.toNat, q, none)) ∧ (o_at.toInt ≤ (g_T : Int)) ∧ (r = 0) ∧ (u = [(a_r, (oc4 a_tk a_rh a_rs a_rc o_ln o_pa o_at e_fp)), (a_tk, (oc8 a_kd a_nm a_pl)), (a_kd, (arI G 401 f_kd)), (a_nm, (arI G 401 f_nm)), (a_rc, (arI G 400 o_rc))]))) (g5_B G (va_A [(a_r, (oc4 a_tk a_rh a_rs a_rc e_ln e_pa e_at e_fp)), (a_tk, (oc8 a_kd a_nm a_pl)), (a_kd, (arI G 401 f_kd)), (a_nm, (arI G 401 f_nm)), (a_rc, (arI G 400 f_rc))] sz)) (va_A [(a_r, (oc4 a_tk a_rh a_rs a_rc e_ln e_pa e_at e_fp)), (a_tk, (oc8 a_kd a_nm a_pl)), (a_kd, (arI G 401 f_kd)), (a_nm, (arI G 401 f_nm)), (a_rc, (arI G 400 f_rc))] sz)) 0 0 (va_A [(a_r, (oc4 a_tk a_rh a_rs a_rc e_ln e_pa e_at e_fp)), (a_tk, (oc8 a_kd a_nm a_pl)), (a_kd, (arI G 401 f_kd)), (a_nm, (arI G 401 f_nm)), (a_rc, (arI G 400 f_rc))] sz)) (l : Launch) (G : g5_G) (a_r a_tk a_kd a_nm a_rc a_rh a_rs a_pl : Nat) (sz : Nat) (e_ln : Int32) (e_pa : Int32) (e_at : Int32) (e_fp : Int32) (f_kd : Nat → Int32) (f_nm : Nat → Int32) (f_rc : Nat → Int32) (g_x : Nat → Int32) (g_n : Nat) (g_T : Nat) (h_e_ln : 0 ≤ e_ln.toInt ∧ e_ln.toInt ≤ 400) (h_e_pa : 0 ≤ e_pa.toInt ∧ e_pa.toInt ≤ 50) (h_e_at : 0 ≤ e_at.toInt ∧ e_at.toInt ≤ 401) (e_tk : TOKI f_kd f_nm) (e_cd : CDI f_rc e_ln.toInt) (e_by : byOK g_x) (e_kr : TKR f_kd f_nm g_x g_n g_T) (e_aT : e_at.toInt ≤ (g_T : Int)) (e_la : e_ln.toInt ≤ e_at.toInt) (e_lv : lvC f_rc e_ln.toInt.toNat = e_pa.toInt.toNat) : Met l yX4_readSum (wsG yX4_readSum cX4_readSum 6 (some .boolean)) ({ frames := fr + 2, cells := 0, slots := 0, locals := lo + 48 }) (va_Pc [.ref a_r, .int p_d] (g5_P G [(a_r, (oc4 a_tk a_rh a_rs a_rc e_ln e_pa e_at e_fp)), (a_tk, (oc8 a_kd a_nm a_pl)), (a_kd, (arI G 401 f_kd)), (a_nm, (arI G 401 f_nm)), (a_rc, (arI G 400 f_rc))] sz)) (va_Qi (fun (r : Int32) (u : va_W) => (∃ (o_ln : Int32) (o_pa : Int32) (o_at : Int32) (o_rc : Nat → Int32), (e_ln.toInt ≤ o_ln.toInt ∧ o_ln.toInt ≤ 400) ∧ (0 ≤ o_at.toInt ∧ o_at.toInt ≤ 401) ∧ (0 ≤ o_pa.toInt ∧ o_pa.toInt ≤ 50) ∧ (CDI o_rc o_ln.toInt) ∧ (OPK f_rc o_rc e_ln.toInt) ∧ (∃ d : DS, (smF (KDT g_x g_n) (NMT g_x g_n) p_d) e_at.toInt.toNat e_pa.toInt.toNat = (o_at.toInt.toNat, o_pa.toInt.toNat, some d) ∧ KCC f_rc o_rc e_ln.toInt ∧ MCC o_rc e_ln.toInt.toNat o_ln.toInt.toNat d ∧ lvC o_rc o_ln.toInt.toNat = o_pa.toInt.toNat) ∧ (o_at.toInt ≤ (g_T : Int) ∧ e_at.toInt < o_at.toInt ∧ o_ln.toInt + e_at.toInt ≤ e_ln.toInt + o_at.toInt) ∧ (r = 1) ∧ (u = [(a_r, (oc4 a_tk a_rh a_rs a_rc o_ln o_pa o_at e_fp)), (a_tk, (oc8 a_kd a_nm a_pl)), (a_kd, (arI G 401 f_kd)), (a_nm, (arI G 401 f_nm)), (a_rc, (arI G 400 o_rc))])) ∨ (∃ (o_ln : Int32) (o_pa : Int32) (o_at : Int32) (o_rc : Nat → Int32), (e_ln.toInt ≤ o_ln.toInt ∧ o_ln.toInt ≤ 400) ∧ (0 ≤ o_at.toInt ∧ o_at.toInt ≤ 401) ∧ (0 ≤ o_pa.toInt ∧ o_pa.toInt ≤ 50) ∧ (CDI o_rc o_ln.toInt) ∧ (OPK f_rc o_rc e_ln.toInt) ∧ (∃ q : Nat, (smF (KDT g_x g_n) (NMT g_x g_n) p_d) e_at.toInt.toNat e_pa.toInt.toNat = (o_at.toInt.toNat, q, none)) ∧ (o_at.toInt ≤ (g_T : Int)) ∧ (r = 0) ∧ (u = [(a_r, (oc4 a_tk a_rh a_rs a_rc o_ln o_pa o_at e_fp)), (a_tk, (oc8 a_kd a_nm a_pl)), (a_kd, (arI G 401 f_kd)), (a_nm, (arI G 401 f_nm)), (a_rc, (arI G 400 o_rc))]))) (g5_B G (va_A [(a_r, (oc4 a_tk a_rh a_rs a_rc e_ln e_pa e_at e_fp)), (a_tk, (oc8 a_kd a_nm a_pl)), (a_kd, (arI G 401 f_kd)), (a_nm, (arI G 401 f_nm)), (a_rc, (arI G 400 f_rc))] sz)) (va_A [(a_r, (oc4 a_tk a_rh a_rs a_rc e_ln e_pa e_at e_fp)), (a_tk, (oc8 a_kd a_nm a_pl)), (a_kd, (arI G 401 f_kd)), (a_nm, (arI G 401 f_nm)), (a_rc, (arI G 400 f_rc))] sz)) 0 0 (va_A [(a_r, (oc4 a_tk a_rh a_rs a_rc e_ln e_pa e_at e_fp)), (a_tk, (oc8 a_kd a_nm a_pl)), (a_kd, (arI G 401 f_kd)), (a_nm, (arI G 401 f_nm)), (a_rc, (arI G 400 f_rc))] sz) := by
  refine Met.ofW (cc := cX4_readSum) (maxL := 6) (ret := (some .boolean)) (by decide +kernel) rfl ?_
  intro p e s m args below meth c s₁ B hml hv
  obtain ⟨rfl, hsz, hP, hK, hD0, hN, hT⟩ := hv
  have hx := B.exec
  have hb := B.bytes
  have hr := B.returns
  have hts : ∀ w ∈ tblG, w.before _ s = true := fun w h => atoms_spec (ws := (wsG yX4_readSum cX4_readSum 6 (some .boolean))) B.pre w (List.mem_cons_of_mem _ h)
  have hown : s.vm.findClass RX4 = some m.cls := findClass_of_methodNamed B.named
  have hlocks := B.notSynchronized
  subst hsz
  have hD := hD0.self (sz := s.heap.size)
  generalize hAe : va_A [(a_r, (oc4 a_tk a_rh a_rs a_rc e_ln e_pa e_at e_fp)), (a_tk, (oc8 a_kd a_nm a_pl)), (a_kd, (arI G 401 f_kd)), (a_nm, (arI G 401 f_nm)), (a_rc, (arI G 400 f_rc))] s.heap.size = A at hD hT ⊢
  have hA : ∀ q : Nat, s.heap.size ≤ q → A q := fun q h => by rw [← hAe]; exact Or.inr h
  have hS : va_S A s.heap s.heap [] := va_S.rf
  replace hP : va_P G.1 vwCl [(a_r, (oc4 a_tk a_rh a_rs a_rc e_ln e_pa e_at e_fp)), (a_tk, (oc8 a_kd a_nm a_pl)), (a_kd, (arI G 401 f_kd)), (a_nm, (arI G 401 f_nm)), (a_rc, (arI G 400 f_rc))] s.heap := hP
  have hl := lv_entry ([.ref a_r, .int p_d]) (n := 6) (Nat.le_of_ble_eq_true rfl)
  rw [lg_entry_eq]
  generalize (lg_sl ([.ref a_r, .int p_d]) ++ List.replicate (6 - (lg_sl ([.ref a_r, .int p_d])).length) Slot.unset).toArray = ls at hl ⊢
  replace hl : lv_has ls 6 [(0, .ref a_r), (1, .int p_d)] := hl
  have hT4 : (g_T : Int) ≤ 400 := by have z9 := e_kr.2.2.2; omega
  have hK0 : (f_kd e_at.toNatClampNeg).toInt = KDT g_x g_n e_at.toInt.toNat := tkr_at e_kr (by omega) (by omega)
  refine lv_aload_n hx hb dX4_readSum_0 rfl (lv_at hl 0 rfl) ?_
  refine lv_iload_n hx hb dX4_readSum_1 rfl (lv_at hl 1 rfl) ?_
  obtain ⟨hPc, hDc, hFc⟩ := g5_sub3 (wc := [(a_r, (oc4 a_tk a_rh a_rs a_rc e_ln e_pa e_at e_fp)), (a_tk, (oc8 a_kd a_nm a_pl)), (a_kd, (arI G 401 f_kd)), (a_nm, (arI G 401 f_nm)), (a_rc, (arI G 400 f_rc))]) hP hD hS hA [0, 1, 2, 3, 4] (by decide +kernel) rfl
  refine va_calli (va_runV (As := [.int p_d]) (rest := []) ⟨hx, hb, hml, hown, hts⟩ ((r_partX fr lo p_d h_p_d h_sum) l G a_r a_tk a_kd a_nm a_rc a_rh a_rs a_pl s.heap.size e_ln e_pa e_at e_fp f_kd f_nm f_rc g_x g_n g_T h_e_ln h_e_pa h_e_at (e_tk) (e_cd) (e_by) (e_kr) (e_aT) (e_la) (e_lv)) (cwV 1 hts gV_X4_90 rfl rfl rfl hv_X4_readPart ⟨by simp only [headSpec]; omega, by simp only [headSpec]; omega⟩) (g5_preV hPc hK hDc hN hT hS hFc (ci := 4) (q0 := 0) rfl rfl) rfl rfl hl.1 rfl (lv_room (Nat.le_of_ble_eq_true rfl)) dX4_readSum_2 ⟨Nat.le_of_ble_eq_true rfl, Nat.le_of_ble_eq_true rfl⟩) hS (fun q _ h => hFc q h) hFc (fun r u t H locs ht hvm hw hB hz1 hk1 hS => ?_)
  obtain ⟨hP1, hD1⟩ := hB
  have hP1 := g5_ht ht hP1
  rcases hw with ⟨z8, z9, z10, z11, (i_1 : e_ln.toInt ≤ z8.toInt ∧ z8.toInt ≤ 400), (i_2 : 0 ≤ z10.toInt ∧ z10.toInt ≤ 401), (i_3 : 0 ≤ z9.toInt ∧ z9.toInt ≤ 50), (i_4 : CDI z11 z8.toInt), (i_5 : OPK f_rc z11 e_ln.toInt), (i_6 : ∃ d : DS, (ptF (KDT g_x g_n) (NMT g_x g_n) p_d) e_at.toInt.toNat e_pa.toInt.toNat = (z10.toInt.toNat, z9.toInt.toNat, some d) ∧ KCC f_rc z11 e_ln.toInt ∧ MCC z11 e_ln.toInt.toNat z8.toInt.toNat d ∧ lvC z11 z8.toInt.toNat = z9.toInt.toNat), (i_7 : z10.toInt ≤ (g_T : Int) ∧ e_at.toInt < z10.toInt ∧ z8.toInt + e_at.toInt ≤ e_ln.toInt + z10.toInt), rfl, rfl⟩ | ⟨z19, z20, z21, z22, i_12, i_13, i_14, i_15, i_16, i_17, i_18, rfl, rfl⟩
  ·
    have hJ9 := va_join (wr := []) hP hD [0, 1, 2, 3, 4] [] rfl rfl (by decide +kernel) (by decide +kernel) hk1 hFc hP1 hD1
    clear hP hD hPc hDc hFc ht hvm hz1 hk1 hP1 hD1
    obtain ⟨hP, hD⟩ := hJ9
    refine g5_rs [(a_r, (oc4 a_tk a_rh a_rs a_rc z8 z9 z10 e_fp)), (a_tk, (oc8 a_kd a_nm a_pl)), (a_kd, (arI G 401 f_kd)), (a_nm, (arI G 401 f_nm)), (a_rc, (arI G 400 z11))] hP hD ?_
    clear hP hD
    intro hP hD
    obtain ⟨dd23, hd23, hc23, hm23, hv23⟩ := i_6
    have hK_24 : (f_kd z10.toNatClampNeg).toInt = KDT g_x g_n z10.toInt.toNat := tkr_at e_kr (by omega) (by omega)
    refine lv_if_ne (tgt := 10) hx hb dX4_readSum_5 (by decide +kernel) (fun c_25 => ?_) (fun c_25 => ?_)
    ·
      refine lv_iconst (v := (-1)) hx hb dX4_readSum_10 (by decide +kernel) ?_
      refine lv_istore_n (lv' := [(2, .int (-1)), (0, .ref a_r), (1, .int p_d)]) hx hb dX4_readSum_11 rfl hl (by decide +kernel) rfl ?_
      clear hl
      intro ls hl
      refine lv_iconst (v := 0) hx hb dX4_readSum_12 (by decide +kernel) ?_
      refine lv_istore_n (lv' := [(3, .int 0), (2, .int (-1)), (0, .ref a_r), (1, .int p_d)]) hx hb dX4_readSum_13 rfl hl (by decide +kernel) rfl ?_
      clear hl
      intro ls hl
      refine g5_loop (α := (Int32) × (Int32) × (Int32) × (Int32) × (Int32) × (Nat → Int32)) (fun (q : (Int32) × (Int32) × (Int32) × (Int32) × (Int32) × (Nat → Int32)) (ls : Array Slot) (H : Heap) (locs : List Loc) => match q with | (k_w, k_i, k_ln, k_pa, k_at, k_rc) => lv_has ls 6 [(2, .int k_w), (3, .int k_i), (0, .ref a_r), (1, .int p_d)] ∧ va_P G.1 vwCl [(a_r, (oc4 a_tk a_rh a_rs a_rc k_ln k_pa k_at e_fp)), (a_tk, (oc8 a_kd a_nm a_pl)), (a_kd, (arI G 401 f_kd)), (a_nm, (arI G 401 f_nm)), (a_rc, (arI G 400 k_rc))] H ∧ va_D A [(a_r, (oc4 a_tk a_rh a_rs a_rc k_ln k_pa k_at e_fp)), (a_tk, (oc8 a_kd a_nm a_pl)), (a_kd, (arI G 401 f_kd)), (a_nm, (arI G 401 f_nm)), (a_rc, (arI G 400 k_rc))] ∧ va_S A s.heap H locs ∧ ((-1) ≤ k_w.toInt ∧ k_w.toInt ≤ 3) ∧ (0 ≤ k_i.toInt ∧ k_i.toInt ≤ 400) ∧ (0 ≤ k_ln.toInt ∧ k_ln.toInt ≤ 400) ∧ (0 ≤ k_pa.toInt ∧ k_pa.toInt ≤ 50) ∧ (0 ≤ k_at.toInt ∧ k_at.toInt ≤ 401) ∧ (e_ln.toInt ≤ k_ln.toInt) ∧ (CDI k_rc k_ln.toInt) ∧ (OPK f_rc k_rc e_ln.toInt) ∧ (k_w.toInt = -1 ∨ k_w.toInt = 2 ∨ k_w.toInt = 3) ∧ (SLC (ptF (KDT g_x g_n) (NMT g_x g_n) p_d) (KDT g_x g_n) (smF (KDT g_x g_n) (NMT g_x g_n) p_d e_at.toInt.toNat e_pa.toInt.toNat) f_rc k_rc e_ln k_ln k_w k_at k_pa k_i) ∧ (lvC k_rc k_ln.toInt.toNat = k_pa.toInt.toNat) ∧ (k_at.toInt ≤ (g_T : Int) ∧ e_at.toInt < k_at.toInt ∧ k_ln.toInt + e_at.toInt ≤ e_ln.toInt + k_at.toInt) ∧ (k_w.toInt = -1 ∨ k_ln.toInt + 1 + e_at.toInt ≤ e_ln.toInt + k_at.toInt)) (fun (q : (Int32) × (Int32) × (Int32) × (Int32) × (Int32) × (Nat → Int32)) => match q with | (k_w, k_i, k_ln, k_pa, k_at, k_rc) => Int.toNat (400 - k_i.toInt)) ((-1), 0, z8, z9, z10, z11) ⟨lv_sub hl [1, 0, 2, 3] rfl, hP, hD, hS, ⟨by decide, by decide⟩, ⟨by decide, by decide⟩, ⟨by omega, by omega⟩, i_3, i_2, by omega, i_4, i_5, Or.inl (by decide +kernel), slc_0 hd23 (by decide +kernel) (by decide +kernel) hm23 hc23 hv23, hv23, by omega, Or.inl (by decide +kernel)⟩ ?_
      rintro ⟨k_w, k_i, k_ln, k_pa, k_at, k_rc⟩ ls H locs ⟨hl, hP, hD, hS, (i_26 : (-1) ≤ k_w.toInt ∧ k_w.toInt ≤ 3), (i_27 : 0 ≤ k_i.toInt ∧ k_i.toInt ≤ 400), (i_28 : 0 ≤ k_ln.toInt ∧ k_ln.toInt ≤ 400), (i_29 : 0 ≤ k_pa.toInt ∧ k_pa.toInt ≤ 50), (i_30 : 0 ≤ k_at.toInt ∧ k_at.toInt ≤ 401), (i_31 : e_ln.toInt ≤ k_ln.toInt), (i_32 : CDI k_rc k_ln.toInt), (i_33 : OPK f_rc k_rc e_ln.toInt), (i_34 : k_w.toInt = -1 ∨ k_w.toInt = 2 ∨ k_w.toInt = 3), (i_35 : SLC (ptF (KDT g_x g_n) (NMT g_x g_n) p_d) (KDT g_x g_n) (smF (KDT g_x g_n) (NMT g_x g_n) p_d e_at.toInt.toNat e_pa.toInt.toNat) f_rc k_rc e_ln k_ln k_w k_at k_pa k_i), (i_36 : lvC k_rc k_ln.toInt.toNat = k_pa.toInt.toNat), (i_37 : k_at.toInt ≤ (g_T : Int) ∧ e_at.toInt < k_at.toInt ∧ k_ln.toInt + e_at.toInt ≤ e_ln.toInt + k_at.toInt), (i_38 : k_w.toInt = -1 ∨ k_ln.toInt + 1 + e_at.toInt ≤ e_ln.toInt + k_at.toInt)⟩ ih_14_39
      replace hl : lv_has ls 6 [(2, .int k_w), (3, .int k_i), (0, .ref a_r), (1, .int p_d)] := hl
      refine g5_rs [(a_r, (oc4 a_tk a_rh a_rs a_rc k_ln k_pa k_at e_fp)), (a_tk, (oc8 a_kd a_nm a_pl)), (a_kd, (arI G 401 f_kd)), (a_nm, (arI G 401 f_nm)), (a_rc, (arI G 400 k_rc))] hP hD ?_
      clear hP hD
      intro hP hD
      refine lv_iload_n hx hb dX4_readSum_14 rfl (lv_at hl 1 rfl) ?_
      refine lv_sipush (v := 400) hx hb dX4_readSum_15 (by decide +kernel) ?_
      refine lv_icmp_ge (tgt := 171) hx hb dX4_readSum_18 (by decide +kernel) (fun c_40 => ?_) (fun c_40 => ?_)
      ·
        have i_40 : k_i.toInt ≥ 400 := g5_ge (a := k_i.toInt) (b := 400) rfl (by decide +kernel) c_40
        refine lv_iconst (v := 0) hx hb dX4_readSum_171 (by decide +kernel) ?_
        exact W.zret (v := 0) hx hb hr rfl (fun t ht hW => ⟨⟨0, [(a_r, (oc4 a_tk a_rh a_rs a_rc k_ln k_pa k_at e_fp)), (a_tk, (oc8 a_kd a_nm a_pl)), (a_kd, (arI G 401 f_kd)), (a_nm, (arI G 401 f_nm)), (a_rc, (arI G 400 k_rc))], rfl, Or.inr (⟨k_ln, k_pa, k_at, k_rc, ⟨by omega, by omega⟩, i_30, i_29, i_32, i_33, ⟨_, slc_out i_35 (by omega)⟩, by omega, rfl, rfl⟩), by rw [ht]; exact hP.sub [0, 1, 2, 3, 4] rfl, hD.sub [0, 1, 2, 3, 4] (by decide +kernel) rfl⟩, hS.F ht⟩) hS.2.2 dX4_readSum_172
      ·
        have i_40 : k_i.toInt < 400 := g5_geN (a := k_i.toInt) (b := 400) rfl (by decide +kernel) c_40
        have hKk : (f_kd k_at.toNatClampNeg).toInt = KDT g_x g_n k_at.toInt.toNat := tkr_at e_kr (by omega) (by omega)
        refine lv_aload_n hx hb dX4_readSum_21 rfl (lv_at hl 2 rfl) ?_
        refine lv_bipush (v := 43) hx hb dX4_readSum_22 (by decide +kernel) ?_
        obtain ⟨hPc, hDc, hFc⟩ := g5_sub3 (wc := [(a_r, (oc4 a_tk a_rh a_rs a_rc k_ln k_pa k_at e_fp)), (a_tk, (oc8 a_kd a_nm a_pl)), (a_kd, (arI G 401 f_kd))]) hP hD hS hA [0, 1, 2] (by decide +kernel) rfl
        refine va_calli (va_runV (As := [.int 43]) (rest := []) ⟨hx, hb, hml, hown, hts⟩ (r_isNextX43 l G a_r a_tk a_kd a_rh a_rs a_rc a_nm a_pl H.size k_ln k_pa k_at e_fp f_kd i_28 i_29 i_30 (by omega)) (cwV 1 hts gV_X4_49 rfl rfl rfl hv_X4_isNext ⟨by simp only [headSpec]; omega, by simp only [headSpec]; omega⟩) (g5_preV hPc hK hDc hN hT hS hFc (ci := 4) (q0 := 0) rfl rfl) rfl rfl hl.1 rfl (lv_room (Nat.le_of_ble_eq_true rfl)) dX4_readSum_24 ⟨Nat.le_of_ble_eq_true rfl, Nat.le_of_ble_eq_true rfl⟩) hS (fun q _ h => hFc q h) hFc (fun r u t H locs ht hvm hw hB hz1 hk1 hS => ?_)
        obtain ⟨hP1, hD1⟩ := hB
        have hP1 := g5_ht ht hP1
        rcases hw with ⟨(i_41 : (f_kd k_at.toNatClampNeg).toInt = 43), rfl, rfl⟩ | ⟨(i_42 : gNe (f_kd k_at.toNatClampNeg).toInt 43), rfl, rfl⟩
        ·
          have hJ9 := va_join (wr := [(a_nm, (arI G 401 f_nm)), (a_rc, (arI G 400 k_rc))]) hP hD [0, 1, 2] [3, 4] rfl rfl (by decide +kernel) (by decide +kernel) hk1 hFc hP1 hD1
          clear hP hD hPc hDc hFc ht hvm hz1 hk1 hP1 hD1
          obtain ⟨hP, hD⟩ := hJ9
          refine g5_rs [(a_nm, (arI G 401 f_nm)), (a_rc, (arI G 400 k_rc)), (a_r, (oc4 a_tk a_rh a_rs a_rc k_ln k_pa k_at e_fp)), (a_tk, (oc8 a_kd a_nm a_pl)), (a_kd, (arI G 401 f_kd))] hP hD ?_
          clear hP hD
          intro hP hD
          refine lv_if_eq (tgt := 34) hx hb dX4_readSum_27 (by decide +kernel) (fun c_43 => ?_) (fun c_43 => ?_)
          ·
            exact absurd c_43 (by decide +kernel)
          ·
            refine lv_iconst (v := 2) hx hb dX4_readSum_30 (by decide +kernel) ?_
            refine lv_goto (tgt := 74) hx hb dX4_readSum_31 (by decide +kernel) ?_
            have hL_44 : k_at.toInt < (g_T : Int) := tkr_ltI e_kr (by omega) (by omega) i_41 (by decide +kernel)
            refine lv_istore (lv' := [(4, .int 2), (2, .int k_w), (3, .int k_i), (0, .ref a_r), (1, .int p_d)]) hx hb dX4_readSum_74 hl (by decide +kernel) rfl ?_
            clear hl
            intro ls hl
            refine lv_iload hx hb dX4_readSum_76 (lv_at hl 0 rfl) ?_
            refine W.eq (g2 := F0 m 78 ls [.int 2]) rfl ?_
            refine lv_iconst (v := 2) hx hb dX4_readSum_78 (by decide +kernel) ?_
            refine lv_icmp_eq (tgt := 88) hx hb dX4_readSum_79 (by decide +kernel) (fun c_45 => ?_) (fun c_45 => ?_)
            ·
              refine lv_iconst (v := 1) hx hb dX4_readSum_88 (by decide +kernel) ?_
              refine lv_goto (tgt := 93) hx hb dX4_readSum_89 (by decide +kernel) ?_
              refine lv_istore (lv' := [(5, .int 1), (4, .int 2), (2, .int k_w), (3, .int k_i), (0, .ref a_r), (1, .int p_d)]) hx hb dX4_readSum_93 hl (by decide +kernel) rfl ?_
              clear hl
              intro ls hl
              refine lv_iload_n hx hb dX4_readSum_95 rfl (lv_at hl 2 rfl) ?_
              refine W.eq (g2 := F0 m 96 ls [.int k_w]) rfl ?_
              refine lv_iconst (v := (-1)) hx hb dX4_readSum_96 (by decide +kernel) ?_
              refine lv_icmp_eq (tgt := 118) hx hb dX4_readSum_97 (by decide +kernel) (fun c_46 => ?_) (fun c_46 => ?_)
              ·
                have i_46 : k_w.toInt = (-1) := g5_eq (a := k_w.toInt) (b := (-1)) rfl (by decide +kernel) c_46
                refine lv_iload hx hb dX4_readSum_118 (lv_at hl 1 rfl) ?_
                refine lv_iconst (v := (-1)) hx hb dX4_readSum_120 (by decide +kernel) ?_
                refine lv_icmp_ne (tgt := 126) hx hb dX4_readSum_121 (by decide +kernel) (fun c_47 => ?_) (fun c_47 => ?_)
                ·
                  refine lv_aload_n hx hb dX4_readSum_126 rfl (lv_at hl 4 rfl) ?_
                  refine lv_dup hx hb dX4_readSum_127 rfl ?_
                  refine va_get (D := G.1) (ci := 4) (v := .int k_at) (C := RX4) (T := TX4) (N := 8) hx hb hts inG_X4 hown hK hP 2 rfl rfl 6 (by decide +kernel) (hts _ fl_X4_42) (fun _ h9 => h9) rfl dX4_readSum_128 ?_
                  refine lv_iconst (v := 1) hx hb dX4_readSum_131 (by decide +kernel) ?_
                  refine W.eq (g2 := F0 m 132 ls [.int 1, .int k_at, .ref a_r]) rfl ?_
                  refine lv_iadd hx hb dX4_readSum_132 ?_
                  have t_48 : (k_at + 1).toInt = k_at.toInt + 1 := g5_iadd (a := k_at.toInt) (b := 1) (by rfl) (by decide +kernel) (by omega) (by omega)
                  refine va_put (D := G.1) (ci := 4) (v := .int (k_at + 1)) (ty := .int) (C := RX4) (T := TX4) (N := 8) hx hb hts inG_X4 tyX4 tyX4_ok nmX4 hown hK hP hD hS 2 rfl rfl 6 (by decide +kernel) (hts _ fl_X4_42) (fun _ h9 => h9) rfl (by decide +kernel) rfl rfl (Nat.le_of_ble_eq_true rfl) dX4_readSum_133 ?_
                  clear hP hD hS
                  intro H locs hP hD hS
                  refine g5_rs [(a_nm, (arI G 401 f_nm)), (a_rc, (arI G 400 k_rc)), (a_r, (oc4 a_tk a_rh a_rs a_rc k_ln k_pa (k_at + 1) e_fp)), (a_tk, (oc8 a_kd a_nm a_pl)), (a_kd, (arI G 401 f_kd))] hP hD ?_
                  clear hP hD
                  intro hP hD
                  refine lv_aload_n hx hb dX4_readSum_136 rfl (lv_at hl 4 rfl) ?_
                  refine lv_iload_n hx hb dX4_readSum_137 rfl (lv_at hl 5 rfl) ?_
                  obtain ⟨hPc, hDc, hFc⟩ := g5_sub3 (wc := [(a_r, (oc4 a_tk a_rh a_rs a_rc k_ln k_pa (k_at + 1) e_fp)), (a_tk, (oc8 a_kd a_nm a_pl)), (a_kd, (arI G 401 f_kd)), (a_nm, (arI G 401 f_nm)), (a_rc, (arI G 400 k_rc))]) hP hD hS hA [2, 3, 4, 0, 1] (by decide +kernel) rfl
                  refine va_calli (va_runV (As := [.int p_d]) (rest := []) ⟨hx, hb, hml, hown, hts⟩ ((r_partX fr lo p_d h_p_d h_sum) l G a_r a_tk a_kd a_nm a_rc a_rh a_rs a_pl H.size k_ln k_pa (k_at + 1) e_fp f_kd f_nm k_rc g_x g_n g_T i_28 i_29 ⟨by omega, by omega⟩ (e_tk) (i_32) (e_by) (e_kr) (by omega) (by omega) (i_36)) (cwV 1 hts gV_X4_90 rfl rfl rfl hv_X4_readPart ⟨by simp only [headSpec]; omega, by simp only [headSpec]; omega⟩) (g5_preV hPc hK hDc hN hT hS hFc (ci := 4) (q0 := 0) rfl rfl) rfl rfl hl.1 rfl (lv_room (Nat.le_of_ble_eq_true rfl)) dX4_readSum_138 ⟨Nat.le_of_ble_eq_true rfl, Nat.le_of_ble_eq_true rfl⟩) hS (fun q _ h => hFc q h) hFc (fun r u t H locs ht hvm hw hB hz1 hk1 hS => ?_)
                  obtain ⟨hP1, hD1⟩ := hB
                  have hP1 := g5_ht ht hP1
                  rcases hw with ⟨z56, z57, z58, z59, (i_49 : k_ln.toInt ≤ z56.toInt ∧ z56.toInt ≤ 400), (i_50 : 0 ≤ z58.toInt ∧ z58.toInt ≤ 401), (i_51 : 0 ≤ z57.toInt ∧ z57.toInt ≤ 50), (i_52 : CDI z59 z56.toInt), (i_53 : OPK k_rc z59 k_ln.toInt), (i_54 : ∃ d : DS, (ptF (KDT g_x g_n) (NMT g_x g_n) p_d) (k_at + 1).toInt.toNat k_pa.toInt.toNat = (z58.toInt.toNat, z57.toInt.toNat, some d) ∧ KCC k_rc z59 k_ln.toInt ∧ MCC z59 k_ln.toInt.toNat z56.toInt.toNat d ∧ lvC z59 z56.toInt.toNat = z57.toInt.toNat), (i_55 : z58.toInt ≤ (g_T : Int) ∧ (k_at + 1).toInt < z58.toInt ∧ z56.toInt + (k_at + 1).toInt ≤ k_ln.toInt + z58.toInt), rfl, rfl⟩ | ⟨z67, z68, z69, z70, (i_60 : k_ln.toInt ≤ z67.toInt ∧ z67.toInt ≤ 400), (i_61 : 0 ≤ z69.toInt ∧ z69.toInt ≤ 401), (i_62 : 0 ≤ z68.toInt ∧ z68.toInt ≤ 50), (i_63 : CDI z70 z67.toInt), (i_64 : OPK k_rc z70 k_ln.toInt), (i_65 : ∃ q : Nat, (ptF (KDT g_x g_n) (NMT g_x g_n) p_d) (k_at + 1).toInt.toNat k_pa.toInt.toNat = (z69.toInt.toNat, q, none)), (i_66 : z69.toInt ≤ (g_T : Int)), rfl, rfl⟩
                  ·
                    have hJ9 := va_join (wr := []) hP hD [2, 3, 4, 0, 1] [] rfl rfl (by decide +kernel) (by decide +kernel) hk1 hFc hP1 hD1
                    clear hP hD hPc hDc hFc ht hvm hz1 hk1 hP1 hD1
                    obtain ⟨hP, hD⟩ := hJ9
                    refine g5_rs [(a_r, (oc4 a_tk a_rh a_rs a_rc z56 z57 z58 e_fp)), (a_tk, (oc8 a_kd a_nm a_pl)), (a_kd, (arI G 401 f_kd)), (a_nm, (arI G 401 f_nm)), (a_rc, (arI G 400 z59))] hP hD ?_
                    clear hP hD
                    intro hP hD
                    obtain ⟨dd71, hd71, hc71, hm71, hv71⟩ := i_54
                    have hK_72 : (f_kd z58.toNatClampNeg).toInt = KDT g_x g_n z58.toInt.toNat := tkr_at e_kr (by omega) (by omega)
                    refine lv_if_ne (tgt := 146) hx hb dX4_readSum_141 (by decide +kernel) (fun c_73 => ?_) (fun c_73 => ?_)
                    ·
                      refine lv_iload hx hb dX4_readSum_146 (lv_at hl 0 rfl) ?_
                      refine lv_if_eq (tgt := 157) hx hb dX4_readSum_148 (by decide +kernel) (fun c_74 => ?_) (fun c_74 => ?_)
                      ·
                        exact absurd c_74 (by decide +kernel)
                      ·
                        refine lv_iload hx hb dX4_readSum_151 (lv_at hl 1 rfl) ?_
                        refine lv_istore_n (lv' := [(2, .int 2), (5, .int 1), (4, .int 2), (3, .int k_i), (0, .ref a_r), (1, .int p_d)]) hx hb dX4_readSum_153 rfl hl (by decide +kernel) rfl ?_
                        clear hl
                        intro ls hl
                        refine lv_goto (tgt := 165) hx hb dX4_readSum_154 (by decide +kernel) ?_
                        refine lv_iinc (v := (k_i + 1)) (lv' := [(3, .int (k_i + 1)), (2, .int 2), (5, .int 1), (4, .int 2), (0, .ref a_r), (1, .int p_d)]) hx hb dX4_readSum_165 hl (k := 3) rfl rfl (by decide +kernel) rfl ?_
                        clear hl
                        intro ls hl
                        have t_75 : (k_i + 1).toInt = k_i.toInt + 1 := g5_iadd (a := k_i.toInt) (b := 1) rfl (by decide +kernel) (by omega) (by omega)
                        refine W.eq (g2 := F0 m 168 ls []) rfl ?_
                        refine lv_goto (tgt := 14) hx hb dX4_readSum_168 (by decide +kernel) ?_
                        exact ih_14_39 (2, (k_i + 1), z56, z57, z58, z59) ls H locs (show Int.toNat (400 - (k_i + 1).toInt) < Int.toNat (400 - k_i.toInt) from g_up (show k_i.toInt < (k_i + 1).toInt by omega) (show k_i.toInt < 400 by omega)) ⟨lv_sub hl [1, 0, 4, 5] rfl, hP, hD, hS, ⟨by decide, by decide⟩, ⟨by omega, by omega⟩, ⟨by omega, by omega⟩, i_51, i_50, by omega, i_52, opk_trans i_33 (i_53) (by omega), Or.inr (Or.inl (by decide +kernel)), slc_add (wt' := 2) i_35 (by omega) (by omega) ⟨by omega, by omega⟩ (by rw [(hKk.symm.trans i_41)]; decide) ⟨by decide, by decide⟩ (Or.inl ⟨by omega, rfl, rfl⟩) (by rw [show k_at.toInt.toNat + 1 = (k_at + 1).toInt.toNat by omega]; exact hd71) hc71 hm71 hv71 (by omega), hv71, by omega, by omega⟩
                    ·
                      exact absurd c_73 (by decide +kernel)
                  ·
                    have hJ9 := va_join (wr := []) hP hD [2, 3, 4, 0, 1] [] rfl rfl (by decide +kernel) (by decide +kernel) hk1 hFc hP1 hD1
                    clear hP hD hPc hDc hFc ht hvm hz1 hk1 hP1 hD1
                    obtain ⟨hP, hD⟩ := hJ9
                    refine g5_rs [(a_r, (oc4 a_tk a_rh a_rs a_rc z67 z68 z69 e_fp)), (a_tk, (oc8 a_kd a_nm a_pl)), (a_kd, (arI G 401 f_kd)), (a_nm, (arI G 401 f_nm)), (a_rc, (arI G 400 z70))] hP hD ?_
                    clear hP hD
                    intro hP hD
                    obtain ⟨qq76, hq76⟩ := i_65
                    refine lv_if_ne (tgt := 146) hx hb dX4_readSum_141 (by decide +kernel) (fun c_77 => ?_) (fun c_77 => ?_)
                    ·
                      exact absurd c_77 (by decide +kernel)
                    ·
                      refine lv_iconst (v := 0) hx hb dX4_readSum_144 (by decide +kernel) ?_
                      exact W.zret (v := 0) hx hb hr rfl (fun t ht hW => ⟨⟨0, [(a_r, (oc4 a_tk a_rh a_rs a_rc z67 z68 z69 e_fp)), (a_tk, (oc8 a_kd a_nm a_pl)), (a_kd, (arI G 401 f_kd)), (a_nm, (arI G 401 f_nm)), (a_rc, (arI G 400 z70))], rfl, Or.inr (⟨z67, z68, z69, z70, ⟨by omega, by omega⟩, i_61, i_62, i_63, opk_trans i_33 (i_64) (by omega), ⟨qq76, slc_bad i_35 (by omega) (by omega) (by rw [(hKk.symm.trans i_41)]; decide) (by rw [show k_at.toInt.toNat + 1 = (k_at + 1).toInt.toNat by omega]; exact hq76)⟩, by omega, rfl, rfl⟩), by rw [ht]; exact hP.sub [0, 1, 2, 3, 4] rfl, hD.sub [0, 1, 2, 3, 4] (by decide +kernel) rfl⟩, hS.F ht⟩) hS.2.2 dX4_readSum_145
                ·
                  exact absurd c_47 (by decide +kernel)
              ·
                have n_46 : gNe (k_w.toInt) ((-1)) := g5_eqN (a := k_w.toInt) (b := (-1)) rfl (by decide +kernel) c_46
                have i_46 : k_w.toInt ≥ 0 := by have z := g5_eqN (a := k_w.toInt) (b := (-1)) (by rfl) (by decide +kernel) c_46; omega
                refine lv_iload hx hb dX4_readSum_100 (lv_at hl 0 rfl) ?_
                refine lv_if_ne (tgt := 111) hx hb dX4_readSum_102 (by decide +kernel) (fun c_78 => ?_) (fun c_78 => ?_)
                ·
                  refine lv_aload_n hx hb dX4_readSum_111 rfl (lv_at hl 4 rfl) ?_
                  refine lv_iload_n hx hb dX4_readSum_112 rfl (lv_at hl 2 rfl) ?_
                  refine lv_iconst (v := 0) hx hb dX4_readSum_113 (by decide +kernel) ?_
                  obtain ⟨hPc, hDc, hFc⟩ := g5_sub3 (wc := [(a_r, (oc4 a_tk a_rh a_rs a_rc k_ln k_pa k_at e_fp)), (a_rc, (arI G 400 k_rc))]) hP hD hS hA [2, 1] (by decide +kernel) rfl
                  refine va_calli (va_runV (As := [.int k_w, .int 0]) (rest := []) ⟨hx, hb, hml, hown, hts⟩ (r_emitX l G a_r a_rc a_tk a_rh a_rs H.size k_ln k_pa k_at e_fp k_w 0 k_rc i_28 i_29 i_30 (i_32) (wok_wait (by rcases i_34 with q | q | q; exact absurd q n_46; exact Or.inl q; exact Or.inr q)) (by omega)) (cwV 2 hts gV_X4_79 rfl rfl rfl hv_X4_emit ⟨by simp only [headSpec]; omega, by simp only [headSpec]; omega⟩) (g5_preV hPc hK hDc hN hT hS hFc (ci := 4) (q0 := 0) rfl rfl) rfl rfl hl.1 rfl (lv_room (Nat.le_of_ble_eq_true rfl)) dX4_readSum_114 ⟨Nat.le_of_ble_eq_true rfl, Nat.le_of_ble_eq_true rfl⟩) hS (fun q _ h => hFc q h) hFc (fun r u t H locs ht hvm hw hB hz1 hk1 hS => ?_)
                  obtain ⟨hP1, hD1⟩ := hB
                  have hP1 := g5_ht ht hP1
                  obtain ⟨z87, z88, z89, (i_79 : 0 ≤ z87.toInt ∧ z87.toInt ≤ 399), (i_80 : z87.toInt = k_ln.toInt), (i_81 : z88.toInt = k_ln.toInt + 1), (i_82 : k_ln.toInt ≤ z88.toInt ∧ z88.toInt ≤ 400), (i_83 : CDI z89 z88.toInt), (i_84 : OPK k_rc z89 k_ln.toInt), (i_85 : 0 ≤ z87.toInt → z87.toInt < z88.toInt ∧ z89 z87.toNatClampNeg = ((k_w <<< (12 &&& 31)) ||| (0 : Int32))), (i_86 : z89 = upd k_rc k_ln.toNatClampNeg ((k_w <<< (12 &&& 31)) ||| (0 : Int32))), y90, rfl⟩ := hw
                  have hJ9 := va_join (wr := [(a_nm, (arI G 401 f_nm)), (a_tk, (oc8 a_kd a_nm a_pl)), (a_kd, (arI G 401 f_kd))]) hP hD [2, 1] [0, 3, 4] rfl rfl (by decide +kernel) (by decide +kernel) hk1 hFc hP1 hD1
                  clear hP hD hPc hDc hFc ht hvm hz1 hk1 hP1 hD1
                  obtain ⟨hP, hD⟩ := hJ9
                  refine g5_rs [(a_nm, (arI G 401 f_nm)), (a_tk, (oc8 a_kd a_nm a_pl)), (a_kd, (arI G 401 f_kd)), (a_r, (oc4 a_tk a_rh a_rs a_rc z88 k_pa k_at e_fp)), (a_rc, (arI G 400 z89))] hP hD ?_
                  clear hP hD
                  intro hP hD
                  refine g5_ti (v := z87) y90 ?_
                  have hE_91 : lvC z89 z88.toInt.toNat = k_pa.toInt.toNat := by rw [i_86, lvC_em0 (by omega) (by omega) (opT_20 (by omega) (by decide +kernel))]; exact i_36
                  refine W.eq (g2 := F0 m 117 ls [.int z87]) rfl ?_
                  refine lv_pop hx hb dX4_readSum_117 rfl ?_
                  refine lv_iload hx hb dX4_readSum_118 (lv_at hl 1 rfl) ?_
                  refine lv_iconst (v := (-1)) hx hb dX4_readSum_120 (by decide +kernel) ?_
                  refine lv_icmp_ne (tgt := 126) hx hb dX4_readSum_121 (by decide +kernel) (fun c_92 => ?_) (fun c_92 => ?_)
                  ·
                    refine lv_aload_n hx hb dX4_readSum_126 rfl (lv_at hl 4 rfl) ?_
                    refine lv_dup hx hb dX4_readSum_127 rfl ?_
                    refine va_get (D := G.1) (ci := 4) (v := .int k_at) (C := RX4) (T := TX4) (N := 8) hx hb hts inG_X4 hown hK hP 3 rfl rfl 6 (by decide +kernel) (hts _ fl_X4_42) (fun _ h9 => h9) rfl dX4_readSum_128 ?_
                    refine lv_iconst (v := 1) hx hb dX4_readSum_131 (by decide +kernel) ?_
                    refine W.eq (g2 := F0 m 132 ls [.int 1, .int k_at, .ref a_r]) rfl ?_
                    refine lv_iadd hx hb dX4_readSum_132 ?_
                    have t_93 : (k_at + 1).toInt = k_at.toInt + 1 := g5_iadd (a := k_at.toInt) (b := 1) (by rfl) (by decide +kernel) (by omega) (by omega)
                    refine va_put (D := G.1) (ci := 4) (v := .int (k_at + 1)) (ty := .int) (C := RX4) (T := TX4) (N := 8) hx hb hts inG_X4 tyX4 tyX4_ok nmX4 hown hK hP hD hS 3 rfl rfl 6 (by decide +kernel) (hts _ fl_X4_42) (fun _ h9 => h9) rfl (by decide +kernel) rfl rfl (Nat.le_of_ble_eq_true rfl) dX4_readSum_133 ?_
                    clear hP hD hS
                    intro H locs hP hD hS
                    refine g5_rs [(a_nm, (arI G 401 f_nm)), (a_tk, (oc8 a_kd a_nm a_pl)), (a_kd, (arI G 401 f_kd)), (a_r, (oc4 a_tk a_rh a_rs a_rc z88 k_pa (k_at + 1) e_fp)), (a_rc, (arI G 400 z89))] hP hD ?_
                    clear hP hD
                    intro hP hD
                    refine lv_aload_n hx hb dX4_readSum_136 rfl (lv_at hl 4 rfl) ?_
                    refine lv_iload_n hx hb dX4_readSum_137 rfl (lv_at hl 5 rfl) ?_
                    obtain ⟨hPc, hDc, hFc⟩ := g5_sub3 (wc := [(a_r, (oc4 a_tk a_rh a_rs a_rc z88 k_pa (k_at + 1) e_fp)), (a_tk, (oc8 a_kd a_nm a_pl)), (a_kd, (arI G 401 f_kd)), (a_nm, (arI G 401 f_nm)), (a_rc, (arI G 400 z89))]) hP hD hS hA [3, 1, 2, 0, 4] (by decide +kernel) rfl
                    refine va_calli (va_runV (As := [.int p_d]) (rest := []) ⟨hx, hb, hml, hown, hts⟩ ((r_partX fr lo p_d h_p_d h_sum) l G a_r a_tk a_kd a_nm a_rc a_rh a_rs a_pl H.size z88 k_pa (k_at + 1) e_fp f_kd f_nm z89 g_x g_n g_T ⟨by omega, by omega⟩ i_29 ⟨by omega, by omega⟩ (e_tk) (i_83) (e_by) (e_kr) (by omega) (by omega) (hE_91)) (cwV 1 hts gV_X4_90 rfl rfl rfl hv_X4_readPart ⟨by simp only [headSpec]; omega, by simp only [headSpec]; omega⟩) (g5_preV hPc hK hDc hN hT hS hFc (ci := 4) (q0 := 0) rfl rfl) rfl rfl hl.1 rfl (lv_room (Nat.le_of_ble_eq_true rfl)) dX4_readSum_138 ⟨Nat.le_of_ble_eq_true rfl, Nat.le_of_ble_eq_true rfl⟩) hS (fun q _ h => hFc q h) hFc (fun r u t H locs ht hvm hw hB hz1 hk1 hS => ?_)
                    obtain ⟨hP1, hD1⟩ := hB
                    have hP1 := g5_ht ht hP1
                    rcases hw with ⟨z101, z102, z103, z104, (i_94 : z88.toInt ≤ z101.toInt ∧ z101.toInt ≤ 400), (i_95 : 0 ≤ z103.toInt ∧ z103.toInt ≤ 401), (i_96 : 0 ≤ z102.toInt ∧ z102.toInt ≤ 50), (i_97 : CDI z104 z101.toInt), (i_98 : OPK z89 z104 z88.toInt), (i_99 : ∃ d : DS, (ptF (KDT g_x g_n) (NMT g_x g_n) p_d) (k_at + 1).toInt.toNat k_pa.toInt.toNat = (z103.toInt.toNat, z102.toInt.toNat, some d) ∧ KCC z89 z104 z88.toInt ∧ MCC z104 z88.toInt.toNat z101.toInt.toNat d ∧ lvC z104 z101.toInt.toNat = z102.toInt.toNat), (i_100 : z103.toInt ≤ (g_T : Int) ∧ (k_at + 1).toInt < z103.toInt ∧ z101.toInt + (k_at + 1).toInt ≤ z88.toInt + z103.toInt), rfl, rfl⟩ | ⟨z112, z113, z114, z115, (i_105 : z88.toInt ≤ z112.toInt ∧ z112.toInt ≤ 400), (i_106 : 0 ≤ z114.toInt ∧ z114.toInt ≤ 401), (i_107 : 0 ≤ z113.toInt ∧ z113.toInt ≤ 50), (i_108 : CDI z115 z112.toInt), (i_109 : OPK z89 z115 z88.toInt), (i_110 : ∃ q : Nat, (ptF (KDT g_x g_n) (NMT g_x g_n) p_d) (k_at + 1).toInt.toNat k_pa.toInt.toNat = (z114.toInt.toNat, q, none)), (i_111 : z114.toInt ≤ (g_T : Int)), rfl, rfl⟩
                    ·
                      have hJ9 := va_join (wr := []) hP hD [3, 1, 2, 0, 4] [] rfl rfl (by decide +kernel) (by decide +kernel) hk1 hFc hP1 hD1
                      clear hP hD hPc hDc hFc ht hvm hz1 hk1 hP1 hD1
                      obtain ⟨hP, hD⟩ := hJ9
                      refine g5_rs [(a_r, (oc4 a_tk a_rh a_rs a_rc z101 z102 z103 e_fp)), (a_tk, (oc8 a_kd a_nm a_pl)), (a_kd, (arI G 401 f_kd)), (a_nm, (arI G 401 f_nm)), (a_rc, (arI G 400 z104))] hP hD ?_
                      clear hP hD
                      intro hP hD
                      obtain ⟨dd116, hd116, hc116, hm116, hv116⟩ := i_99
                      have hK_117 : (f_kd z103.toNatClampNeg).toInt = KDT g_x g_n z103.toInt.toNat := tkr_at e_kr (by omega) (by omega)
                      refine lv_if_ne (tgt := 146) hx hb dX4_readSum_141 (by decide +kernel) (fun c_118 => ?_) (fun c_118 => ?_)
                      ·
                        refine lv_iload hx hb dX4_readSum_146 (lv_at hl 0 rfl) ?_
                        refine lv_if_eq (tgt := 157) hx hb dX4_readSum_148 (by decide +kernel) (fun c_119 => ?_) (fun c_119 => ?_)
                        ·
                          exact absurd c_119 (by decide +kernel)
                        ·
                          refine lv_iload hx hb dX4_readSum_151 (lv_at hl 1 rfl) ?_
                          refine lv_istore_n (lv' := [(2, .int 2), (5, .int 1), (4, .int 2), (3, .int k_i), (0, .ref a_r), (1, .int p_d)]) hx hb dX4_readSum_153 rfl hl (by decide +kernel) rfl ?_
                          clear hl
                          intro ls hl
                          refine lv_goto (tgt := 165) hx hb dX4_readSum_154 (by decide +kernel) ?_
                          refine lv_iinc (v := (k_i + 1)) (lv' := [(3, .int (k_i + 1)), (2, .int 2), (5, .int 1), (4, .int 2), (0, .ref a_r), (1, .int p_d)]) hx hb dX4_readSum_165 hl (k := 3) rfl rfl (by decide +kernel) rfl ?_
                          clear hl
                          intro ls hl
                          have t_120 : (k_i + 1).toInt = k_i.toInt + 1 := g5_iadd (a := k_i.toInt) (b := 1) rfl (by decide +kernel) (by omega) (by omega)
                          refine W.eq (g2 := F0 m 168 ls []) rfl ?_
                          refine lv_goto (tgt := 14) hx hb dX4_readSum_168 (by decide +kernel) ?_
                          exact ih_14_39 (2, (k_i + 1), z101, z102, z103, z104) ls H locs (show Int.toNat (400 - (k_i + 1).toInt) < Int.toNat (400 - k_i.toInt) from g_up (show k_i.toInt < (k_i + 1).toInt by omega) (show k_i.toInt < 400 by omega)) ⟨lv_sub hl [1, 0, 4, 5] rfl, hP, hD, hS, ⟨by decide, by decide⟩, ⟨by omega, by omega⟩, ⟨by omega, by omega⟩, i_96, i_95, by omega, i_97, opk_trans i_33 (opk_trans i_84 (i_98) (by omega)) (by omega), Or.inr (Or.inl (by decide +kernel)), slc_add (wt' := 2) i_35 (by omega) (by omega) ⟨by omega, by omega⟩ (by rw [(hKk.symm.trans i_41)]; decide) ⟨by decide, by decide⟩ (Or.inr ⟨by omega, i_86, by omega⟩) (by rw [show k_at.toInt.toNat + 1 = (k_at + 1).toInt.toNat by omega]; exact hd116) hc116 hm116 hv116 (by omega), hv116, by omega, by omega⟩
                      ·
                        exact absurd c_118 (by decide +kernel)
                    ·
                      have hJ9 := va_join (wr := []) hP hD [3, 1, 2, 0, 4] [] rfl rfl (by decide +kernel) (by decide +kernel) hk1 hFc hP1 hD1
                      clear hP hD hPc hDc hFc ht hvm hz1 hk1 hP1 hD1
                      obtain ⟨hP, hD⟩ := hJ9
                      refine g5_rs [(a_r, (oc4 a_tk a_rh a_rs a_rc z112 z113 z114 e_fp)), (a_tk, (oc8 a_kd a_nm a_pl)), (a_kd, (arI G 401 f_kd)), (a_nm, (arI G 401 f_nm)), (a_rc, (arI G 400 z115))] hP hD ?_
                      clear hP hD
                      intro hP hD
                      obtain ⟨qq121, hq121⟩ := i_110
                      refine lv_if_ne (tgt := 146) hx hb dX4_readSum_141 (by decide +kernel) (fun c_122 => ?_) (fun c_122 => ?_)
                      ·
                        exact absurd c_122 (by decide +kernel)
                      ·
                        refine lv_iconst (v := 0) hx hb dX4_readSum_144 (by decide +kernel) ?_
                        exact W.zret (v := 0) hx hb hr rfl (fun t ht hW => ⟨⟨0, [(a_r, (oc4 a_tk a_rh a_rs a_rc z112 z113 z114 e_fp)), (a_tk, (oc8 a_kd a_nm a_pl)), (a_kd, (arI G 401 f_kd)), (a_nm, (arI G 401 f_nm)), (a_rc, (arI G 400 z115))], rfl, Or.inr (⟨z112, z113, z114, z115, ⟨by omega, by omega⟩, i_106, i_107, i_108, opk_trans i_33 (opk_trans i_84 (i_109) (by omega)) (by omega), ⟨qq121, slc_bad i_35 (by omega) (by omega) (by rw [(hKk.symm.trans i_41)]; decide) (by rw [show k_at.toInt.toNat + 1 = (k_at + 1).toInt.toNat by omega]; exact hq121)⟩, by omega, rfl, rfl⟩), by rw [ht]; exact hP.sub [0, 1, 2, 3, 4] rfl, hD.sub [0, 1, 2, 3, 4] (by decide +kernel) rfl⟩, hS.F ht⟩) hS.2.2 dX4_readSum_145
                  ·
                    exact absurd c_92 (by decide +kernel)
                ·
                  exact absurd c_78 (by decide +kernel)
            ·
              exact absurd c_45 (by decide +kernel)
        ·
          have hJ9 := va_join (wr := [(a_nm, (arI G 401 f_nm)), (a_rc, (arI G 400 k_rc))]) hP hD [0, 1, 2] [3, 4] rfl rfl (by decide +kernel) (by decide +kernel) hk1 hFc hP1 hD1
          clear hP hD hPc hDc hFc ht hvm hz1 hk1 hP1 hD1
          obtain ⟨hP, hD⟩ := hJ9
          refine g5_rs [(a_nm, (arI G 401 f_nm)), (a_rc, (arI G 400 k_rc)), (a_r, (oc4 a_tk a_rh a_rs a_rc k_ln k_pa k_at e_fp)), (a_tk, (oc8 a_kd a_nm a_pl)), (a_kd, (arI G 401 f_kd))] hP hD ?_
          clear hP hD
          intro hP hD
          refine lv_if_eq (tgt := 34) hx hb dX4_readSum_27 (by decide +kernel) (fun c_123 => ?_) (fun c_123 => ?_)
          ·
            refine lv_aload_n hx hb dX4_readSum_34 rfl (lv_at hl 2 rfl) ?_
            refine lv_bipush (v := 45) hx hb dX4_readSum_35 (by decide +kernel) ?_
            obtain ⟨hPc, hDc, hFc⟩ := g5_sub3 (wc := [(a_r, (oc4 a_tk a_rh a_rs a_rc k_ln k_pa k_at e_fp)), (a_tk, (oc8 a_kd a_nm a_pl)), (a_kd, (arI G 401 f_kd))]) hP hD hS hA [2, 3, 4] (by decide +kernel) rfl
            refine va_calli (va_runV (As := [.int 45]) (rest := []) ⟨hx, hb, hml, hown, hts⟩ (r_isNextX45 l G a_r a_tk a_kd a_rh a_rs a_rc a_nm a_pl H.size k_ln k_pa k_at e_fp f_kd i_28 i_29 i_30 (by omega)) (cwV 1 hts gV_X4_49 rfl rfl rfl hv_X4_isNext ⟨by simp only [headSpec]; omega, by simp only [headSpec]; omega⟩) (g5_preV hPc hK hDc hN hT hS hFc (ci := 4) (q0 := 0) rfl rfl) rfl rfl hl.1 rfl (lv_room (Nat.le_of_ble_eq_true rfl)) dX4_readSum_37 ⟨Nat.le_of_ble_eq_true rfl, Nat.le_of_ble_eq_true rfl⟩) hS (fun q _ h => hFc q h) hFc (fun r u t H locs ht hvm hw hB hz1 hk1 hS => ?_)
            obtain ⟨hP1, hD1⟩ := hB
            have hP1 := g5_ht ht hP1
            rcases hw with ⟨(i_124 : (f_kd k_at.toNatClampNeg).toInt = 45), rfl, rfl⟩ | ⟨(i_125 : gNe (f_kd k_at.toNatClampNeg).toInt 45), rfl, rfl⟩
            ·
              have hJ9 := va_join (wr := [(a_nm, (arI G 401 f_nm)), (a_rc, (arI G 400 k_rc))]) hP hD [2, 3, 4] [0, 1] rfl rfl (by decide +kernel) (by decide +kernel) hk1 hFc hP1 hD1
              clear hP hD hPc hDc hFc ht hvm hz1 hk1 hP1 hD1
              obtain ⟨hP, hD⟩ := hJ9
              refine g5_rs [(a_nm, (arI G 401 f_nm)), (a_rc, (arI G 400 k_rc)), (a_r, (oc4 a_tk a_rh a_rs a_rc k_ln k_pa k_at e_fp)), (a_tk, (oc8 a_kd a_nm a_pl)), (a_kd, (arI G 401 f_kd))] hP hD ?_
              clear hP hD
              intro hP hD
              refine lv_if_eq (tgt := 47) hx hb dX4_readSum_40 (by decide +kernel) (fun c_126 => ?_) (fun c_126 => ?_)
              ·
                exact absurd c_126 (by decide +kernel)
              ·
                refine lv_iconst (v := 3) hx hb dX4_readSum_43 (by decide +kernel) ?_
                refine lv_goto (tgt := 74) hx hb dX4_readSum_44 (by decide +kernel) ?_
                have hL_127 : k_at.toInt < (g_T : Int) := tkr_ltI e_kr (by omega) (by omega) i_124 (by decide +kernel)
                refine lv_istore (lv' := [(4, .int 3), (2, .int k_w), (3, .int k_i), (0, .ref a_r), (1, .int p_d)]) hx hb dX4_readSum_74 hl (by decide +kernel) rfl ?_
                clear hl
                intro ls hl
                refine lv_iload hx hb dX4_readSum_76 (lv_at hl 0 rfl) ?_
                refine W.eq (g2 := F0 m 78 ls [.int 3]) rfl ?_
                refine lv_iconst (v := 2) hx hb dX4_readSum_78 (by decide +kernel) ?_
                refine lv_icmp_eq (tgt := 88) hx hb dX4_readSum_79 (by decide +kernel) (fun c_128 => ?_) (fun c_128 => ?_)
                ·
                  exact absurd c_128 (by decide +kernel)
                ·
                  refine lv_iload hx hb dX4_readSum_82 (lv_at hl 0 rfl) ?_
                  refine lv_iconst (v := 3) hx hb dX4_readSum_84 (by decide +kernel) ?_
                  refine lv_icmp_ne (tgt := 92) hx hb dX4_readSum_85 (by decide +kernel) (fun c_129 => ?_) (fun c_129 => ?_)
                  ·
                    exact absurd c_129 (by decide +kernel)
                  ·
                    refine lv_iconst (v := 1) hx hb dX4_readSum_88 (by decide +kernel) ?_
                    refine lv_goto (tgt := 93) hx hb dX4_readSum_89 (by decide +kernel) ?_
                    refine lv_istore (lv' := [(5, .int 1), (4, .int 3), (2, .int k_w), (3, .int k_i), (0, .ref a_r), (1, .int p_d)]) hx hb dX4_readSum_93 hl (by decide +kernel) rfl ?_
                    clear hl
                    intro ls hl
                    refine lv_iload_n hx hb dX4_readSum_95 rfl (lv_at hl 2 rfl) ?_
                    refine W.eq (g2 := F0 m 96 ls [.int k_w]) rfl ?_
                    refine lv_iconst (v := (-1)) hx hb dX4_readSum_96 (by decide +kernel) ?_
                    refine lv_icmp_eq (tgt := 118) hx hb dX4_readSum_97 (by decide +kernel) (fun c_130 => ?_) (fun c_130 => ?_)
                    ·
                      have i_130 : k_w.toInt = (-1) := g5_eq (a := k_w.toInt) (b := (-1)) rfl (by decide +kernel) c_130
                      refine lv_iload hx hb dX4_readSum_118 (lv_at hl 1 rfl) ?_
                      refine lv_iconst (v := (-1)) hx hb dX4_readSum_120 (by decide +kernel) ?_
                      refine lv_icmp_ne (tgt := 126) hx hb dX4_readSum_121 (by decide +kernel) (fun c_131 => ?_) (fun c_131 => ?_)
                      ·
                        refine lv_aload_n hx hb dX4_readSum_126 rfl (lv_at hl 4 rfl) ?_
                        refine lv_dup hx hb dX4_readSum_127 rfl ?_
                        refine va_get (D := G.1) (ci := 4) (v := .int k_at) (C := RX4) (T := TX4) (N := 8) hx hb hts inG_X4 hown hK hP 2 rfl rfl 6 (by decide +kernel) (hts _ fl_X4_42) (fun _ h9 => h9) rfl dX4_readSum_128 ?_
                        refine lv_iconst (v := 1) hx hb dX4_readSum_131 (by decide +kernel) ?_
                        refine W.eq (g2 := F0 m 132 ls [.int 1, .int k_at, .ref a_r]) rfl ?_
                        refine lv_iadd hx hb dX4_readSum_132 ?_
                        have t_132 : (k_at + 1).toInt = k_at.toInt + 1 := g5_iadd (a := k_at.toInt) (b := 1) (by rfl) (by decide +kernel) (by omega) (by omega)
                        refine va_put (D := G.1) (ci := 4) (v := .int (k_at + 1)) (ty := .int) (C := RX4) (T := TX4) (N := 8) hx hb hts inG_X4 tyX4 tyX4_ok nmX4 hown hK hP hD hS 2 rfl rfl 6 (by decide +kernel) (hts _ fl_X4_42) (fun _ h9 => h9) rfl (by decide +kernel) rfl rfl (Nat.le_of_ble_eq_true rfl) dX4_readSum_133 ?_
                        clear hP hD hS
                        intro H locs hP hD hS
                        refine g5_rs [(a_nm, (arI G 401 f_nm)), (a_rc, (arI G 400 k_rc)), (a_r, (oc4 a_tk a_rh a_rs a_rc k_ln k_pa (k_at + 1) e_fp)), (a_tk, (oc8 a_kd a_nm a_pl)), (a_kd, (arI G 401 f_kd))] hP hD ?_
                        clear hP hD
                        intro hP hD
                        refine lv_aload_n hx hb dX4_readSum_136 rfl (lv_at hl 4 rfl) ?_
                        refine lv_iload_n hx hb dX4_readSum_137 rfl (lv_at hl 5 rfl) ?_
                        obtain ⟨hPc, hDc, hFc⟩ := g5_sub3 (wc := [(a_r, (oc4 a_tk a_rh a_rs a_rc k_ln k_pa (k_at + 1) e_fp)), (a_tk, (oc8 a_kd a_nm a_pl)), (a_kd, (arI G 401 f_kd)), (a_nm, (arI G 401 f_nm)), (a_rc, (arI G 400 k_rc))]) hP hD hS hA [2, 3, 4, 0, 1] (by decide +kernel) rfl
                        refine va_calli (va_runV (As := [.int p_d]) (rest := []) ⟨hx, hb, hml, hown, hts⟩ ((r_partX fr lo p_d h_p_d h_sum) l G a_r a_tk a_kd a_nm a_rc a_rh a_rs a_pl H.size k_ln k_pa (k_at + 1) e_fp f_kd f_nm k_rc g_x g_n g_T i_28 i_29 ⟨by omega, by omega⟩ (e_tk) (i_32) (e_by) (e_kr) (by omega) (by omega) (i_36)) (cwV 1 hts gV_X4_90 rfl rfl rfl hv_X4_readPart ⟨by simp only [headSpec]; omega, by simp only [headSpec]; omega⟩) (g5_preV hPc hK hDc hN hT hS hFc (ci := 4) (q0 := 0) rfl rfl) rfl rfl hl.1 rfl (lv_room (Nat.le_of_ble_eq_true rfl)) dX4_readSum_138 ⟨Nat.le_of_ble_eq_true rfl, Nat.le_of_ble_eq_true rfl⟩) hS (fun q _ h => hFc q h) hFc (fun r u t H locs ht hvm hw hB hz1 hk1 hS => ?_)
                        obtain ⟨hP1, hD1⟩ := hB
                        have hP1 := g5_ht ht hP1
                        rcases hw with ⟨z140, z141, z142, z143, (i_133 : k_ln.toInt ≤ z140.toInt ∧ z140.toInt ≤ 400), (i_134 : 0 ≤ z142.toInt ∧ z142.toInt ≤ 401), (i_135 : 0 ≤ z141.toInt ∧ z141.toInt ≤ 50), (i_136 : CDI z143 z140.toInt), (i_137 : OPK k_rc z143 k_ln.toInt), (i_138 : ∃ d : DS, (ptF (KDT g_x g_n) (NMT g_x g_n) p_d) (k_at + 1).toInt.toNat k_pa.toInt.toNat = (z142.toInt.toNat, z141.toInt.toNat, some d) ∧ KCC k_rc z143 k_ln.toInt ∧ MCC z143 k_ln.toInt.toNat z140.toInt.toNat d ∧ lvC z143 z140.toInt.toNat = z141.toInt.toNat), (i_139 : z142.toInt ≤ (g_T : Int) ∧ (k_at + 1).toInt < z142.toInt ∧ z140.toInt + (k_at + 1).toInt ≤ k_ln.toInt + z142.toInt), rfl, rfl⟩ | ⟨z151, z152, z153, z154, (i_144 : k_ln.toInt ≤ z151.toInt ∧ z151.toInt ≤ 400), (i_145 : 0 ≤ z153.toInt ∧ z153.toInt ≤ 401), (i_146 : 0 ≤ z152.toInt ∧ z152.toInt ≤ 50), (i_147 : CDI z154 z151.toInt), (i_148 : OPK k_rc z154 k_ln.toInt), (i_149 : ∃ q : Nat, (ptF (KDT g_x g_n) (NMT g_x g_n) p_d) (k_at + 1).toInt.toNat k_pa.toInt.toNat = (z153.toInt.toNat, q, none)), (i_150 : z153.toInt ≤ (g_T : Int)), rfl, rfl⟩
                        ·
                          have hJ9 := va_join (wr := []) hP hD [2, 3, 4, 0, 1] [] rfl rfl (by decide +kernel) (by decide +kernel) hk1 hFc hP1 hD1
                          clear hP hD hPc hDc hFc ht hvm hz1 hk1 hP1 hD1
                          obtain ⟨hP, hD⟩ := hJ9
                          refine g5_rs [(a_r, (oc4 a_tk a_rh a_rs a_rc z140 z141 z142 e_fp)), (a_tk, (oc8 a_kd a_nm a_pl)), (a_kd, (arI G 401 f_kd)), (a_nm, (arI G 401 f_nm)), (a_rc, (arI G 400 z143))] hP hD ?_
                          clear hP hD
                          intro hP hD
                          obtain ⟨dd155, hd155, hc155, hm155, hv155⟩ := i_138
                          have hK_156 : (f_kd z142.toNatClampNeg).toInt = KDT g_x g_n z142.toInt.toNat := tkr_at e_kr (by omega) (by omega)
                          refine lv_if_ne (tgt := 146) hx hb dX4_readSum_141 (by decide +kernel) (fun c_157 => ?_) (fun c_157 => ?_)
                          ·
                            refine lv_iload hx hb dX4_readSum_146 (lv_at hl 0 rfl) ?_
                            refine lv_if_eq (tgt := 157) hx hb dX4_readSum_148 (by decide +kernel) (fun c_158 => ?_) (fun c_158 => ?_)
                            ·
                              exact absurd c_158 (by decide +kernel)
                            ·
                              refine lv_iload hx hb dX4_readSum_151 (lv_at hl 1 rfl) ?_
                              refine lv_istore_n (lv' := [(2, .int 3), (5, .int 1), (4, .int 3), (3, .int k_i), (0, .ref a_r), (1, .int p_d)]) hx hb dX4_readSum_153 rfl hl (by decide +kernel) rfl ?_
                              clear hl
                              intro ls hl
                              refine lv_goto (tgt := 165) hx hb dX4_readSum_154 (by decide +kernel) ?_
                              refine lv_iinc (v := (k_i + 1)) (lv' := [(3, .int (k_i + 1)), (2, .int 3), (5, .int 1), (4, .int 3), (0, .ref a_r), (1, .int p_d)]) hx hb dX4_readSum_165 hl (k := 3) rfl rfl (by decide +kernel) rfl ?_
                              clear hl
                              intro ls hl
                              have t_159 : (k_i + 1).toInt = k_i.toInt + 1 := g5_iadd (a := k_i.toInt) (b := 1) rfl (by decide +kernel) (by omega) (by omega)
                              refine W.eq (g2 := F0 m 168 ls []) rfl ?_
                              refine lv_goto (tgt := 14) hx hb dX4_readSum_168 (by decide +kernel) ?_
                              exact ih_14_39 (3, (k_i + 1), z140, z141, z142, z143) ls H locs (show Int.toNat (400 - (k_i + 1).toInt) < Int.toNat (400 - k_i.toInt) from g_up (show k_i.toInt < (k_i + 1).toInt by omega) (show k_i.toInt < 400 by omega)) ⟨lv_sub hl [1, 0, 4, 5] rfl, hP, hD, hS, ⟨by decide, by decide⟩, ⟨by omega, by omega⟩, ⟨by omega, by omega⟩, i_135, i_134, by omega, i_136, opk_trans i_33 (i_137) (by omega), Or.inr (Or.inr (by decide +kernel)), slc_add (wt' := 3) i_35 (by omega) (by omega) ⟨by omega, by omega⟩ (by rw [(hKk.symm.trans i_124)]; decide) ⟨by decide, by decide⟩ (Or.inl ⟨by omega, rfl, rfl⟩) (by rw [show k_at.toInt.toNat + 1 = (k_at + 1).toInt.toNat by omega]; exact hd155) hc155 hm155 hv155 (by omega), hv155, by omega, by omega⟩
                          ·
                            exact absurd c_157 (by decide +kernel)
                        ·
                          have hJ9 := va_join (wr := []) hP hD [2, 3, 4, 0, 1] [] rfl rfl (by decide +kernel) (by decide +kernel) hk1 hFc hP1 hD1
                          clear hP hD hPc hDc hFc ht hvm hz1 hk1 hP1 hD1
                          obtain ⟨hP, hD⟩ := hJ9
                          refine g5_rs [(a_r, (oc4 a_tk a_rh a_rs a_rc z151 z152 z153 e_fp)), (a_tk, (oc8 a_kd a_nm a_pl)), (a_kd, (arI G 401 f_kd)), (a_nm, (arI G 401 f_nm)), (a_rc, (arI G 400 z154))] hP hD ?_
                          clear hP hD
                          intro hP hD
                          obtain ⟨qq160, hq160⟩ := i_149
                          refine lv_if_ne (tgt := 146) hx hb dX4_readSum_141 (by decide +kernel) (fun c_161 => ?_) (fun c_161 => ?_)
                          ·
                            exact absurd c_161 (by decide +kernel)
                          ·
                            refine lv_iconst (v := 0) hx hb dX4_readSum_144 (by decide +kernel) ?_
                            exact W.zret (v := 0) hx hb hr rfl (fun t ht hW => ⟨⟨0, [(a_r, (oc4 a_tk a_rh a_rs a_rc z151 z152 z153 e_fp)), (a_tk, (oc8 a_kd a_nm a_pl)), (a_kd, (arI G 401 f_kd)), (a_nm, (arI G 401 f_nm)), (a_rc, (arI G 400 z154))], rfl, Or.inr (⟨z151, z152, z153, z154, ⟨by omega, by omega⟩, i_145, i_146, i_147, opk_trans i_33 (i_148) (by omega), ⟨qq160, slc_bad i_35 (by omega) (by omega) (by rw [(hKk.symm.trans i_124)]; decide) (by rw [show k_at.toInt.toNat + 1 = (k_at + 1).toInt.toNat by omega]; exact hq160)⟩, by omega, rfl, rfl⟩), by rw [ht]; exact hP.sub [0, 1, 2, 3, 4] rfl, hD.sub [0, 1, 2, 3, 4] (by decide +kernel) rfl⟩, hS.F ht⟩) hS.2.2 dX4_readSum_145
                      ·
                        exact absurd c_131 (by decide +kernel)
                    ·
                      have n_130 : gNe (k_w.toInt) ((-1)) := g5_eqN (a := k_w.toInt) (b := (-1)) rfl (by decide +kernel) c_130
                      have i_130 : k_w.toInt ≥ 0 := by have z := g5_eqN (a := k_w.toInt) (b := (-1)) (by rfl) (by decide +kernel) c_130; omega
                      refine lv_iload hx hb dX4_readSum_100 (lv_at hl 0 rfl) ?_
                      refine lv_if_ne (tgt := 111) hx hb dX4_readSum_102 (by decide +kernel) (fun c_162 => ?_) (fun c_162 => ?_)
                      ·
                        refine lv_aload_n hx hb dX4_readSum_111 rfl (lv_at hl 4 rfl) ?_
                        refine lv_iload_n hx hb dX4_readSum_112 rfl (lv_at hl 2 rfl) ?_
                        refine lv_iconst (v := 0) hx hb dX4_readSum_113 (by decide +kernel) ?_
                        obtain ⟨hPc, hDc, hFc⟩ := g5_sub3 (wc := [(a_r, (oc4 a_tk a_rh a_rs a_rc k_ln k_pa k_at e_fp)), (a_rc, (arI G 400 k_rc))]) hP hD hS hA [2, 1] (by decide +kernel) rfl
                        refine va_calli (va_runV (As := [.int k_w, .int 0]) (rest := []) ⟨hx, hb, hml, hown, hts⟩ (r_emitX l G a_r a_rc a_tk a_rh a_rs H.size k_ln k_pa k_at e_fp k_w 0 k_rc i_28 i_29 i_30 (i_32) (wok_wait (by rcases i_34 with q | q | q; exact absurd q n_130; exact Or.inl q; exact Or.inr q)) (by omega)) (cwV 2 hts gV_X4_79 rfl rfl rfl hv_X4_emit ⟨by simp only [headSpec]; omega, by simp only [headSpec]; omega⟩) (g5_preV hPc hK hDc hN hT hS hFc (ci := 4) (q0 := 0) rfl rfl) rfl rfl hl.1 rfl (lv_room (Nat.le_of_ble_eq_true rfl)) dX4_readSum_114 ⟨Nat.le_of_ble_eq_true rfl, Nat.le_of_ble_eq_true rfl⟩) hS (fun q _ h => hFc q h) hFc (fun r u t H locs ht hvm hw hB hz1 hk1 hS => ?_)
                        obtain ⟨hP1, hD1⟩ := hB
                        have hP1 := g5_ht ht hP1
                        obtain ⟨z171, z172, z173, (i_163 : 0 ≤ z171.toInt ∧ z171.toInt ≤ 399), (i_164 : z171.toInt = k_ln.toInt), (i_165 : z172.toInt = k_ln.toInt + 1), (i_166 : k_ln.toInt ≤ z172.toInt ∧ z172.toInt ≤ 400), (i_167 : CDI z173 z172.toInt), (i_168 : OPK k_rc z173 k_ln.toInt), (i_169 : 0 ≤ z171.toInt → z171.toInt < z172.toInt ∧ z173 z171.toNatClampNeg = ((k_w <<< (12 &&& 31)) ||| (0 : Int32))), (i_170 : z173 = upd k_rc k_ln.toNatClampNeg ((k_w <<< (12 &&& 31)) ||| (0 : Int32))), y174, rfl⟩ := hw
                        have hJ9 := va_join (wr := [(a_nm, (arI G 401 f_nm)), (a_tk, (oc8 a_kd a_nm a_pl)), (a_kd, (arI G 401 f_kd))]) hP hD [2, 1] [0, 3, 4] rfl rfl (by decide +kernel) (by decide +kernel) hk1 hFc hP1 hD1
                        clear hP hD hPc hDc hFc ht hvm hz1 hk1 hP1 hD1
                        obtain ⟨hP, hD⟩ := hJ9
                        refine g5_rs [(a_nm, (arI G 401 f_nm)), (a_tk, (oc8 a_kd a_nm a_pl)), (a_kd, (arI G 401 f_kd)), (a_r, (oc4 a_tk a_rh a_rs a_rc z172 k_pa k_at e_fp)), (a_rc, (arI G 400 z173))] hP hD ?_
                        clear hP hD
                        intro hP hD
                        refine g5_ti (v := z171) y174 ?_
                        have hE_175 : lvC z173 z172.toInt.toNat = k_pa.toInt.toNat := by rw [i_170, lvC_em0 (by omega) (by omega) (opT_20 (by omega) (by decide +kernel))]; exact i_36
                        refine W.eq (g2 := F0 m 117 ls [.int z171]) rfl ?_
                        refine lv_pop hx hb dX4_readSum_117 rfl ?_
                        refine lv_iload hx hb dX4_readSum_118 (lv_at hl 1 rfl) ?_
                        refine lv_iconst (v := (-1)) hx hb dX4_readSum_120 (by decide +kernel) ?_
                        refine lv_icmp_ne (tgt := 126) hx hb dX4_readSum_121 (by decide +kernel) (fun c_176 => ?_) (fun c_176 => ?_)
                        ·
                          refine lv_aload_n hx hb dX4_readSum_126 rfl (lv_at hl 4 rfl) ?_
                          refine lv_dup hx hb dX4_readSum_127 rfl ?_
                          refine va_get (D := G.1) (ci := 4) (v := .int k_at) (C := RX4) (T := TX4) (N := 8) hx hb hts inG_X4 hown hK hP 3 rfl rfl 6 (by decide +kernel) (hts _ fl_X4_42) (fun _ h9 => h9) rfl dX4_readSum_128 ?_
                          refine lv_iconst (v := 1) hx hb dX4_readSum_131 (by decide +kernel) ?_
                          refine W.eq (g2 := F0 m 132 ls [.int 1, .int k_at, .ref a_r]) rfl ?_
                          refine lv_iadd hx hb dX4_readSum_132 ?_
                          have t_177 : (k_at + 1).toInt = k_at.toInt + 1 := g5_iadd (a := k_at.toInt) (b := 1) (by rfl) (by decide +kernel) (by omega) (by omega)
                          refine va_put (D := G.1) (ci := 4) (v := .int (k_at + 1)) (ty := .int) (C := RX4) (T := TX4) (N := 8) hx hb hts inG_X4 tyX4 tyX4_ok nmX4 hown hK hP hD hS 3 rfl rfl 6 (by decide +kernel) (hts _ fl_X4_42) (fun _ h9 => h9) rfl (by decide +kernel) rfl rfl (Nat.le_of_ble_eq_true rfl) dX4_readSum_133 ?_
                          clear hP hD hS
                          intro H locs hP hD hS
                          refine g5_rs [(a_nm, (arI G 401 f_nm)), (a_tk, (oc8 a_kd a_nm a_pl)), (a_kd, (arI G 401 f_kd)), (a_r, (oc4 a_tk a_rh a_rs a_rc z172 k_pa (k_at + 1) e_fp)), (a_rc, (arI G 400 z173))] hP hD ?_
                          clear hP hD
                          intro hP hD
                          refine lv_aload_n hx hb dX4_readSum_136 rfl (lv_at hl 4 rfl) ?_
                          refine lv_iload_n hx hb dX4_readSum_137 rfl (lv_at hl 5 rfl) ?_
                          obtain ⟨hPc, hDc, hFc⟩ := g5_sub3 (wc := [(a_r, (oc4 a_tk a_rh a_rs a_rc z172 k_pa (k_at + 1) e_fp)), (a_tk, (oc8 a_kd a_nm a_pl)), (a_kd, (arI G 401 f_kd)), (a_nm, (arI G 401 f_nm)), (a_rc, (arI G 400 z173))]) hP hD hS hA [3, 1, 2, 0, 4] (by decide +kernel) rfl
                          refine va_calli (va_runV (As := [.int p_d]) (rest := []) ⟨hx, hb, hml, hown, hts⟩ ((r_partX fr lo p_d h_p_d h_sum) l G a_r a_tk a_kd a_nm a_rc a_rh a_rs a_pl H.size z172 k_pa (k_at + 1) e_fp f_kd f_nm z173 g_x g_n g_T ⟨by omega, by omega⟩ i_29 ⟨by omega, by omega⟩ (e_tk) (i_167) (e_by) (e_kr) (by omega) (by omega) (hE_175)) (cwV 1 hts gV_X4_90 rfl rfl rfl hv_X4_readPart ⟨by simp only [headSpec]; omega, by simp only [headSpec]; omega⟩) (g5_preV hPc hK hDc hN hT hS hFc (ci := 4) (q0 := 0) rfl rfl) rfl rfl hl.1 rfl (lv_room (Nat.le_of_ble_eq_true rfl)) dX4_readSum_138 ⟨Nat.le_of_ble_eq_true rfl, Nat.le_of_ble_eq_true rfl⟩) hS (fun q _ h => hFc q h) hFc (fun r u t H locs ht hvm hw hB hz1 hk1 hS => ?_)
                          obtain ⟨hP1, hD1⟩ := hB
                          have hP1 := g5_ht ht hP1
                          rcases hw with ⟨z185, z186, z187, z188, (i_178 : z172.toInt ≤ z185.toInt ∧ z185.toInt ≤ 400), (i_179 : 0 ≤ z187.toInt ∧ z187.toInt ≤ 401), (i_180 : 0 ≤ z186.toInt ∧ z186.toInt ≤ 50), (i_181 : CDI z188 z185.toInt), (i_182 : OPK z173 z188 z172.toInt), (i_183 : ∃ d : DS, (ptF (KDT g_x g_n) (NMT g_x g_n) p_d) (k_at + 1).toInt.toNat k_pa.toInt.toNat = (z187.toInt.toNat, z186.toInt.toNat, some d) ∧ KCC z173 z188 z172.toInt ∧ MCC z188 z172.toInt.toNat z185.toInt.toNat d ∧ lvC z188 z185.toInt.toNat = z186.toInt.toNat), (i_184 : z187.toInt ≤ (g_T : Int) ∧ (k_at + 1).toInt < z187.toInt ∧ z185.toInt + (k_at + 1).toInt ≤ z172.toInt + z187.toInt), rfl, rfl⟩ | ⟨z196, z197, z198, z199, (i_189 : z172.toInt ≤ z196.toInt ∧ z196.toInt ≤ 400), (i_190 : 0 ≤ z198.toInt ∧ z198.toInt ≤ 401), (i_191 : 0 ≤ z197.toInt ∧ z197.toInt ≤ 50), (i_192 : CDI z199 z196.toInt), (i_193 : OPK z173 z199 z172.toInt), (i_194 : ∃ q : Nat, (ptF (KDT g_x g_n) (NMT g_x g_n) p_d) (k_at + 1).toInt.toNat k_pa.toInt.toNat = (z198.toInt.toNat, q, none)), (i_195 : z198.toInt ≤ (g_T : Int)), rfl, rfl⟩
                          ·
                            have hJ9 := va_join (wr := []) hP hD [3, 1, 2, 0, 4] [] rfl rfl (by decide +kernel) (by decide +kernel) hk1 hFc hP1 hD1
                            clear hP hD hPc hDc hFc ht hvm hz1 hk1 hP1 hD1
                            obtain ⟨hP, hD⟩ := hJ9
                            refine g5_rs [(a_r, (oc4 a_tk a_rh a_rs a_rc z185 z186 z187 e_fp)), (a_tk, (oc8 a_kd a_nm a_pl)), (a_kd, (arI G 401 f_kd)), (a_nm, (arI G 401 f_nm)), (a_rc, (arI G 400 z188))] hP hD ?_
                            clear hP hD
                            intro hP hD
                            obtain ⟨dd200, hd200, hc200, hm200, hv200⟩ := i_183
                            have hK_201 : (f_kd z187.toNatClampNeg).toInt = KDT g_x g_n z187.toInt.toNat := tkr_at e_kr (by omega) (by omega)
                            refine lv_if_ne (tgt := 146) hx hb dX4_readSum_141 (by decide +kernel) (fun c_202 => ?_) (fun c_202 => ?_)
                            ·
                              refine lv_iload hx hb dX4_readSum_146 (lv_at hl 0 rfl) ?_
                              refine lv_if_eq (tgt := 157) hx hb dX4_readSum_148 (by decide +kernel) (fun c_203 => ?_) (fun c_203 => ?_)
                              ·
                                exact absurd c_203 (by decide +kernel)
                              ·
                                refine lv_iload hx hb dX4_readSum_151 (lv_at hl 1 rfl) ?_
                                refine lv_istore_n (lv' := [(2, .int 3), (5, .int 1), (4, .int 3), (3, .int k_i), (0, .ref a_r), (1, .int p_d)]) hx hb dX4_readSum_153 rfl hl (by decide +kernel) rfl ?_
                                clear hl
                                intro ls hl
                                refine lv_goto (tgt := 165) hx hb dX4_readSum_154 (by decide +kernel) ?_
                                refine lv_iinc (v := (k_i + 1)) (lv' := [(3, .int (k_i + 1)), (2, .int 3), (5, .int 1), (4, .int 3), (0, .ref a_r), (1, .int p_d)]) hx hb dX4_readSum_165 hl (k := 3) rfl rfl (by decide +kernel) rfl ?_
                                clear hl
                                intro ls hl
                                have t_204 : (k_i + 1).toInt = k_i.toInt + 1 := g5_iadd (a := k_i.toInt) (b := 1) rfl (by decide +kernel) (by omega) (by omega)
                                refine W.eq (g2 := F0 m 168 ls []) rfl ?_
                                refine lv_goto (tgt := 14) hx hb dX4_readSum_168 (by decide +kernel) ?_
                                exact ih_14_39 (3, (k_i + 1), z185, z186, z187, z188) ls H locs (show Int.toNat (400 - (k_i + 1).toInt) < Int.toNat (400 - k_i.toInt) from g_up (show k_i.toInt < (k_i + 1).toInt by omega) (show k_i.toInt < 400 by omega)) ⟨lv_sub hl [1, 0, 4, 5] rfl, hP, hD, hS, ⟨by decide, by decide⟩, ⟨by omega, by omega⟩, ⟨by omega, by omega⟩, i_180, i_179, by omega, i_181, opk_trans i_33 (opk_trans i_168 (i_182) (by omega)) (by omega), Or.inr (Or.inr (by decide +kernel)), slc_add (wt' := 3) i_35 (by omega) (by omega) ⟨by omega, by omega⟩ (by rw [(hKk.symm.trans i_124)]; decide) ⟨by decide, by decide⟩ (Or.inr ⟨by omega, i_170, by omega⟩) (by rw [show k_at.toInt.toNat + 1 = (k_at + 1).toInt.toNat by omega]; exact hd200) hc200 hm200 hv200 (by omega), hv200, by omega, by omega⟩
                            ·
                              exact absurd c_202 (by decide +kernel)
                          ·
                            have hJ9 := va_join (wr := []) hP hD [3, 1, 2, 0, 4] [] rfl rfl (by decide +kernel) (by decide +kernel) hk1 hFc hP1 hD1
                            clear hP hD hPc hDc hFc ht hvm hz1 hk1 hP1 hD1
                            obtain ⟨hP, hD⟩ := hJ9
                            refine g5_rs [(a_r, (oc4 a_tk a_rh a_rs a_rc z196 z197 z198 e_fp)), (a_tk, (oc8 a_kd a_nm a_pl)), (a_kd, (arI G 401 f_kd)), (a_nm, (arI G 401 f_nm)), (a_rc, (arI G 400 z199))] hP hD ?_
                            clear hP hD
                            intro hP hD
                            obtain ⟨qq205, hq205⟩ := i_194
                            refine lv_if_ne (tgt := 146) hx hb dX4_readSum_141 (by decide +kernel) (fun c_206 => ?_) (fun c_206 => ?_)
                            ·
                              exact absurd c_206 (by decide +kernel)
                            ·
                              refine lv_iconst (v := 0) hx hb dX4_readSum_144 (by decide +kernel) ?_
                              exact W.zret (v := 0) hx hb hr rfl (fun t ht hW => ⟨⟨0, [(a_r, (oc4 a_tk a_rh a_rs a_rc z196 z197 z198 e_fp)), (a_tk, (oc8 a_kd a_nm a_pl)), (a_kd, (arI G 401 f_kd)), (a_nm, (arI G 401 f_nm)), (a_rc, (arI G 400 z199))], rfl, Or.inr (⟨z196, z197, z198, z199, ⟨by omega, by omega⟩, i_190, i_191, i_192, opk_trans i_33 (opk_trans i_168 (i_193) (by omega)) (by omega), ⟨qq205, slc_bad i_35 (by omega) (by omega) (by rw [(hKk.symm.trans i_124)]; decide) (by rw [show k_at.toInt.toNat + 1 = (k_at + 1).toInt.toNat by omega]; exact hq205)⟩, by omega, rfl, rfl⟩), by rw [ht]; exact hP.sub [0, 1, 2, 3, 4] rfl, hD.sub [0, 1, 2, 3, 4] (by decide +kernel) rfl⟩, hS.F ht⟩) hS.2.2 dX4_readSum_145
                        ·
                          exact absurd c_176 (by decide +kernel)
                      ·
                        exact absurd c_162 (by decide +kernel)
            ·
              have hJ9 := va_join (wr := [(a_nm, (arI G 401 f_nm)), (a_rc, (arI G 400 k_rc))]) hP hD [2, 3, 4] [0, 1] rfl rfl (by decide +kernel) (by decide +kernel) hk1 hFc hP1 hD1
              clear hP hD hPc hDc hFc ht hvm hz1 hk1 hP1 hD1
              obtain ⟨hP, hD⟩ := hJ9
              refine g5_rs [(a_nm, (arI G 401 f_nm)), (a_rc, (arI G 400 k_rc)), (a_r, (oc4 a_tk a_rh a_rs a_rc k_ln k_pa k_at e_fp)), (a_tk, (oc8 a_kd a_nm a_pl)), (a_kd, (arI G 401 f_kd))] hP hD ?_
              clear hP hD
              intro hP hD
              refine lv_if_eq (tgt := 47) hx hb dX4_readSum_40 (by decide +kernel) (fun c_207 => ?_) (fun c_207 => ?_)
              ·
                refine lv_aload_n hx hb dX4_readSum_47 rfl (lv_at hl 2 rfl) ?_
                refine lv_bipush (v := 42) hx hb dX4_readSum_48 (by decide +kernel) ?_
                obtain ⟨hPc, hDc, hFc⟩ := g5_sub3 (wc := [(a_r, (oc4 a_tk a_rh a_rs a_rc k_ln k_pa k_at e_fp)), (a_tk, (oc8 a_kd a_nm a_pl)), (a_kd, (arI G 401 f_kd))]) hP hD hS hA [2, 3, 4] (by decide +kernel) rfl
                refine va_calli (va_runV (As := [.int 42]) (rest := []) ⟨hx, hb, hml, hown, hts⟩ (r_isNextX42 l G a_r a_tk a_kd a_rh a_rs a_rc a_nm a_pl H.size k_ln k_pa k_at e_fp f_kd i_28 i_29 i_30 (by omega)) (cwV 1 hts gV_X4_49 rfl rfl rfl hv_X4_isNext ⟨by simp only [headSpec]; omega, by simp only [headSpec]; omega⟩) (g5_preV hPc hK hDc hN hT hS hFc (ci := 4) (q0 := 0) rfl rfl) rfl rfl hl.1 rfl (lv_room (Nat.le_of_ble_eq_true rfl)) dX4_readSum_50 ⟨Nat.le_of_ble_eq_true rfl, Nat.le_of_ble_eq_true rfl⟩) hS (fun q _ h => hFc q h) hFc (fun r u t H locs ht hvm hw hB hz1 hk1 hS => ?_)
                obtain ⟨hP1, hD1⟩ := hB
                have hP1 := g5_ht ht hP1
                rcases hw with ⟨(i_208 : (f_kd k_at.toNatClampNeg).toInt = 42), rfl, rfl⟩ | ⟨(i_209 : gNe (f_kd k_at.toNatClampNeg).toInt 42), rfl, rfl⟩
                ·
                  have hJ9 := va_join (wr := [(a_nm, (arI G 401 f_nm)), (a_rc, (arI G 400 k_rc))]) hP hD [2, 3, 4] [0, 1] rfl rfl (by decide +kernel) (by decide +kernel) hk1 hFc hP1 hD1
                  clear hP hD hPc hDc hFc ht hvm hz1 hk1 hP1 hD1
                  obtain ⟨hP, hD⟩ := hJ9
                  refine g5_rs [(a_nm, (arI G 401 f_nm)), (a_rc, (arI G 400 k_rc)), (a_r, (oc4 a_tk a_rh a_rs a_rc k_ln k_pa k_at e_fp)), (a_tk, (oc8 a_kd a_nm a_pl)), (a_kd, (arI G 401 f_kd))] hP hD ?_
                  clear hP hD
                  intro hP hD
                  refine lv_if_eq (tgt := 60) hx hb dX4_readSum_53 (by decide +kernel) (fun c_210 => ?_) (fun c_210 => ?_)
                  ·
                    exact absurd c_210 (by decide +kernel)
                  ·
                    refine lv_iconst (v := 4) hx hb dX4_readSum_56 (by decide +kernel) ?_
                    refine lv_goto (tgt := 74) hx hb dX4_readSum_57 (by decide +kernel) ?_
                    have hL_211 : k_at.toInt < (g_T : Int) := tkr_ltI e_kr (by omega) (by omega) i_208 (by decide +kernel)
                    refine lv_istore (lv' := [(4, .int 4), (2, .int k_w), (3, .int k_i), (0, .ref a_r), (1, .int p_d)]) hx hb dX4_readSum_74 hl (by decide +kernel) rfl ?_
                    clear hl
                    intro ls hl
                    refine lv_iload hx hb dX4_readSum_76 (lv_at hl 0 rfl) ?_
                    refine W.eq (g2 := F0 m 78 ls [.int 4]) rfl ?_
                    refine lv_iconst (v := 2) hx hb dX4_readSum_78 (by decide +kernel) ?_
                    refine lv_icmp_eq (tgt := 88) hx hb dX4_readSum_79 (by decide +kernel) (fun c_212 => ?_) (fun c_212 => ?_)
                    ·
                      exact absurd c_212 (by decide +kernel)
                    ·
                      refine lv_iload hx hb dX4_readSum_82 (lv_at hl 0 rfl) ?_
                      refine lv_iconst (v := 3) hx hb dX4_readSum_84 (by decide +kernel) ?_
                      refine lv_icmp_ne (tgt := 92) hx hb dX4_readSum_85 (by decide +kernel) (fun c_213 => ?_) (fun c_213 => ?_)
                      ·
                        refine lv_iconst (v := 0) hx hb dX4_readSum_92 (by decide +kernel) ?_
                        refine lv_istore (lv' := [(5, .int 0), (4, .int 4), (2, .int k_w), (3, .int k_i), (0, .ref a_r), (1, .int p_d)]) hx hb dX4_readSum_93 hl (by decide +kernel) rfl ?_
                        clear hl
                        intro ls hl
                        refine lv_iload_n hx hb dX4_readSum_95 rfl (lv_at hl 2 rfl) ?_
                        refine lv_iconst (v := (-1)) hx hb dX4_readSum_96 (by decide +kernel) ?_
                        refine W.eq (g2 := F0 m 97 ls [.int (-1), .int k_w]) rfl ?_
                        refine lv_icmp_eq (tgt := 118) hx hb dX4_readSum_97 (by decide +kernel) (fun c_214 => ?_) (fun c_214 => ?_)
                        ·
                          have i_214 : k_w.toInt = (-1) := g5_eq (a := k_w.toInt) (b := (-1)) rfl (by decide +kernel) c_214
                          refine lv_iload hx hb dX4_readSum_118 (lv_at hl 1 rfl) ?_
                          refine lv_iconst (v := (-1)) hx hb dX4_readSum_120 (by decide +kernel) ?_
                          refine lv_icmp_ne (tgt := 126) hx hb dX4_readSum_121 (by decide +kernel) (fun c_215 => ?_) (fun c_215 => ?_)
                          ·
                            refine lv_aload_n hx hb dX4_readSum_126 rfl (lv_at hl 4 rfl) ?_
                            refine lv_dup hx hb dX4_readSum_127 rfl ?_
                            refine va_get (D := G.1) (ci := 4) (v := .int k_at) (C := RX4) (T := TX4) (N := 8) hx hb hts inG_X4 hown hK hP 2 rfl rfl 6 (by decide +kernel) (hts _ fl_X4_42) (fun _ h9 => h9) rfl dX4_readSum_128 ?_
                            refine lv_iconst (v := 1) hx hb dX4_readSum_131 (by decide +kernel) ?_
                            refine W.eq (g2 := F0 m 132 ls [.int 1, .int k_at, .ref a_r]) rfl ?_
                            refine lv_iadd hx hb dX4_readSum_132 ?_
                            have t_216 : (k_at + 1).toInt = k_at.toInt + 1 := g5_iadd (a := k_at.toInt) (b := 1) (by rfl) (by decide +kernel) (by omega) (by omega)
                            refine va_put (D := G.1) (ci := 4) (v := .int (k_at + 1)) (ty := .int) (C := RX4) (T := TX4) (N := 8) hx hb hts inG_X4 tyX4 tyX4_ok nmX4 hown hK hP hD hS 2 rfl rfl 6 (by decide +kernel) (hts _ fl_X4_42) (fun _ h9 => h9) rfl (by decide +kernel) rfl rfl (Nat.le_of_ble_eq_true rfl) dX4_readSum_133 ?_
                            clear hP hD hS
                            intro H locs hP hD hS
                            refine g5_rs [(a_nm, (arI G 401 f_nm)), (a_rc, (arI G 400 k_rc)), (a_r, (oc4 a_tk a_rh a_rs a_rc k_ln k_pa (k_at + 1) e_fp)), (a_tk, (oc8 a_kd a_nm a_pl)), (a_kd, (arI G 401 f_kd))] hP hD ?_
                            clear hP hD
                            intro hP hD
                            refine lv_aload_n hx hb dX4_readSum_136 rfl (lv_at hl 4 rfl) ?_
                            refine lv_iload_n hx hb dX4_readSum_137 rfl (lv_at hl 5 rfl) ?_
                            obtain ⟨hPc, hDc, hFc⟩ := g5_sub3 (wc := [(a_r, (oc4 a_tk a_rh a_rs a_rc k_ln k_pa (k_at + 1) e_fp)), (a_tk, (oc8 a_kd a_nm a_pl)), (a_kd, (arI G 401 f_kd)), (a_nm, (arI G 401 f_nm)), (a_rc, (arI G 400 k_rc))]) hP hD hS hA [2, 3, 4, 0, 1] (by decide +kernel) rfl
                            refine va_calli (va_runV (As := [.int p_d]) (rest := []) ⟨hx, hb, hml, hown, hts⟩ ((r_partX fr lo p_d h_p_d h_sum) l G a_r a_tk a_kd a_nm a_rc a_rh a_rs a_pl H.size k_ln k_pa (k_at + 1) e_fp f_kd f_nm k_rc g_x g_n g_T i_28 i_29 ⟨by omega, by omega⟩ (e_tk) (i_32) (e_by) (e_kr) (by omega) (by omega) (i_36)) (cwV 1 hts gV_X4_90 rfl rfl rfl hv_X4_readPart ⟨by simp only [headSpec]; omega, by simp only [headSpec]; omega⟩) (g5_preV hPc hK hDc hN hT hS hFc (ci := 4) (q0 := 0) rfl rfl) rfl rfl hl.1 rfl (lv_room (Nat.le_of_ble_eq_true rfl)) dX4_readSum_138 ⟨Nat.le_of_ble_eq_true rfl, Nat.le_of_ble_eq_true rfl⟩) hS (fun q _ h => hFc q h) hFc (fun r u t H locs ht hvm hw hB hz1 hk1 hS => ?_)
                            obtain ⟨hP1, hD1⟩ := hB
                            have hP1 := g5_ht ht hP1
                            rcases hw with ⟨z224, z225, z226, z227, (i_217 : k_ln.toInt ≤ z224.toInt ∧ z224.toInt ≤ 400), (i_218 : 0 ≤ z226.toInt ∧ z226.toInt ≤ 401), (i_219 : 0 ≤ z225.toInt ∧ z225.toInt ≤ 50), (i_220 : CDI z227 z224.toInt), (i_221 : OPK k_rc z227 k_ln.toInt), (i_222 : ∃ d : DS, (ptF (KDT g_x g_n) (NMT g_x g_n) p_d) (k_at + 1).toInt.toNat k_pa.toInt.toNat = (z226.toInt.toNat, z225.toInt.toNat, some d) ∧ KCC k_rc z227 k_ln.toInt ∧ MCC z227 k_ln.toInt.toNat z224.toInt.toNat d ∧ lvC z227 z224.toInt.toNat = z225.toInt.toNat), (i_223 : z226.toInt ≤ (g_T : Int) ∧ (k_at + 1).toInt < z226.toInt ∧ z224.toInt + (k_at + 1).toInt ≤ k_ln.toInt + z226.toInt), rfl, rfl⟩ | ⟨z235, z236, z237, z238, (i_228 : k_ln.toInt ≤ z235.toInt ∧ z235.toInt ≤ 400), (i_229 : 0 ≤ z237.toInt ∧ z237.toInt ≤ 401), (i_230 : 0 ≤ z236.toInt ∧ z236.toInt ≤ 50), (i_231 : CDI z238 z235.toInt), (i_232 : OPK k_rc z238 k_ln.toInt), (i_233 : ∃ q : Nat, (ptF (KDT g_x g_n) (NMT g_x g_n) p_d) (k_at + 1).toInt.toNat k_pa.toInt.toNat = (z237.toInt.toNat, q, none)), (i_234 : z237.toInt ≤ (g_T : Int)), rfl, rfl⟩
                            ·
                              have hJ9 := va_join (wr := []) hP hD [2, 3, 4, 0, 1] [] rfl rfl (by decide +kernel) (by decide +kernel) hk1 hFc hP1 hD1
                              clear hP hD hPc hDc hFc ht hvm hz1 hk1 hP1 hD1
                              obtain ⟨hP, hD⟩ := hJ9
                              refine g5_rs [(a_r, (oc4 a_tk a_rh a_rs a_rc z224 z225 z226 e_fp)), (a_tk, (oc8 a_kd a_nm a_pl)), (a_kd, (arI G 401 f_kd)), (a_nm, (arI G 401 f_nm)), (a_rc, (arI G 400 z227))] hP hD ?_
                              clear hP hD
                              intro hP hD
                              obtain ⟨dd239, hd239, hc239, hm239, hv239⟩ := i_222
                              have hK_240 : (f_kd z226.toNatClampNeg).toInt = KDT g_x g_n z226.toInt.toNat := tkr_at e_kr (by omega) (by omega)
                              refine lv_if_ne (tgt := 146) hx hb dX4_readSum_141 (by decide +kernel) (fun c_241 => ?_) (fun c_241 => ?_)
                              ·
                                refine lv_iload hx hb dX4_readSum_146 (lv_at hl 0 rfl) ?_
                                refine lv_if_eq (tgt := 157) hx hb dX4_readSum_148 (by decide +kernel) (fun c_242 => ?_) (fun c_242 => ?_)
                                ·
                                  refine lv_aload_n hx hb dX4_readSum_157 rfl (lv_at hl 4 rfl) ?_
                                  refine lv_iload hx hb dX4_readSum_158 (lv_at hl 1 rfl) ?_
                                  refine lv_iconst (v := 0) hx hb dX4_readSum_160 (by decide +kernel) ?_
                                  obtain ⟨hPc, hDc, hFc⟩ := g5_sub3 (wc := [(a_r, (oc4 a_tk a_rh a_rs a_rc z224 z225 z226 e_fp)), (a_rc, (arI G 400 z227))]) hP hD hS hA [0, 4] (by decide +kernel) rfl
                                  refine va_calli (va_runV (As := [.int 4, .int 0]) (rest := []) ⟨hx, hb, hml, hown, hts⟩ (r_emitX l G a_r a_rc a_tk a_rh a_rs H.size z224 z225 z226 e_fp 4 0 z227 ⟨by omega, by omega⟩ i_219 i_218 (i_220) (by unfold wOK; decide) (by omega)) (cwV 2 hts gV_X4_79 rfl rfl rfl hv_X4_emit ⟨by simp only [headSpec]; omega, by simp only [headSpec]; omega⟩) (g5_preV hPc hK hDc hN hT hS hFc (ci := 4) (q0 := 0) rfl rfl) rfl rfl hl.1 rfl (lv_room (Nat.le_of_ble_eq_true rfl)) dX4_readSum_161 ⟨Nat.le_of_ble_eq_true rfl, Nat.le_of_ble_eq_true rfl⟩) hS (fun q _ h => hFc q h) hFc (fun r u t H locs ht hvm hw hB hz1 hk1 hS => ?_)
                                  obtain ⟨hP1, hD1⟩ := hB
                                  have hP1 := g5_ht ht hP1
                                  obtain ⟨z251, z252, z253, (i_243 : 0 ≤ z251.toInt ∧ z251.toInt ≤ 399), (i_244 : z251.toInt = z224.toInt), (i_245 : z252.toInt = z224.toInt + 1), (i_246 : z224.toInt ≤ z252.toInt ∧ z252.toInt ≤ 400), (i_247 : CDI z253 z252.toInt), (i_248 : OPK z227 z253 z224.toInt), (i_249 : 0 ≤ z251.toInt → z251.toInt < z252.toInt ∧ z253 z251.toNatClampNeg = (((4 : Int32) <<< (12 &&& 31)) ||| (0 : Int32))), (i_250 : z253 = upd z227 z224.toNatClampNeg (((4 : Int32) <<< (12 &&& 31)) ||| (0 : Int32))), y254, rfl⟩ := hw
                                  have hJ9 := va_join (wr := [(a_tk, (oc8 a_kd a_nm a_pl)), (a_kd, (arI G 401 f_kd)), (a_nm, (arI G 401 f_nm))]) hP hD [0, 4] [1, 2, 3] rfl rfl (by decide +kernel) (by decide +kernel) hk1 hFc hP1 hD1
                                  clear hP hD hPc hDc hFc ht hvm hz1 hk1 hP1 hD1
                                  obtain ⟨hP, hD⟩ := hJ9
                                  refine g5_rs [(a_tk, (oc8 a_kd a_nm a_pl)), (a_kd, (arI G 401 f_kd)), (a_nm, (arI G 401 f_nm)), (a_r, (oc4 a_tk a_rh a_rs a_rc z252 z225 z226 e_fp)), (a_rc, (arI G 400 z253))] hP hD ?_
                                  clear hP hD
                                  intro hP hD
                                  refine g5_ti (v := z251) y254 ?_
                                  refine W.eq (g2 := F0 m 164 ls [.int z251]) rfl ?_
                                  refine lv_pop hx hb dX4_readSum_164 rfl ?_
                                  refine lv_iinc (v := (k_i + 1)) (lv' := [(3, .int (k_i + 1)), (5, .int 0), (4, .int 4), (2, .int k_w), (0, .ref a_r), (1, .int p_d)]) hx hb dX4_readSum_165 hl (k := 3) rfl rfl (by decide +kernel) rfl ?_
                                  clear hl
                                  intro ls hl
                                  have t_255 : (k_i + 1).toInt = k_i.toInt + 1 := g5_iadd (a := k_i.toInt) (b := 1) rfl (by decide +kernel) (by omega) (by omega)
                                  refine lv_goto (tgt := 14) hx hb dX4_readSum_168 (by decide +kernel) ?_
                                  exact ih_14_39 (k_w, (k_i + 1), z252, z225, z226, z253) ls H locs (show Int.toNat (400 - (k_i + 1).toInt) < Int.toNat (400 - k_i.toInt) from g_up (show k_i.toInt < (k_i + 1).toInt by omega) (show k_i.toInt < 400 by omega)) ⟨lv_sub hl [3, 0, 4, 5] rfl, hP.sub [3, 0, 1, 2, 4] rfl, hD.sub [3, 0, 1, 2, 4] (by decide +kernel) rfl, hS, i_26, ⟨by omega, by omega⟩, ⟨by omega, by omega⟩, i_219, i_218, by omega, i_247, opk_trans i_33 (opk_trans i_221 (i_248) (by omega)) (by omega), i_34, by rw [i_250]; exact slc_mul (o := 4) i_35 (by omega) (by omega) ⟨by omega, by omega⟩ (by rw [(hKk.symm.trans i_208)]; decide) ⟨by decide, by decide⟩ (by rw [show k_at.toInt.toNat + 1 = (k_at + 1).toInt.toNat by omega]; exact hd239) hc239 hm239 (by omega) hv239 (by omega) (by omega), by rw [i_250, lvC_em0 (by omega) (by omega) (opT_20 (by decide +kernel) (by decide +kernel))]; exact hv239, by omega, by omega⟩
                                ·
                                  exact absurd c_242 (by decide +kernel)
                              ·
                                exact absurd c_241 (by decide +kernel)
                            ·
                              have hJ9 := va_join (wr := []) hP hD [2, 3, 4, 0, 1] [] rfl rfl (by decide +kernel) (by decide +kernel) hk1 hFc hP1 hD1
                              clear hP hD hPc hDc hFc ht hvm hz1 hk1 hP1 hD1
                              obtain ⟨hP, hD⟩ := hJ9
                              refine g5_rs [(a_r, (oc4 a_tk a_rh a_rs a_rc z235 z236 z237 e_fp)), (a_tk, (oc8 a_kd a_nm a_pl)), (a_kd, (arI G 401 f_kd)), (a_nm, (arI G 401 f_nm)), (a_rc, (arI G 400 z238))] hP hD ?_
                              clear hP hD
                              intro hP hD
                              obtain ⟨qq256, hq256⟩ := i_233
                              refine lv_if_ne (tgt := 146) hx hb dX4_readSum_141 (by decide +kernel) (fun c_257 => ?_) (fun c_257 => ?_)
                              ·
                                exact absurd c_257 (by decide +kernel)
                              ·
                                refine lv_iconst (v := 0) hx hb dX4_readSum_144 (by decide +kernel) ?_
                                exact W.zret (v := 0) hx hb hr rfl (fun t ht hW => ⟨⟨0, [(a_r, (oc4 a_tk a_rh a_rs a_rc z235 z236 z237 e_fp)), (a_tk, (oc8 a_kd a_nm a_pl)), (a_kd, (arI G 401 f_kd)), (a_nm, (arI G 401 f_nm)), (a_rc, (arI G 400 z238))], rfl, Or.inr (⟨z235, z236, z237, z238, ⟨by omega, by omega⟩, i_229, i_230, i_231, opk_trans i_33 (i_232) (by omega), ⟨qq256, slc_bad i_35 (by omega) (by omega) (by rw [(hKk.symm.trans i_208)]; decide) (by rw [show k_at.toInt.toNat + 1 = (k_at + 1).toInt.toNat by omega]; exact hq256)⟩, by omega, rfl, rfl⟩), by rw [ht]; exact hP.sub [0, 1, 2, 3, 4] rfl, hD.sub [0, 1, 2, 3, 4] (by decide +kernel) rfl⟩, hS.F ht⟩) hS.2.2 dX4_readSum_145
                          ·
                            exact absurd c_215 (by decide +kernel)
                        ·
                          have n_214 : gNe (k_w.toInt) ((-1)) := g5_eqN (a := k_w.toInt) (b := (-1)) rfl (by decide +kernel) c_214
                          have i_214 : k_w.toInt ≥ 0 := by have z := g5_eqN (a := k_w.toInt) (b := (-1)) (by rfl) (by decide +kernel) c_214; omega
                          refine lv_iload hx hb dX4_readSum_100 (lv_at hl 0 rfl) ?_
                          refine lv_if_ne (tgt := 111) hx hb dX4_readSum_102 (by decide +kernel) (fun c_258 => ?_) (fun c_258 => ?_)
                          ·
                            exact absurd c_258 (by decide +kernel)
                          ·
                            refine lv_iload hx hb dX4_readSum_105 (lv_at hl 1 rfl) ?_
                            refine lv_iconst (v := (-1)) hx hb dX4_readSum_107 (by decide +kernel) ?_
                            refine lv_icmp_ne (tgt := 118) hx hb dX4_readSum_108 (by decide +kernel) (fun c_259 => ?_) (fun c_259 => ?_)
                            ·
                              refine lv_iload hx hb dX4_readSum_118 (lv_at hl 1 rfl) ?_
                              refine lv_iconst (v := (-1)) hx hb dX4_readSum_120 (by decide +kernel) ?_
                              refine lv_icmp_ne (tgt := 126) hx hb dX4_readSum_121 (by decide +kernel) (fun c_260 => ?_) (fun c_260 => ?_)
                              ·
                                refine lv_aload_n hx hb dX4_readSum_126 rfl (lv_at hl 4 rfl) ?_
                                refine lv_dup hx hb dX4_readSum_127 rfl ?_
                                refine va_get (D := G.1) (ci := 4) (v := .int k_at) (C := RX4) (T := TX4) (N := 8) hx hb hts inG_X4 hown hK hP 2 rfl rfl 6 (by decide +kernel) (hts _ fl_X4_42) (fun _ h9 => h9) rfl dX4_readSum_128 ?_
                                refine lv_iconst (v := 1) hx hb dX4_readSum_131 (by decide +kernel) ?_
                                refine W.eq (g2 := F0 m 132 ls [.int 1, .int k_at, .ref a_r]) rfl ?_
                                refine lv_iadd hx hb dX4_readSum_132 ?_
                                have t_261 : (k_at + 1).toInt = k_at.toInt + 1 := g5_iadd (a := k_at.toInt) (b := 1) (by rfl) (by decide +kernel) (by omega) (by omega)
                                refine va_put (D := G.1) (ci := 4) (v := .int (k_at + 1)) (ty := .int) (C := RX4) (T := TX4) (N := 8) hx hb hts inG_X4 tyX4 tyX4_ok nmX4 hown hK hP hD hS 2 rfl rfl 6 (by decide +kernel) (hts _ fl_X4_42) (fun _ h9 => h9) rfl (by decide +kernel) rfl rfl (Nat.le_of_ble_eq_true rfl) dX4_readSum_133 ?_
                                clear hP hD hS
                                intro H locs hP hD hS
                                refine g5_rs [(a_nm, (arI G 401 f_nm)), (a_rc, (arI G 400 k_rc)), (a_r, (oc4 a_tk a_rh a_rs a_rc k_ln k_pa (k_at + 1) e_fp)), (a_tk, (oc8 a_kd a_nm a_pl)), (a_kd, (arI G 401 f_kd))] hP hD ?_
                                clear hP hD
                                intro hP hD
                                refine lv_aload_n hx hb dX4_readSum_136 rfl (lv_at hl 4 rfl) ?_
                                refine lv_iload_n hx hb dX4_readSum_137 rfl (lv_at hl 5 rfl) ?_
                                obtain ⟨hPc, hDc, hFc⟩ := g5_sub3 (wc := [(a_r, (oc4 a_tk a_rh a_rs a_rc k_ln k_pa (k_at + 1) e_fp)), (a_tk, (oc8 a_kd a_nm a_pl)), (a_kd, (arI G 401 f_kd)), (a_nm, (arI G 401 f_nm)), (a_rc, (arI G 400 k_rc))]) hP hD hS hA [2, 3, 4, 0, 1] (by decide +kernel) rfl
                                refine va_calli (va_runV (As := [.int p_d]) (rest := []) ⟨hx, hb, hml, hown, hts⟩ ((r_partX fr lo p_d h_p_d h_sum) l G a_r a_tk a_kd a_nm a_rc a_rh a_rs a_pl H.size k_ln k_pa (k_at + 1) e_fp f_kd f_nm k_rc g_x g_n g_T i_28 i_29 ⟨by omega, by omega⟩ (e_tk) (i_32) (e_by) (e_kr) (by omega) (by omega) (i_36)) (cwV 1 hts gV_X4_90 rfl rfl rfl hv_X4_readPart ⟨by simp only [headSpec]; omega, by simp only [headSpec]; omega⟩) (g5_preV hPc hK hDc hN hT hS hFc (ci := 4) (q0 := 0) rfl rfl) rfl rfl hl.1 rfl (lv_room (Nat.le_of_ble_eq_true rfl)) dX4_readSum_138 ⟨Nat.le_of_ble_eq_true rfl, Nat.le_of_ble_eq_true rfl⟩) hS (fun q _ h => hFc q h) hFc (fun r u t H locs ht hvm hw hB hz1 hk1 hS => ?_)
                                obtain ⟨hP1, hD1⟩ := hB
                                have hP1 := g5_ht ht hP1
                                rcases hw with ⟨z269, z270, z271, z272, (i_262 : k_ln.toInt ≤ z269.toInt ∧ z269.toInt ≤ 400), (i_263 : 0 ≤ z271.toInt ∧ z271.toInt ≤ 401), (i_264 : 0 ≤ z270.toInt ∧ z270.toInt ≤ 50), (i_265 : CDI z272 z269.toInt), (i_266 : OPK k_rc z272 k_ln.toInt), (i_267 : ∃ d : DS, (ptF (KDT g_x g_n) (NMT g_x g_n) p_d) (k_at + 1).toInt.toNat k_pa.toInt.toNat = (z271.toInt.toNat, z270.toInt.toNat, some d) ∧ KCC k_rc z272 k_ln.toInt ∧ MCC z272 k_ln.toInt.toNat z269.toInt.toNat d ∧ lvC z272 z269.toInt.toNat = z270.toInt.toNat), (i_268 : z271.toInt ≤ (g_T : Int) ∧ (k_at + 1).toInt < z271.toInt ∧ z269.toInt + (k_at + 1).toInt ≤ k_ln.toInt + z271.toInt), rfl, rfl⟩ | ⟨z280, z281, z282, z283, (i_273 : k_ln.toInt ≤ z280.toInt ∧ z280.toInt ≤ 400), (i_274 : 0 ≤ z282.toInt ∧ z282.toInt ≤ 401), (i_275 : 0 ≤ z281.toInt ∧ z281.toInt ≤ 50), (i_276 : CDI z283 z280.toInt), (i_277 : OPK k_rc z283 k_ln.toInt), (i_278 : ∃ q : Nat, (ptF (KDT g_x g_n) (NMT g_x g_n) p_d) (k_at + 1).toInt.toNat k_pa.toInt.toNat = (z282.toInt.toNat, q, none)), (i_279 : z282.toInt ≤ (g_T : Int)), rfl, rfl⟩
                                ·
                                  have hJ9 := va_join (wr := []) hP hD [2, 3, 4, 0, 1] [] rfl rfl (by decide +kernel) (by decide +kernel) hk1 hFc hP1 hD1
                                  clear hP hD hPc hDc hFc ht hvm hz1 hk1 hP1 hD1
                                  obtain ⟨hP, hD⟩ := hJ9
                                  refine g5_rs [(a_r, (oc4 a_tk a_rh a_rs a_rc z269 z270 z271 e_fp)), (a_tk, (oc8 a_kd a_nm a_pl)), (a_kd, (arI G 401 f_kd)), (a_nm, (arI G 401 f_nm)), (a_rc, (arI G 400 z272))] hP hD ?_
                                  clear hP hD
                                  intro hP hD
                                  obtain ⟨dd284, hd284, hc284, hm284, hv284⟩ := i_267
                                  have hK_285 : (f_kd z271.toNatClampNeg).toInt = KDT g_x g_n z271.toInt.toNat := tkr_at e_kr (by omega) (by omega)
                                  refine lv_if_ne (tgt := 146) hx hb dX4_readSum_141 (by decide +kernel) (fun c_286 => ?_) (fun c_286 => ?_)
                                  ·
                                    refine lv_iload hx hb dX4_readSum_146 (lv_at hl 0 rfl) ?_
                                    refine lv_if_eq (tgt := 157) hx hb dX4_readSum_148 (by decide +kernel) (fun c_287 => ?_) (fun c_287 => ?_)
                                    ·
                                      refine lv_aload_n hx hb dX4_readSum_157 rfl (lv_at hl 4 rfl) ?_
                                      refine lv_iload hx hb dX4_readSum_158 (lv_at hl 1 rfl) ?_
                                      refine lv_iconst (v := 0) hx hb dX4_readSum_160 (by decide +kernel) ?_
                                      obtain ⟨hPc, hDc, hFc⟩ := g5_sub3 (wc := [(a_r, (oc4 a_tk a_rh a_rs a_rc z269 z270 z271 e_fp)), (a_rc, (arI G 400 z272))]) hP hD hS hA [0, 4] (by decide +kernel) rfl
                                      refine va_calli (va_runV (As := [.int 4, .int 0]) (rest := []) ⟨hx, hb, hml, hown, hts⟩ (r_emitX l G a_r a_rc a_tk a_rh a_rs H.size z269 z270 z271 e_fp 4 0 z272 ⟨by omega, by omega⟩ i_264 i_263 (i_265) (by unfold wOK; decide) (by omega)) (cwV 2 hts gV_X4_79 rfl rfl rfl hv_X4_emit ⟨by simp only [headSpec]; omega, by simp only [headSpec]; omega⟩) (g5_preV hPc hK hDc hN hT hS hFc (ci := 4) (q0 := 0) rfl rfl) rfl rfl hl.1 rfl (lv_room (Nat.le_of_ble_eq_true rfl)) dX4_readSum_161 ⟨Nat.le_of_ble_eq_true rfl, Nat.le_of_ble_eq_true rfl⟩) hS (fun q _ h => hFc q h) hFc (fun r u t H locs ht hvm hw hB hz1 hk1 hS => ?_)
                                      obtain ⟨hP1, hD1⟩ := hB
                                      have hP1 := g5_ht ht hP1
                                      obtain ⟨z296, z297, z298, (i_288 : 0 ≤ z296.toInt ∧ z296.toInt ≤ 399), (i_289 : z296.toInt = z269.toInt), (i_290 : z297.toInt = z269.toInt + 1), (i_291 : z269.toInt ≤ z297.toInt ∧ z297.toInt ≤ 400), (i_292 : CDI z298 z297.toInt), (i_293 : OPK z272 z298 z269.toInt), (i_294 : 0 ≤ z296.toInt → z296.toInt < z297.toInt ∧ z298 z296.toNatClampNeg = (((4 : Int32) <<< (12 &&& 31)) ||| (0 : Int32))), (i_295 : z298 = upd z272 z269.toNatClampNeg (((4 : Int32) <<< (12 &&& 31)) ||| (0 : Int32))), y299, rfl⟩ := hw
                                      have hJ9 := va_join (wr := [(a_tk, (oc8 a_kd a_nm a_pl)), (a_kd, (arI G 401 f_kd)), (a_nm, (arI G 401 f_nm))]) hP hD [0, 4] [1, 2, 3] rfl rfl (by decide +kernel) (by decide +kernel) hk1 hFc hP1 hD1
                                      clear hP hD hPc hDc hFc ht hvm hz1 hk1 hP1 hD1
                                      obtain ⟨hP, hD⟩ := hJ9
                                      refine g5_rs [(a_tk, (oc8 a_kd a_nm a_pl)), (a_kd, (arI G 401 f_kd)), (a_nm, (arI G 401 f_nm)), (a_r, (oc4 a_tk a_rh a_rs a_rc z297 z270 z271 e_fp)), (a_rc, (arI G 400 z298))] hP hD ?_
                                      clear hP hD
                                      intro hP hD
                                      refine g5_ti (v := z296) y299 ?_
                                      refine W.eq (g2 := F0 m 164 ls [.int z296]) rfl ?_
                                      refine lv_pop hx hb dX4_readSum_164 rfl ?_
                                      refine lv_iinc (v := (k_i + 1)) (lv' := [(3, .int (k_i + 1)), (5, .int 0), (4, .int 4), (2, .int k_w), (0, .ref a_r), (1, .int p_d)]) hx hb dX4_readSum_165 hl (k := 3) rfl rfl (by decide +kernel) rfl ?_
                                      clear hl
                                      intro ls hl
                                      have t_300 : (k_i + 1).toInt = k_i.toInt + 1 := g5_iadd (a := k_i.toInt) (b := 1) rfl (by decide +kernel) (by omega) (by omega)
                                      refine lv_goto (tgt := 14) hx hb dX4_readSum_168 (by decide +kernel) ?_
                                      exact ih_14_39 (k_w, (k_i + 1), z297, z270, z271, z298) ls H locs (show Int.toNat (400 - (k_i + 1).toInt) < Int.toNat (400 - k_i.toInt) from g_up (show k_i.toInt < (k_i + 1).toInt by omega) (show k_i.toInt < 400 by omega)) ⟨lv_sub hl [3, 0, 4, 5] rfl, hP.sub [3, 0, 1, 2, 4] rfl, hD.sub [3, 0, 1, 2, 4] (by decide +kernel) rfl, hS, i_26, ⟨by omega, by omega⟩, ⟨by omega, by omega⟩, i_264, i_263, by omega, i_292, opk_trans i_33 (opk_trans i_266 (i_293) (by omega)) (by omega), i_34, by rw [i_295]; exact slc_mul (o := 4) i_35 (by omega) (by omega) ⟨by omega, by omega⟩ (by rw [(hKk.symm.trans i_208)]; decide) ⟨by decide, by decide⟩ (by rw [show k_at.toInt.toNat + 1 = (k_at + 1).toInt.toNat by omega]; exact hd284) hc284 hm284 (by omega) hv284 (by omega) (by omega), by rw [i_295, lvC_em0 (by omega) (by omega) (opT_20 (by decide +kernel) (by decide +kernel))]; exact hv284, by omega, by omega⟩
                                    ·
                                      exact absurd c_287 (by decide +kernel)
                                  ·
                                    exact absurd c_286 (by decide +kernel)
                                ·
                                  have hJ9 := va_join (wr := []) hP hD [2, 3, 4, 0, 1] [] rfl rfl (by decide +kernel) (by decide +kernel) hk1 hFc hP1 hD1
                                  clear hP hD hPc hDc hFc ht hvm hz1 hk1 hP1 hD1
                                  obtain ⟨hP, hD⟩ := hJ9
                                  refine g5_rs [(a_r, (oc4 a_tk a_rh a_rs a_rc z280 z281 z282 e_fp)), (a_tk, (oc8 a_kd a_nm a_pl)), (a_kd, (arI G 401 f_kd)), (a_nm, (arI G 401 f_nm)), (a_rc, (arI G 400 z283))] hP hD ?_
                                  clear hP hD
                                  intro hP hD
                                  obtain ⟨qq301, hq301⟩ := i_278
                                  refine lv_if_ne (tgt := 146) hx hb dX4_readSum_141 (by decide +kernel) (fun c_302 => ?_) (fun c_302 => ?_)
                                  ·
                                    exact absurd c_302 (by decide +kernel)
                                  ·
                                    refine lv_iconst (v := 0) hx hb dX4_readSum_144 (by decide +kernel) ?_
                                    exact W.zret (v := 0) hx hb hr rfl (fun t ht hW => ⟨⟨0, [(a_r, (oc4 a_tk a_rh a_rs a_rc z280 z281 z282 e_fp)), (a_tk, (oc8 a_kd a_nm a_pl)), (a_kd, (arI G 401 f_kd)), (a_nm, (arI G 401 f_nm)), (a_rc, (arI G 400 z283))], rfl, Or.inr (⟨z280, z281, z282, z283, ⟨by omega, by omega⟩, i_274, i_275, i_276, opk_trans i_33 (i_277) (by omega), ⟨qq301, slc_bad i_35 (by omega) (by omega) (by rw [(hKk.symm.trans i_208)]; decide) (by rw [show k_at.toInt.toNat + 1 = (k_at + 1).toInt.toNat by omega]; exact hq301)⟩, by omega, rfl, rfl⟩), by rw [ht]; exact hP.sub [0, 1, 2, 3, 4] rfl, hD.sub [0, 1, 2, 3, 4] (by decide +kernel) rfl⟩, hS.F ht⟩) hS.2.2 dX4_readSum_145
                              ·
                                exact absurd c_260 (by decide +kernel)
                            ·
                              exact absurd c_259 (by decide +kernel)
                      ·
                        exact absurd c_213 (by decide +kernel)
                ·
                  have hJ9 := va_join (wr := [(a_nm, (arI G 401 f_nm)), (a_rc, (arI G 400 k_rc))]) hP hD [2, 3, 4] [0, 1] rfl rfl (by decide +kernel) (by decide +kernel) hk1 hFc hP1 hD1
                  clear hP hD hPc hDc hFc ht hvm hz1 hk1 hP1 hD1
                  obtain ⟨hP, hD⟩ := hJ9
                  refine g5_rs [(a_nm, (arI G 401 f_nm)), (a_rc, (arI G 400 k_rc)), (a_r, (oc4 a_tk a_rh a_rs a_rc k_ln k_pa k_at e_fp)), (a_tk, (oc8 a_kd a_nm a_pl)), (a_kd, (arI G 401 f_kd))] hP hD ?_
                  clear hP hD
                  intro hP hD
                  refine lv_if_eq (tgt := 60) hx hb dX4_readSum_53 (by decide +kernel) (fun c_303 => ?_) (fun c_303 => ?_)
                  ·
                    refine lv_aload_n hx hb dX4_readSum_60 rfl (lv_at hl 2 rfl) ?_
                    refine lv_bipush (v := 47) hx hb dX4_readSum_61 (by decide +kernel) ?_
                    obtain ⟨hPc, hDc, hFc⟩ := g5_sub3 (wc := [(a_r, (oc4 a_tk a_rh a_rs a_rc k_ln k_pa k_at e_fp)), (a_tk, (oc8 a_kd a_nm a_pl)), (a_kd, (arI G 401 f_kd))]) hP hD hS hA [2, 3, 4] (by decide +kernel) rfl
                    refine va_calli (va_runV (As := [.int 47]) (rest := []) ⟨hx, hb, hml, hown, hts⟩ (r_isNextX47 l G a_r a_tk a_kd a_rh a_rs a_rc a_nm a_pl H.size k_ln k_pa k_at e_fp f_kd i_28 i_29 i_30 (by omega)) (cwV 1 hts gV_X4_49 rfl rfl rfl hv_X4_isNext ⟨by simp only [headSpec]; omega, by simp only [headSpec]; omega⟩) (g5_preV hPc hK hDc hN hT hS hFc (ci := 4) (q0 := 0) rfl rfl) rfl rfl hl.1 rfl (lv_room (Nat.le_of_ble_eq_true rfl)) dX4_readSum_63 ⟨Nat.le_of_ble_eq_true rfl, Nat.le_of_ble_eq_true rfl⟩) hS (fun q _ h => hFc q h) hFc (fun r u t H locs ht hvm hw hB hz1 hk1 hS => ?_)
                    obtain ⟨hP1, hD1⟩ := hB
                    have hP1 := g5_ht ht hP1
                    rcases hw with ⟨(i_304 : (f_kd k_at.toNatClampNeg).toInt = 47), rfl, rfl⟩ | ⟨(i_305 : gNe (f_kd k_at.toNatClampNeg).toInt 47), rfl, rfl⟩
                    ·
                      have hJ9 := va_join (wr := [(a_nm, (arI G 401 f_nm)), (a_rc, (arI G 400 k_rc))]) hP hD [2, 3, 4] [0, 1] rfl rfl (by decide +kernel) (by decide +kernel) hk1 hFc hP1 hD1
                      clear hP hD hPc hDc hFc ht hvm hz1 hk1 hP1 hD1
                      obtain ⟨hP, hD⟩ := hJ9
                      refine g5_rs [(a_nm, (arI G 401 f_nm)), (a_rc, (arI G 400 k_rc)), (a_r, (oc4 a_tk a_rh a_rs a_rc k_ln k_pa k_at e_fp)), (a_tk, (oc8 a_kd a_nm a_pl)), (a_kd, (arI G 401 f_kd))] hP hD ?_
                      clear hP hD
                      intro hP hD
                      refine lv_if_eq (tgt := 73) hx hb dX4_readSum_66 (by decide +kernel) (fun c_306 => ?_) (fun c_306 => ?_)
                      ·
                        exact absurd c_306 (by decide +kernel)
                      ·
                        refine lv_iconst (v := 5) hx hb dX4_readSum_69 (by decide +kernel) ?_
                        refine lv_goto (tgt := 74) hx hb dX4_readSum_70 (by decide +kernel) ?_
                        have hL_307 : k_at.toInt < (g_T : Int) := tkr_ltI e_kr (by omega) (by omega) i_304 (by decide +kernel)
                        refine lv_istore (lv' := [(4, .int 5), (2, .int k_w), (3, .int k_i), (0, .ref a_r), (1, .int p_d)]) hx hb dX4_readSum_74 hl (by decide +kernel) rfl ?_
                        clear hl
                        intro ls hl
                        refine lv_iload hx hb dX4_readSum_76 (lv_at hl 0 rfl) ?_
                        refine W.eq (g2 := F0 m 78 ls [.int 5]) rfl ?_
                        refine lv_iconst (v := 2) hx hb dX4_readSum_78 (by decide +kernel) ?_
                        refine lv_icmp_eq (tgt := 88) hx hb dX4_readSum_79 (by decide +kernel) (fun c_308 => ?_) (fun c_308 => ?_)
                        ·
                          exact absurd c_308 (by decide +kernel)
                        ·
                          refine lv_iload hx hb dX4_readSum_82 (lv_at hl 0 rfl) ?_
                          refine lv_iconst (v := 3) hx hb dX4_readSum_84 (by decide +kernel) ?_
                          refine lv_icmp_ne (tgt := 92) hx hb dX4_readSum_85 (by decide +kernel) (fun c_309 => ?_) (fun c_309 => ?_)
                          ·
                            refine lv_iconst (v := 0) hx hb dX4_readSum_92 (by decide +kernel) ?_
                            refine lv_istore (lv' := [(5, .int 0), (4, .int 5), (2, .int k_w), (3, .int k_i), (0, .ref a_r), (1, .int p_d)]) hx hb dX4_readSum_93 hl (by decide +kernel) rfl ?_
                            clear hl
                            intro ls hl
                            refine lv_iload_n hx hb dX4_readSum_95 rfl (lv_at hl 2 rfl) ?_
                            refine lv_iconst (v := (-1)) hx hb dX4_readSum_96 (by decide +kernel) ?_
                            refine W.eq (g2 := F0 m 97 ls [.int (-1), .int k_w]) rfl ?_
                            refine lv_icmp_eq (tgt := 118) hx hb dX4_readSum_97 (by decide +kernel) (fun c_310 => ?_) (fun c_310 => ?_)
                            ·
                              have i_310 : k_w.toInt = (-1) := g5_eq (a := k_w.toInt) (b := (-1)) rfl (by decide +kernel) c_310
                              refine lv_iload hx hb dX4_readSum_118 (lv_at hl 1 rfl) ?_
                              refine lv_iconst (v := (-1)) hx hb dX4_readSum_120 (by decide +kernel) ?_
                              refine lv_icmp_ne (tgt := 126) hx hb dX4_readSum_121 (by decide +kernel) (fun c_311 => ?_) (fun c_311 => ?_)
                              ·
                                refine lv_aload_n hx hb dX4_readSum_126 rfl (lv_at hl 4 rfl) ?_
                                refine lv_dup hx hb dX4_readSum_127 rfl ?_
                                refine va_get (D := G.1) (ci := 4) (v := .int k_at) (C := RX4) (T := TX4) (N := 8) hx hb hts inG_X4 hown hK hP 2 rfl rfl 6 (by decide +kernel) (hts _ fl_X4_42) (fun _ h9 => h9) rfl dX4_readSum_128 ?_
                                refine lv_iconst (v := 1) hx hb dX4_readSum_131 (by decide +kernel) ?_
                                refine W.eq (g2 := F0 m 132 ls [.int 1, .int k_at, .ref a_r]) rfl ?_
                                refine lv_iadd hx hb dX4_readSum_132 ?_
                                have t_312 : (k_at + 1).toInt = k_at.toInt + 1 := g5_iadd (a := k_at.toInt) (b := 1) (by rfl) (by decide +kernel) (by omega) (by omega)
                                refine va_put (D := G.1) (ci := 4) (v := .int (k_at + 1)) (ty := .int) (C := RX4) (T := TX4) (N := 8) hx hb hts inG_X4 tyX4 tyX4_ok nmX4 hown hK hP hD hS 2 rfl rfl 6 (by decide +kernel) (hts _ fl_X4_42) (fun _ h9 => h9) rfl (by decide +kernel) rfl rfl (Nat.le_of_ble_eq_true rfl) dX4_readSum_133 ?_
                                clear hP hD hS
                                intro H locs hP hD hS
                                refine g5_rs [(a_nm, (arI G 401 f_nm)), (a_rc, (arI G 400 k_rc)), (a_r, (oc4 a_tk a_rh a_rs a_rc k_ln k_pa (k_at + 1) e_fp)), (a_tk, (oc8 a_kd a_nm a_pl)), (a_kd, (arI G 401 f_kd))] hP hD ?_
                                clear hP hD
                                intro hP hD
                                refine lv_aload_n hx hb dX4_readSum_136 rfl (lv_at hl 4 rfl) ?_
                                refine lv_iload_n hx hb dX4_readSum_137 rfl (lv_at hl 5 rfl) ?_
                                obtain ⟨hPc, hDc, hFc⟩ := g5_sub3 (wc := [(a_r, (oc4 a_tk a_rh a_rs a_rc k_ln k_pa (k_at + 1) e_fp)), (a_tk, (oc8 a_kd a_nm a_pl)), (a_kd, (arI G 401 f_kd)), (a_nm, (arI G 401 f_nm)), (a_rc, (arI G 400 k_rc))]) hP hD hS hA [2, 3, 4, 0, 1] (by decide +kernel) rfl
                                refine va_calli (va_runV (As := [.int p_d]) (rest := []) ⟨hx, hb, hml, hown, hts⟩ ((r_partX fr lo p_d h_p_d h_sum) l G a_r a_tk a_kd a_nm a_rc a_rh a_rs a_pl H.size k_ln k_pa (k_at + 1) e_fp f_kd f_nm k_rc g_x g_n g_T i_28 i_29 ⟨by omega, by omega⟩ (e_tk) (i_32) (e_by) (e_kr) (by omega) (by omega) (i_36)) (cwV 1 hts gV_X4_90 rfl rfl rfl hv_X4_readPart ⟨by simp only [headSpec]; omega, by simp only [headSpec]; omega⟩) (g5_preV hPc hK hDc hN hT hS hFc (ci := 4) (q0 := 0) rfl rfl) rfl rfl hl.1 rfl (lv_room (Nat.le_of_ble_eq_true rfl)) dX4_readSum_138 ⟨Nat.le_of_ble_eq_true rfl, Nat.le_of_ble_eq_true rfl⟩) hS (fun q _ h => hFc q h) hFc (fun r u t H locs ht hvm hw hB hz1 hk1 hS => ?_)
                                obtain ⟨hP1, hD1⟩ := hB
                                have hP1 := g5_ht ht hP1
                                rcases hw with ⟨z320, z321, z322, z323, (i_313 : k_ln.toInt ≤ z320.toInt ∧ z320.toInt ≤ 400), (i_314 : 0 ≤ z322.toInt ∧ z322.toInt ≤ 401), (i_315 : 0 ≤ z321.toInt ∧ z321.toInt ≤ 50), (i_316 : CDI z323 z320.toInt), (i_317 : OPK k_rc z323 k_ln.toInt), (i_318 : ∃ d : DS, (ptF (KDT g_x g_n) (NMT g_x g_n) p_d) (k_at + 1).toInt.toNat k_pa.toInt.toNat = (z322.toInt.toNat, z321.toInt.toNat, some d) ∧ KCC k_rc z323 k_ln.toInt ∧ MCC z323 k_ln.toInt.toNat z320.toInt.toNat d ∧ lvC z323 z320.toInt.toNat = z321.toInt.toNat), (i_319 : z322.toInt ≤ (g_T : Int) ∧ (k_at + 1).toInt < z322.toInt ∧ z320.toInt + (k_at + 1).toInt ≤ k_ln.toInt + z322.toInt), rfl, rfl⟩ | ⟨z331, z332, z333, z334, (i_324 : k_ln.toInt ≤ z331.toInt ∧ z331.toInt ≤ 400), (i_325 : 0 ≤ z333.toInt ∧ z333.toInt ≤ 401), (i_326 : 0 ≤ z332.toInt ∧ z332.toInt ≤ 50), (i_327 : CDI z334 z331.toInt), (i_328 : OPK k_rc z334 k_ln.toInt), (i_329 : ∃ q : Nat, (ptF (KDT g_x g_n) (NMT g_x g_n) p_d) (k_at + 1).toInt.toNat k_pa.toInt.toNat = (z333.toInt.toNat, q, none)), (i_330 : z333.toInt ≤ (g_T : Int)), rfl, rfl⟩
                                ·
                                  have hJ9 := va_join (wr := []) hP hD [2, 3, 4, 0, 1] [] rfl rfl (by decide +kernel) (by decide +kernel) hk1 hFc hP1 hD1
                                  clear hP hD hPc hDc hFc ht hvm hz1 hk1 hP1 hD1
                                  obtain ⟨hP, hD⟩ := hJ9
                                  refine g5_rs [(a_r, (oc4 a_tk a_rh a_rs a_rc z320 z321 z322 e_fp)), (a_tk, (oc8 a_kd a_nm a_pl)), (a_kd, (arI G 401 f_kd)), (a_nm, (arI G 401 f_nm)), (a_rc, (arI G 400 z323))] hP hD ?_
                                  clear hP hD
                                  intro hP hD
                                  obtain ⟨dd335, hd335, hc335, hm335, hv335⟩ := i_318
                                  have hK_336 : (f_kd z322.toNatClampNeg).toInt = KDT g_x g_n z322.toInt.toNat := tkr_at e_kr (by omega) (by omega)
                                  refine lv_if_ne (tgt := 146) hx hb dX4_readSum_141 (by decide +kernel) (fun c_337 => ?_) (fun c_337 => ?_)
                                  ·
                                    refine lv_iload hx hb dX4_readSum_146 (lv_at hl 0 rfl) ?_
                                    refine lv_if_eq (tgt := 157) hx hb dX4_readSum_148 (by decide +kernel) (fun c_338 => ?_) (fun c_338 => ?_)
                                    ·
                                      refine lv_aload_n hx hb dX4_readSum_157 rfl (lv_at hl 4 rfl) ?_
                                      refine lv_iload hx hb dX4_readSum_158 (lv_at hl 1 rfl) ?_
                                      refine lv_iconst (v := 0) hx hb dX4_readSum_160 (by decide +kernel) ?_
                                      obtain ⟨hPc, hDc, hFc⟩ := g5_sub3 (wc := [(a_r, (oc4 a_tk a_rh a_rs a_rc z320 z321 z322 e_fp)), (a_rc, (arI G 400 z323))]) hP hD hS hA [0, 4] (by decide +kernel) rfl
                                      refine va_calli (va_runV (As := [.int 5, .int 0]) (rest := []) ⟨hx, hb, hml, hown, hts⟩ (r_emitX l G a_r a_rc a_tk a_rh a_rs H.size z320 z321 z322 e_fp 5 0 z323 ⟨by omega, by omega⟩ i_315 i_314 (i_316) (by unfold wOK; decide) (by omega)) (cwV 2 hts gV_X4_79 rfl rfl rfl hv_X4_emit ⟨by simp only [headSpec]; omega, by simp only [headSpec]; omega⟩) (g5_preV hPc hK hDc hN hT hS hFc (ci := 4) (q0 := 0) rfl rfl) rfl rfl hl.1 rfl (lv_room (Nat.le_of_ble_eq_true rfl)) dX4_readSum_161 ⟨Nat.le_of_ble_eq_true rfl, Nat.le_of_ble_eq_true rfl⟩) hS (fun q _ h => hFc q h) hFc (fun r u t H locs ht hvm hw hB hz1 hk1 hS => ?_)
                                      obtain ⟨hP1, hD1⟩ := hB
                                      have hP1 := g5_ht ht hP1
                                      obtain ⟨z347, z348, z349, (i_339 : 0 ≤ z347.toInt ∧ z347.toInt ≤ 399), (i_340 : z347.toInt = z320.toInt), (i_341 : z348.toInt = z320.toInt + 1), (i_342 : z320.toInt ≤ z348.toInt ∧ z348.toInt ≤ 400), (i_343 : CDI z349 z348.toInt), (i_344 : OPK z323 z349 z320.toInt), (i_345 : 0 ≤ z347.toInt → z347.toInt < z348.toInt ∧ z349 z347.toNatClampNeg = (((5 : Int32) <<< (12 &&& 31)) ||| (0 : Int32))), (i_346 : z349 = upd z323 z320.toNatClampNeg (((5 : Int32) <<< (12 &&& 31)) ||| (0 : Int32))), y350, rfl⟩ := hw
                                      have hJ9 := va_join (wr := [(a_tk, (oc8 a_kd a_nm a_pl)), (a_kd, (arI G 401 f_kd)), (a_nm, (arI G 401 f_nm))]) hP hD [0, 4] [1, 2, 3] rfl rfl (by decide +kernel) (by decide +kernel) hk1 hFc hP1 hD1
                                      clear hP hD hPc hDc hFc ht hvm hz1 hk1 hP1 hD1
                                      obtain ⟨hP, hD⟩ := hJ9
                                      refine g5_rs [(a_tk, (oc8 a_kd a_nm a_pl)), (a_kd, (arI G 401 f_kd)), (a_nm, (arI G 401 f_nm)), (a_r, (oc4 a_tk a_rh a_rs a_rc z348 z321 z322 e_fp)), (a_rc, (arI G 400 z349))] hP hD ?_
                                      clear hP hD
                                      intro hP hD
                                      refine g5_ti (v := z347) y350 ?_
                                      refine W.eq (g2 := F0 m 164 ls [.int z347]) rfl ?_
                                      refine lv_pop hx hb dX4_readSum_164 rfl ?_
                                      refine lv_iinc (v := (k_i + 1)) (lv' := [(3, .int (k_i + 1)), (5, .int 0), (4, .int 5), (2, .int k_w), (0, .ref a_r), (1, .int p_d)]) hx hb dX4_readSum_165 hl (k := 3) rfl rfl (by decide +kernel) rfl ?_
                                      clear hl
                                      intro ls hl
                                      have t_351 : (k_i + 1).toInt = k_i.toInt + 1 := g5_iadd (a := k_i.toInt) (b := 1) rfl (by decide +kernel) (by omega) (by omega)
                                      refine lv_goto (tgt := 14) hx hb dX4_readSum_168 (by decide +kernel) ?_
                                      exact ih_14_39 (k_w, (k_i + 1), z348, z321, z322, z349) ls H locs (show Int.toNat (400 - (k_i + 1).toInt) < Int.toNat (400 - k_i.toInt) from g_up (show k_i.toInt < (k_i + 1).toInt by omega) (show k_i.toInt < 400 by omega)) ⟨lv_sub hl [3, 0, 4, 5] rfl, hP.sub [3, 0, 1, 2, 4] rfl, hD.sub [3, 0, 1, 2, 4] (by decide +kernel) rfl, hS, i_26, ⟨by omega, by omega⟩, ⟨by omega, by omega⟩, i_315, i_314, by omega, i_343, opk_trans i_33 (opk_trans i_317 (i_344) (by omega)) (by omega), i_34, by rw [i_346]; exact slc_mul (o := 5) i_35 (by omega) (by omega) ⟨by omega, by omega⟩ (by rw [(hKk.symm.trans i_304)]; decide) ⟨by decide, by decide⟩ (by rw [show k_at.toInt.toNat + 1 = (k_at + 1).toInt.toNat by omega]; exact hd335) hc335 hm335 (by omega) hv335 (by omega) (by omega), by rw [i_346, lvC_em0 (by omega) (by omega) (opT_20 (by decide +kernel) (by decide +kernel))]; exact hv335, by omega, by omega⟩
                                    ·
                                      exact absurd c_338 (by decide +kernel)
                                  ·
                                    exact absurd c_337 (by decide +kernel)
                                ·
                                  have hJ9 := va_join (wr := []) hP hD [2, 3, 4, 0, 1] [] rfl rfl (by decide +kernel) (by decide +kernel) hk1 hFc hP1 hD1
                                  clear hP hD hPc hDc hFc ht hvm hz1 hk1 hP1 hD1
                                  obtain ⟨hP, hD⟩ := hJ9
                                  refine g5_rs [(a_r, (oc4 a_tk a_rh a_rs a_rc z331 z332 z333 e_fp)), (a_tk, (oc8 a_kd a_nm a_pl)), (a_kd, (arI G 401 f_kd)), (a_nm, (arI G 401 f_nm)), (a_rc, (arI G 400 z334))] hP hD ?_
                                  clear hP hD
                                  intro hP hD
                                  obtain ⟨qq352, hq352⟩ := i_329
                                  refine lv_if_ne (tgt := 146) hx hb dX4_readSum_141 (by decide +kernel) (fun c_353 => ?_) (fun c_353 => ?_)
                                  ·
                                    exact absurd c_353 (by decide +kernel)
                                  ·
                                    refine lv_iconst (v := 0) hx hb dX4_readSum_144 (by decide +kernel) ?_
                                    exact W.zret (v := 0) hx hb hr rfl (fun t ht hW => ⟨⟨0, [(a_r, (oc4 a_tk a_rh a_rs a_rc z331 z332 z333 e_fp)), (a_tk, (oc8 a_kd a_nm a_pl)), (a_kd, (arI G 401 f_kd)), (a_nm, (arI G 401 f_nm)), (a_rc, (arI G 400 z334))], rfl, Or.inr (⟨z331, z332, z333, z334, ⟨by omega, by omega⟩, i_325, i_326, i_327, opk_trans i_33 (i_328) (by omega), ⟨qq352, slc_bad i_35 (by omega) (by omega) (by rw [(hKk.symm.trans i_304)]; decide) (by rw [show k_at.toInt.toNat + 1 = (k_at + 1).toInt.toNat by omega]; exact hq352)⟩, by omega, rfl, rfl⟩), by rw [ht]; exact hP.sub [0, 1, 2, 3, 4] rfl, hD.sub [0, 1, 2, 3, 4] (by decide +kernel) rfl⟩, hS.F ht⟩) hS.2.2 dX4_readSum_145
                              ·
                                exact absurd c_311 (by decide +kernel)
                            ·
                              have n_310 : gNe (k_w.toInt) ((-1)) := g5_eqN (a := k_w.toInt) (b := (-1)) rfl (by decide +kernel) c_310
                              have i_310 : k_w.toInt ≥ 0 := by have z := g5_eqN (a := k_w.toInt) (b := (-1)) (by rfl) (by decide +kernel) c_310; omega
                              refine lv_iload hx hb dX4_readSum_100 (lv_at hl 0 rfl) ?_
                              refine lv_if_ne (tgt := 111) hx hb dX4_readSum_102 (by decide +kernel) (fun c_354 => ?_) (fun c_354 => ?_)
                              ·
                                exact absurd c_354 (by decide +kernel)
                              ·
                                refine lv_iload hx hb dX4_readSum_105 (lv_at hl 1 rfl) ?_
                                refine lv_iconst (v := (-1)) hx hb dX4_readSum_107 (by decide +kernel) ?_
                                refine lv_icmp_ne (tgt := 118) hx hb dX4_readSum_108 (by decide +kernel) (fun c_355 => ?_) (fun c_355 => ?_)
                                ·
                                  refine lv_iload hx hb dX4_readSum_118 (lv_at hl 1 rfl) ?_
                                  refine lv_iconst (v := (-1)) hx hb dX4_readSum_120 (by decide +kernel) ?_
                                  refine lv_icmp_ne (tgt := 126) hx hb dX4_readSum_121 (by decide +kernel) (fun c_356 => ?_) (fun c_356 => ?_)
                                  ·
                                    refine lv_aload_n hx hb dX4_readSum_126 rfl (lv_at hl 4 rfl) ?_
                                    refine lv_dup hx hb dX4_readSum_127 rfl ?_
                                    refine va_get (D := G.1) (ci := 4) (v := .int k_at) (C := RX4) (T := TX4) (N := 8) hx hb hts inG_X4 hown hK hP 2 rfl rfl 6 (by decide +kernel) (hts _ fl_X4_42) (fun _ h9 => h9) rfl dX4_readSum_128 ?_
                                    refine lv_iconst (v := 1) hx hb dX4_readSum_131 (by decide +kernel) ?_
                                    refine W.eq (g2 := F0 m 132 ls [.int 1, .int k_at, .ref a_r]) rfl ?_
                                    refine lv_iadd hx hb dX4_readSum_132 ?_
                                    have t_357 : (k_at + 1).toInt = k_at.toInt + 1 := g5_iadd (a := k_at.toInt) (b := 1) (by rfl) (by decide +kernel) (by omega) (by omega)
                                    refine va_put (D := G.1) (ci := 4) (v := .int (k_at + 1)) (ty := .int) (C := RX4) (T := TX4) (N := 8) hx hb hts inG_X4 tyX4 tyX4_ok nmX4 hown hK hP hD hS 2 rfl rfl 6 (by decide +kernel) (hts _ fl_X4_42) (fun _ h9 => h9) rfl (by decide +kernel) rfl rfl (Nat.le_of_ble_eq_true rfl) dX4_readSum_133 ?_
                                    clear hP hD hS
                                    intro H locs hP hD hS
                                    refine g5_rs [(a_nm, (arI G 401 f_nm)), (a_rc, (arI G 400 k_rc)), (a_r, (oc4 a_tk a_rh a_rs a_rc k_ln k_pa (k_at + 1) e_fp)), (a_tk, (oc8 a_kd a_nm a_pl)), (a_kd, (arI G 401 f_kd))] hP hD ?_
                                    clear hP hD
                                    intro hP hD
                                    refine lv_aload_n hx hb dX4_readSum_136 rfl (lv_at hl 4 rfl) ?_
                                    refine lv_iload_n hx hb dX4_readSum_137 rfl (lv_at hl 5 rfl) ?_
                                    obtain ⟨hPc, hDc, hFc⟩ := g5_sub3 (wc := [(a_r, (oc4 a_tk a_rh a_rs a_rc k_ln k_pa (k_at + 1) e_fp)), (a_tk, (oc8 a_kd a_nm a_pl)), (a_kd, (arI G 401 f_kd)), (a_nm, (arI G 401 f_nm)), (a_rc, (arI G 400 k_rc))]) hP hD hS hA [2, 3, 4, 0, 1] (by decide +kernel) rfl
                                    refine va_calli (va_runV (As := [.int p_d]) (rest := []) ⟨hx, hb, hml, hown, hts⟩ ((r_partX fr lo p_d h_p_d h_sum) l G a_r a_tk a_kd a_nm a_rc a_rh a_rs a_pl H.size k_ln k_pa (k_at + 1) e_fp f_kd f_nm k_rc g_x g_n g_T i_28 i_29 ⟨by omega, by omega⟩ (e_tk) (i_32) (e_by) (e_kr) (by omega) (by omega) (i_36)) (cwV 1 hts gV_X4_90 rfl rfl rfl hv_X4_readPart ⟨by simp only [headSpec]; omega, by simp only [headSpec]; omega⟩) (g5_preV hPc hK hDc hN hT hS hFc (ci := 4) (q0 := 0) rfl rfl) rfl rfl hl.1 rfl (lv_room (Nat.le_of_ble_eq_true rfl)) dX4_readSum_138 ⟨Nat.le_of_ble_eq_true rfl, Nat.le_of_ble_eq_true rfl⟩) hS (fun q _ h => hFc q h) hFc (fun r u t H locs ht hvm hw hB hz1 hk1 hS => ?_)
                                    obtain ⟨hP1, hD1⟩ := hB
                                    have hP1 := g5_ht ht hP1
                                    rcases hw with ⟨z365, z366, z367, z368, (i_358 : k_ln.toInt ≤ z365.toInt ∧ z365.toInt ≤ 400), (i_359 : 0 ≤ z367.toInt ∧ z367.toInt ≤ 401), (i_360 : 0 ≤ z366.toInt ∧ z366.toInt ≤ 50), (i_361 : CDI z368 z365.toInt), (i_362 : OPK k_rc z368 k_ln.toInt), (i_363 : ∃ d : DS, (ptF (KDT g_x g_n) (NMT g_x g_n) p_d) (k_at + 1).toInt.toNat k_pa.toInt.toNat = (z367.toInt.toNat, z366.toInt.toNat, some d) ∧ KCC k_rc z368 k_ln.toInt ∧ MCC z368 k_ln.toInt.toNat z365.toInt.toNat d ∧ lvC z368 z365.toInt.toNat = z366.toInt.toNat), (i_364 : z367.toInt ≤ (g_T : Int) ∧ (k_at + 1).toInt < z367.toInt ∧ z365.toInt + (k_at + 1).toInt ≤ k_ln.toInt + z367.toInt), rfl, rfl⟩ | ⟨z376, z377, z378, z379, (i_369 : k_ln.toInt ≤ z376.toInt ∧ z376.toInt ≤ 400), (i_370 : 0 ≤ z378.toInt ∧ z378.toInt ≤ 401), (i_371 : 0 ≤ z377.toInt ∧ z377.toInt ≤ 50), (i_372 : CDI z379 z376.toInt), (i_373 : OPK k_rc z379 k_ln.toInt), (i_374 : ∃ q : Nat, (ptF (KDT g_x g_n) (NMT g_x g_n) p_d) (k_at + 1).toInt.toNat k_pa.toInt.toNat = (z378.toInt.toNat, q, none)), (i_375 : z378.toInt ≤ (g_T : Int)), rfl, rfl⟩
                                    ·
                                      have hJ9 := va_join (wr := []) hP hD [2, 3, 4, 0, 1] [] rfl rfl (by decide +kernel) (by decide +kernel) hk1 hFc hP1 hD1
                                      clear hP hD hPc hDc hFc ht hvm hz1 hk1 hP1 hD1
                                      obtain ⟨hP, hD⟩ := hJ9
                                      refine g5_rs [(a_r, (oc4 a_tk a_rh a_rs a_rc z365 z366 z367 e_fp)), (a_tk, (oc8 a_kd a_nm a_pl)), (a_kd, (arI G 401 f_kd)), (a_nm, (arI G 401 f_nm)), (a_rc, (arI G 400 z368))] hP hD ?_
                                      clear hP hD
                                      intro hP hD
                                      obtain ⟨dd380, hd380, hc380, hm380, hv380⟩ := i_363
                                      have hK_381 : (f_kd z367.toNatClampNeg).toInt = KDT g_x g_n z367.toInt.toNat := tkr_at e_kr (by omega) (by omega)
                                      refine lv_if_ne (tgt := 146) hx hb dX4_readSum_141 (by decide +kernel) (fun c_382 => ?_) (fun c_382 => ?_)
                                      ·
                                        refine lv_iload hx hb dX4_readSum_146 (lv_at hl 0 rfl) ?_
                                        refine lv_if_eq (tgt := 157) hx hb dX4_readSum_148 (by decide +kernel) (fun c_383 => ?_) (fun c_383 => ?_)
                                        ·
                                          refine lv_aload_n hx hb dX4_readSum_157 rfl (lv_at hl 4 rfl) ?_
                                          refine lv_iload hx hb dX4_readSum_158 (lv_at hl 1 rfl) ?_
                                          refine lv_iconst (v := 0) hx hb dX4_readSum_160 (by decide +kernel) ?_
                                          obtain ⟨hPc, hDc, hFc⟩ := g5_sub3 (wc := [(a_r, (oc4 a_tk a_rh a_rs a_rc z365 z366 z367 e_fp)), (a_rc, (arI G 400 z368))]) hP hD hS hA [0, 4] (by decide +kernel) rfl
                                          refine va_calli (va_runV (As := [.int 5, .int 0]) (rest := []) ⟨hx, hb, hml, hown, hts⟩ (r_emitX l G a_r a_rc a_tk a_rh a_rs H.size z365 z366 z367 e_fp 5 0 z368 ⟨by omega, by omega⟩ i_360 i_359 (i_361) (by unfold wOK; decide) (by omega)) (cwV 2 hts gV_X4_79 rfl rfl rfl hv_X4_emit ⟨by simp only [headSpec]; omega, by simp only [headSpec]; omega⟩) (g5_preV hPc hK hDc hN hT hS hFc (ci := 4) (q0 := 0) rfl rfl) rfl rfl hl.1 rfl (lv_room (Nat.le_of_ble_eq_true rfl)) dX4_readSum_161 ⟨Nat.le_of_ble_eq_true rfl, Nat.le_of_ble_eq_true rfl⟩) hS (fun q _ h => hFc q h) hFc (fun r u t H locs ht hvm hw hB hz1 hk1 hS => ?_)
                                          obtain ⟨hP1, hD1⟩ := hB
                                          have hP1 := g5_ht ht hP1
                                          obtain ⟨z392, z393, z394, (i_384 : 0 ≤ z392.toInt ∧ z392.toInt ≤ 399), (i_385 : z392.toInt = z365.toInt), (i_386 : z393.toInt = z365.toInt + 1), (i_387 : z365.toInt ≤ z393.toInt ∧ z393.toInt ≤ 400), (i_388 : CDI z394 z393.toInt), (i_389 : OPK z368 z394 z365.toInt), (i_390 : 0 ≤ z392.toInt → z392.toInt < z393.toInt ∧ z394 z392.toNatClampNeg = (((5 : Int32) <<< (12 &&& 31)) ||| (0 : Int32))), (i_391 : z394 = upd z368 z365.toNatClampNeg (((5 : Int32) <<< (12 &&& 31)) ||| (0 : Int32))), y395, rfl⟩ := hw
                                          have hJ9 := va_join (wr := [(a_tk, (oc8 a_kd a_nm a_pl)), (a_kd, (arI G 401 f_kd)), (a_nm, (arI G 401 f_nm))]) hP hD [0, 4] [1, 2, 3] rfl rfl (by decide +kernel) (by decide +kernel) hk1 hFc hP1 hD1
                                          clear hP hD hPc hDc hFc ht hvm hz1 hk1 hP1 hD1
                                          obtain ⟨hP, hD⟩ := hJ9
                                          refine g5_rs [(a_tk, (oc8 a_kd a_nm a_pl)), (a_kd, (arI G 401 f_kd)), (a_nm, (arI G 401 f_nm)), (a_r, (oc4 a_tk a_rh a_rs a_rc z393 z366 z367 e_fp)), (a_rc, (arI G 400 z394))] hP hD ?_
                                          clear hP hD
                                          intro hP hD
                                          refine g5_ti (v := z392) y395 ?_
                                          refine W.eq (g2 := F0 m 164 ls [.int z392]) rfl ?_
                                          refine lv_pop hx hb dX4_readSum_164 rfl ?_
                                          refine lv_iinc (v := (k_i + 1)) (lv' := [(3, .int (k_i + 1)), (5, .int 0), (4, .int 5), (2, .int k_w), (0, .ref a_r), (1, .int p_d)]) hx hb dX4_readSum_165 hl (k := 3) rfl rfl (by decide +kernel) rfl ?_
                                          clear hl
                                          intro ls hl
                                          have t_396 : (k_i + 1).toInt = k_i.toInt + 1 := g5_iadd (a := k_i.toInt) (b := 1) rfl (by decide +kernel) (by omega) (by omega)
                                          refine lv_goto (tgt := 14) hx hb dX4_readSum_168 (by decide +kernel) ?_
                                          exact ih_14_39 (k_w, (k_i + 1), z393, z366, z367, z394) ls H locs (show Int.toNat (400 - (k_i + 1).toInt) < Int.toNat (400 - k_i.toInt) from g_up (show k_i.toInt < (k_i + 1).toInt by omega) (show k_i.toInt < 400 by omega)) ⟨lv_sub hl [3, 0, 4, 5] rfl, hP.sub [3, 0, 1, 2, 4] rfl, hD.sub [3, 0, 1, 2, 4] (by decide +kernel) rfl, hS, i_26, ⟨by omega, by omega⟩, ⟨by omega, by omega⟩, i_360, i_359, by omega, i_388, opk_trans i_33 (opk_trans i_362 (i_389) (by omega)) (by omega), i_34, by rw [i_391]; exact slc_mul (o := 5) i_35 (by omega) (by omega) ⟨by omega, by omega⟩ (by rw [(hKk.symm.trans i_304)]; decide) ⟨by decide, by decide⟩ (by rw [show k_at.toInt.toNat + 1 = (k_at + 1).toInt.toNat by omega]; exact hd380) hc380 hm380 (by omega) hv380 (by omega) (by omega), by rw [i_391, lvC_em0 (by omega) (by omega) (opT_20 (by decide +kernel) (by decide +kernel))]; exact hv380, by omega, by omega⟩
                                        ·
                                          exact absurd c_383 (by decide +kernel)
                                      ·
                                        exact absurd c_382 (by decide +kernel)
                                    ·
                                      have hJ9 := va_join (wr := []) hP hD [2, 3, 4, 0, 1] [] rfl rfl (by decide +kernel) (by decide +kernel) hk1 hFc hP1 hD1
                                      clear hP hD hPc hDc hFc ht hvm hz1 hk1 hP1 hD1
                                      obtain ⟨hP, hD⟩ := hJ9
                                      refine g5_rs [(a_r, (oc4 a_tk a_rh a_rs a_rc z376 z377 z378 e_fp)), (a_tk, (oc8 a_kd a_nm a_pl)), (a_kd, (arI G 401 f_kd)), (a_nm, (arI G 401 f_nm)), (a_rc, (arI G 400 z379))] hP hD ?_
                                      clear hP hD
                                      intro hP hD
                                      obtain ⟨qq397, hq397⟩ := i_374
                                      refine lv_if_ne (tgt := 146) hx hb dX4_readSum_141 (by decide +kernel) (fun c_398 => ?_) (fun c_398 => ?_)
                                      ·
                                        exact absurd c_398 (by decide +kernel)
                                      ·
                                        refine lv_iconst (v := 0) hx hb dX4_readSum_144 (by decide +kernel) ?_
                                        exact W.zret (v := 0) hx hb hr rfl (fun t ht hW => ⟨⟨0, [(a_r, (oc4 a_tk a_rh a_rs a_rc z376 z377 z378 e_fp)), (a_tk, (oc8 a_kd a_nm a_pl)), (a_kd, (arI G 401 f_kd)), (a_nm, (arI G 401 f_nm)), (a_rc, (arI G 400 z379))], rfl, Or.inr (⟨z376, z377, z378, z379, ⟨by omega, by omega⟩, i_370, i_371, i_372, opk_trans i_33 (i_373) (by omega), ⟨qq397, slc_bad i_35 (by omega) (by omega) (by rw [(hKk.symm.trans i_304)]; decide) (by rw [show k_at.toInt.toNat + 1 = (k_at + 1).toInt.toNat by omega]; exact hq397)⟩, by omega, rfl, rfl⟩), by rw [ht]; exact hP.sub [0, 1, 2, 3, 4] rfl, hD.sub [0, 1, 2, 3, 4] (by decide +kernel) rfl⟩, hS.F ht⟩) hS.2.2 dX4_readSum_145
                                  ·
                                    exact absurd c_356 (by decide +kernel)
                                ·
                                  exact absurd c_355 (by decide +kernel)
                          ·
                            exact absurd c_309 (by decide +kernel)
                    ·
                      have hJ9 := va_join (wr := [(a_nm, (arI G 401 f_nm)), (a_rc, (arI G 400 k_rc))]) hP hD [2, 3, 4] [0, 1] rfl rfl (by decide +kernel) (by decide +kernel) hk1 hFc hP1 hD1
                      clear hP hD hPc hDc hFc ht hvm hz1 hk1 hP1 hD1
                      obtain ⟨hP, hD⟩ := hJ9
                      refine g5_rs [(a_nm, (arI G 401 f_nm)), (a_rc, (arI G 400 k_rc)), (a_r, (oc4 a_tk a_rh a_rs a_rc k_ln k_pa k_at e_fp)), (a_tk, (oc8 a_kd a_nm a_pl)), (a_kd, (arI G 401 f_kd))] hP hD ?_
                      clear hP hD
                      intro hP hD
                      refine lv_if_eq (tgt := 73) hx hb dX4_readSum_66 (by decide +kernel) (fun c_399 => ?_) (fun c_399 => ?_)
                      ·
                        refine lv_iconst (v := (-1)) hx hb dX4_readSum_73 (by decide +kernel) ?_
                        refine lv_istore (lv' := [(4, .int (-1)), (2, .int k_w), (3, .int k_i), (0, .ref a_r), (1, .int p_d)]) hx hb dX4_readSum_74 hl (by decide +kernel) rfl ?_
                        clear hl
                        intro ls hl
                        refine lv_iload hx hb dX4_readSum_76 (lv_at hl 0 rfl) ?_
                        refine lv_iconst (v := 2) hx hb dX4_readSum_78 (by decide +kernel) ?_
                        refine W.eq (g2 := F0 m 79 ls [.int 2, .int (-1)]) rfl ?_
                        refine lv_icmp_eq (tgt := 88) hx hb dX4_readSum_79 (by decide +kernel) (fun c_400 => ?_) (fun c_400 => ?_)
                        ·
                          exact absurd c_400 (by decide +kernel)
                        ·
                          refine lv_iload hx hb dX4_readSum_82 (lv_at hl 0 rfl) ?_
                          refine lv_iconst (v := 3) hx hb dX4_readSum_84 (by decide +kernel) ?_
                          refine lv_icmp_ne (tgt := 92) hx hb dX4_readSum_85 (by decide +kernel) (fun c_401 => ?_) (fun c_401 => ?_)
                          ·
                            refine lv_iconst (v := 0) hx hb dX4_readSum_92 (by decide +kernel) ?_
                            refine lv_istore (lv' := [(5, .int 0), (4, .int (-1)), (2, .int k_w), (3, .int k_i), (0, .ref a_r), (1, .int p_d)]) hx hb dX4_readSum_93 hl (by decide +kernel) rfl ?_
                            clear hl
                            intro ls hl
                            refine lv_iload_n hx hb dX4_readSum_95 rfl (lv_at hl 2 rfl) ?_
                            refine lv_iconst (v := (-1)) hx hb dX4_readSum_96 (by decide +kernel) ?_
                            refine W.eq (g2 := F0 m 97 ls [.int (-1), .int k_w]) rfl ?_
                            refine lv_icmp_eq (tgt := 118) hx hb dX4_readSum_97 (by decide +kernel) (fun c_402 => ?_) (fun c_402 => ?_)
                            ·
                              have i_402 : k_w.toInt = (-1) := g5_eq (a := k_w.toInt) (b := (-1)) rfl (by decide +kernel) c_402
                              refine lv_iload hx hb dX4_readSum_118 (lv_at hl 1 rfl) ?_
                              refine lv_iconst (v := (-1)) hx hb dX4_readSum_120 (by decide +kernel) ?_
                              refine lv_icmp_ne (tgt := 126) hx hb dX4_readSum_121 (by decide +kernel) (fun c_403 => ?_) (fun c_403 => ?_)
                              ·
                                exact absurd c_403 (by decide +kernel)
                              ·
                                refine lv_iconst (v := 1) hx hb dX4_readSum_124 (by decide +kernel) ?_
                                exact W.zret (v := 1) hx hb hr rfl (fun t ht hW => ⟨⟨1, [(a_r, (oc4 a_tk a_rh a_rs a_rc k_ln k_pa k_at e_fp)), (a_tk, (oc8 a_kd a_nm a_pl)), (a_kd, (arI G 401 f_kd)), (a_nm, (arI G 401 f_nm)), (a_rc, (arI G 400 k_rc))], rfl, Or.inl (⟨k_ln, k_pa, k_at, k_rc, ⟨by omega, by omega⟩, i_30, i_29, i_32, i_33, by obtain ⟨w9, d9, h1, h2, h3, h4⟩ := slc_end i_35 (by omega) (by omega) (opM_0 (fun q9 => i_42 (hKk.trans q9)) (fun q9 => i_125 (hKk.trans q9)) (fun q9 => i_209 (hKk.trans q9)) (fun q9 => i_305 (hKk.trans q9))); exact ⟨pnd w9 d9, h1, h3, wsc_no h2 (by omega), h4⟩, by omega, rfl, rfl⟩), by rw [ht]; exact hP.sub [2, 3, 4, 0, 1] rfl, hD.sub [2, 3, 4, 0, 1] (by decide +kernel) rfl⟩, hS.F ht⟩) hS.2.2 dX4_readSum_125
                            ·
                              have n_402 : gNe (k_w.toInt) ((-1)) := g5_eqN (a := k_w.toInt) (b := (-1)) rfl (by decide +kernel) c_402
                              have i_402 : k_w.toInt ≥ 0 := by have z := g5_eqN (a := k_w.toInt) (b := (-1)) (by rfl) (by decide +kernel) c_402; omega
                              refine lv_iload hx hb dX4_readSum_100 (lv_at hl 0 rfl) ?_
                              refine lv_if_ne (tgt := 111) hx hb dX4_readSum_102 (by decide +kernel) (fun c_404 => ?_) (fun c_404 => ?_)
                              ·
                                exact absurd c_404 (by decide +kernel)
                              ·
                                refine lv_iload hx hb dX4_readSum_105 (lv_at hl 1 rfl) ?_
                                refine lv_iconst (v := (-1)) hx hb dX4_readSum_107 (by decide +kernel) ?_
                                refine lv_icmp_ne (tgt := 118) hx hb dX4_readSum_108 (by decide +kernel) (fun c_405 => ?_) (fun c_405 => ?_)
                                ·
                                  exact absurd c_405 (by decide +kernel)
                                ·
                                  refine lv_aload_n hx hb dX4_readSum_111 rfl (lv_at hl 4 rfl) ?_
                                  refine lv_iload_n hx hb dX4_readSum_112 rfl (lv_at hl 2 rfl) ?_
                                  refine lv_iconst (v := 0) hx hb dX4_readSum_113 (by decide +kernel) ?_
                                  obtain ⟨hPc, hDc, hFc⟩ := g5_sub3 (wc := [(a_r, (oc4 a_tk a_rh a_rs a_rc k_ln k_pa k_at e_fp)), (a_rc, (arI G 400 k_rc))]) hP hD hS hA [2, 1] (by decide +kernel) rfl
                                  refine va_calli (va_runV (As := [.int k_w, .int 0]) (rest := []) ⟨hx, hb, hml, hown, hts⟩ (r_emitX l G a_r a_rc a_tk a_rh a_rs H.size k_ln k_pa k_at e_fp k_w 0 k_rc i_28 i_29 i_30 (i_32) (wok_wait (by rcases i_34 with q | q | q; exact absurd q n_402; exact Or.inl q; exact Or.inr q)) (by omega)) (cwV 2 hts gV_X4_79 rfl rfl rfl hv_X4_emit ⟨by simp only [headSpec]; omega, by simp only [headSpec]; omega⟩) (g5_preV hPc hK hDc hN hT hS hFc (ci := 4) (q0 := 0) rfl rfl) rfl rfl hl.1 rfl (lv_room (Nat.le_of_ble_eq_true rfl)) dX4_readSum_114 ⟨Nat.le_of_ble_eq_true rfl, Nat.le_of_ble_eq_true rfl⟩) hS (fun q _ h => hFc q h) hFc (fun r u t H locs ht hvm hw hB hz1 hk1 hS => ?_)
                                  obtain ⟨hP1, hD1⟩ := hB
                                  have hP1 := g5_ht ht hP1
                                  obtain ⟨z414, z415, z416, (i_406 : 0 ≤ z414.toInt ∧ z414.toInt ≤ 399), (i_407 : z414.toInt = k_ln.toInt), (i_408 : z415.toInt = k_ln.toInt + 1), (i_409 : k_ln.toInt ≤ z415.toInt ∧ z415.toInt ≤ 400), (i_410 : CDI z416 z415.toInt), (i_411 : OPK k_rc z416 k_ln.toInt), (i_412 : 0 ≤ z414.toInt → z414.toInt < z415.toInt ∧ z416 z414.toNatClampNeg = ((k_w <<< (12 &&& 31)) ||| (0 : Int32))), (i_413 : z416 = upd k_rc k_ln.toNatClampNeg ((k_w <<< (12 &&& 31)) ||| (0 : Int32))), y417, rfl⟩ := hw
                                  have hJ9 := va_join (wr := [(a_nm, (arI G 401 f_nm)), (a_tk, (oc8 a_kd a_nm a_pl)), (a_kd, (arI G 401 f_kd))]) hP hD [2, 1] [0, 3, 4] rfl rfl (by decide +kernel) (by decide +kernel) hk1 hFc hP1 hD1
                                  clear hP hD hPc hDc hFc ht hvm hz1 hk1 hP1 hD1
                                  obtain ⟨hP, hD⟩ := hJ9
                                  refine g5_rs [(a_nm, (arI G 401 f_nm)), (a_tk, (oc8 a_kd a_nm a_pl)), (a_kd, (arI G 401 f_kd)), (a_r, (oc4 a_tk a_rh a_rs a_rc z415 k_pa k_at e_fp)), (a_rc, (arI G 400 z416))] hP hD ?_
                                  clear hP hD
                                  intro hP hD
                                  refine g5_ti (v := z414) y417 ?_
                                  have hE_418 : lvC z416 z415.toInt.toNat = k_pa.toInt.toNat := by rw [i_413, lvC_em0 (by omega) (by omega) (opT_20 (by omega) (by decide +kernel))]; exact i_36
                                  refine W.eq (g2 := F0 m 117 ls [.int z414]) rfl ?_
                                  refine lv_pop hx hb dX4_readSum_117 rfl ?_
                                  refine lv_iload hx hb dX4_readSum_118 (lv_at hl 1 rfl) ?_
                                  refine lv_iconst (v := (-1)) hx hb dX4_readSum_120 (by decide +kernel) ?_
                                  refine lv_icmp_ne (tgt := 126) hx hb dX4_readSum_121 (by decide +kernel) (fun c_419 => ?_) (fun c_419 => ?_)
                                  ·
                                    exact absurd c_419 (by decide +kernel)
                                  ·
                                    refine lv_iconst (v := 1) hx hb dX4_readSum_124 (by decide +kernel) ?_
                                    exact W.zret (v := 1) hx hb hr rfl (fun t ht hW => ⟨⟨1, [(a_r, (oc4 a_tk a_rh a_rs a_rc z415 k_pa k_at e_fp)), (a_tk, (oc8 a_kd a_nm a_pl)), (a_kd, (arI G 401 f_kd)), (a_nm, (arI G 401 f_nm)), (a_rc, (arI G 400 z416))], rfl, Or.inl (⟨z415, k_pa, k_at, z416, ⟨by omega, by omega⟩, i_30, i_29, i_410, opk_trans i_33 (i_411) (by omega), by obtain ⟨w9, d9, h1, h2, h3, h4⟩ := slc_end i_35 (by omega) (by omega) (opM_0 (fun q9 => i_42 (hKk.trans q9)) (fun q9 => i_125 (hKk.trans q9)) (fun q9 => i_209 (hKk.trans q9)) (fun q9 => i_305 (hKk.trans q9))); exact ⟨pnd w9 d9, h1, by rw [i_413]; exact kcc_tr h3 (kcc_em (by omega)) (by omega), by rw [i_413]; exact wsc_em h2 (by omega) (by omega) (by omega), by rw [i_413, lvC_em0 (by omega) (by omega) (opT_20 (by omega) (by decide +kernel))]; exact h4⟩, by omega, rfl, rfl⟩), by rw [ht]; exact hP.sub [3, 1, 2, 0, 4] rfl, hD.sub [3, 1, 2, 0, 4] (by decide +kernel) rfl⟩, hS.F ht⟩) hS.2.2 dX4_readSum_125
                          ·
                            exact absurd c_401 (by decide +kernel)
                      ·
                        exact absurd c_399 (by decide +kernel)
                  ·
                    exact absurd c_303 (by decide +kernel)
              ·
                exact absurd c_207 (by decide +kernel)
          ·
            exact absurd c_123 (by decide +kernel)
    ·
      exact absurd c_25 (by decide +kernel)
  ·
    have i_12 : e_ln.toInt ≤ z19.toInt ∧ z19.toInt ≤ 400 := i_12
    have i_13 : 0 ≤ z21.toInt ∧ z21.toInt ≤ 401 := i_13
    have i_14 : 0 ≤ z20.toInt ∧ z20.toInt ≤ 50 := i_14
    have i_15 : CDI z22 z19.toInt := i_15
    have i_16 : OPK f_rc z22 e_ln.toInt := i_16
    have i_17 : ∃ q : Nat, (ptF (KDT g_x g_n) (NMT g_x g_n) p_d) e_at.toInt.toNat e_pa.toInt.toNat = (z21.toInt.toNat, q, none) := i_17
    have i_18 : z21.toInt ≤ (g_T : Int) := i_18
    have hJ9 := va_join (wr := []) hP hD [0, 1, 2, 3, 4] [] rfl rfl (by decide +kernel) (by decide +kernel) hk1 hFc hP1 hD1
    clear hP hD hPc hDc hFc ht hvm hz1 hk1 hP1 hD1
    obtain ⟨hP, hD⟩ := hJ9
    refine g5_rs [(a_r, (oc4 a_tk a_rh a_rs a_rc z19 z20 z21 e_fp)), (a_tk, (oc8 a_kd a_nm a_pl)), (a_kd, (arI G 401 f_kd)), (a_nm, (arI G 401 f_nm)), (a_rc, (arI G 400 z22))] hP hD ?_
    clear hP hD
    intro hP hD
    obtain ⟨qq420, hq420⟩ := i_17
    refine lv_if_ne (tgt := 10) hx hb dX4_readSum_5 (by decide +kernel) (fun c_421 => ?_) (fun c_421 => ?_)
    ·
      exact absurd c_421 (by decide +kernel)
    ·
      refine lv_iconst (v := 0) hx hb dX4_readSum_8 (by decide +kernel) ?_
      exact W.zret (v := 0) hx hb hr rfl (fun t ht hW => ⟨⟨0, [(a_r, (oc4 a_tk a_rh a_rs a_rc z19 z20 z21 e_fp)), (a_tk, (oc8 a_kd a_nm a_pl)), (a_kd, (arI G 401 f_kd)), (a_nm, (arI G 401 f_nm)), (a_rc, (arI G 400 z22))], rfl, Or.inr (⟨z19, z20, z21, z22, ⟨by omega, by omega⟩, i_13, i_14, i_15, i_16, ⟨qq420, sumP_0 hq420⟩, by omega, rfl, rfl⟩), by rw [ht]; exact hP.sub [0, 1, 2, 3, 4] rfl, hD.sub [0, 1, 2, 3, 4] (by decide +kernel) rfl⟩, hS.F ht⟩) hS.2.2 dX4_readSum_9
set_option maxHeartbeats 4000000 in
set_option maxRecDepth 100000 in
theorem r_plainX (fr lo f2 l2 : Nat) (p_d : Int32) (h_p_d : 0 ≤ p_d.toInt ∧ p_d.toInt ≤ 8) (h_sum : ∀ x : Int32, x.toInt = p_d.toInt + 1 → p_d.toInt < 8 → ∀ (l : Launch) (G : g5_G) (a_r a_tk a_kd a_nm a_rc a_rh a_rs a_pl : Nat) (sz : Nat) (e_ln : Int32) (e_pa : Int32) (e_at : Int32) (e_fp : Int32) (f_kd : Nat → Int32) (f_nm : Nat → Int32) (f_rc : Nat → Int32) (g_x : Nat → Int32) (g_n : Nat) (g_T : Nat) (h_e_ln : 0 ≤ e_ln.toInt ∧ e_ln.toInt ≤ 400) (h_e_pa : 0 ≤ e_pa.toInt ∧ e_pa.toInt ≤ 50) (h_e_at : 0 ≤ e_at.toInt ∧ e_at.toInt ≤ 401) (e_tk : TOKI f_kd f_nm) (e_cd : CDI f_rc e_ln.toInt) (e_by : byOK g_x) (e_kr : TKR f_kd f_nm g_x g_n g_T) (e_aT : e_at.toInt ≤ (g_T : Int)) (e_la : e_ln.toInt ≤ e_at.toInt) (e_lv : lvC f_rc e_ln.toInt.toNat = e_pa.toInt.toNat), Met l yX4_readSum (wsG yX4_readSum cX4_readSum 6 (some .boolean)) ({ frames := fr + 0, cells := 0, slots := 0, locals := lo + 0 }) (va_Pc [.ref a_r, .int x] (g5_P G [(a_r, (oc4 a_tk a_rh a_rs a_rc e_ln e_pa e_at e_fp)), (a_tk, (oc8 a_kd a_nm a_pl)), (a_kd, (arI G 401 f_kd)), (a_nm, (arI G 401 f_nm)), (a_rc, (arI G 400 f_rc))] sz)) (va_Qi (fun (r : Int32) (u : va_W) => (∃ (o_ln : Int32) (o_pa : Int32) (o_at : Int32) (o_rc : Nat → Int32), (e_ln.toInt ≤ o_ln.toInt ∧ o_ln.toInt ≤ 400) ∧ (0 ≤ o_at.toInt ∧ o_at.toInt ≤ 401) ∧ (0 ≤ o_pa.toInt ∧ o_pa.toInt ≤ 50) ∧ (CDI o_rc o_ln.toInt) ∧ (OPK f_rc o_rc e_ln.toInt) ∧ (∃ d : DS, (smF (KDT g_x g_n) (NMT g_x g_n) x) e_at.toInt.toNat e_pa.toInt.toNat = (o_at.toInt.toNat, o_pa.toInt.toNat, some d) ∧ KCC f_rc o_rc e_ln.toInt ∧ MCC o_rc e_ln.toInt.toNat o_ln.toInt.toNat d ∧ lvC o_rc o_ln.toInt.toNat = o_pa.toInt.toNat) ∧ (o_at.toInt ≤ (g_T : Int) ∧ e_at.toInt < o_at.toInt ∧ o_ln.toInt + e_at.toInt ≤ e_ln.toInt + o_at.toInt) ∧ (r = 1) ∧ (u = [(a_r, (oc4 a_tk a_rh a_rs a_rc o_ln o_pa o_at e_fp)), (a_tk, (oc8 a_kd a_nm a_pl)), (a_kd, (arI G 401 f_kd)), (a_nm, (arI G 401 f_nm)), (a_rc, (arI G 400 o_rc))])) ∨ (∃ (o_ln : Int32) (o_pa : Int32) (o_at : Int32) (o_rc : Nat → Int32), (e_ln.toInt ≤ o_ln.toInt ∧ o_ln.toInt ≤ 400) ∧ (0 ≤ o_at.toInt ∧ o_at.toInt ≤ 401) ∧ (0 ≤ o_pa.toInt ∧ o_pa.toInt ≤ 50) ∧ (CDI o_rc o_ln.toInt) ∧ (OPK f_rc o_rc e_ln.toInt) ∧ (∃ q : Nat, (smF (KDT g_x g_n) (NMT g_x g_n) x) e_at.toInt.toNat e_pa.toInt.toNat = (o_at.toInt.toNat, q, none)) ∧ (o_at.toInt ≤ (g_T : Int)) ∧ (r = 0) ∧ (u = [(a_r, (oc4 a_tk a_rh a_rs a_rc o_ln o_pa o_at e_fp)), (a_tk, (oc8 a_kd a_nm a_pl)), (a_kd, (arI G 401 f_kd)), (a_nm, (arI G 401 f_nm)), (a_rc, (arI G 400 o_rc))]))) (g5_B G (va_A [(a_r, (oc4 a_tk a_rh a_rs a_rc e_ln e_pa e_at e_fp)), (a_tk, (oc8 a_kd a_nm a_pl)), (a_kd, (arI G 401 f_kd)), (a_nm, (arI G 401 f_nm)), (a_rc, (arI G 400 f_rc))] sz)) (va_A [(a_r, (oc4 a_tk a_rh a_rs a_rc e_ln e_pa e_at e_fp)), (a_tk, (oc8 a_kd a_nm a_pl)), (a_kd, (arI G 401 f_kd)), (a_nm, (arI G 401 f_nm)), (a_rc, (arI G 400 f_rc))] sz)) 0 0 (va_A [(a_r, (oc4 a_tk a_rh a_rs a_rc e_ln e_pa e_at e_fp)), (a_tk, (oc8 a_kd a_nm a_pl)), (a_kd, (arI G 401 f_kd)), (a_nm, (arI G 401 f_nm)), (a_rc, (arI G 400 f_rc))] sz)) (h_test : ∀ x : Int32, x.toInt = p_d.toInt + 1 → p_d.toInt < 8 → ∀ (l : Launch) (G : g5_G) (a_r a_tk a_kd a_nm a_rc a_rh a_rs a_pl : Nat) (sz : Nat) (e_ln : Int32) (e_pa : Int32) (e_at : Int32) (e_fp : Int32) (f_kd : Nat → Int32) (f_nm : Nat → Int32) (f_rc : Nat → Int32) (g_x : Nat → Int32) (g_n : Nat) (g_T : Nat) (h_e_ln : 0 ≤ e_ln.toInt ∧ e_ln.toInt ≤ 400) (h_e_pa : 0 ≤ e_pa.toInt ∧ e_pa.toInt ≤ 50) (h_e_at : 0 ≤ e_at.toInt ∧ e_at.toInt ≤ 401) (e_tk : TOKI f_kd f_nm) (e_cd : CDI f_rc e_ln.toInt) (e_by : byOK g_x) (e_kr : TKR f_kd f_nm g_x g_n g_T) (e_aT : e_at.toInt ≤ (g_T : Int)) (e_la : e_ln.toInt ≤ e_at.toInt) (e_lv : lvC f_rc e_ln.toInt.toNat = e_pa.toInt.toNat), Met l yX4_readTest (wsG yX4_readTest cX4_readTest 6 (some .boolean)) ({ frames := f2 + 0, cells := 0, slots := 0, locals := l2 + 0 }) (va_Pc [.ref a_r, .int x] (g5_P G [(a_r, (oc4 a_tk a_rh a_rs a_rc e_ln e_pa e_at e_fp)), (a_tk, (oc8 a_kd a_nm a_pl)), (a_kd, (arI G 401 f_kd)), (a_nm, (arI G 401 f_nm)), (a_rc, (arI G 400 f_rc))] sz)) (va_Qi (fun (r : Int32) (u : va_W) => (∃ (o_ln : Int32) (o_pa : Int32) (o_at : Int32) (o_rc : Nat → Int32), (e_ln.toInt ≤ o_ln.toInt ∧ o_ln.toInt ≤ 400) ∧ (0 ≤ o_at.toInt ∧ o_at.toInt ≤ 401) ∧ (0 ≤ o_pa.toInt ∧ o_pa.toInt ≤ 50) ∧ (CDI o_rc o_ln.toInt) ∧ (OPK f_rc o_rc e_ln.toInt) ∧ (∃ d : DS, (tsF (KDT g_x g_n) (NMT g_x g_n) x) e_at.toInt.toNat e_pa.toInt.toNat = (o_at.toInt.toNat, o_pa.toInt.toNat, some d) ∧ is01 d ∧ KCC f_rc o_rc e_ln.toInt ∧ MCC o_rc e_ln.toInt.toNat o_ln.toInt.toNat d ∧ lvC o_rc o_ln.toInt.toNat = o_pa.toInt.toNat) ∧ (o_at.toInt ≤ (g_T : Int) ∧ e_at.toInt < o_at.toInt ∧ o_ln.toInt + e_at.toInt ≤ e_ln.toInt + o_at.toInt) ∧ (r = 1) ∧ (u = [(a_r, (oc4 a_tk a_rh a_rs a_rc o_ln o_pa o_at e_fp)), (a_tk, (oc8 a_kd a_nm a_pl)), (a_kd, (arI G 401 f_kd)), (a_nm, (arI G 401 f_nm)), (a_rc, (arI G 400 o_rc))])) ∨ (∃ (o_ln : Int32) (o_pa : Int32) (o_at : Int32) (o_rc : Nat → Int32), (e_ln.toInt ≤ o_ln.toInt ∧ o_ln.toInt ≤ 400) ∧ (0 ≤ o_at.toInt ∧ o_at.toInt ≤ 401) ∧ (0 ≤ o_pa.toInt ∧ o_pa.toInt ≤ 50) ∧ (CDI o_rc o_ln.toInt) ∧ (OPK f_rc o_rc e_ln.toInt) ∧ (∃ q : Nat, (tsF (KDT g_x g_n) (NMT g_x g_n) x) e_at.toInt.toNat e_pa.toInt.toNat = (o_at.toInt.toNat, q, none)) ∧ (o_at.toInt ≤ (g_T : Int)) ∧ (r = 0) ∧ (u = [(a_r, (oc4 a_tk a_rh a_rs a_rc o_ln o_pa o_at e_fp)), (a_tk, (oc8 a_kd a_nm a_pl)), (a_kd, (arI G 401 f_kd)), (a_nm, (arI G 401 f_nm)), (a_rc, (arI G 400 o_rc))]))) (g5_B G (va_A [(a_r, (oc4 a_tk a_rh a_rs a_rc e_ln e_pa e_at e_fp)), (a_tk, (oc8 a_kd a_nm a_pl)), (a_kd, (arI G 401 f_kd)), (a_nm, (arI G 401 f_nm)), (a_rc, (arI G 400 f_rc))] sz)) (va_A [(a_r, (oc4 a_tk a_rh a_rs a_rc e_ln e_pa e_at e_fp)), (a_tk, (oc8 a_kd a_nm a_pl)), (a_kd, (arI G 401 f_kd)), (a_nm, (arI G 401 f_nm)), (a_rc, (arI G 400 f_rc))] sz)) 0 0 (va_A [(a_r, (oc4 a_tk a_rh a_rs a_rc e_ln e_pa e_at e_fp)), (a_tk, (oc8 a_kd a_nm a_pl)), (a_kd, (arI G 401 f_kd)), (a_nm, (arI G 401 f_nm)), (a_rc, (arI G 400 f_rc))] sz)) (l : Launch) (G : g5_G) (a_r a_tk a_kd a_nm a_rc a_rh a_rs a_pl : Nat) (sz : Nat) (e_ln : Int32) (e_pa : Int32) (e_at : Int32) (e_fp : Int32) (f_kd : Nat → Int32) (f_nm : Nat → Int32) (f_rc : Nat → Int32) (g_x : Nat → Int32) (g_n : Nat) (g_T : Nat) (h_e_ln : 0 ≤ e_ln.toInt ∧ e_ln.toInt ≤ 400) (h_e_pa : 0 ≤ e_pa.toInt ∧ e_pa.toInt ≤ 50) (h_e_at : 0 ≤ e_at.toInt ∧ e_at.toInt ≤ 401) (e_tk : TOKI f_kd f_nm) (e_cd : CDI f_rc e_ln.toInt) (e_by : byOK g_x) (e_kr : TKR f_kd f_nm g_x g_n g_T) (e_aT : e_at.toInt ≤ (g_T : Int)) (e_la : e_ln.toInt ≤ e_at.toInt) (e_lv : lvC f_rc e_ln.toInt.toNat = e_pa.toInt.toNat) : Met l yX4_readPlain (wsG yX4_readPlain cX4_readPlain 4 (some .boolean)) ({ frames := fr + f2 + 3, cells := 0, slots := 0, locals := lo + l2 + 73 }) (va_Pc [.ref a_r, .int p_d] (g5_P G [(a_r, (oc4 a_tk a_rh a_rs a_rc e_ln e_pa e_at e_fp)), (a_tk, (oc8 a_kd a_nm a_pl)), (a_kd, (arI G 401 f_kd)), (a_nm, (arI G 401 f_nm)), (a_rc, (arI G 400 f_rc))] sz)) (va_Qi (fun (r : Int32) (u : va_W) => (∃ (o_ln : Int32) (o_pa : Int32) (o_at : Int32) (o_rc : Nat → Int32), (e_ln.toInt ≤ o_ln.toInt ∧ o_ln.toInt ≤ 400) ∧ (0 ≤ o_at.toInt ∧ o_at.toInt ≤ 401) ∧ (0 ≤ o_pa.toInt ∧ o_pa.toInt ≤ 50) ∧ (CDI o_rc o_ln.toInt) ∧ (OPK f_rc o_rc e_ln.toInt) ∧ (∃ d : DS, (plF (KDT g_x g_n) (NMT g_x g_n) p_d) e_at.toInt.toNat e_pa.toInt.toNat = (o_at.toInt.toNat, o_pa.toInt.toNat, some d) ∧ is01 d ∧ KCC f_rc o_rc e_ln.toInt ∧ MCC o_rc e_ln.toInt.toNat o_ln.toInt.toNat d ∧ lvC o_rc o_ln.toInt.toNat = o_pa.toInt.toNat) ∧ (o_at.toInt ≤ (g_T : Int) ∧ e_at.toInt < o_at.toInt ∧ o_ln.toInt + e_at.toInt ≤ e_ln.toInt + o_at.toInt) ∧ (r = 1) ∧ (u = [(a_r, (oc4 a_tk a_rh a_rs a_rc o_ln o_pa o_at e_fp)), (a_tk, (oc8 a_kd a_nm a_pl)), (a_kd, (arI G 401 f_kd)), (a_nm, (arI G 401 f_nm)), (a_rc, (arI G 400 o_rc))])) ∨ (∃ (o_ln : Int32) (o_pa : Int32) (o_at : Int32) (o_rc : Nat → Int32), (e_ln.toInt ≤ o_ln.toInt ∧ o_ln.toInt ≤ 400) ∧ (0 ≤ o_at.toInt ∧ o_at.toInt ≤ 401) ∧ (0 ≤ o_pa.toInt ∧ o_pa.toInt ≤ 50) ∧ (CDI o_rc o_ln.toInt) ∧ (OPK f_rc o_rc e_ln.toInt) ∧ (∃ q : Nat, (plF (KDT g_x g_n) (NMT g_x g_n) p_d) e_at.toInt.toNat e_pa.toInt.toNat = (o_at.toInt.toNat, q, none)) ∧ (o_at.toInt ≤ (g_T : Int)) ∧ (r = 0) ∧ (u = [(a_r, (oc4 a_tk a_rh a_rs a_rc o_ln o_pa o_at e_fp)), (a_tk, (oc8 a_kd a_nm a_pl)), (a_kd, (arI G 401 f_kd)), (a_nm, (arI G 401 f_nm)), (a_rc, (arI G 400 o_rc))]))) (g5_B G (va_A [(a_r, (oc4 a_tk a_rh a_rs a_rc e_ln e_pa e_at e_fp)), (a_tk, (oc8 a_kd a_nm a_pl)), (a_kd, (arI G 401 f_kd)), (a_nm, (arI G 401 f_nm)), (a_rc, (arI G 400 f_rc))] sz)) (va_A [(a_r, (oc4 a_tk a_rh a_rs a_rc e_ln e_pa e_at e_fp)), (a_tk, (oc8 a_kd a_nm a_pl)), (a_kd, (arI G 401 f_kd)), (a_nm, (arI G 401 f_nm)), (a_rc, (arI G 400 f_rc))] sz)) 0 0 (va_A [(a_r, (oc4 a_tk a_rh a_rs a_rc e_ln e_pa e_at e_fp)), (a_tk, (oc8 a_kd a_nm a_pl)), (a_kd, (arI G 401 f_kd)), (a_nm, (arI G 401 f_nm)), (a_rc, (arI G 400 f_rc))] sz) := by
  refine Met.ofW (cc := cX4_readPlain) (maxL := 4) (ret := (some .boolean)) (by decide +kernel) rfl ?_
  intro p e s m args below meth c s₁ B hml hv
  obtain ⟨rfl, hsz, hP, hK, hD0, hN, hT⟩ := hv
  have hx := B.exec
  have hb := B.bytes
  have hr := B.returns
  have hts : ∀ w ∈ tblG, w.before _ s = true := fun w h => atoms_spec (ws := (wsG yX4_readPlain cX4_readPlain 4 (some .boolean))) B.pre w (List.mem_cons_of_mem _ h)
  have hown : s.vm.findClass RX4 = some m.cls := findClass_of_methodNamed B.named
  have hlocks := B.notSynchronized
  subst hsz
  have hD := hD0.self (sz := s.heap.size)
  generalize hAe : va_A [(a_r, (oc4 a_tk a_rh a_rs a_rc e_ln e_pa e_at e_fp)), (a_tk, (oc8 a_kd a_nm a_pl)), (a_kd, (arI G 401 f_kd)), (a_nm, (arI G 401 f_nm)), (a_rc, (arI G 400 f_rc))] s.heap.size = A at hD hT ⊢
  have hA : ∀ q : Nat, s.heap.size ≤ q → A q := fun q h => by rw [← hAe]; exact Or.inr h
  have hS : va_S A s.heap s.heap [] := va_S.rf
  replace hP : va_P G.1 vwCl [(a_r, (oc4 a_tk a_rh a_rs a_rc e_ln e_pa e_at e_fp)), (a_tk, (oc8 a_kd a_nm a_pl)), (a_kd, (arI G 401 f_kd)), (a_nm, (arI G 401 f_nm)), (a_rc, (arI G 400 f_rc))] s.heap := hP
  have hl := lv_entry ([.ref a_r, .int p_d]) (n := 4) (Nat.le_of_ble_eq_true rfl)
  rw [lg_entry_eq]
  generalize (lg_sl ([.ref a_r, .int p_d]) ++ List.replicate (4 - (lg_sl ([.ref a_r, .int p_d])).length) Slot.unset).toArray = ls at hl ⊢
  replace hl : lv_has ls 4 [(0, .ref a_r), (1, .int p_d)] := hl
  have hT4 : (g_T : Int) ≤ 400 := by have z9 := e_kr.2.2.2; omega
  have hK0 : (f_kd e_at.toNatClampNeg).toInt = KDT g_x g_n e_at.toInt.toNat := tkr_at e_kr (by omega) (by omega)
  refine lv_iconst (v := 0) hx hb dX4_readPlain_0 (by decide +kernel) ?_
  refine lv_istore_n (lv' := [(2, .int 0), (0, .ref a_r), (1, .int p_d)]) hx hb dX4_readPlain_1 rfl hl (by decide +kernel) rfl ?_
  clear hl
  intro ls hl
  refine lv_iconst (v := 0) hx hb dX4_readPlain_2 (by decide +kernel) ?_
  refine lv_istore_n (lv' := [(3, .int 0), (2, .int 0), (0, .ref a_r), (1, .int p_d)]) hx hb dX4_readPlain_3 rfl hl (by decide +kernel) rfl ?_
  clear hl
  intro ls hl
  refine g5_loop (α := (Int32) × (Int32) × (Int32)) (fun (q : (Int32) × (Int32) × (Int32)) (ls : Array Slot) (H : Heap) (locs : List Loc) => match q with | (k_u, k_i, k_at) => lv_has ls 4 [(2, .int k_u), (3, .int k_i), (0, .ref a_r), (1, .int p_d)] ∧ va_P G.1 vwCl [(a_r, (oc4 a_tk a_rh a_rs a_rc e_ln e_pa k_at e_fp)), (a_tk, (oc8 a_kd a_nm a_pl)), (a_kd, (arI G 401 f_kd)), (a_nm, (arI G 401 f_nm)), (a_rc, (arI G 400 f_rc))] H ∧ va_D A [(a_r, (oc4 a_tk a_rh a_rs a_rc e_ln e_pa k_at e_fp)), (a_tk, (oc8 a_kd a_nm a_pl)), (a_kd, (arI G 401 f_kd)), (a_nm, (arI G 401 f_nm)), (a_rc, (arI G 400 f_rc))] ∧ va_S A s.heap H locs ∧ (0 ≤ k_u.toInt ∧ k_u.toInt ≤ 1) ∧ (0 ≤ k_i.toInt ∧ k_i.toInt ≤ 400) ∧ (0 ≤ k_at.toInt ∧ k_at.toInt ≤ 401) ∧ (e_at.toInt ≤ k_at.toInt ∧ k_at.toInt ≤ (g_T : Int)) ∧ (NLC (KDT g_x g_n) e_at k_at k_u k_i) ∧ (e_at.toInt + k_u.toInt ≤ k_at.toInt)) (fun (q : (Int32) × (Int32) × (Int32)) => match q with | (k_u, k_i, k_at) => Int.toNat (400 - k_i.toInt)) (0, 0, e_at) ⟨lv_sub hl [1, 0, 2, 3] rfl, hP, hD, hS, ⟨by decide, by decide⟩, ⟨by decide, by decide⟩, h_e_at, ⟨Int.le_refl _, by omega⟩, nlc_0 (by decide +kernel) (by decide +kernel), by have z0 : (0 : Int32).toInt = 0 := (by decide +kernel); omega⟩ ?_
  rintro ⟨k_u, k_i, k_at⟩ ls H locs ⟨hl, hP, hD, hS, (i_1 : 0 ≤ k_u.toInt ∧ k_u.toInt ≤ 1), (i_2 : 0 ≤ k_i.toInt ∧ k_i.toInt ≤ 400), (i_3 : 0 ≤ k_at.toInt ∧ k_at.toInt ≤ 401), (i_4 : e_at.toInt ≤ k_at.toInt ∧ k_at.toInt ≤ (g_T : Int)), (i_5 : NLC (KDT g_x g_n) e_at k_at k_u k_i), (i_6 : e_at.toInt + k_u.toInt ≤ k_at.toInt)⟩ ih_4_7
  replace hl : lv_has ls 4 [(2, .int k_u), (3, .int k_i), (0, .ref a_r), (1, .int p_d)] := hl
  refine g5_rs [(a_r, (oc4 a_tk a_rh a_rs a_rc e_ln e_pa k_at e_fp)), (a_tk, (oc8 a_kd a_nm a_pl)), (a_kd, (arI G 401 f_kd)), (a_nm, (arI G 401 f_nm)), (a_rc, (arI G 400 f_rc))] hP hD ?_
  clear hP hD
  intro hP hD
  refine lv_iload_n hx hb dX4_readPlain_4 rfl (lv_at hl 1 rfl) ?_
  refine lv_sipush (v := 400) hx hb dX4_readPlain_5 (by decide +kernel) ?_
  refine lv_icmp_ge (tgt := 37) hx hb dX4_readPlain_8 (by decide +kernel) (fun c_8 => ?_) (fun c_8 => ?_)
  ·
    have i_8 : k_i.toInt ≥ 400 := g5_ge (a := k_i.toInt) (b := 400) rfl (by decide +kernel) c_8
    have hNL : notL (KDT g_x g_n) 400 e_at.toInt.toNat false = (k_at.toInt.toNat, decide (k_u.toInt = 1)) := nlc_E i_5 (by omega) (Or.inl (by omega)) (by omega)
    have hK_9 : (f_kd k_at.toNatClampNeg).toInt = KDT g_x g_n k_at.toInt.toNat := tkr_at e_kr (by omega) (by omega)
    refine lv_aload_n hx hb dX4_readPlain_37 rfl (lv_at hl 2 rfl) ?_
    refine lv_bipush (v := 40) hx hb dX4_readPlain_38 (by decide +kernel) ?_
    obtain ⟨hPc, hDc, hFc⟩ := g5_sub3 (wc := [(a_r, (oc4 a_tk a_rh a_rs a_rc e_ln e_pa k_at e_fp)), (a_tk, (oc8 a_kd a_nm a_pl)), (a_kd, (arI G 401 f_kd))]) hP hD hS hA [0, 1, 2] (by decide +kernel) rfl
    refine va_calli (va_runV (As := [.int 40]) (rest := []) ⟨hx, hb, hml, hown, hts⟩ (r_isNextX40 l G a_r a_tk a_kd a_rh a_rs a_rc a_nm a_pl H.size e_ln e_pa k_at e_fp f_kd h_e_ln h_e_pa i_3 (by omega)) (cwV 1 hts gV_X4_49 rfl rfl rfl hv_X4_isNext ⟨by simp only [headSpec]; omega, by simp only [headSpec]; omega⟩) (g5_preV hPc hK hDc hN hT hS hFc (ci := 4) (q0 := 0) rfl rfl) rfl rfl hl.1 rfl (lv_room (Nat.le_of_ble_eq_true rfl)) dX4_readPlain_40 ⟨Nat.le_of_ble_eq_true rfl, Nat.le_of_ble_eq_true rfl⟩) hS (fun q _ h => hFc q h) hFc (fun r u t H locs ht hvm hw hB hz1 hk1 hS => ?_)
    obtain ⟨hP1, hD1⟩ := hB
    have hP1 := g5_ht ht hP1
    rcases hw with ⟨(i_10 : (f_kd k_at.toNatClampNeg).toInt = 40), rfl, rfl⟩ | ⟨(i_11 : gNe (f_kd k_at.toNatClampNeg).toInt 40), rfl, rfl⟩
    ·
      have hJ9 := va_join (wr := [(a_nm, (arI G 401 f_nm)), (a_rc, (arI G 400 f_rc))]) hP hD [0, 1, 2] [3, 4] rfl rfl (by decide +kernel) (by decide +kernel) hk1 hFc hP1 hD1
      clear hP hD hPc hDc hFc ht hvm hz1 hk1 hP1 hD1
      obtain ⟨hP, hD⟩ := hJ9
      refine g5_rs [(a_nm, (arI G 401 f_nm)), (a_rc, (arI G 400 f_rc)), (a_r, (oc4 a_tk a_rh a_rs a_rc e_ln e_pa k_at e_fp)), (a_tk, (oc8 a_kd a_nm a_pl)), (a_kd, (arI G 401 f_kd))] hP hD ?_
      clear hP hD
      intro hP hD
      refine lv_if_eq (tgt := 82) hx hb dX4_readPlain_43 (by decide +kernel) (fun c_12 => ?_) (fun c_12 => ?_)
      ·
        exact absurd c_12 (by decide +kernel)
      ·
        refine lv_iload_n hx hb dX4_readPlain_46 rfl (lv_at hl 3 rfl) ?_
        refine lv_bipush (v := 8) hx hb dX4_readPlain_47 (by decide +kernel) ?_
        refine lv_icmp_ge (tgt := 80) hx hb dX4_readPlain_49 (by decide +kernel) (fun c_13 => ?_) (fun c_13 => ?_)
        ·
          have i_13 : p_d.toInt ≥ 8 := g5_ge (a := p_d.toInt) (b := 8) rfl (by decide +kernel) c_13
          refine lv_iconst (v := 0) hx hb dX4_readPlain_80 (by decide +kernel) ?_
          exact W.zret (v := 0) hx hb hr rfl (fun t ht hW => ⟨⟨0, [(a_r, (oc4 a_tk a_rh a_rs a_rc e_ln e_pa k_at e_fp)), (a_tk, (oc8 a_kd a_nm a_pl)), (a_kd, (arI G 401 f_kd)), (a_nm, (arI G 401 f_nm)), (a_rc, (arI G 400 f_rc))], rfl, Or.inr (⟨e_ln, e_pa, k_at, f_rc, ⟨by omega, by omega⟩, i_3, h_e_pa, e_cd, opk_refl, ⟨_, pl_deep hNL (hK_9.symm.trans i_10) (by omega)⟩, by omega, rfl, rfl⟩), by rw [ht]; exact hP.sub [2, 3, 4, 0, 1] rfl, hD.sub [2, 3, 4, 0, 1] (by decide +kernel) rfl⟩, hS.F ht⟩) hS.2.2 dX4_readPlain_81
        ·
          have i_13 : p_d.toInt < 8 := g5_geN (a := p_d.toInt) (b := 8) rfl (by decide +kernel) c_13
          refine lv_aload_n hx hb dX4_readPlain_52 rfl (lv_at hl 2 rfl) ?_
          refine lv_bipush (v := 40) hx hb dX4_readPlain_53 (by decide +kernel) ?_
          obtain ⟨hPc, hDc, hFc⟩ := g5_sub3 (wc := [(a_r, (oc4 a_tk a_rh a_rs a_rc e_ln e_pa k_at e_fp)), (a_tk, (oc8 a_kd a_nm a_pl)), (a_kd, (arI G 401 f_kd))]) hP hD hS hA [2, 3, 4] (by decide +kernel) rfl
          refine va_calli (va_runV (As := [.int 40]) (rest := []) ⟨hx, hb, hml, hown, hts⟩ (r_passedX40 l G a_r a_tk a_kd a_rh a_rs a_rc a_nm a_pl H.size e_ln e_pa k_at e_fp f_kd h_e_ln h_e_pa i_3 (by omega)) (cwV 1 hts gV_X4_63 rfl rfl rfl hv_X4_passed ⟨by simp only [headSpec]; omega, by simp only [headSpec]; omega⟩) (g5_preV hPc hK hDc hN hT hS hFc (ci := 4) (q0 := 0) rfl rfl) rfl rfl hl.1 rfl (lv_room (Nat.le_of_ble_eq_true rfl)) dX4_readPlain_55 ⟨Nat.le_of_ble_eq_true rfl, Nat.le_of_ble_eq_true rfl⟩) hS (fun q _ h => hFc q h) hFc (fun r u t H locs ht hvm hw hB hz1 hk1 hS => ?_)
          obtain ⟨hP1, hD1⟩ := hB
          have hP1 := g5_ht ht hP1
          rcases hw with ⟨z17, (i_14 : 0 ≤ z17.toInt ∧ z17.toInt ≤ 401), (i_15 : z17.toInt = k_at.toInt + 1), (i_16 : (f_kd k_at.toNatClampNeg).toInt = 40), rfl, rfl⟩ | ⟨z21, (i_18 : 0 ≤ z21.toInt ∧ z21.toInt ≤ 401), (i_19 : z21.toInt = k_at.toInt), (i_20 : gNe (f_kd k_at.toNatClampNeg).toInt 40), rfl, rfl⟩
          ·
            have hJ9 := va_join (wr := [(a_nm, (arI G 401 f_nm)), (a_rc, (arI G 400 f_rc))]) hP hD [2, 3, 4] [0, 1] rfl rfl (by decide +kernel) (by decide +kernel) hk1 hFc hP1 hD1
            clear hP hD hPc hDc hFc ht hvm hz1 hk1 hP1 hD1
            obtain ⟨hP, hD⟩ := hJ9
            refine g5_rs [(a_nm, (arI G 401 f_nm)), (a_rc, (arI G 400 f_rc)), (a_r, (oc4 a_tk a_rh a_rs a_rc e_ln e_pa z17 e_fp)), (a_tk, (oc8 a_kd a_nm a_pl)), (a_kd, (arI G 401 f_kd))] hP hD ?_
            clear hP hD
            intro hP hD
            have hL_22 : k_at.toInt < (g_T : Int) := tkr_ltI e_kr (by omega) (by omega) i_16 (by decide +kernel)
            refine lv_if_eq (tgt := 80) hx hb dX4_readPlain_58 (by decide +kernel) (fun c_23 => ?_) (fun c_23 => ?_)
            ·
              exact absurd c_23 (by decide +kernel)
            ·
              refine lv_aload_n hx hb dX4_readPlain_61 rfl (lv_at hl 2 rfl) ?_
              refine lv_iload_n hx hb dX4_readPlain_62 rfl (lv_at hl 3 rfl) ?_
              refine lv_iconst (v := 1) hx hb dX4_readPlain_63 (by decide +kernel) ?_
              refine lv_iadd hx hb dX4_readPlain_64 ?_
              have t_24 : (p_d + 1).toInt = p_d.toInt + 1 := g5_iadd (a := p_d.toInt) (b := 1) (by rfl) (by decide +kernel) (by omega) (by omega)
              refine W.eq (g2 := F0 m 65 ls [.int (p_d + 1), .ref a_r]) rfl ?_
              obtain ⟨hPc, hDc, hFc⟩ := g5_sub3 (wc := [(a_r, (oc4 a_tk a_rh a_rs a_rc e_ln e_pa z17 e_fp)), (a_tk, (oc8 a_kd a_nm a_pl)), (a_kd, (arI G 401 f_kd)), (a_nm, (arI G 401 f_nm)), (a_rc, (arI G 400 f_rc))]) hP hD hS hA [2, 3, 4, 0, 1] (by decide +kernel) rfl
              refine va_calli (va_runV (As := [.int (p_d + 1)]) (rest := []) ⟨hx, hb, hml, hown, hts⟩ ((h_test (p_d + 1) (by omega) (by omega)) l G a_r a_tk a_kd a_nm a_rc a_rh a_rs a_pl H.size e_ln e_pa z17 e_fp f_kd f_nm f_rc g_x g_n g_T h_e_ln h_e_pa i_14 (e_tk) (e_cd) (e_by) (e_kr) (by omega) (by omega) (e_lv)) (cwV 1 hts gV_X4_76 rfl rfl rfl hv_X4_readTest ⟨by simp only [headSpec]; omega, by simp only [headSpec]; omega⟩) (g5_preV hPc hK hDc hN hT hS hFc (ci := 4) (q0 := 0) rfl rfl) rfl rfl hl.1 rfl (lv_room (Nat.le_of_ble_eq_true rfl)) dX4_readPlain_65 ⟨Nat.le_of_ble_eq_true rfl, Nat.le_of_ble_eq_true rfl⟩) hS (fun q _ h => hFc q h) hFc (fun r u t H locs ht hvm hw hB hz1 hk1 hS => ?_)
              obtain ⟨hP1, hD1⟩ := hB
              have hP1 := g5_ht ht hP1
              rcases hw with ⟨z32, z33, z34, z35, (i_25 : e_ln.toInt ≤ z32.toInt ∧ z32.toInt ≤ 400), (i_26 : 0 ≤ z34.toInt ∧ z34.toInt ≤ 401), (i_27 : 0 ≤ z33.toInt ∧ z33.toInt ≤ 50), (i_28 : CDI z35 z32.toInt), (i_29 : OPK f_rc z35 e_ln.toInt), (i_30 : ∃ d : DS, (tsF (KDT g_x g_n) (NMT g_x g_n) (p_d + 1)) z17.toInt.toNat e_pa.toInt.toNat = (z34.toInt.toNat, z33.toInt.toNat, some d) ∧ is01 d ∧ KCC f_rc z35 e_ln.toInt ∧ MCC z35 e_ln.toInt.toNat z32.toInt.toNat d ∧ lvC z35 z32.toInt.toNat = z33.toInt.toNat), (i_31 : z34.toInt ≤ (g_T : Int) ∧ z17.toInt < z34.toInt ∧ z32.toInt + z17.toInt ≤ e_ln.toInt + z34.toInt), rfl, rfl⟩ | ⟨z43, z44, z45, z46, (i_36 : e_ln.toInt ≤ z43.toInt ∧ z43.toInt ≤ 400), (i_37 : 0 ≤ z45.toInt ∧ z45.toInt ≤ 401), (i_38 : 0 ≤ z44.toInt ∧ z44.toInt ≤ 50), (i_39 : CDI z46 z43.toInt), (i_40 : OPK f_rc z46 e_ln.toInt), (i_41 : ∃ q : Nat, (tsF (KDT g_x g_n) (NMT g_x g_n) (p_d + 1)) z17.toInt.toNat e_pa.toInt.toNat = (z45.toInt.toNat, q, none)), (i_42 : z45.toInt ≤ (g_T : Int)), rfl, rfl⟩
              ·
                have hJ9 := va_join (wr := []) hP hD [2, 3, 4, 0, 1] [] rfl rfl (by decide +kernel) (by decide +kernel) hk1 hFc hP1 hD1
                clear hP hD hPc hDc hFc ht hvm hz1 hk1 hP1 hD1
                obtain ⟨hP, hD⟩ := hJ9
                refine g5_rs [(a_r, (oc4 a_tk a_rh a_rs a_rc z32 z33 z34 e_fp)), (a_tk, (oc8 a_kd a_nm a_pl)), (a_kd, (arI G 401 f_kd)), (a_nm, (arI G 401 f_nm)), (a_rc, (arI G 400 z35))] hP hD ?_
                clear hP hD
                intro hP hD
                obtain ⟨dd47, hd47, hz47, hc47, hm47, hv47⟩ := i_30
                have hK_48 : (f_kd z34.toNatClampNeg).toInt = KDT g_x g_n z34.toInt.toNat := tkr_at e_kr (by omega) (by omega)
                refine lv_if_eq (tgt := 80) hx hb dX4_readPlain_68 (by decide +kernel) (fun c_49 => ?_) (fun c_49 => ?_)
                ·
                  exact absurd c_49 (by decide +kernel)
                ·
                  refine lv_aload_n hx hb dX4_readPlain_71 rfl (lv_at hl 2 rfl) ?_
                  refine lv_bipush (v := 41) hx hb dX4_readPlain_72 (by decide +kernel) ?_
                  obtain ⟨hPc, hDc, hFc⟩ := g5_sub3 (wc := [(a_r, (oc4 a_tk a_rh a_rs a_rc z32 z33 z34 e_fp)), (a_tk, (oc8 a_kd a_nm a_pl)), (a_kd, (arI G 401 f_kd))]) hP hD hS hA [0, 1, 2] (by decide +kernel) rfl
                  refine va_calli (va_runV (As := [.int 41]) (rest := []) ⟨hx, hb, hml, hown, hts⟩ (r_passedX41 l G a_r a_tk a_kd a_rh a_rs a_rc a_nm a_pl H.size z32 z33 z34 e_fp f_kd ⟨by omega, by omega⟩ i_27 i_26 (by omega)) (cwV 1 hts gV_X4_63 rfl rfl rfl hv_X4_passed ⟨by simp only [headSpec]; omega, by simp only [headSpec]; omega⟩) (g5_preV hPc hK hDc hN hT hS hFc (ci := 4) (q0 := 0) rfl rfl) rfl rfl hl.1 rfl (lv_room (Nat.le_of_ble_eq_true rfl)) dX4_readPlain_74 ⟨Nat.le_of_ble_eq_true rfl, Nat.le_of_ble_eq_true rfl⟩) hS (fun q _ h => hFc q h) hFc (fun r u t H locs ht hvm hw hB hz1 hk1 hS => ?_)
                  obtain ⟨hP1, hD1⟩ := hB
                  have hP1 := g5_ht ht hP1
                  rcases hw with ⟨z53, (i_50 : 0 ≤ z53.toInt ∧ z53.toInt ≤ 401), (i_51 : z53.toInt = z34.toInt + 1), (i_52 : (f_kd z34.toNatClampNeg).toInt = 41), rfl, rfl⟩ | ⟨z57, (i_54 : 0 ≤ z57.toInt ∧ z57.toInt ≤ 401), (i_55 : z57.toInt = z34.toInt), (i_56 : gNe (f_kd z34.toNatClampNeg).toInt 41), rfl, rfl⟩
                  ·
                    have hJ9 := va_join (wr := [(a_nm, (arI G 401 f_nm)), (a_rc, (arI G 400 z35))]) hP hD [0, 1, 2] [3, 4] rfl rfl (by decide +kernel) (by decide +kernel) hk1 hFc hP1 hD1
                    clear hP hD hPc hDc hFc ht hvm hz1 hk1 hP1 hD1
                    obtain ⟨hP, hD⟩ := hJ9
                    refine g5_rs [(a_nm, (arI G 401 f_nm)), (a_rc, (arI G 400 z35)), (a_r, (oc4 a_tk a_rh a_rs a_rc z32 z33 z53 e_fp)), (a_tk, (oc8 a_kd a_nm a_pl)), (a_kd, (arI G 401 f_kd))] hP hD ?_
                    clear hP hD
                    intro hP hD
                    have hL_58 : z34.toInt < (g_T : Int) := tkr_ltI e_kr (by omega) (by omega) i_52 (by decide +kernel)
                    refine lv_if_ne (tgt := 170) hx hb dX4_readPlain_77 (by decide +kernel) (fun c_59 => ?_) (fun c_59 => ?_)
                    ·
                      refine lv_iload_n hx hb dX4_readPlain_170 rfl (lv_at hl 0 rfl) ?_
                      refine lv_if_eq (tgt := 182) hx hb dX4_readPlain_171 (by decide +kernel) (fun c_60 => ?_) (fun c_60 => ?_)
                      ·
                        have i_60 : k_u.toInt = 0 := g5_eq (a := k_u.toInt) (b := 0) rfl (by decide +kernel) c_60
                        refine lv_iconst (v := 1) hx hb dX4_readPlain_182 (by decide +kernel) ?_
                        exact W.zret (v := 1) hx hb hr rfl (fun t ht hW => ⟨⟨1, [(a_r, (oc4 a_tk a_rh a_rs a_rc z32 z33 z53 e_fp)), (a_tk, (oc8 a_kd a_nm a_pl)), (a_kd, (arI G 401 f_kd)), (a_nm, (arI G 401 f_nm)), (a_rc, (arI G 400 z35))], rfl, Or.inl (⟨z32, z33, z53, z35, ⟨by omega, by omega⟩, i_50, i_27, i_28, i_29, by have f9 := pl_in1 hNL (hK_9.symm.trans i_16) h_p_d.1 (by omega) (by omega) (by omega) (by omega) hd47 (hK_48.symm.trans i_52) (by omega) (by omega); rw [nt_0 (by omega)] at f9; exact ⟨_, f9, hz47, hc47, hm47, hv47⟩, by omega, rfl, rfl⟩), by rw [ht]; exact hP.sub [2, 3, 4, 0, 1] rfl, hD.sub [2, 3, 4, 0, 1] (by decide +kernel) rfl⟩, hS.F ht⟩) hS.2.2 dX4_readPlain_183
                      ·
                        have n_60 : gNe (k_u.toInt) (0) := g5_eqN (a := k_u.toInt) (b := 0) rfl (by decide +kernel) c_60
                        have i_60 : k_u.toInt ≥ 1 := by have z := g5_eqN (a := k_u.toInt) (b := 0) (by rfl) (by decide +kernel) c_60; omega
                        refine lv_aload_n hx hb dX4_readPlain_174 rfl (lv_at hl 2 rfl) ?_
                        refine lv_bipush (v := 9) hx hb dX4_readPlain_175 (by decide +kernel) ?_
                        refine lv_iconst (v := 0) hx hb dX4_readPlain_177 (by decide +kernel) ?_
                        obtain ⟨hPc, hDc, hFc⟩ := g5_sub3 (wc := [(a_r, (oc4 a_tk a_rh a_rs a_rc z32 z33 z53 e_fp)), (a_rc, (arI G 400 z35))]) hP hD hS hA [2, 1] (by decide +kernel) rfl
                        refine va_calli (va_runV (As := [.int 9, .int 0]) (rest := []) ⟨hx, hb, hml, hown, hts⟩ (r_emitX l G a_r a_rc a_tk a_rh a_rs H.size z32 z33 z53 e_fp 9 0 z35 ⟨by omega, by omega⟩ i_27 i_50 (i_28) (by unfold wOK; decide) (by omega)) (cwV 2 hts gV_X4_79 rfl rfl rfl hv_X4_emit ⟨by simp only [headSpec]; omega, by simp only [headSpec]; omega⟩) (g5_preV hPc hK hDc hN hT hS hFc (ci := 4) (q0 := 0) rfl rfl) rfl rfl hl.1 rfl (lv_room (Nat.le_of_ble_eq_true rfl)) dX4_readPlain_178 ⟨Nat.le_of_ble_eq_true rfl, Nat.le_of_ble_eq_true rfl⟩) hS (fun q _ h => hFc q h) hFc (fun r u t H locs ht hvm hw hB hz1 hk1 hS => ?_)
                        obtain ⟨hP1, hD1⟩ := hB
                        have hP1 := g5_ht ht hP1
                        obtain ⟨z69, z70, z71, (i_61 : 0 ≤ z69.toInt ∧ z69.toInt ≤ 399), (i_62 : z69.toInt = z32.toInt), (i_63 : z70.toInt = z32.toInt + 1), (i_64 : z32.toInt ≤ z70.toInt ∧ z70.toInt ≤ 400), (i_65 : CDI z71 z70.toInt), (i_66 : OPK z35 z71 z32.toInt), (i_67 : 0 ≤ z69.toInt → z69.toInt < z70.toInt ∧ z71 z69.toNatClampNeg = (((9 : Int32) <<< (12 &&& 31)) ||| (0 : Int32))), (i_68 : z71 = upd z35 z32.toNatClampNeg (((9 : Int32) <<< (12 &&& 31)) ||| (0 : Int32))), y72, rfl⟩ := hw
                        have hJ9 := va_join (wr := [(a_nm, (arI G 401 f_nm)), (a_tk, (oc8 a_kd a_nm a_pl)), (a_kd, (arI G 401 f_kd))]) hP hD [2, 1] [0, 3, 4] rfl rfl (by decide +kernel) (by decide +kernel) hk1 hFc hP1 hD1
                        clear hP hD hPc hDc hFc ht hvm hz1 hk1 hP1 hD1
                        obtain ⟨hP, hD⟩ := hJ9
                        refine g5_rs [(a_nm, (arI G 401 f_nm)), (a_tk, (oc8 a_kd a_nm a_pl)), (a_kd, (arI G 401 f_kd)), (a_r, (oc4 a_tk a_rh a_rs a_rc z70 z33 z53 e_fp)), (a_rc, (arI G 400 z71))] hP hD ?_
                        clear hP hD
                        intro hP hD
                        refine g5_ti (v := z69) y72 ?_
                        have hE_73 : lvC z71 z70.toInt.toNat = z33.toInt.toNat := by rw [i_68, lvC_em0 (by omega) (by omega) (opT_20 (by decide +kernel) (by decide +kernel))]; exact hv47
                        refine W.eq (g2 := F0 m 181 ls [.int z69]) rfl ?_
                        refine lv_pop hx hb dX4_readPlain_181 rfl ?_
                        refine lv_iconst (v := 1) hx hb dX4_readPlain_182 (by decide +kernel) ?_
                        exact W.zret (v := 1) hx hb hr rfl (fun t ht hW => ⟨⟨1, [(a_r, (oc4 a_tk a_rh a_rs a_rc z70 z33 z53 e_fp)), (a_tk, (oc8 a_kd a_nm a_pl)), (a_kd, (arI G 401 f_kd)), (a_nm, (arI G 401 f_nm)), (a_rc, (arI G 400 z71))], rfl, Or.inl (⟨z70, z33, z53, z71, ⟨by omega, by omega⟩, i_50, i_27, i_65, opk_trans i_29 (i_66) (by omega), by have f9 := pl_in1 hNL (hK_9.symm.trans i_16) h_p_d.1 (by omega) (by omega) (by omega) (by omega) hd47 (hK_48.symm.trans i_52) (by omega) (by omega); have z9 := hz47; have k9 := (show KCC f_rc z35 e_ln.toInt from hc47); have m9 := (show MCC z35 e_ln.toInt.toNat z32.toInt.toNat dd47 from hm47); rw [nt_1 (by omega)] at f9; exact ⟨_, f9, i01_n z9, by rw [i_68]; exact kcc_tr k9 (kcc_em (by omega)) (by omega), by rw [i_68]; exact mcc_not (by omega) (by omega) m9, hE_73⟩, by omega, rfl, rfl⟩), by rw [ht]; exact hP.sub [3, 1, 2, 0, 4] rfl, hD.sub [3, 1, 2, 0, 4] (by decide +kernel) rfl⟩, hS.F ht⟩) hS.2.2 dX4_readPlain_183
                    ·
                      exact absurd c_59 (by decide +kernel)
                  ·
                    have hJ9 := va_join (wr := [(a_nm, (arI G 401 f_nm)), (a_rc, (arI G 400 z35))]) hP hD [0, 1, 2] [3, 4] rfl rfl (by decide +kernel) (by decide +kernel) hk1 hFc hP1 hD1
                    clear hP hD hPc hDc hFc ht hvm hz1 hk1 hP1 hD1
                    obtain ⟨hP, hD⟩ := hJ9
                    refine g5_rs [(a_nm, (arI G 401 f_nm)), (a_rc, (arI G 400 z35)), (a_r, (oc4 a_tk a_rh a_rs a_rc z32 z33 z57 e_fp)), (a_tk, (oc8 a_kd a_nm a_pl)), (a_kd, (arI G 401 f_kd))] hP hD ?_
                    clear hP hD
                    intro hP hD
                    refine lv_if_ne (tgt := 170) hx hb dX4_readPlain_77 (by decide +kernel) (fun c_74 => ?_) (fun c_74 => ?_)
                    ·
                      exact absurd c_74 (by decide +kernel)
                    ·
                      refine lv_iconst (v := 0) hx hb dX4_readPlain_80 (by decide +kernel) ?_
                      exact W.zret (v := 0) hx hb hr rfl (fun t ht hW => ⟨⟨0, [(a_r, (oc4 a_tk a_rh a_rs a_rc z32 z33 z57 e_fp)), (a_tk, (oc8 a_kd a_nm a_pl)), (a_kd, (arI G 401 f_kd)), (a_nm, (arI G 401 f_nm)), (a_rc, (arI G 400 z35))], rfl, Or.inr (⟨z32, z33, z57, z35, ⟨by omega, by omega⟩, i_54, i_27, i_28, i_29, ⟨_, pl_inB hNL (hK_9.symm.trans i_16) h_p_d.1 (by omega) (by omega) (by omega) (by omega) hd47 (fun q9 => i_56 (hK_48.trans q9)) (by omega)⟩, by omega, rfl, rfl⟩), by rw [ht]; exact hP.sub [2, 3, 4, 0, 1] rfl, hD.sub [2, 3, 4, 0, 1] (by decide +kernel) rfl⟩, hS.F ht⟩) hS.2.2 dX4_readPlain_81
              ·
                have hJ9 := va_join (wr := []) hP hD [2, 3, 4, 0, 1] [] rfl rfl (by decide +kernel) (by decide +kernel) hk1 hFc hP1 hD1
                clear hP hD hPc hDc hFc ht hvm hz1 hk1 hP1 hD1
                obtain ⟨hP, hD⟩ := hJ9
                refine g5_rs [(a_r, (oc4 a_tk a_rh a_rs a_rc z43 z44 z45 e_fp)), (a_tk, (oc8 a_kd a_nm a_pl)), (a_kd, (arI G 401 f_kd)), (a_nm, (arI G 401 f_nm)), (a_rc, (arI G 400 z46))] hP hD ?_
                clear hP hD
                intro hP hD
                obtain ⟨qq75, hq75⟩ := i_41
                refine lv_if_eq (tgt := 80) hx hb dX4_readPlain_68 (by decide +kernel) (fun c_76 => ?_) (fun c_76 => ?_)
                ·
                  refine lv_iconst (v := 0) hx hb dX4_readPlain_80 (by decide +kernel) ?_
                  exact W.zret (v := 0) hx hb hr rfl (fun t ht hW => ⟨⟨0, [(a_r, (oc4 a_tk a_rh a_rs a_rc z43 z44 z45 e_fp)), (a_tk, (oc8 a_kd a_nm a_pl)), (a_kd, (arI G 401 f_kd)), (a_nm, (arI G 401 f_nm)), (a_rc, (arI G 400 z46))], rfl, Or.inr (⟨z43, z44, z45, z46, ⟨by omega, by omega⟩, i_37, i_38, i_39, i_40, ⟨qq75, pl_in0 hNL (hK_9.symm.trans i_16) h_p_d.1 (by omega) (by omega) (by omega) (by omega) hq75⟩, by omega, rfl, rfl⟩), by rw [ht]; exact hP.sub [0, 1, 2, 3, 4] rfl, hD.sub [0, 1, 2, 3, 4] (by decide +kernel) rfl⟩, hS.F ht⟩) hS.2.2 dX4_readPlain_81
                ·
                  exact absurd c_76 (by decide +kernel)
          ·
            have hJ9 := va_join (wr := [(a_nm, (arI G 401 f_nm)), (a_rc, (arI G 400 f_rc))]) hP hD [2, 3, 4] [0, 1] rfl rfl (by decide +kernel) (by decide +kernel) hk1 hFc hP1 hD1
            clear hP hD hPc hDc hFc ht hvm hz1 hk1 hP1 hD1
            obtain ⟨hP, hD⟩ := hJ9
            refine g5_rs [(a_nm, (arI G 401 f_nm)), (a_rc, (arI G 400 f_rc)), (a_r, (oc4 a_tk a_rh a_rs a_rc e_ln e_pa z21 e_fp)), (a_tk, (oc8 a_kd a_nm a_pl)), (a_kd, (arI G 401 f_kd))] hP hD ?_
            clear hP hD
            intro hP hD
            refine lv_if_eq (tgt := 80) hx hb dX4_readPlain_58 (by decide +kernel) (fun c_77 => ?_) (fun c_77 => ?_)
            ·
              refine lv_iconst (v := 0) hx hb dX4_readPlain_80 (by decide +kernel) ?_
              exact W.zret (v := 0) hx hb hr rfl (fun t ht hW => ⟨⟨0, [(a_r, (oc4 a_tk a_rh a_rs a_rc e_ln e_pa z21 e_fp)), (a_tk, (oc8 a_kd a_nm a_pl)), (a_kd, (arI G 401 f_kd)), (a_nm, (arI G 401 f_nm)), (a_rc, (arI G 400 f_rc))], rfl, Or.inr (⟨e_ln, e_pa, z21, f_rc, ⟨by omega, by omega⟩, i_18, h_e_pa, e_cd, opk_refl, absurd i_10 i_20, by omega, rfl, rfl⟩), by rw [ht]; exact hP.sub [2, 3, 4, 0, 1] rfl, hD.sub [2, 3, 4, 0, 1] (by decide +kernel) rfl⟩, hS.F ht⟩) hS.2.2 dX4_readPlain_81
            ·
              exact absurd c_77 (by decide +kernel)
    ·
      have hJ9 := va_join (wr := [(a_nm, (arI G 401 f_nm)), (a_rc, (arI G 400 f_rc))]) hP hD [0, 1, 2] [3, 4] rfl rfl (by decide +kernel) (by decide +kernel) hk1 hFc hP1 hD1
      clear hP hD hPc hDc hFc ht hvm hz1 hk1 hP1 hD1
      obtain ⟨hP, hD⟩ := hJ9
      refine g5_rs [(a_nm, (arI G 401 f_nm)), (a_rc, (arI G 400 f_rc)), (a_r, (oc4 a_tk a_rh a_rs a_rc e_ln e_pa k_at e_fp)), (a_tk, (oc8 a_kd a_nm a_pl)), (a_kd, (arI G 401 f_kd))] hP hD ?_
      clear hP hD
      intro hP hD
      refine lv_if_eq (tgt := 82) hx hb dX4_readPlain_43 (by decide +kernel) (fun c_78 => ?_) (fun c_78 => ?_)
      ·
        refine lv_aload_n hx hb dX4_readPlain_82 rfl (lv_at hl 2 rfl) ?_
        refine lv_iload_n hx hb dX4_readPlain_83 rfl (lv_at hl 3 rfl) ?_
        obtain ⟨hPc, hDc, hFc⟩ := g5_sub3 (wc := [(a_r, (oc4 a_tk a_rh a_rs a_rc e_ln e_pa k_at e_fp)), (a_tk, (oc8 a_kd a_nm a_pl)), (a_kd, (arI G 401 f_kd)), (a_nm, (arI G 401 f_nm)), (a_rc, (arI G 400 f_rc))]) hP hD hS hA [2, 3, 4, 0, 1] (by decide +kernel) rfl
        refine va_calli (va_runV (As := [.int p_d]) (rest := []) ⟨hx, hb, hml, hown, hts⟩ ((r_sumX fr lo p_d h_p_d h_sum) l G a_r a_tk a_kd a_nm a_rc a_rh a_rs a_pl H.size e_ln e_pa k_at e_fp f_kd f_nm f_rc g_x g_n g_T h_e_ln h_e_pa i_3 (e_tk) (e_cd) (e_by) (e_kr) (by omega) (by omega) (e_lv)) (cwV 1 hts gV_X4_73 rfl rfl rfl hv_X4_readSum ⟨by simp only [headSpec]; omega, by simp only [headSpec]; omega⟩) (g5_preV hPc hK hDc hN hT hS hFc (ci := 4) (q0 := 0) rfl rfl) rfl rfl hl.1 rfl (lv_room (Nat.le_of_ble_eq_true rfl)) dX4_readPlain_84 ⟨Nat.le_of_ble_eq_true rfl, Nat.le_of_ble_eq_true rfl⟩) hS (fun q _ h => hFc q h) hFc (fun r u t H locs ht hvm hw hB hz1 hk1 hS => ?_)
        obtain ⟨hP1, hD1⟩ := hB
        have hP1 := g5_ht ht hP1
        rcases hw with ⟨z86, z87, z88, z89, (i_79 : e_ln.toInt ≤ z86.toInt ∧ z86.toInt ≤ 400), (i_80 : 0 ≤ z88.toInt ∧ z88.toInt ≤ 401), (i_81 : 0 ≤ z87.toInt ∧ z87.toInt ≤ 50), (i_82 : CDI z89 z86.toInt), (i_83 : OPK f_rc z89 e_ln.toInt), (i_84 : ∃ d : DS, (smF (KDT g_x g_n) (NMT g_x g_n) p_d) k_at.toInt.toNat e_pa.toInt.toNat = (z88.toInt.toNat, z87.toInt.toNat, some d) ∧ KCC f_rc z89 e_ln.toInt ∧ MCC z89 e_ln.toInt.toNat z86.toInt.toNat d ∧ lvC z89 z86.toInt.toNat = z87.toInt.toNat), (i_85 : z88.toInt ≤ (g_T : Int) ∧ k_at.toInt < z88.toInt ∧ z86.toInt + k_at.toInt ≤ e_ln.toInt + z88.toInt), rfl, rfl⟩ | ⟨z97, z98, z99, z100, (i_90 : e_ln.toInt ≤ z97.toInt ∧ z97.toInt ≤ 400), (i_91 : 0 ≤ z99.toInt ∧ z99.toInt ≤ 401), (i_92 : 0 ≤ z98.toInt ∧ z98.toInt ≤ 50), (i_93 : CDI z100 z97.toInt), (i_94 : OPK f_rc z100 e_ln.toInt), (i_95 : ∃ q : Nat, (smF (KDT g_x g_n) (NMT g_x g_n) p_d) k_at.toInt.toNat e_pa.toInt.toNat = (z99.toInt.toNat, q, none)), (i_96 : z99.toInt ≤ (g_T : Int)), rfl, rfl⟩
        ·
          have hJ9 := va_join (wr := []) hP hD [2, 3, 4, 0, 1] [] rfl rfl (by decide +kernel) (by decide +kernel) hk1 hFc hP1 hD1
          clear hP hD hPc hDc hFc ht hvm hz1 hk1 hP1 hD1
          obtain ⟨hP, hD⟩ := hJ9
          refine g5_rs [(a_r, (oc4 a_tk a_rh a_rs a_rc z86 z87 z88 e_fp)), (a_tk, (oc8 a_kd a_nm a_pl)), (a_kd, (arI G 401 f_kd)), (a_nm, (arI G 401 f_nm)), (a_rc, (arI G 400 z89))] hP hD ?_
          clear hP hD
          intro hP hD
          obtain ⟨dd101, hd101, hc101, hm101, hv101⟩ := i_84
          have hK_102 : (f_kd z88.toNatClampNeg).toInt = KDT g_x g_n z88.toInt.toNat := tkr_at e_kr (by omega) (by omega)
          refine lv_if_ne (tgt := 92) hx hb dX4_readPlain_87 (by decide +kernel) (fun c_103 => ?_) (fun c_103 => ?_)
          ·
            refine lv_aload_n hx hb dX4_readPlain_92 rfl (lv_at hl 2 rfl) ?_
            refine lv_bipush (v := 60) hx hb dX4_readPlain_93 (by decide +kernel) ?_
            obtain ⟨hPc, hDc, hFc⟩ := g5_sub3 (wc := [(a_r, (oc4 a_tk a_rh a_rs a_rc z86 z87 z88 e_fp)), (a_tk, (oc8 a_kd a_nm a_pl)), (a_kd, (arI G 401 f_kd))]) hP hD hS hA [0, 1, 2] (by decide +kernel) rfl
            refine va_calli (va_runV (As := [.int 60]) (rest := []) ⟨hx, hb, hml, hown, hts⟩ (r_isNextX60 l G a_r a_tk a_kd a_rh a_rs a_rc a_nm a_pl H.size z86 z87 z88 e_fp f_kd ⟨by omega, by omega⟩ i_81 i_80 (by omega)) (cwV 1 hts gV_X4_49 rfl rfl rfl hv_X4_isNext ⟨by simp only [headSpec]; omega, by simp only [headSpec]; omega⟩) (g5_preV hPc hK hDc hN hT hS hFc (ci := 4) (q0 := 0) rfl rfl) rfl rfl hl.1 rfl (lv_room (Nat.le_of_ble_eq_true rfl)) dX4_readPlain_95 ⟨Nat.le_of_ble_eq_true rfl, Nat.le_of_ble_eq_true rfl⟩) hS (fun q _ h => hFc q h) hFc (fun r u t H locs ht hvm hw hB hz1 hk1 hS => ?_)
            obtain ⟨hP1, hD1⟩ := hB
            have hP1 := g5_ht ht hP1
            rcases hw with ⟨(i_104 : (f_kd z88.toNatClampNeg).toInt = 60), rfl, rfl⟩ | ⟨(i_105 : gNe (f_kd z88.toNatClampNeg).toInt 60), rfl, rfl⟩
            ·
              have hJ9 := va_join (wr := [(a_nm, (arI G 401 f_nm)), (a_rc, (arI G 400 z89))]) hP hD [0, 1, 2] [3, 4] rfl rfl (by decide +kernel) (by decide +kernel) hk1 hFc hP1 hD1
              clear hP hD hPc hDc hFc ht hvm hz1 hk1 hP1 hD1
              obtain ⟨hP, hD⟩ := hJ9
              refine g5_rs [(a_nm, (arI G 401 f_nm)), (a_rc, (arI G 400 z89)), (a_r, (oc4 a_tk a_rh a_rs a_rc z86 z87 z88 e_fp)), (a_tk, (oc8 a_kd a_nm a_pl)), (a_kd, (arI G 401 f_kd))] hP hD ?_
              clear hP hD
              intro hP hD
              refine lv_if_eq (tgt := 106) hx hb dX4_readPlain_98 (by decide +kernel) (fun c_106 => ?_) (fun c_106 => ?_)
              ·
                exact absurd c_106 (by decide +kernel)
              ·
                refine lv_bipush (v := 6) hx hb dX4_readPlain_101 (by decide +kernel) ?_
                refine lv_goto (tgt := 135) hx hb dX4_readPlain_103 (by decide +kernel) ?_
                have hL_107 : z88.toInt < (g_T : Int) := tkr_ltI e_kr (by omega) (by omega) i_104 (by decide +kernel)
                refine lv_istore_n (lv' := [(3, .int 6), (2, .int k_u), (0, .ref a_r), (1, .int p_d)]) hx hb dX4_readPlain_135 rfl hl (by decide +kernel) rfl ?_
                clear hl
                intro ls hl
                refine lv_iload_n hx hb dX4_readPlain_136 rfl (lv_at hl 0 rfl) ?_
                refine W.eq (g2 := F0 m 137 ls [.int 6]) rfl ?_
                refine lv_iconst (v := (-1)) hx hb dX4_readPlain_137 (by decide +kernel) ?_
                refine lv_icmp_ne (tgt := 143) hx hb dX4_readPlain_138 (by decide +kernel) (fun c_108 => ?_) (fun c_108 => ?_)
                ·
                  refine lv_aload_n hx hb dX4_readPlain_143 rfl (lv_at hl 2 rfl) ?_
                  refine lv_dup hx hb dX4_readPlain_144 rfl ?_
                  refine va_get (D := G.1) (ci := 4) (v := .int z88) (C := RX4) (T := TX4) (N := 8) hx hb hts inG_X4 hown hK hP 2 rfl rfl 6 (by decide +kernel) (hts _ fl_X4_42) (fun _ h9 => h9) rfl dX4_readPlain_145 ?_
                  refine lv_iconst (v := 1) hx hb dX4_readPlain_148 (by decide +kernel) ?_
                  refine W.eq (g2 := F0 m 149 ls [.int 1, .int z88, .ref a_r]) rfl ?_
                  refine lv_iadd hx hb dX4_readPlain_149 ?_
                  have t_109 : (z88 + 1).toInt = z88.toInt + 1 := g5_iadd (a := z88.toInt) (b := 1) (by rfl) (by decide +kernel) (by omega) (by omega)
                  refine va_put (D := G.1) (ci := 4) (v := .int (z88 + 1)) (ty := .int) (C := RX4) (T := TX4) (N := 8) hx hb hts inG_X4 tyX4 tyX4_ok nmX4 hown hK hP hD hS 2 rfl rfl 6 (by decide +kernel) (hts _ fl_X4_42) (fun _ h9 => h9) rfl (by decide +kernel) rfl rfl (Nat.le_of_ble_eq_true rfl) dX4_readPlain_150 ?_
                  clear hP hD hS
                  intro H locs hP hD hS
                  refine g5_rs [(a_nm, (arI G 401 f_nm)), (a_rc, (arI G 400 z89)), (a_r, (oc4 a_tk a_rh a_rs a_rc z86 z87 (z88 + 1) e_fp)), (a_tk, (oc8 a_kd a_nm a_pl)), (a_kd, (arI G 401 f_kd))] hP hD ?_
                  clear hP hD
                  intro hP hD
                  refine lv_aload_n hx hb dX4_readPlain_153 rfl (lv_at hl 2 rfl) ?_
                  refine lv_iload_n hx hb dX4_readPlain_154 rfl (lv_at hl 3 rfl) ?_
                  obtain ⟨hPc, hDc, hFc⟩ := g5_sub3 (wc := [(a_r, (oc4 a_tk a_rh a_rs a_rc z86 z87 (z88 + 1) e_fp)), (a_tk, (oc8 a_kd a_nm a_pl)), (a_kd, (arI G 401 f_kd)), (a_nm, (arI G 401 f_nm)), (a_rc, (arI G 400 z89))]) hP hD hS hA [2, 3, 4, 0, 1] (by decide +kernel) rfl
                  refine va_calli (va_runV (As := [.int p_d]) (rest := []) ⟨hx, hb, hml, hown, hts⟩ ((r_sumX fr lo p_d h_p_d h_sum) l G a_r a_tk a_kd a_nm a_rc a_rh a_rs a_pl H.size z86 z87 (z88 + 1) e_fp f_kd f_nm z89 g_x g_n g_T ⟨by omega, by omega⟩ i_81 ⟨by omega, by omega⟩ (e_tk) (i_82) (e_by) (e_kr) (by omega) (by omega) (hv101)) (cwV 1 hts gV_X4_73 rfl rfl rfl hv_X4_readSum ⟨by simp only [headSpec]; omega, by simp only [headSpec]; omega⟩) (g5_preV hPc hK hDc hN hT hS hFc (ci := 4) (q0 := 0) rfl rfl) rfl rfl hl.1 rfl (lv_room (Nat.le_of_ble_eq_true rfl)) dX4_readPlain_155 ⟨Nat.le_of_ble_eq_true rfl, Nat.le_of_ble_eq_true rfl⟩) hS (fun q _ h => hFc q h) hFc (fun r u t H locs ht hvm hw hB hz1 hk1 hS => ?_)
                  obtain ⟨hP1, hD1⟩ := hB
                  have hP1 := g5_ht ht hP1
                  rcases hw with ⟨z117, z118, z119, z120, (i_110 : z86.toInt ≤ z117.toInt ∧ z117.toInt ≤ 400), (i_111 : 0 ≤ z119.toInt ∧ z119.toInt ≤ 401), (i_112 : 0 ≤ z118.toInt ∧ z118.toInt ≤ 50), (i_113 : CDI z120 z117.toInt), (i_114 : OPK z89 z120 z86.toInt), (i_115 : ∃ d : DS, (smF (KDT g_x g_n) (NMT g_x g_n) p_d) (z88 + 1).toInt.toNat z87.toInt.toNat = (z119.toInt.toNat, z118.toInt.toNat, some d) ∧ KCC z89 z120 z86.toInt ∧ MCC z120 z86.toInt.toNat z117.toInt.toNat d ∧ lvC z120 z117.toInt.toNat = z118.toInt.toNat), (i_116 : z119.toInt ≤ (g_T : Int) ∧ (z88 + 1).toInt < z119.toInt ∧ z117.toInt + (z88 + 1).toInt ≤ z86.toInt + z119.toInt), rfl, rfl⟩ | ⟨z128, z129, z130, z131, (i_121 : z86.toInt ≤ z128.toInt ∧ z128.toInt ≤ 400), (i_122 : 0 ≤ z130.toInt ∧ z130.toInt ≤ 401), (i_123 : 0 ≤ z129.toInt ∧ z129.toInt ≤ 50), (i_124 : CDI z131 z128.toInt), (i_125 : OPK z89 z131 z86.toInt), (i_126 : ∃ q : Nat, (smF (KDT g_x g_n) (NMT g_x g_n) p_d) (z88 + 1).toInt.toNat z87.toInt.toNat = (z130.toInt.toNat, q, none)), (i_127 : z130.toInt ≤ (g_T : Int)), rfl, rfl⟩
                  ·
                    have hJ9 := va_join (wr := []) hP hD [2, 3, 4, 0, 1] [] rfl rfl (by decide +kernel) (by decide +kernel) hk1 hFc hP1 hD1
                    clear hP hD hPc hDc hFc ht hvm hz1 hk1 hP1 hD1
                    obtain ⟨hP, hD⟩ := hJ9
                    refine g5_rs [(a_r, (oc4 a_tk a_rh a_rs a_rc z117 z118 z119 e_fp)), (a_tk, (oc8 a_kd a_nm a_pl)), (a_kd, (arI G 401 f_kd)), (a_nm, (arI G 401 f_nm)), (a_rc, (arI G 400 z120))] hP hD ?_
                    clear hP hD
                    intro hP hD
                    obtain ⟨dd132, hd132, hc132, hm132, hv132⟩ := i_115
                    have hK_133 : (f_kd z119.toNatClampNeg).toInt = KDT g_x g_n z119.toInt.toNat := tkr_at e_kr (by omega) (by omega)
                    refine lv_if_ne (tgt := 163) hx hb dX4_readPlain_158 (by decide +kernel) (fun c_134 => ?_) (fun c_134 => ?_)
                    ·
                      refine lv_aload_n hx hb dX4_readPlain_163 rfl (lv_at hl 2 rfl) ?_
                      refine lv_iload_n hx hb dX4_readPlain_164 rfl (lv_at hl 0 rfl) ?_
                      refine lv_iconst (v := 0) hx hb dX4_readPlain_165 (by decide +kernel) ?_
                      obtain ⟨hPc, hDc, hFc⟩ := g5_sub3 (wc := [(a_r, (oc4 a_tk a_rh a_rs a_rc z117 z118 z119 e_fp)), (a_rc, (arI G 400 z120))]) hP hD hS hA [0, 4] (by decide +kernel) rfl
                      refine va_calli (va_runV (As := [.int 6, .int 0]) (rest := []) ⟨hx, hb, hml, hown, hts⟩ (r_emitX l G a_r a_rc a_tk a_rh a_rs H.size z117 z118 z119 e_fp 6 0 z120 ⟨by omega, by omega⟩ i_112 i_111 (i_113) (by unfold wOK; decide) (by omega)) (cwV 2 hts gV_X4_79 rfl rfl rfl hv_X4_emit ⟨by simp only [headSpec]; omega, by simp only [headSpec]; omega⟩) (g5_preV hPc hK hDc hN hT hS hFc (ci := 4) (q0 := 0) rfl rfl) rfl rfl hl.1 rfl (lv_room (Nat.le_of_ble_eq_true rfl)) dX4_readPlain_166 ⟨Nat.le_of_ble_eq_true rfl, Nat.le_of_ble_eq_true rfl⟩) hS (fun q _ h => hFc q h) hFc (fun r u t H locs ht hvm hw hB hz1 hk1 hS => ?_)
                      obtain ⟨hP1, hD1⟩ := hB
                      have hP1 := g5_ht ht hP1
                      obtain ⟨z143, z144, z145, (i_135 : 0 ≤ z143.toInt ∧ z143.toInt ≤ 399), (i_136 : z143.toInt = z117.toInt), (i_137 : z144.toInt = z117.toInt + 1), (i_138 : z117.toInt ≤ z144.toInt ∧ z144.toInt ≤ 400), (i_139 : CDI z145 z144.toInt), (i_140 : OPK z120 z145 z117.toInt), (i_141 : 0 ≤ z143.toInt → z143.toInt < z144.toInt ∧ z145 z143.toNatClampNeg = (((6 : Int32) <<< (12 &&& 31)) ||| (0 : Int32))), (i_142 : z145 = upd z120 z117.toNatClampNeg (((6 : Int32) <<< (12 &&& 31)) ||| (0 : Int32))), y146, rfl⟩ := hw
                      have hJ9 := va_join (wr := [(a_tk, (oc8 a_kd a_nm a_pl)), (a_kd, (arI G 401 f_kd)), (a_nm, (arI G 401 f_nm))]) hP hD [0, 4] [1, 2, 3] rfl rfl (by decide +kernel) (by decide +kernel) hk1 hFc hP1 hD1
                      clear hP hD hPc hDc hFc ht hvm hz1 hk1 hP1 hD1
                      obtain ⟨hP, hD⟩ := hJ9
                      refine g5_rs [(a_tk, (oc8 a_kd a_nm a_pl)), (a_kd, (arI G 401 f_kd)), (a_nm, (arI G 401 f_nm)), (a_r, (oc4 a_tk a_rh a_rs a_rc z144 z118 z119 e_fp)), (a_rc, (arI G 400 z145))] hP hD ?_
                      clear hP hD
                      intro hP hD
                      refine g5_ti (v := z143) y146 ?_
                      have hE_147 : lvC z145 z144.toInt.toNat = z118.toInt.toNat := by rw [i_142, lvC_em0 (by omega) (by omega) (opT_20 (by decide +kernel) (by decide +kernel))]; exact hv132
                      refine W.eq (g2 := F0 m 169 ls [.int z143]) rfl ?_
                      refine lv_pop hx hb dX4_readPlain_169 rfl ?_
                      refine lv_iload_n hx hb dX4_readPlain_170 rfl (lv_at hl 1 rfl) ?_
                      refine lv_if_eq (tgt := 182) hx hb dX4_readPlain_171 (by decide +kernel) (fun c_148 => ?_) (fun c_148 => ?_)
                      ·
                        have i_148 : k_u.toInt = 0 := g5_eq (a := k_u.toInt) (b := 0) rfl (by decide +kernel) c_148
                        refine lv_iconst (v := 1) hx hb dX4_readPlain_182 (by decide +kernel) ?_
                        exact W.zret (v := 1) hx hb hr rfl (fun t ht hW => ⟨⟨1, [(a_r, (oc4 a_tk a_rh a_rs a_rc z144 z118 z119 e_fp)), (a_tk, (oc8 a_kd a_nm a_pl)), (a_kd, (arI G 401 f_kd)), (a_nm, (arI G 401 f_nm)), (a_rc, (arI G 400 z145))], rfl, Or.inl (⟨z144, z118, z119, z145, ⟨by omega, by omega⟩, i_111, i_112, i_139, opk_trans i_83 (opk_trans i_114 (i_140) (by omega)) (by omega), by have f9 := pl_1 hNL (fun q9 => i_11 (hK_9.trans q9)) hd101 (by rw [(hK_102.symm.trans i_104)]; decide) (by omega) (by omega) hd132; rw [nt_0 (by omega)] at f9; exact ⟨_, f9, (i01_c (o := cpM (KDT g_x g_n z88.toInt.toNat)) (l := dd101) (r := dd132) (by rw [(hK_102.symm.trans i_104)]; decide)), (by rw [i_142]; exact kcc_tr (kcc_tr hc101 hc132 (by omega)) (kcc_em (by omega)) (by omega)), (by rw [i_142]; have q9 := hm101.1; have z9 := mcc_bin (o := 6) (by omega) (by omega) (mcc_k hm101 hc132 (by omega)) hm132 ⟨by decide, by decide⟩; rw [show cpM (KDT g_x g_n z88.toInt.toNat) = (6 : Int32).toInt + 18 by rw [(hK_102.symm.trans i_104)]; decide]; exact z9), hE_147⟩, by omega, rfl, rfl⟩), by rw [ht]; exact hP.sub [3, 0, 1, 2, 4] rfl, hD.sub [3, 0, 1, 2, 4] (by decide +kernel) rfl⟩, hS.F ht⟩) hS.2.2 dX4_readPlain_183
                      ·
                        have n_148 : gNe (k_u.toInt) (0) := g5_eqN (a := k_u.toInt) (b := 0) rfl (by decide +kernel) c_148
                        have i_148 : k_u.toInt ≥ 1 := by have z := g5_eqN (a := k_u.toInt) (b := 0) (by rfl) (by decide +kernel) c_148; omega
                        refine lv_aload_n hx hb dX4_readPlain_174 rfl (lv_at hl 2 rfl) ?_
                        refine lv_bipush (v := 9) hx hb dX4_readPlain_175 (by decide +kernel) ?_
                        refine lv_iconst (v := 0) hx hb dX4_readPlain_177 (by decide +kernel) ?_
                        obtain ⟨hPc, hDc, hFc⟩ := g5_sub3 (wc := [(a_r, (oc4 a_tk a_rh a_rs a_rc z144 z118 z119 e_fp)), (a_rc, (arI G 400 z145))]) hP hD hS hA [3, 4] (by decide +kernel) rfl
                        refine va_calli (va_runV (As := [.int 9, .int 0]) (rest := []) ⟨hx, hb, hml, hown, hts⟩ (r_emitX l G a_r a_rc a_tk a_rh a_rs H.size z144 z118 z119 e_fp 9 0 z145 ⟨by omega, by omega⟩ i_112 i_111 (i_139) (by unfold wOK; decide) (by omega)) (cwV 2 hts gV_X4_79 rfl rfl rfl hv_X4_emit ⟨by simp only [headSpec]; omega, by simp only [headSpec]; omega⟩) (g5_preV hPc hK hDc hN hT hS hFc (ci := 4) (q0 := 0) rfl rfl) rfl rfl hl.1 rfl (lv_room (Nat.le_of_ble_eq_true rfl)) dX4_readPlain_178 ⟨Nat.le_of_ble_eq_true rfl, Nat.le_of_ble_eq_true rfl⟩) hS (fun q _ h => hFc q h) hFc (fun r u t H locs ht hvm hw hB hz1 hk1 hS => ?_)
                        obtain ⟨hP1, hD1⟩ := hB
                        have hP1 := g5_ht ht hP1
                        obtain ⟨z157, z158, z159, (i_149 : 0 ≤ z157.toInt ∧ z157.toInt ≤ 399), (i_150 : z157.toInt = z144.toInt), (i_151 : z158.toInt = z144.toInt + 1), (i_152 : z144.toInt ≤ z158.toInt ∧ z158.toInt ≤ 400), (i_153 : CDI z159 z158.toInt), (i_154 : OPK z145 z159 z144.toInt), (i_155 : 0 ≤ z157.toInt → z157.toInt < z158.toInt ∧ z159 z157.toNatClampNeg = (((9 : Int32) <<< (12 &&& 31)) ||| (0 : Int32))), (i_156 : z159 = upd z145 z144.toNatClampNeg (((9 : Int32) <<< (12 &&& 31)) ||| (0 : Int32))), y160, rfl⟩ := hw
                        have hJ9 := va_join (wr := [(a_tk, (oc8 a_kd a_nm a_pl)), (a_kd, (arI G 401 f_kd)), (a_nm, (arI G 401 f_nm))]) hP hD [3, 4] [0, 1, 2] rfl rfl (by decide +kernel) (by decide +kernel) hk1 hFc hP1 hD1
                        clear hP hD hPc hDc hFc ht hvm hz1 hk1 hP1 hD1
                        obtain ⟨hP, hD⟩ := hJ9
                        refine g5_rs [(a_tk, (oc8 a_kd a_nm a_pl)), (a_kd, (arI G 401 f_kd)), (a_nm, (arI G 401 f_nm)), (a_r, (oc4 a_tk a_rh a_rs a_rc z158 z118 z119 e_fp)), (a_rc, (arI G 400 z159))] hP hD ?_
                        clear hP hD
                        intro hP hD
                        refine g5_ti (v := z157) y160 ?_
                        have hE_161 : lvC z159 z158.toInt.toNat = z118.toInt.toNat := by rw [i_156, lvC_em0 (by omega) (by omega) (opT_20 (by decide +kernel) (by decide +kernel))]; exact hE_147
                        refine W.eq (g2 := F0 m 181 ls [.int z157]) rfl ?_
                        refine lv_pop hx hb dX4_readPlain_181 rfl ?_
                        refine lv_iconst (v := 1) hx hb dX4_readPlain_182 (by decide +kernel) ?_
                        exact W.zret (v := 1) hx hb hr rfl (fun t ht hW => ⟨⟨1, [(a_r, (oc4 a_tk a_rh a_rs a_rc z158 z118 z119 e_fp)), (a_tk, (oc8 a_kd a_nm a_pl)), (a_kd, (arI G 401 f_kd)), (a_nm, (arI G 401 f_nm)), (a_rc, (arI G 400 z159))], rfl, Or.inl (⟨z158, z118, z119, z159, ⟨by omega, by omega⟩, i_111, i_112, i_153, opk_trans i_83 (opk_trans i_114 (opk_trans i_140 (i_154) (by omega)) (by omega)) (by omega), by have f9 := pl_1 hNL (fun q9 => i_11 (hK_9.trans q9)) hd101 (by rw [(hK_102.symm.trans i_104)]; decide) (by omega) (by omega) hd132; have z9 := (i01_c (o := cpM (KDT g_x g_n z88.toInt.toNat)) (l := dd101) (r := dd132) (by rw [(hK_102.symm.trans i_104)]; decide)); have k9 := (show KCC f_rc z145 e_ln.toInt from (by rw [i_142]; exact kcc_tr (kcc_tr hc101 hc132 (by omega)) (kcc_em (by omega)) (by omega))); have m9 := (show MCC z145 e_ln.toInt.toNat z144.toInt.toNat (bS (cpM (KDT g_x g_n z88.toInt.toNat)) dd101 dd132) from (by rw [i_142]; have q9 := hm101.1; have z9 := mcc_bin (o := 6) (by omega) (by omega) (mcc_k hm101 hc132 (by omega)) hm132 ⟨by decide, by decide⟩; rw [show cpM (KDT g_x g_n z88.toInt.toNat) = (6 : Int32).toInt + 18 by rw [(hK_102.symm.trans i_104)]; decide]; exact z9)); rw [nt_1 (by omega)] at f9; exact ⟨_, f9, i01_n z9, by rw [i_156]; exact kcc_tr k9 (kcc_em (by omega)) (by omega), by rw [i_156]; exact mcc_not (by omega) (by omega) m9, hE_161⟩, by omega, rfl, rfl⟩), by rw [ht]; exact hP.sub [3, 0, 1, 2, 4] rfl, hD.sub [3, 0, 1, 2, 4] (by decide +kernel) rfl⟩, hS.F ht⟩) hS.2.2 dX4_readPlain_183
                    ·
                      exact absurd c_134 (by decide +kernel)
                  ·
                    have hJ9 := va_join (wr := []) hP hD [2, 3, 4, 0, 1] [] rfl rfl (by decide +kernel) (by decide +kernel) hk1 hFc hP1 hD1
                    clear hP hD hPc hDc hFc ht hvm hz1 hk1 hP1 hD1
                    obtain ⟨hP, hD⟩ := hJ9
                    refine g5_rs [(a_r, (oc4 a_tk a_rh a_rs a_rc z128 z129 z130 e_fp)), (a_tk, (oc8 a_kd a_nm a_pl)), (a_kd, (arI G 401 f_kd)), (a_nm, (arI G 401 f_nm)), (a_rc, (arI G 400 z131))] hP hD ?_
                    clear hP hD
                    intro hP hD
                    obtain ⟨qq162, hq162⟩ := i_126
                    refine lv_if_ne (tgt := 163) hx hb dX4_readPlain_158 (by decide +kernel) (fun c_163 => ?_) (fun c_163 => ?_)
                    ·
                      exact absurd c_163 (by decide +kernel)
                    ·
                      refine lv_iconst (v := 0) hx hb dX4_readPlain_161 (by decide +kernel) ?_
                      exact W.zret (v := 0) hx hb hr rfl (fun t ht hW => ⟨⟨0, [(a_r, (oc4 a_tk a_rh a_rs a_rc z128 z129 z130 e_fp)), (a_tk, (oc8 a_kd a_nm a_pl)), (a_kd, (arI G 401 f_kd)), (a_nm, (arI G 401 f_nm)), (a_rc, (arI G 400 z131))], rfl, Or.inr (⟨z128, z129, z130, z131, ⟨by omega, by omega⟩, i_122, i_123, i_124, opk_trans i_83 (i_125) (by omega), ⟨_, pl_r0 hNL (fun q9 => i_11 (hK_9.trans q9)) hd101 (by rw [(hK_102.symm.trans i_104)]; decide) (by omega) (by omega) hq162⟩, by omega, rfl, rfl⟩), by rw [ht]; exact hP.sub [0, 1, 2, 3, 4] rfl, hD.sub [0, 1, 2, 3, 4] (by decide +kernel) rfl⟩, hS.F ht⟩) hS.2.2 dX4_readPlain_162
                ·
                  exact absurd c_108 (by decide +kernel)
            ·
              have hJ9 := va_join (wr := [(a_nm, (arI G 401 f_nm)), (a_rc, (arI G 400 z89))]) hP hD [0, 1, 2] [3, 4] rfl rfl (by decide +kernel) (by decide +kernel) hk1 hFc hP1 hD1
              clear hP hD hPc hDc hFc ht hvm hz1 hk1 hP1 hD1
              obtain ⟨hP, hD⟩ := hJ9
              refine g5_rs [(a_nm, (arI G 401 f_nm)), (a_rc, (arI G 400 z89)), (a_r, (oc4 a_tk a_rh a_rs a_rc z86 z87 z88 e_fp)), (a_tk, (oc8 a_kd a_nm a_pl)), (a_kd, (arI G 401 f_kd))] hP hD ?_
              clear hP hD
              intro hP hD
              refine lv_if_eq (tgt := 106) hx hb dX4_readPlain_98 (by decide +kernel) (fun c_164 => ?_) (fun c_164 => ?_)
              ·
                refine lv_aload_n hx hb dX4_readPlain_106 rfl (lv_at hl 2 rfl) ?_
                refine lv_bipush (v := 62) hx hb dX4_readPlain_107 (by decide +kernel) ?_
                obtain ⟨hPc, hDc, hFc⟩ := g5_sub3 (wc := [(a_r, (oc4 a_tk a_rh a_rs a_rc z86 z87 z88 e_fp)), (a_tk, (oc8 a_kd a_nm a_pl)), (a_kd, (arI G 401 f_kd))]) hP hD hS hA [2, 3, 4] (by decide +kernel) rfl
                refine va_calli (va_runV (As := [.int 62]) (rest := []) ⟨hx, hb, hml, hown, hts⟩ (r_isNextX62 l G a_r a_tk a_kd a_rh a_rs a_rc a_nm a_pl H.size z86 z87 z88 e_fp f_kd ⟨by omega, by omega⟩ i_81 i_80 (by omega)) (cwV 1 hts gV_X4_49 rfl rfl rfl hv_X4_isNext ⟨by simp only [headSpec]; omega, by simp only [headSpec]; omega⟩) (g5_preV hPc hK hDc hN hT hS hFc (ci := 4) (q0 := 0) rfl rfl) rfl rfl hl.1 rfl (lv_room (Nat.le_of_ble_eq_true rfl)) dX4_readPlain_109 ⟨Nat.le_of_ble_eq_true rfl, Nat.le_of_ble_eq_true rfl⟩) hS (fun q _ h => hFc q h) hFc (fun r u t H locs ht hvm hw hB hz1 hk1 hS => ?_)
                obtain ⟨hP1, hD1⟩ := hB
                have hP1 := g5_ht ht hP1
                rcases hw with ⟨(i_165 : (f_kd z88.toNatClampNeg).toInt = 62), rfl, rfl⟩ | ⟨(i_166 : gNe (f_kd z88.toNatClampNeg).toInt 62), rfl, rfl⟩
                ·
                  have hJ9 := va_join (wr := [(a_nm, (arI G 401 f_nm)), (a_rc, (arI G 400 z89))]) hP hD [2, 3, 4] [0, 1] rfl rfl (by decide +kernel) (by decide +kernel) hk1 hFc hP1 hD1
                  clear hP hD hPc hDc hFc ht hvm hz1 hk1 hP1 hD1
                  obtain ⟨hP, hD⟩ := hJ9
                  refine g5_rs [(a_nm, (arI G 401 f_nm)), (a_rc, (arI G 400 z89)), (a_r, (oc4 a_tk a_rh a_rs a_rc z86 z87 z88 e_fp)), (a_tk, (oc8 a_kd a_nm a_pl)), (a_kd, (arI G 401 f_kd))] hP hD ?_
                  clear hP hD
                  intro hP hD
                  refine lv_if_eq (tgt := 120) hx hb dX4_readPlain_112 (by decide +kernel) (fun c_167 => ?_) (fun c_167 => ?_)
                  ·
                    exact absurd c_167 (by decide +kernel)
                  ·
                    refine lv_bipush (v := 7) hx hb dX4_readPlain_115 (by decide +kernel) ?_
                    refine lv_goto (tgt := 135) hx hb dX4_readPlain_117 (by decide +kernel) ?_
                    have hL_168 : z88.toInt < (g_T : Int) := tkr_ltI e_kr (by omega) (by omega) i_165 (by decide +kernel)
                    refine lv_istore_n (lv' := [(3, .int 7), (2, .int k_u), (0, .ref a_r), (1, .int p_d)]) hx hb dX4_readPlain_135 rfl hl (by decide +kernel) rfl ?_
                    clear hl
                    intro ls hl
                    refine lv_iload_n hx hb dX4_readPlain_136 rfl (lv_at hl 0 rfl) ?_
                    refine W.eq (g2 := F0 m 137 ls [.int 7]) rfl ?_
                    refine lv_iconst (v := (-1)) hx hb dX4_readPlain_137 (by decide +kernel) ?_
                    refine lv_icmp_ne (tgt := 143) hx hb dX4_readPlain_138 (by decide +kernel) (fun c_169 => ?_) (fun c_169 => ?_)
                    ·
                      refine lv_aload_n hx hb dX4_readPlain_143 rfl (lv_at hl 2 rfl) ?_
                      refine lv_dup hx hb dX4_readPlain_144 rfl ?_
                      refine va_get (D := G.1) (ci := 4) (v := .int z88) (C := RX4) (T := TX4) (N := 8) hx hb hts inG_X4 hown hK hP 2 rfl rfl 6 (by decide +kernel) (hts _ fl_X4_42) (fun _ h9 => h9) rfl dX4_readPlain_145 ?_
                      refine lv_iconst (v := 1) hx hb dX4_readPlain_148 (by decide +kernel) ?_
                      refine W.eq (g2 := F0 m 149 ls [.int 1, .int z88, .ref a_r]) rfl ?_
                      refine lv_iadd hx hb dX4_readPlain_149 ?_
                      have t_170 : (z88 + 1).toInt = z88.toInt + 1 := g5_iadd (a := z88.toInt) (b := 1) (by rfl) (by decide +kernel) (by omega) (by omega)
                      refine va_put (D := G.1) (ci := 4) (v := .int (z88 + 1)) (ty := .int) (C := RX4) (T := TX4) (N := 8) hx hb hts inG_X4 tyX4 tyX4_ok nmX4 hown hK hP hD hS 2 rfl rfl 6 (by decide +kernel) (hts _ fl_X4_42) (fun _ h9 => h9) rfl (by decide +kernel) rfl rfl (Nat.le_of_ble_eq_true rfl) dX4_readPlain_150 ?_
                      clear hP hD hS
                      intro H locs hP hD hS
                      refine g5_rs [(a_nm, (arI G 401 f_nm)), (a_rc, (arI G 400 z89)), (a_r, (oc4 a_tk a_rh a_rs a_rc z86 z87 (z88 + 1) e_fp)), (a_tk, (oc8 a_kd a_nm a_pl)), (a_kd, (arI G 401 f_kd))] hP hD ?_
                      clear hP hD
                      intro hP hD
                      refine lv_aload_n hx hb dX4_readPlain_153 rfl (lv_at hl 2 rfl) ?_
                      refine lv_iload_n hx hb dX4_readPlain_154 rfl (lv_at hl 3 rfl) ?_
                      obtain ⟨hPc, hDc, hFc⟩ := g5_sub3 (wc := [(a_r, (oc4 a_tk a_rh a_rs a_rc z86 z87 (z88 + 1) e_fp)), (a_tk, (oc8 a_kd a_nm a_pl)), (a_kd, (arI G 401 f_kd)), (a_nm, (arI G 401 f_nm)), (a_rc, (arI G 400 z89))]) hP hD hS hA [2, 3, 4, 0, 1] (by decide +kernel) rfl
                      refine va_calli (va_runV (As := [.int p_d]) (rest := []) ⟨hx, hb, hml, hown, hts⟩ ((r_sumX fr lo p_d h_p_d h_sum) l G a_r a_tk a_kd a_nm a_rc a_rh a_rs a_pl H.size z86 z87 (z88 + 1) e_fp f_kd f_nm z89 g_x g_n g_T ⟨by omega, by omega⟩ i_81 ⟨by omega, by omega⟩ (e_tk) (i_82) (e_by) (e_kr) (by omega) (by omega) (hv101)) (cwV 1 hts gV_X4_73 rfl rfl rfl hv_X4_readSum ⟨by simp only [headSpec]; omega, by simp only [headSpec]; omega⟩) (g5_preV hPc hK hDc hN hT hS hFc (ci := 4) (q0 := 0) rfl rfl) rfl rfl hl.1 rfl (lv_room (Nat.le_of_ble_eq_true rfl)) dX4_readPlain_155 ⟨Nat.le_of_ble_eq_true rfl, Nat.le_of_ble_eq_true rfl⟩) hS (fun q _ h => hFc q h) hFc (fun r u t H locs ht hvm hw hB hz1 hk1 hS => ?_)
                      obtain ⟨hP1, hD1⟩ := hB
                      have hP1 := g5_ht ht hP1
                      rcases hw with ⟨z178, z179, z180, z181, (i_171 : z86.toInt ≤ z178.toInt ∧ z178.toInt ≤ 400), (i_172 : 0 ≤ z180.toInt ∧ z180.toInt ≤ 401), (i_173 : 0 ≤ z179.toInt ∧ z179.toInt ≤ 50), (i_174 : CDI z181 z178.toInt), (i_175 : OPK z89 z181 z86.toInt), (i_176 : ∃ d : DS, (smF (KDT g_x g_n) (NMT g_x g_n) p_d) (z88 + 1).toInt.toNat z87.toInt.toNat = (z180.toInt.toNat, z179.toInt.toNat, some d) ∧ KCC z89 z181 z86.toInt ∧ MCC z181 z86.toInt.toNat z178.toInt.toNat d ∧ lvC z181 z178.toInt.toNat = z179.toInt.toNat), (i_177 : z180.toInt ≤ (g_T : Int) ∧ (z88 + 1).toInt < z180.toInt ∧ z178.toInt + (z88 + 1).toInt ≤ z86.toInt + z180.toInt), rfl, rfl⟩ | ⟨z189, z190, z191, z192, (i_182 : z86.toInt ≤ z189.toInt ∧ z189.toInt ≤ 400), (i_183 : 0 ≤ z191.toInt ∧ z191.toInt ≤ 401), (i_184 : 0 ≤ z190.toInt ∧ z190.toInt ≤ 50), (i_185 : CDI z192 z189.toInt), (i_186 : OPK z89 z192 z86.toInt), (i_187 : ∃ q : Nat, (smF (KDT g_x g_n) (NMT g_x g_n) p_d) (z88 + 1).toInt.toNat z87.toInt.toNat = (z191.toInt.toNat, q, none)), (i_188 : z191.toInt ≤ (g_T : Int)), rfl, rfl⟩
                      ·
                        have hJ9 := va_join (wr := []) hP hD [2, 3, 4, 0, 1] [] rfl rfl (by decide +kernel) (by decide +kernel) hk1 hFc hP1 hD1
                        clear hP hD hPc hDc hFc ht hvm hz1 hk1 hP1 hD1
                        obtain ⟨hP, hD⟩ := hJ9
                        refine g5_rs [(a_r, (oc4 a_tk a_rh a_rs a_rc z178 z179 z180 e_fp)), (a_tk, (oc8 a_kd a_nm a_pl)), (a_kd, (arI G 401 f_kd)), (a_nm, (arI G 401 f_nm)), (a_rc, (arI G 400 z181))] hP hD ?_
                        clear hP hD
                        intro hP hD
                        obtain ⟨dd193, hd193, hc193, hm193, hv193⟩ := i_176
                        have hK_194 : (f_kd z180.toNatClampNeg).toInt = KDT g_x g_n z180.toInt.toNat := tkr_at e_kr (by omega) (by omega)
                        refine lv_if_ne (tgt := 163) hx hb dX4_readPlain_158 (by decide +kernel) (fun c_195 => ?_) (fun c_195 => ?_)
                        ·
                          refine lv_aload_n hx hb dX4_readPlain_163 rfl (lv_at hl 2 rfl) ?_
                          refine lv_iload_n hx hb dX4_readPlain_164 rfl (lv_at hl 0 rfl) ?_
                          refine lv_iconst (v := 0) hx hb dX4_readPlain_165 (by decide +kernel) ?_
                          obtain ⟨hPc, hDc, hFc⟩ := g5_sub3 (wc := [(a_r, (oc4 a_tk a_rh a_rs a_rc z178 z179 z180 e_fp)), (a_rc, (arI G 400 z181))]) hP hD hS hA [0, 4] (by decide +kernel) rfl
                          refine va_calli (va_runV (As := [.int 7, .int 0]) (rest := []) ⟨hx, hb, hml, hown, hts⟩ (r_emitX l G a_r a_rc a_tk a_rh a_rs H.size z178 z179 z180 e_fp 7 0 z181 ⟨by omega, by omega⟩ i_173 i_172 (i_174) (by unfold wOK; decide) (by omega)) (cwV 2 hts gV_X4_79 rfl rfl rfl hv_X4_emit ⟨by simp only [headSpec]; omega, by simp only [headSpec]; omega⟩) (g5_preV hPc hK hDc hN hT hS hFc (ci := 4) (q0 := 0) rfl rfl) rfl rfl hl.1 rfl (lv_room (Nat.le_of_ble_eq_true rfl)) dX4_readPlain_166 ⟨Nat.le_of_ble_eq_true rfl, Nat.le_of_ble_eq_true rfl⟩) hS (fun q _ h => hFc q h) hFc (fun r u t H locs ht hvm hw hB hz1 hk1 hS => ?_)
                          obtain ⟨hP1, hD1⟩ := hB
                          have hP1 := g5_ht ht hP1
                          obtain ⟨z204, z205, z206, (i_196 : 0 ≤ z204.toInt ∧ z204.toInt ≤ 399), (i_197 : z204.toInt = z178.toInt), (i_198 : z205.toInt = z178.toInt + 1), (i_199 : z178.toInt ≤ z205.toInt ∧ z205.toInt ≤ 400), (i_200 : CDI z206 z205.toInt), (i_201 : OPK z181 z206 z178.toInt), (i_202 : 0 ≤ z204.toInt → z204.toInt < z205.toInt ∧ z206 z204.toNatClampNeg = (((7 : Int32) <<< (12 &&& 31)) ||| (0 : Int32))), (i_203 : z206 = upd z181 z178.toNatClampNeg (((7 : Int32) <<< (12 &&& 31)) ||| (0 : Int32))), y207, rfl⟩ := hw
                          have hJ9 := va_join (wr := [(a_tk, (oc8 a_kd a_nm a_pl)), (a_kd, (arI G 401 f_kd)), (a_nm, (arI G 401 f_nm))]) hP hD [0, 4] [1, 2, 3] rfl rfl (by decide +kernel) (by decide +kernel) hk1 hFc hP1 hD1
                          clear hP hD hPc hDc hFc ht hvm hz1 hk1 hP1 hD1
                          obtain ⟨hP, hD⟩ := hJ9
                          refine g5_rs [(a_tk, (oc8 a_kd a_nm a_pl)), (a_kd, (arI G 401 f_kd)), (a_nm, (arI G 401 f_nm)), (a_r, (oc4 a_tk a_rh a_rs a_rc z205 z179 z180 e_fp)), (a_rc, (arI G 400 z206))] hP hD ?_
                          clear hP hD
                          intro hP hD
                          refine g5_ti (v := z204) y207 ?_
                          have hE_208 : lvC z206 z205.toInt.toNat = z179.toInt.toNat := by rw [i_203, lvC_em0 (by omega) (by omega) (opT_20 (by decide +kernel) (by decide +kernel))]; exact hv193
                          refine W.eq (g2 := F0 m 169 ls [.int z204]) rfl ?_
                          refine lv_pop hx hb dX4_readPlain_169 rfl ?_
                          refine lv_iload_n hx hb dX4_readPlain_170 rfl (lv_at hl 1 rfl) ?_
                          refine lv_if_eq (tgt := 182) hx hb dX4_readPlain_171 (by decide +kernel) (fun c_209 => ?_) (fun c_209 => ?_)
                          ·
                            have i_209 : k_u.toInt = 0 := g5_eq (a := k_u.toInt) (b := 0) rfl (by decide +kernel) c_209
                            refine lv_iconst (v := 1) hx hb dX4_readPlain_182 (by decide +kernel) ?_
                            exact W.zret (v := 1) hx hb hr rfl (fun t ht hW => ⟨⟨1, [(a_r, (oc4 a_tk a_rh a_rs a_rc z205 z179 z180 e_fp)), (a_tk, (oc8 a_kd a_nm a_pl)), (a_kd, (arI G 401 f_kd)), (a_nm, (arI G 401 f_nm)), (a_rc, (arI G 400 z206))], rfl, Or.inl (⟨z205, z179, z180, z206, ⟨by omega, by omega⟩, i_172, i_173, i_200, opk_trans i_83 (opk_trans i_175 (i_201) (by omega)) (by omega), by have f9 := pl_1 hNL (fun q9 => i_11 (hK_9.trans q9)) hd101 (by rw [(hK_102.symm.trans i_165)]; decide) (by omega) (by omega) hd193; rw [nt_0 (by omega)] at f9; exact ⟨_, f9, (i01_c (o := cpM (KDT g_x g_n z88.toInt.toNat)) (l := dd101) (r := dd193) (by rw [(hK_102.symm.trans i_165)]; decide)), (by rw [i_203]; exact kcc_tr (kcc_tr hc101 hc193 (by omega)) (kcc_em (by omega)) (by omega)), (by rw [i_203]; have q9 := hm101.1; have z9 := mcc_bin (o := 7) (by omega) (by omega) (mcc_k hm101 hc193 (by omega)) hm193 ⟨by decide, by decide⟩; rw [show cpM (KDT g_x g_n z88.toInt.toNat) = (7 : Int32).toInt + 18 by rw [(hK_102.symm.trans i_165)]; decide]; exact z9), hE_208⟩, by omega, rfl, rfl⟩), by rw [ht]; exact hP.sub [3, 0, 1, 2, 4] rfl, hD.sub [3, 0, 1, 2, 4] (by decide +kernel) rfl⟩, hS.F ht⟩) hS.2.2 dX4_readPlain_183
                          ·
                            have n_209 : gNe (k_u.toInt) (0) := g5_eqN (a := k_u.toInt) (b := 0) rfl (by decide +kernel) c_209
                            have i_209 : k_u.toInt ≥ 1 := by have z := g5_eqN (a := k_u.toInt) (b := 0) (by rfl) (by decide +kernel) c_209; omega
                            refine lv_aload_n hx hb dX4_readPlain_174 rfl (lv_at hl 2 rfl) ?_
                            refine lv_bipush (v := 9) hx hb dX4_readPlain_175 (by decide +kernel) ?_
                            refine lv_iconst (v := 0) hx hb dX4_readPlain_177 (by decide +kernel) ?_
                            obtain ⟨hPc, hDc, hFc⟩ := g5_sub3 (wc := [(a_r, (oc4 a_tk a_rh a_rs a_rc z205 z179 z180 e_fp)), (a_rc, (arI G 400 z206))]) hP hD hS hA [3, 4] (by decide +kernel) rfl
                            refine va_calli (va_runV (As := [.int 9, .int 0]) (rest := []) ⟨hx, hb, hml, hown, hts⟩ (r_emitX l G a_r a_rc a_tk a_rh a_rs H.size z205 z179 z180 e_fp 9 0 z206 ⟨by omega, by omega⟩ i_173 i_172 (i_200) (by unfold wOK; decide) (by omega)) (cwV 2 hts gV_X4_79 rfl rfl rfl hv_X4_emit ⟨by simp only [headSpec]; omega, by simp only [headSpec]; omega⟩) (g5_preV hPc hK hDc hN hT hS hFc (ci := 4) (q0 := 0) rfl rfl) rfl rfl hl.1 rfl (lv_room (Nat.le_of_ble_eq_true rfl)) dX4_readPlain_178 ⟨Nat.le_of_ble_eq_true rfl, Nat.le_of_ble_eq_true rfl⟩) hS (fun q _ h => hFc q h) hFc (fun r u t H locs ht hvm hw hB hz1 hk1 hS => ?_)
                            obtain ⟨hP1, hD1⟩ := hB
                            have hP1 := g5_ht ht hP1
                            obtain ⟨z218, z219, z220, (i_210 : 0 ≤ z218.toInt ∧ z218.toInt ≤ 399), (i_211 : z218.toInt = z205.toInt), (i_212 : z219.toInt = z205.toInt + 1), (i_213 : z205.toInt ≤ z219.toInt ∧ z219.toInt ≤ 400), (i_214 : CDI z220 z219.toInt), (i_215 : OPK z206 z220 z205.toInt), (i_216 : 0 ≤ z218.toInt → z218.toInt < z219.toInt ∧ z220 z218.toNatClampNeg = (((9 : Int32) <<< (12 &&& 31)) ||| (0 : Int32))), (i_217 : z220 = upd z206 z205.toNatClampNeg (((9 : Int32) <<< (12 &&& 31)) ||| (0 : Int32))), y221, rfl⟩ := hw
                            have hJ9 := va_join (wr := [(a_tk, (oc8 a_kd a_nm a_pl)), (a_kd, (arI G 401 f_kd)), (a_nm, (arI G 401 f_nm))]) hP hD [3, 4] [0, 1, 2] rfl rfl (by decide +kernel) (by decide +kernel) hk1 hFc hP1 hD1
                            clear hP hD hPc hDc hFc ht hvm hz1 hk1 hP1 hD1
                            obtain ⟨hP, hD⟩ := hJ9
                            refine g5_rs [(a_tk, (oc8 a_kd a_nm a_pl)), (a_kd, (arI G 401 f_kd)), (a_nm, (arI G 401 f_nm)), (a_r, (oc4 a_tk a_rh a_rs a_rc z219 z179 z180 e_fp)), (a_rc, (arI G 400 z220))] hP hD ?_
                            clear hP hD
                            intro hP hD
                            refine g5_ti (v := z218) y221 ?_
                            have hE_222 : lvC z220 z219.toInt.toNat = z179.toInt.toNat := by rw [i_217, lvC_em0 (by omega) (by omega) (opT_20 (by decide +kernel) (by decide +kernel))]; exact hE_208
                            refine W.eq (g2 := F0 m 181 ls [.int z218]) rfl ?_
                            refine lv_pop hx hb dX4_readPlain_181 rfl ?_
                            refine lv_iconst (v := 1) hx hb dX4_readPlain_182 (by decide +kernel) ?_
                            exact W.zret (v := 1) hx hb hr rfl (fun t ht hW => ⟨⟨1, [(a_r, (oc4 a_tk a_rh a_rs a_rc z219 z179 z180 e_fp)), (a_tk, (oc8 a_kd a_nm a_pl)), (a_kd, (arI G 401 f_kd)), (a_nm, (arI G 401 f_nm)), (a_rc, (arI G 400 z220))], rfl, Or.inl (⟨z219, z179, z180, z220, ⟨by omega, by omega⟩, i_172, i_173, i_214, opk_trans i_83 (opk_trans i_175 (opk_trans i_201 (i_215) (by omega)) (by omega)) (by omega), by have f9 := pl_1 hNL (fun q9 => i_11 (hK_9.trans q9)) hd101 (by rw [(hK_102.symm.trans i_165)]; decide) (by omega) (by omega) hd193; have z9 := (i01_c (o := cpM (KDT g_x g_n z88.toInt.toNat)) (l := dd101) (r := dd193) (by rw [(hK_102.symm.trans i_165)]; decide)); have k9 := (show KCC f_rc z206 e_ln.toInt from (by rw [i_203]; exact kcc_tr (kcc_tr hc101 hc193 (by omega)) (kcc_em (by omega)) (by omega))); have m9 := (show MCC z206 e_ln.toInt.toNat z205.toInt.toNat (bS (cpM (KDT g_x g_n z88.toInt.toNat)) dd101 dd193) from (by rw [i_203]; have q9 := hm101.1; have z9 := mcc_bin (o := 7) (by omega) (by omega) (mcc_k hm101 hc193 (by omega)) hm193 ⟨by decide, by decide⟩; rw [show cpM (KDT g_x g_n z88.toInt.toNat) = (7 : Int32).toInt + 18 by rw [(hK_102.symm.trans i_165)]; decide]; exact z9)); rw [nt_1 (by omega)] at f9; exact ⟨_, f9, i01_n z9, by rw [i_217]; exact kcc_tr k9 (kcc_em (by omega)) (by omega), by rw [i_217]; exact mcc_not (by omega) (by omega) m9, hE_222⟩, by omega, rfl, rfl⟩), by rw [ht]; exact hP.sub [3, 0, 1, 2, 4] rfl, hD.sub [3, 0, 1, 2, 4] (by decide +kernel) rfl⟩, hS.F ht⟩) hS.2.2 dX4_readPlain_183
                        ·
                          exact absurd c_195 (by decide +kernel)
                      ·
                        have hJ9 := va_join (wr := []) hP hD [2, 3, 4, 0, 1] [] rfl rfl (by decide +kernel) (by decide +kernel) hk1 hFc hP1 hD1
                        clear hP hD hPc hDc hFc ht hvm hz1 hk1 hP1 hD1
                        obtain ⟨hP, hD⟩ := hJ9
                        refine g5_rs [(a_r, (oc4 a_tk a_rh a_rs a_rc z189 z190 z191 e_fp)), (a_tk, (oc8 a_kd a_nm a_pl)), (a_kd, (arI G 401 f_kd)), (a_nm, (arI G 401 f_nm)), (a_rc, (arI G 400 z192))] hP hD ?_
                        clear hP hD
                        intro hP hD
                        obtain ⟨qq223, hq223⟩ := i_187
                        refine lv_if_ne (tgt := 163) hx hb dX4_readPlain_158 (by decide +kernel) (fun c_224 => ?_) (fun c_224 => ?_)
                        ·
                          exact absurd c_224 (by decide +kernel)
                        ·
                          refine lv_iconst (v := 0) hx hb dX4_readPlain_161 (by decide +kernel) ?_
                          exact W.zret (v := 0) hx hb hr rfl (fun t ht hW => ⟨⟨0, [(a_r, (oc4 a_tk a_rh a_rs a_rc z189 z190 z191 e_fp)), (a_tk, (oc8 a_kd a_nm a_pl)), (a_kd, (arI G 401 f_kd)), (a_nm, (arI G 401 f_nm)), (a_rc, (arI G 400 z192))], rfl, Or.inr (⟨z189, z190, z191, z192, ⟨by omega, by omega⟩, i_183, i_184, i_185, opk_trans i_83 (i_186) (by omega), ⟨_, pl_r0 hNL (fun q9 => i_11 (hK_9.trans q9)) hd101 (by rw [(hK_102.symm.trans i_165)]; decide) (by omega) (by omega) hq223⟩, by omega, rfl, rfl⟩), by rw [ht]; exact hP.sub [0, 1, 2, 3, 4] rfl, hD.sub [0, 1, 2, 3, 4] (by decide +kernel) rfl⟩, hS.F ht⟩) hS.2.2 dX4_readPlain_162
                    ·
                      exact absurd c_169 (by decide +kernel)
                ·
                  have hJ9 := va_join (wr := [(a_nm, (arI G 401 f_nm)), (a_rc, (arI G 400 z89))]) hP hD [2, 3, 4] [0, 1] rfl rfl (by decide +kernel) (by decide +kernel) hk1 hFc hP1 hD1
                  clear hP hD hPc hDc hFc ht hvm hz1 hk1 hP1 hD1
                  obtain ⟨hP, hD⟩ := hJ9
                  refine g5_rs [(a_nm, (arI G 401 f_nm)), (a_rc, (arI G 400 z89)), (a_r, (oc4 a_tk a_rh a_rs a_rc z86 z87 z88 e_fp)), (a_tk, (oc8 a_kd a_nm a_pl)), (a_kd, (arI G 401 f_kd))] hP hD ?_
                  clear hP hD
                  intro hP hD
                  refine lv_if_eq (tgt := 120) hx hb dX4_readPlain_112 (by decide +kernel) (fun c_225 => ?_) (fun c_225 => ?_)
                  ·
                    refine lv_aload_n hx hb dX4_readPlain_120 rfl (lv_at hl 2 rfl) ?_
                    refine lv_bipush (v := 61) hx hb dX4_readPlain_121 (by decide +kernel) ?_
                    obtain ⟨hPc, hDc, hFc⟩ := g5_sub3 (wc := [(a_r, (oc4 a_tk a_rh a_rs a_rc z86 z87 z88 e_fp)), (a_tk, (oc8 a_kd a_nm a_pl)), (a_kd, (arI G 401 f_kd))]) hP hD hS hA [2, 3, 4] (by decide +kernel) rfl
                    refine va_calli (va_runV (As := [.int 61]) (rest := []) ⟨hx, hb, hml, hown, hts⟩ (r_isNextX61 l G a_r a_tk a_kd a_rh a_rs a_rc a_nm a_pl H.size z86 z87 z88 e_fp f_kd ⟨by omega, by omega⟩ i_81 i_80 (by omega)) (cwV 1 hts gV_X4_49 rfl rfl rfl hv_X4_isNext ⟨by simp only [headSpec]; omega, by simp only [headSpec]; omega⟩) (g5_preV hPc hK hDc hN hT hS hFc (ci := 4) (q0 := 0) rfl rfl) rfl rfl hl.1 rfl (lv_room (Nat.le_of_ble_eq_true rfl)) dX4_readPlain_123 ⟨Nat.le_of_ble_eq_true rfl, Nat.le_of_ble_eq_true rfl⟩) hS (fun q _ h => hFc q h) hFc (fun r u t H locs ht hvm hw hB hz1 hk1 hS => ?_)
                    obtain ⟨hP1, hD1⟩ := hB
                    have hP1 := g5_ht ht hP1
                    rcases hw with ⟨(i_226 : (f_kd z88.toNatClampNeg).toInt = 61), rfl, rfl⟩ | ⟨(i_227 : gNe (f_kd z88.toNatClampNeg).toInt 61), rfl, rfl⟩
                    ·
                      have hJ9 := va_join (wr := [(a_nm, (arI G 401 f_nm)), (a_rc, (arI G 400 z89))]) hP hD [2, 3, 4] [0, 1] rfl rfl (by decide +kernel) (by decide +kernel) hk1 hFc hP1 hD1
                      clear hP hD hPc hDc hFc ht hvm hz1 hk1 hP1 hD1
                      obtain ⟨hP, hD⟩ := hJ9
                      refine g5_rs [(a_nm, (arI G 401 f_nm)), (a_rc, (arI G 400 z89)), (a_r, (oc4 a_tk a_rh a_rs a_rc z86 z87 z88 e_fp)), (a_tk, (oc8 a_kd a_nm a_pl)), (a_kd, (arI G 401 f_kd))] hP hD ?_
                      clear hP hD
                      intro hP hD
                      refine lv_if_eq (tgt := 134) hx hb dX4_readPlain_126 (by decide +kernel) (fun c_228 => ?_) (fun c_228 => ?_)
                      ·
                        exact absurd c_228 (by decide +kernel)
                      ·
                        refine lv_bipush (v := 8) hx hb dX4_readPlain_129 (by decide +kernel) ?_
                        refine lv_goto (tgt := 135) hx hb dX4_readPlain_131 (by decide +kernel) ?_
                        have hL_229 : z88.toInt < (g_T : Int) := tkr_ltI e_kr (by omega) (by omega) i_226 (by decide +kernel)
                        refine lv_istore_n (lv' := [(3, .int 8), (2, .int k_u), (0, .ref a_r), (1, .int p_d)]) hx hb dX4_readPlain_135 rfl hl (by decide +kernel) rfl ?_
                        clear hl
                        intro ls hl
                        refine lv_iload_n hx hb dX4_readPlain_136 rfl (lv_at hl 0 rfl) ?_
                        refine W.eq (g2 := F0 m 137 ls [.int 8]) rfl ?_
                        refine lv_iconst (v := (-1)) hx hb dX4_readPlain_137 (by decide +kernel) ?_
                        refine lv_icmp_ne (tgt := 143) hx hb dX4_readPlain_138 (by decide +kernel) (fun c_230 => ?_) (fun c_230 => ?_)
                        ·
                          refine lv_aload_n hx hb dX4_readPlain_143 rfl (lv_at hl 2 rfl) ?_
                          refine lv_dup hx hb dX4_readPlain_144 rfl ?_
                          refine va_get (D := G.1) (ci := 4) (v := .int z88) (C := RX4) (T := TX4) (N := 8) hx hb hts inG_X4 hown hK hP 2 rfl rfl 6 (by decide +kernel) (hts _ fl_X4_42) (fun _ h9 => h9) rfl dX4_readPlain_145 ?_
                          refine lv_iconst (v := 1) hx hb dX4_readPlain_148 (by decide +kernel) ?_
                          refine W.eq (g2 := F0 m 149 ls [.int 1, .int z88, .ref a_r]) rfl ?_
                          refine lv_iadd hx hb dX4_readPlain_149 ?_
                          have t_231 : (z88 + 1).toInt = z88.toInt + 1 := g5_iadd (a := z88.toInt) (b := 1) (by rfl) (by decide +kernel) (by omega) (by omega)
                          refine va_put (D := G.1) (ci := 4) (v := .int (z88 + 1)) (ty := .int) (C := RX4) (T := TX4) (N := 8) hx hb hts inG_X4 tyX4 tyX4_ok nmX4 hown hK hP hD hS 2 rfl rfl 6 (by decide +kernel) (hts _ fl_X4_42) (fun _ h9 => h9) rfl (by decide +kernel) rfl rfl (Nat.le_of_ble_eq_true rfl) dX4_readPlain_150 ?_
                          clear hP hD hS
                          intro H locs hP hD hS
                          refine g5_rs [(a_nm, (arI G 401 f_nm)), (a_rc, (arI G 400 z89)), (a_r, (oc4 a_tk a_rh a_rs a_rc z86 z87 (z88 + 1) e_fp)), (a_tk, (oc8 a_kd a_nm a_pl)), (a_kd, (arI G 401 f_kd))] hP hD ?_
                          clear hP hD
                          intro hP hD
                          refine lv_aload_n hx hb dX4_readPlain_153 rfl (lv_at hl 2 rfl) ?_
                          refine lv_iload_n hx hb dX4_readPlain_154 rfl (lv_at hl 3 rfl) ?_
                          obtain ⟨hPc, hDc, hFc⟩ := g5_sub3 (wc := [(a_r, (oc4 a_tk a_rh a_rs a_rc z86 z87 (z88 + 1) e_fp)), (a_tk, (oc8 a_kd a_nm a_pl)), (a_kd, (arI G 401 f_kd)), (a_nm, (arI G 401 f_nm)), (a_rc, (arI G 400 z89))]) hP hD hS hA [2, 3, 4, 0, 1] (by decide +kernel) rfl
                          refine va_calli (va_runV (As := [.int p_d]) (rest := []) ⟨hx, hb, hml, hown, hts⟩ ((r_sumX fr lo p_d h_p_d h_sum) l G a_r a_tk a_kd a_nm a_rc a_rh a_rs a_pl H.size z86 z87 (z88 + 1) e_fp f_kd f_nm z89 g_x g_n g_T ⟨by omega, by omega⟩ i_81 ⟨by omega, by omega⟩ (e_tk) (i_82) (e_by) (e_kr) (by omega) (by omega) (hv101)) (cwV 1 hts gV_X4_73 rfl rfl rfl hv_X4_readSum ⟨by simp only [headSpec]; omega, by simp only [headSpec]; omega⟩) (g5_preV hPc hK hDc hN hT hS hFc (ci := 4) (q0 := 0) rfl rfl) rfl rfl hl.1 rfl (lv_room (Nat.le_of_ble_eq_true rfl)) dX4_readPlain_155 ⟨Nat.le_of_ble_eq_true rfl, Nat.le_of_ble_eq_true rfl⟩) hS (fun q _ h => hFc q h) hFc (fun r u t H locs ht hvm hw hB hz1 hk1 hS => ?_)
                          obtain ⟨hP1, hD1⟩ := hB
                          have hP1 := g5_ht ht hP1
                          rcases hw with ⟨z239, z240, z241, z242, (i_232 : z86.toInt ≤ z239.toInt ∧ z239.toInt ≤ 400), (i_233 : 0 ≤ z241.toInt ∧ z241.toInt ≤ 401), (i_234 : 0 ≤ z240.toInt ∧ z240.toInt ≤ 50), (i_235 : CDI z242 z239.toInt), (i_236 : OPK z89 z242 z86.toInt), (i_237 : ∃ d : DS, (smF (KDT g_x g_n) (NMT g_x g_n) p_d) (z88 + 1).toInt.toNat z87.toInt.toNat = (z241.toInt.toNat, z240.toInt.toNat, some d) ∧ KCC z89 z242 z86.toInt ∧ MCC z242 z86.toInt.toNat z239.toInt.toNat d ∧ lvC z242 z239.toInt.toNat = z240.toInt.toNat), (i_238 : z241.toInt ≤ (g_T : Int) ∧ (z88 + 1).toInt < z241.toInt ∧ z239.toInt + (z88 + 1).toInt ≤ z86.toInt + z241.toInt), rfl, rfl⟩ | ⟨z250, z251, z252, z253, (i_243 : z86.toInt ≤ z250.toInt ∧ z250.toInt ≤ 400), (i_244 : 0 ≤ z252.toInt ∧ z252.toInt ≤ 401), (i_245 : 0 ≤ z251.toInt ∧ z251.toInt ≤ 50), (i_246 : CDI z253 z250.toInt), (i_247 : OPK z89 z253 z86.toInt), (i_248 : ∃ q : Nat, (smF (KDT g_x g_n) (NMT g_x g_n) p_d) (z88 + 1).toInt.toNat z87.toInt.toNat = (z252.toInt.toNat, q, none)), (i_249 : z252.toInt ≤ (g_T : Int)), rfl, rfl⟩
                          ·
                            have hJ9 := va_join (wr := []) hP hD [2, 3, 4, 0, 1] [] rfl rfl (by decide +kernel) (by decide +kernel) hk1 hFc hP1 hD1
                            clear hP hD hPc hDc hFc ht hvm hz1 hk1 hP1 hD1
                            obtain ⟨hP, hD⟩ := hJ9
                            refine g5_rs [(a_r, (oc4 a_tk a_rh a_rs a_rc z239 z240 z241 e_fp)), (a_tk, (oc8 a_kd a_nm a_pl)), (a_kd, (arI G 401 f_kd)), (a_nm, (arI G 401 f_nm)), (a_rc, (arI G 400 z242))] hP hD ?_
                            clear hP hD
                            intro hP hD
                            obtain ⟨dd254, hd254, hc254, hm254, hv254⟩ := i_237
                            have hK_255 : (f_kd z241.toNatClampNeg).toInt = KDT g_x g_n z241.toInt.toNat := tkr_at e_kr (by omega) (by omega)
                            refine lv_if_ne (tgt := 163) hx hb dX4_readPlain_158 (by decide +kernel) (fun c_256 => ?_) (fun c_256 => ?_)
                            ·
                              refine lv_aload_n hx hb dX4_readPlain_163 rfl (lv_at hl 2 rfl) ?_
                              refine lv_iload_n hx hb dX4_readPlain_164 rfl (lv_at hl 0 rfl) ?_
                              refine lv_iconst (v := 0) hx hb dX4_readPlain_165 (by decide +kernel) ?_
                              obtain ⟨hPc, hDc, hFc⟩ := g5_sub3 (wc := [(a_r, (oc4 a_tk a_rh a_rs a_rc z239 z240 z241 e_fp)), (a_rc, (arI G 400 z242))]) hP hD hS hA [0, 4] (by decide +kernel) rfl
                              refine va_calli (va_runV (As := [.int 8, .int 0]) (rest := []) ⟨hx, hb, hml, hown, hts⟩ (r_emitX l G a_r a_rc a_tk a_rh a_rs H.size z239 z240 z241 e_fp 8 0 z242 ⟨by omega, by omega⟩ i_234 i_233 (i_235) (by unfold wOK; decide) (by omega)) (cwV 2 hts gV_X4_79 rfl rfl rfl hv_X4_emit ⟨by simp only [headSpec]; omega, by simp only [headSpec]; omega⟩) (g5_preV hPc hK hDc hN hT hS hFc (ci := 4) (q0 := 0) rfl rfl) rfl rfl hl.1 rfl (lv_room (Nat.le_of_ble_eq_true rfl)) dX4_readPlain_166 ⟨Nat.le_of_ble_eq_true rfl, Nat.le_of_ble_eq_true rfl⟩) hS (fun q _ h => hFc q h) hFc (fun r u t H locs ht hvm hw hB hz1 hk1 hS => ?_)
                              obtain ⟨hP1, hD1⟩ := hB
                              have hP1 := g5_ht ht hP1
                              obtain ⟨z265, z266, z267, (i_257 : 0 ≤ z265.toInt ∧ z265.toInt ≤ 399), (i_258 : z265.toInt = z239.toInt), (i_259 : z266.toInt = z239.toInt + 1), (i_260 : z239.toInt ≤ z266.toInt ∧ z266.toInt ≤ 400), (i_261 : CDI z267 z266.toInt), (i_262 : OPK z242 z267 z239.toInt), (i_263 : 0 ≤ z265.toInt → z265.toInt < z266.toInt ∧ z267 z265.toNatClampNeg = (((8 : Int32) <<< (12 &&& 31)) ||| (0 : Int32))), (i_264 : z267 = upd z242 z239.toNatClampNeg (((8 : Int32) <<< (12 &&& 31)) ||| (0 : Int32))), y268, rfl⟩ := hw
                              have hJ9 := va_join (wr := [(a_tk, (oc8 a_kd a_nm a_pl)), (a_kd, (arI G 401 f_kd)), (a_nm, (arI G 401 f_nm))]) hP hD [0, 4] [1, 2, 3] rfl rfl (by decide +kernel) (by decide +kernel) hk1 hFc hP1 hD1
                              clear hP hD hPc hDc hFc ht hvm hz1 hk1 hP1 hD1
                              obtain ⟨hP, hD⟩ := hJ9
                              refine g5_rs [(a_tk, (oc8 a_kd a_nm a_pl)), (a_kd, (arI G 401 f_kd)), (a_nm, (arI G 401 f_nm)), (a_r, (oc4 a_tk a_rh a_rs a_rc z266 z240 z241 e_fp)), (a_rc, (arI G 400 z267))] hP hD ?_
                              clear hP hD
                              intro hP hD
                              refine g5_ti (v := z265) y268 ?_
                              have hE_269 : lvC z267 z266.toInt.toNat = z240.toInt.toNat := by rw [i_264, lvC_em0 (by omega) (by omega) (opT_20 (by decide +kernel) (by decide +kernel))]; exact hv254
                              refine W.eq (g2 := F0 m 169 ls [.int z265]) rfl ?_
                              refine lv_pop hx hb dX4_readPlain_169 rfl ?_
                              refine lv_iload_n hx hb dX4_readPlain_170 rfl (lv_at hl 1 rfl) ?_
                              refine lv_if_eq (tgt := 182) hx hb dX4_readPlain_171 (by decide +kernel) (fun c_270 => ?_) (fun c_270 => ?_)
                              ·
                                have i_270 : k_u.toInt = 0 := g5_eq (a := k_u.toInt) (b := 0) rfl (by decide +kernel) c_270
                                refine lv_iconst (v := 1) hx hb dX4_readPlain_182 (by decide +kernel) ?_
                                exact W.zret (v := 1) hx hb hr rfl (fun t ht hW => ⟨⟨1, [(a_r, (oc4 a_tk a_rh a_rs a_rc z266 z240 z241 e_fp)), (a_tk, (oc8 a_kd a_nm a_pl)), (a_kd, (arI G 401 f_kd)), (a_nm, (arI G 401 f_nm)), (a_rc, (arI G 400 z267))], rfl, Or.inl (⟨z266, z240, z241, z267, ⟨by omega, by omega⟩, i_233, i_234, i_261, opk_trans i_83 (opk_trans i_236 (i_262) (by omega)) (by omega), by have f9 := pl_1 hNL (fun q9 => i_11 (hK_9.trans q9)) hd101 (by rw [(hK_102.symm.trans i_226)]; decide) (by omega) (by omega) hd254; rw [nt_0 (by omega)] at f9; exact ⟨_, f9, (i01_c (o := cpM (KDT g_x g_n z88.toInt.toNat)) (l := dd101) (r := dd254) (by rw [(hK_102.symm.trans i_226)]; decide)), (by rw [i_264]; exact kcc_tr (kcc_tr hc101 hc254 (by omega)) (kcc_em (by omega)) (by omega)), (by rw [i_264]; have q9 := hm101.1; have z9 := mcc_bin (o := 8) (by omega) (by omega) (mcc_k hm101 hc254 (by omega)) hm254 ⟨by decide, by decide⟩; rw [show cpM (KDT g_x g_n z88.toInt.toNat) = (8 : Int32).toInt + 18 by rw [(hK_102.symm.trans i_226)]; decide]; exact z9), hE_269⟩, by omega, rfl, rfl⟩), by rw [ht]; exact hP.sub [3, 0, 1, 2, 4] rfl, hD.sub [3, 0, 1, 2, 4] (by decide +kernel) rfl⟩, hS.F ht⟩) hS.2.2 dX4_readPlain_183
                              ·
                                have n_270 : gNe (k_u.toInt) (0) := g5_eqN (a := k_u.toInt) (b := 0) rfl (by decide +kernel) c_270
                                have i_270 : k_u.toInt ≥ 1 := by have z := g5_eqN (a := k_u.toInt) (b := 0) (by rfl) (by decide +kernel) c_270; omega
                                refine lv_aload_n hx hb dX4_readPlain_174 rfl (lv_at hl 2 rfl) ?_
                                refine lv_bipush (v := 9) hx hb dX4_readPlain_175 (by decide +kernel) ?_
                                refine lv_iconst (v := 0) hx hb dX4_readPlain_177 (by decide +kernel) ?_
                                obtain ⟨hPc, hDc, hFc⟩ := g5_sub3 (wc := [(a_r, (oc4 a_tk a_rh a_rs a_rc z266 z240 z241 e_fp)), (a_rc, (arI G 400 z267))]) hP hD hS hA [3, 4] (by decide +kernel) rfl
                                refine va_calli (va_runV (As := [.int 9, .int 0]) (rest := []) ⟨hx, hb, hml, hown, hts⟩ (r_emitX l G a_r a_rc a_tk a_rh a_rs H.size z266 z240 z241 e_fp 9 0 z267 ⟨by omega, by omega⟩ i_234 i_233 (i_261) (by unfold wOK; decide) (by omega)) (cwV 2 hts gV_X4_79 rfl rfl rfl hv_X4_emit ⟨by simp only [headSpec]; omega, by simp only [headSpec]; omega⟩) (g5_preV hPc hK hDc hN hT hS hFc (ci := 4) (q0 := 0) rfl rfl) rfl rfl hl.1 rfl (lv_room (Nat.le_of_ble_eq_true rfl)) dX4_readPlain_178 ⟨Nat.le_of_ble_eq_true rfl, Nat.le_of_ble_eq_true rfl⟩) hS (fun q _ h => hFc q h) hFc (fun r u t H locs ht hvm hw hB hz1 hk1 hS => ?_)
                                obtain ⟨hP1, hD1⟩ := hB
                                have hP1 := g5_ht ht hP1
                                obtain ⟨z279, z280, z281, (i_271 : 0 ≤ z279.toInt ∧ z279.toInt ≤ 399), (i_272 : z279.toInt = z266.toInt), (i_273 : z280.toInt = z266.toInt + 1), (i_274 : z266.toInt ≤ z280.toInt ∧ z280.toInt ≤ 400), (i_275 : CDI z281 z280.toInt), (i_276 : OPK z267 z281 z266.toInt), (i_277 : 0 ≤ z279.toInt → z279.toInt < z280.toInt ∧ z281 z279.toNatClampNeg = (((9 : Int32) <<< (12 &&& 31)) ||| (0 : Int32))), (i_278 : z281 = upd z267 z266.toNatClampNeg (((9 : Int32) <<< (12 &&& 31)) ||| (0 : Int32))), y282, rfl⟩ := hw
                                have hJ9 := va_join (wr := [(a_tk, (oc8 a_kd a_nm a_pl)), (a_kd, (arI G 401 f_kd)), (a_nm, (arI G 401 f_nm))]) hP hD [3, 4] [0, 1, 2] rfl rfl (by decide +kernel) (by decide +kernel) hk1 hFc hP1 hD1
                                clear hP hD hPc hDc hFc ht hvm hz1 hk1 hP1 hD1
                                obtain ⟨hP, hD⟩ := hJ9
                                refine g5_rs [(a_tk, (oc8 a_kd a_nm a_pl)), (a_kd, (arI G 401 f_kd)), (a_nm, (arI G 401 f_nm)), (a_r, (oc4 a_tk a_rh a_rs a_rc z280 z240 z241 e_fp)), (a_rc, (arI G 400 z281))] hP hD ?_
                                clear hP hD
                                intro hP hD
                                refine g5_ti (v := z279) y282 ?_
                                have hE_283 : lvC z281 z280.toInt.toNat = z240.toInt.toNat := by rw [i_278, lvC_em0 (by omega) (by omega) (opT_20 (by decide +kernel) (by decide +kernel))]; exact hE_269
                                refine W.eq (g2 := F0 m 181 ls [.int z279]) rfl ?_
                                refine lv_pop hx hb dX4_readPlain_181 rfl ?_
                                refine lv_iconst (v := 1) hx hb dX4_readPlain_182 (by decide +kernel) ?_
                                exact W.zret (v := 1) hx hb hr rfl (fun t ht hW => ⟨⟨1, [(a_r, (oc4 a_tk a_rh a_rs a_rc z280 z240 z241 e_fp)), (a_tk, (oc8 a_kd a_nm a_pl)), (a_kd, (arI G 401 f_kd)), (a_nm, (arI G 401 f_nm)), (a_rc, (arI G 400 z281))], rfl, Or.inl (⟨z280, z240, z241, z281, ⟨by omega, by omega⟩, i_233, i_234, i_275, opk_trans i_83 (opk_trans i_236 (opk_trans i_262 (i_276) (by omega)) (by omega)) (by omega), by have f9 := pl_1 hNL (fun q9 => i_11 (hK_9.trans q9)) hd101 (by rw [(hK_102.symm.trans i_226)]; decide) (by omega) (by omega) hd254; have z9 := (i01_c (o := cpM (KDT g_x g_n z88.toInt.toNat)) (l := dd101) (r := dd254) (by rw [(hK_102.symm.trans i_226)]; decide)); have k9 := (show KCC f_rc z267 e_ln.toInt from (by rw [i_264]; exact kcc_tr (kcc_tr hc101 hc254 (by omega)) (kcc_em (by omega)) (by omega))); have m9 := (show MCC z267 e_ln.toInt.toNat z266.toInt.toNat (bS (cpM (KDT g_x g_n z88.toInt.toNat)) dd101 dd254) from (by rw [i_264]; have q9 := hm101.1; have z9 := mcc_bin (o := 8) (by omega) (by omega) (mcc_k hm101 hc254 (by omega)) hm254 ⟨by decide, by decide⟩; rw [show cpM (KDT g_x g_n z88.toInt.toNat) = (8 : Int32).toInt + 18 by rw [(hK_102.symm.trans i_226)]; decide]; exact z9)); rw [nt_1 (by omega)] at f9; exact ⟨_, f9, i01_n z9, by rw [i_278]; exact kcc_tr k9 (kcc_em (by omega)) (by omega), by rw [i_278]; exact mcc_not (by omega) (by omega) m9, hE_283⟩, by omega, rfl, rfl⟩), by rw [ht]; exact hP.sub [3, 0, 1, 2, 4] rfl, hD.sub [3, 0, 1, 2, 4] (by decide +kernel) rfl⟩, hS.F ht⟩) hS.2.2 dX4_readPlain_183
                            ·
                              exact absurd c_256 (by decide +kernel)
                          ·
                            have hJ9 := va_join (wr := []) hP hD [2, 3, 4, 0, 1] [] rfl rfl (by decide +kernel) (by decide +kernel) hk1 hFc hP1 hD1
                            clear hP hD hPc hDc hFc ht hvm hz1 hk1 hP1 hD1
                            obtain ⟨hP, hD⟩ := hJ9
                            refine g5_rs [(a_r, (oc4 a_tk a_rh a_rs a_rc z250 z251 z252 e_fp)), (a_tk, (oc8 a_kd a_nm a_pl)), (a_kd, (arI G 401 f_kd)), (a_nm, (arI G 401 f_nm)), (a_rc, (arI G 400 z253))] hP hD ?_
                            clear hP hD
                            intro hP hD
                            obtain ⟨qq284, hq284⟩ := i_248
                            refine lv_if_ne (tgt := 163) hx hb dX4_readPlain_158 (by decide +kernel) (fun c_285 => ?_) (fun c_285 => ?_)
                            ·
                              exact absurd c_285 (by decide +kernel)
                            ·
                              refine lv_iconst (v := 0) hx hb dX4_readPlain_161 (by decide +kernel) ?_
                              exact W.zret (v := 0) hx hb hr rfl (fun t ht hW => ⟨⟨0, [(a_r, (oc4 a_tk a_rh a_rs a_rc z250 z251 z252 e_fp)), (a_tk, (oc8 a_kd a_nm a_pl)), (a_kd, (arI G 401 f_kd)), (a_nm, (arI G 401 f_nm)), (a_rc, (arI G 400 z253))], rfl, Or.inr (⟨z250, z251, z252, z253, ⟨by omega, by omega⟩, i_244, i_245, i_246, opk_trans i_83 (i_247) (by omega), ⟨_, pl_r0 hNL (fun q9 => i_11 (hK_9.trans q9)) hd101 (by rw [(hK_102.symm.trans i_226)]; decide) (by omega) (by omega) hq284⟩, by omega, rfl, rfl⟩), by rw [ht]; exact hP.sub [0, 1, 2, 3, 4] rfl, hD.sub [0, 1, 2, 3, 4] (by decide +kernel) rfl⟩, hS.F ht⟩) hS.2.2 dX4_readPlain_162
                        ·
                          exact absurd c_230 (by decide +kernel)
                    ·
                      have hJ9 := va_join (wr := [(a_nm, (arI G 401 f_nm)), (a_rc, (arI G 400 z89))]) hP hD [2, 3, 4] [0, 1] rfl rfl (by decide +kernel) (by decide +kernel) hk1 hFc hP1 hD1
                      clear hP hD hPc hDc hFc ht hvm hz1 hk1 hP1 hD1
                      obtain ⟨hP, hD⟩ := hJ9
                      refine g5_rs [(a_nm, (arI G 401 f_nm)), (a_rc, (arI G 400 z89)), (a_r, (oc4 a_tk a_rh a_rs a_rc z86 z87 z88 e_fp)), (a_tk, (oc8 a_kd a_nm a_pl)), (a_kd, (arI G 401 f_kd))] hP hD ?_
                      clear hP hD
                      intro hP hD
                      refine lv_if_eq (tgt := 134) hx hb dX4_readPlain_126 (by decide +kernel) (fun c_286 => ?_) (fun c_286 => ?_)
                      ·
                        refine lv_iconst (v := (-1)) hx hb dX4_readPlain_134 (by decide +kernel) ?_
                        refine lv_istore_n (lv' := [(3, .int (-1)), (2, .int k_u), (0, .ref a_r), (1, .int p_d)]) hx hb dX4_readPlain_135 rfl hl (by decide +kernel) rfl ?_
                        clear hl
                        intro ls hl
                        refine lv_iload_n hx hb dX4_readPlain_136 rfl (lv_at hl 0 rfl) ?_
                        refine lv_iconst (v := (-1)) hx hb dX4_readPlain_137 (by decide +kernel) ?_
                        refine W.eq (g2 := F0 m 138 ls [.int (-1), .int (-1)]) rfl ?_
                        refine lv_icmp_ne (tgt := 143) hx hb dX4_readPlain_138 (by decide +kernel) (fun c_287 => ?_) (fun c_287 => ?_)
                        ·
                          exact absurd c_287 (by decide +kernel)
                        ·
                          refine lv_iconst (v := 0) hx hb dX4_readPlain_141 (by decide +kernel) ?_
                          exact W.zret (v := 0) hx hb hr rfl (fun t ht hW => ⟨⟨0, [(a_r, (oc4 a_tk a_rh a_rs a_rc z86 z87 z88 e_fp)), (a_tk, (oc8 a_kd a_nm a_pl)), (a_kd, (arI G 401 f_kd)), (a_nm, (arI G 401 f_nm)), (a_rc, (arI G 400 z89))], rfl, Or.inr (⟨z86, z87, z88, z89, ⟨by omega, by omega⟩, i_80, i_81, i_82, i_83, ⟨_, pl_c0 hNL (fun q9 => i_11 (hK_9.trans q9)) hd101 (cpM_0 (fun q9 => i_105 (hK_102.trans q9)) (fun q9 => i_166 (hK_102.trans q9)) (fun q9 => i_227 (hK_102.trans q9)))⟩, by omega, rfl, rfl⟩), by rw [ht]; exact hP.sub [2, 3, 4, 0, 1] rfl, hD.sub [2, 3, 4, 0, 1] (by decide +kernel) rfl⟩, hS.F ht⟩) hS.2.2 dX4_readPlain_142
                      ·
                        exact absurd c_286 (by decide +kernel)
                  ·
                    exact absurd c_225 (by decide +kernel)
              ·
                exact absurd c_164 (by decide +kernel)
          ·
            exact absurd c_103 (by decide +kernel)
        ·
          have hJ9 := va_join (wr := []) hP hD [2, 3, 4, 0, 1] [] rfl rfl (by decide +kernel) (by decide +kernel) hk1 hFc hP1 hD1
          clear hP hD hPc hDc hFc ht hvm hz1 hk1 hP1 hD1
          obtain ⟨hP, hD⟩ := hJ9
          refine g5_rs [(a_r, (oc4 a_tk a_rh a_rs a_rc z97 z98 z99 e_fp)), (a_tk, (oc8 a_kd a_nm a_pl)), (a_kd, (arI G 401 f_kd)), (a_nm, (arI G 401 f_nm)), (a_rc, (arI G 400 z100))] hP hD ?_
          clear hP hD
          intro hP hD
          obtain ⟨qq288, hq288⟩ := i_95
          refine lv_if_ne (tgt := 92) hx hb dX4_readPlain_87 (by decide +kernel) (fun c_289 => ?_) (fun c_289 => ?_)
          ·
            exact absurd c_289 (by decide +kernel)
          ·
            refine lv_iconst (v := 0) hx hb dX4_readPlain_90 (by decide +kernel) ?_
            exact W.zret (v := 0) hx hb hr rfl (fun t ht hW => ⟨⟨0, [(a_r, (oc4 a_tk a_rh a_rs a_rc z97 z98 z99 e_fp)), (a_tk, (oc8 a_kd a_nm a_pl)), (a_kd, (arI G 401 f_kd)), (a_nm, (arI G 401 f_nm)), (a_rc, (arI G 400 z100))], rfl, Or.inr (⟨z97, z98, z99, z100, ⟨by omega, by omega⟩, i_91, i_92, i_93, i_94, ⟨_, pl_s0 hNL (fun q9 => i_11 (hK_9.trans q9)) hq288⟩, by omega, rfl, rfl⟩), by rw [ht]; exact hP.sub [0, 1, 2, 3, 4] rfl, hD.sub [0, 1, 2, 3, 4] (by decide +kernel) rfl⟩, hS.F ht⟩) hS.2.2 dX4_readPlain_91
      ·
        exact absurd c_78 (by decide +kernel)
  ·
    have i_8 : k_i.toInt < 400 := g5_geN (a := k_i.toInt) (b := 400) rfl (by decide +kernel) c_8
    have hKk : (f_kd k_at.toNatClampNeg).toInt = KDT g_x g_n k_at.toInt.toNat := tkr_at e_kr (by omega) (by omega)
    refine lv_aload_n hx hb dX4_readPlain_11 rfl (lv_at hl 2 rfl) ?_
    refine lv_sipush (v := 263) hx hb dX4_readPlain_12 (by decide +kernel) ?_
    obtain ⟨hPc, hDc, hFc⟩ := g5_sub3 (wc := [(a_r, (oc4 a_tk a_rh a_rs a_rc e_ln e_pa k_at e_fp)), (a_tk, (oc8 a_kd a_nm a_pl)), (a_kd, (arI G 401 f_kd))]) hP hD hS hA [0, 1, 2] (by decide +kernel) rfl
    refine va_calli (va_runV (As := [.int 263]) (rest := []) ⟨hx, hb, hml, hown, hts⟩ (r_passedX263 l G a_r a_tk a_kd a_rh a_rs a_rc a_nm a_pl H.size e_ln e_pa k_at e_fp f_kd h_e_ln h_e_pa i_3 (by omega)) (cwV 1 hts gV_X4_63 rfl rfl rfl hv_X4_passed ⟨by simp only [headSpec]; omega, by simp only [headSpec]; omega⟩) (g5_preV hPc hK hDc hN hT hS hFc (ci := 4) (q0 := 0) rfl rfl) rfl rfl hl.1 rfl (lv_room (Nat.le_of_ble_eq_true rfl)) dX4_readPlain_15 ⟨Nat.le_of_ble_eq_true rfl, Nat.le_of_ble_eq_true rfl⟩) hS (fun q _ h => hFc q h) hFc (fun r u t H locs ht hvm hw hB hz1 hk1 hS => ?_)
    obtain ⟨hP1, hD1⟩ := hB
    have hP1 := g5_ht ht hP1
    rcases hw with ⟨z293, (i_290 : 0 ≤ z293.toInt ∧ z293.toInt ≤ 401), (i_291 : z293.toInt = k_at.toInt + 1), (i_292 : (f_kd k_at.toNatClampNeg).toInt = 263), rfl, rfl⟩ | ⟨z297, (i_294 : 0 ≤ z297.toInt ∧ z297.toInt ≤ 401), (i_295 : z297.toInt = k_at.toInt), (i_296 : gNe (f_kd k_at.toNatClampNeg).toInt 263), rfl, rfl⟩
    ·
      have hJ9 := va_join (wr := [(a_nm, (arI G 401 f_nm)), (a_rc, (arI G 400 f_rc))]) hP hD [0, 1, 2] [3, 4] rfl rfl (by decide +kernel) (by decide +kernel) hk1 hFc hP1 hD1
      clear hP hD hPc hDc hFc ht hvm hz1 hk1 hP1 hD1
      obtain ⟨hP, hD⟩ := hJ9
      refine g5_rs [(a_nm, (arI G 401 f_nm)), (a_rc, (arI G 400 f_rc)), (a_r, (oc4 a_tk a_rh a_rs a_rc e_ln e_pa z293 e_fp)), (a_tk, (oc8 a_kd a_nm a_pl)), (a_kd, (arI G 401 f_kd))] hP hD ?_
      clear hP hD
      intro hP hD
      have hL_298 : k_at.toInt < (g_T : Int) := tkr_ltI e_kr (by omega) (by omega) i_292 (by decide +kernel)
      refine lv_if_eq (tgt := 37) hx hb dX4_readPlain_18 (by decide +kernel) (fun c_299 => ?_) (fun c_299 => ?_)
      ·
        exact absurd c_299 (by decide +kernel)
      ·
        refine lv_iload_n hx hb dX4_readPlain_21 rfl (lv_at hl 0 rfl) ?_
        refine lv_if_ne (tgt := 29) hx hb dX4_readPlain_22 (by decide +kernel) (fun c_300 => ?_) (fun c_300 => ?_)
        ·
          have n_300 : gNe (k_u.toInt) (0) := g5_ne (a := k_u.toInt) (b := 0) rfl (by decide +kernel) c_300
          have i_300 : k_u.toInt ≥ 1 := by have z := g5_ne (a := k_u.toInt) (b := 0) (by rfl) (by decide +kernel) c_300; omega
          refine lv_iconst (v := 0) hx hb dX4_readPlain_29 (by decide +kernel) ?_
          refine lv_istore_n (lv' := [(2, .int 0), (3, .int k_i), (0, .ref a_r), (1, .int p_d)]) hx hb dX4_readPlain_30 rfl hl (by decide +kernel) rfl ?_
          clear hl
          intro ls hl
          refine lv_iinc (v := (k_i + 1)) (lv' := [(3, .int (k_i + 1)), (2, .int 0), (0, .ref a_r), (1, .int p_d)]) hx hb dX4_readPlain_31 hl (k := 1) rfl rfl (by decide +kernel) rfl ?_
          clear hl
          intro ls hl
          have t_301 : (k_i + 1).toInt = k_i.toInt + 1 := g5_iadd (a := k_i.toInt) (b := 1) rfl (by decide +kernel) (by omega) (by omega)
          refine lv_goto (tgt := 4) hx hb dX4_readPlain_34 (by decide +kernel) ?_
          exact ih_4_7 (0, (k_i + 1), z293) ls H locs (show Int.toNat (400 - (k_i + 1).toInt) < Int.toNat (400 - k_i.toInt) from g_up (show k_i.toInt < (k_i + 1).toInt by omega) (show k_i.toInt < 400 by omega)) ⟨lv_sub hl [1, 0, 2, 3] rfl, hP.sub [2, 3, 4, 0, 1] rfl, hD.sub [2, 3, 4, 0, 1] (by decide +kernel) rfl, hS, ⟨by decide, by decide⟩, ⟨by omega, by omega⟩, i_290, ⟨by omega, by omega⟩, nlc_S i_5 (by omega) (hKk.symm.trans i_292) (by omega) (by omega) (by omega) (by first | exact Or.inl ⟨by omega, by decide⟩ | exact Or.inr ⟨by omega, by decide⟩), by first | omega | (have z0 : (0 : Int32).toInt = 0 := (by decide +kernel); have z1 : (1 : Int32).toInt = 1 := (by decide +kernel); omega)⟩
        ·
          have i_300 : k_u.toInt = 0 := g5_neN (a := k_u.toInt) (b := 0) rfl (by decide +kernel) c_300
          refine lv_iconst (v := 1) hx hb dX4_readPlain_25 (by decide +kernel) ?_
          refine lv_goto (tgt := 30) hx hb dX4_readPlain_26 (by decide +kernel) ?_
          refine lv_istore_n (lv' := [(2, .int 1), (3, .int k_i), (0, .ref a_r), (1, .int p_d)]) hx hb dX4_readPlain_30 rfl hl (by decide +kernel) rfl ?_
          clear hl
          intro ls hl
          refine lv_iinc (v := (k_i + 1)) (lv' := [(3, .int (k_i + 1)), (2, .int 1), (0, .ref a_r), (1, .int p_d)]) hx hb dX4_readPlain_31 hl (k := 1) rfl rfl (by decide +kernel) rfl ?_
          clear hl
          intro ls hl
          have t_302 : (k_i + 1).toInt = k_i.toInt + 1 := g5_iadd (a := k_i.toInt) (b := 1) rfl (by decide +kernel) (by omega) (by omega)
          refine W.eq (g2 := F0 m 34 ls []) rfl ?_
          refine lv_goto (tgt := 4) hx hb dX4_readPlain_34 (by decide +kernel) ?_
          exact ih_4_7 (1, (k_i + 1), z293) ls H locs (show Int.toNat (400 - (k_i + 1).toInt) < Int.toNat (400 - k_i.toInt) from g_up (show k_i.toInt < (k_i + 1).toInt by omega) (show k_i.toInt < 400 by omega)) ⟨lv_sub hl [1, 0, 2, 3] rfl, hP.sub [2, 3, 4, 0, 1] rfl, hD.sub [2, 3, 4, 0, 1] (by decide +kernel) rfl, hS, ⟨by decide, by decide⟩, ⟨by omega, by omega⟩, i_290, ⟨by omega, by omega⟩, nlc_S i_5 (by omega) (hKk.symm.trans i_292) (by omega) (by omega) (by omega) (by first | exact Or.inl ⟨by omega, by decide⟩ | exact Or.inr ⟨by omega, by decide⟩), by first | omega | (have z0 : (0 : Int32).toInt = 0 := (by decide +kernel); have z1 : (1 : Int32).toInt = 1 := (by decide +kernel); omega)⟩
    ·
      have hJ9 := va_join (wr := [(a_nm, (arI G 401 f_nm)), (a_rc, (arI G 400 f_rc))]) hP hD [0, 1, 2] [3, 4] rfl rfl (by decide +kernel) (by decide +kernel) hk1 hFc hP1 hD1
      clear hP hD hPc hDc hFc ht hvm hz1 hk1 hP1 hD1
      obtain ⟨hP, hD⟩ := hJ9
      refine g5_rs [(a_nm, (arI G 401 f_nm)), (a_rc, (arI G 400 f_rc)), (a_r, (oc4 a_tk a_rh a_rs a_rc e_ln e_pa z297 e_fp)), (a_tk, (oc8 a_kd a_nm a_pl)), (a_kd, (arI G 401 f_kd))] hP hD ?_
      clear hP hD
      intro hP hD
      refine lv_if_eq (tgt := 37) hx hb dX4_readPlain_18 (by decide +kernel) (fun c_303 => ?_) (fun c_303 => ?_)
      ·
        have hNL : notL (KDT g_x g_n) 400 e_at.toInt.toNat false = (z297.toInt.toNat, decide (k_u.toInt = 1)) := nlc_E i_5 (by omega) (Or.inr (fun q9 => i_296 (hKk.trans q9))) (by omega)
        have hK_304 : (f_kd z297.toNatClampNeg).toInt = KDT g_x g_n z297.toInt.toNat := tkr_at e_kr (by omega) (by omega)
        refine lv_aload_n hx hb dX4_readPlain_37 rfl (lv_at hl 2 rfl) ?_
        refine lv_bipush (v := 40) hx hb dX4_readPlain_38 (by decide +kernel) ?_
        obtain ⟨hPc, hDc, hFc⟩ := g5_sub3 (wc := [(a_r, (oc4 a_tk a_rh a_rs a_rc e_ln e_pa z297 e_fp)), (a_tk, (oc8 a_kd a_nm a_pl)), (a_kd, (arI G 401 f_kd))]) hP hD hS hA [2, 3, 4] (by decide +kernel) rfl
        refine va_calli (va_runV (As := [.int 40]) (rest := []) ⟨hx, hb, hml, hown, hts⟩ (r_isNextX40 l G a_r a_tk a_kd a_rh a_rs a_rc a_nm a_pl H.size e_ln e_pa z297 e_fp f_kd h_e_ln h_e_pa i_294 (by omega)) (cwV 1 hts gV_X4_49 rfl rfl rfl hv_X4_isNext ⟨by simp only [headSpec]; omega, by simp only [headSpec]; omega⟩) (g5_preV hPc hK hDc hN hT hS hFc (ci := 4) (q0 := 0) rfl rfl) rfl rfl hl.1 rfl (lv_room (Nat.le_of_ble_eq_true rfl)) dX4_readPlain_40 ⟨Nat.le_of_ble_eq_true rfl, Nat.le_of_ble_eq_true rfl⟩) hS (fun q _ h => hFc q h) hFc (fun r u t H locs ht hvm hw hB hz1 hk1 hS => ?_)
        obtain ⟨hP1, hD1⟩ := hB
        have hP1 := g5_ht ht hP1
        rcases hw with ⟨(i_305 : (f_kd z297.toNatClampNeg).toInt = 40), rfl, rfl⟩ | ⟨(i_306 : gNe (f_kd z297.toNatClampNeg).toInt 40), rfl, rfl⟩
        ·
          have hJ9 := va_join (wr := [(a_nm, (arI G 401 f_nm)), (a_rc, (arI G 400 f_rc))]) hP hD [2, 3, 4] [0, 1] rfl rfl (by decide +kernel) (by decide +kernel) hk1 hFc hP1 hD1
          clear hP hD hPc hDc hFc ht hvm hz1 hk1 hP1 hD1
          obtain ⟨hP, hD⟩ := hJ9
          refine g5_rs [(a_nm, (arI G 401 f_nm)), (a_rc, (arI G 400 f_rc)), (a_r, (oc4 a_tk a_rh a_rs a_rc e_ln e_pa z297 e_fp)), (a_tk, (oc8 a_kd a_nm a_pl)), (a_kd, (arI G 401 f_kd))] hP hD ?_
          clear hP hD
          intro hP hD
          refine lv_if_eq (tgt := 82) hx hb dX4_readPlain_43 (by decide +kernel) (fun c_307 => ?_) (fun c_307 => ?_)
          ·
            exact absurd c_307 (by decide +kernel)
          ·
            refine lv_iload_n hx hb dX4_readPlain_46 rfl (lv_at hl 3 rfl) ?_
            refine lv_bipush (v := 8) hx hb dX4_readPlain_47 (by decide +kernel) ?_
            refine lv_icmp_ge (tgt := 80) hx hb dX4_readPlain_49 (by decide +kernel) (fun c_308 => ?_) (fun c_308 => ?_)
            ·
              have i_308 : p_d.toInt ≥ 8 := g5_ge (a := p_d.toInt) (b := 8) rfl (by decide +kernel) c_308
              refine lv_iconst (v := 0) hx hb dX4_readPlain_80 (by decide +kernel) ?_
              exact W.zret (v := 0) hx hb hr rfl (fun t ht hW => ⟨⟨0, [(a_r, (oc4 a_tk a_rh a_rs a_rc e_ln e_pa z297 e_fp)), (a_tk, (oc8 a_kd a_nm a_pl)), (a_kd, (arI G 401 f_kd)), (a_nm, (arI G 401 f_nm)), (a_rc, (arI G 400 f_rc))], rfl, Or.inr (⟨e_ln, e_pa, z297, f_rc, ⟨by omega, by omega⟩, i_294, h_e_pa, e_cd, opk_refl, ⟨_, pl_deep hNL (hK_304.symm.trans i_305) (by omega)⟩, by omega, rfl, rfl⟩), by rw [ht]; exact hP.sub [2, 3, 4, 0, 1] rfl, hD.sub [2, 3, 4, 0, 1] (by decide +kernel) rfl⟩, hS.F ht⟩) hS.2.2 dX4_readPlain_81
            ·
              have i_308 : p_d.toInt < 8 := g5_geN (a := p_d.toInt) (b := 8) rfl (by decide +kernel) c_308
              refine lv_aload_n hx hb dX4_readPlain_52 rfl (lv_at hl 2 rfl) ?_
              refine lv_bipush (v := 40) hx hb dX4_readPlain_53 (by decide +kernel) ?_
              obtain ⟨hPc, hDc, hFc⟩ := g5_sub3 (wc := [(a_r, (oc4 a_tk a_rh a_rs a_rc e_ln e_pa z297 e_fp)), (a_tk, (oc8 a_kd a_nm a_pl)), (a_kd, (arI G 401 f_kd))]) hP hD hS hA [2, 3, 4] (by decide +kernel) rfl
              refine va_calli (va_runV (As := [.int 40]) (rest := []) ⟨hx, hb, hml, hown, hts⟩ (r_passedX40 l G a_r a_tk a_kd a_rh a_rs a_rc a_nm a_pl H.size e_ln e_pa z297 e_fp f_kd h_e_ln h_e_pa i_294 (by omega)) (cwV 1 hts gV_X4_63 rfl rfl rfl hv_X4_passed ⟨by simp only [headSpec]; omega, by simp only [headSpec]; omega⟩) (g5_preV hPc hK hDc hN hT hS hFc (ci := 4) (q0 := 0) rfl rfl) rfl rfl hl.1 rfl (lv_room (Nat.le_of_ble_eq_true rfl)) dX4_readPlain_55 ⟨Nat.le_of_ble_eq_true rfl, Nat.le_of_ble_eq_true rfl⟩) hS (fun q _ h => hFc q h) hFc (fun r u t H locs ht hvm hw hB hz1 hk1 hS => ?_)
              obtain ⟨hP1, hD1⟩ := hB
              have hP1 := g5_ht ht hP1
              rcases hw with ⟨z312, (i_309 : 0 ≤ z312.toInt ∧ z312.toInt ≤ 401), (i_310 : z312.toInt = z297.toInt + 1), (i_311 : (f_kd z297.toNatClampNeg).toInt = 40), rfl, rfl⟩ | ⟨z316, (i_313 : 0 ≤ z316.toInt ∧ z316.toInt ≤ 401), (i_314 : z316.toInt = z297.toInt), (i_315 : gNe (f_kd z297.toNatClampNeg).toInt 40), rfl, rfl⟩
              ·
                have hJ9 := va_join (wr := [(a_nm, (arI G 401 f_nm)), (a_rc, (arI G 400 f_rc))]) hP hD [2, 3, 4] [0, 1] rfl rfl (by decide +kernel) (by decide +kernel) hk1 hFc hP1 hD1
                clear hP hD hPc hDc hFc ht hvm hz1 hk1 hP1 hD1
                obtain ⟨hP, hD⟩ := hJ9
                refine g5_rs [(a_nm, (arI G 401 f_nm)), (a_rc, (arI G 400 f_rc)), (a_r, (oc4 a_tk a_rh a_rs a_rc e_ln e_pa z312 e_fp)), (a_tk, (oc8 a_kd a_nm a_pl)), (a_kd, (arI G 401 f_kd))] hP hD ?_
                clear hP hD
                intro hP hD
                have hL_317 : z297.toInt < (g_T : Int) := tkr_ltI e_kr (by omega) (by omega) i_311 (by decide +kernel)
                refine lv_if_eq (tgt := 80) hx hb dX4_readPlain_58 (by decide +kernel) (fun c_318 => ?_) (fun c_318 => ?_)
                ·
                  exact absurd c_318 (by decide +kernel)
                ·
                  refine lv_aload_n hx hb dX4_readPlain_61 rfl (lv_at hl 2 rfl) ?_
                  refine lv_iload_n hx hb dX4_readPlain_62 rfl (lv_at hl 3 rfl) ?_
                  refine lv_iconst (v := 1) hx hb dX4_readPlain_63 (by decide +kernel) ?_
                  refine lv_iadd hx hb dX4_readPlain_64 ?_
                  have t_319 : (p_d + 1).toInt = p_d.toInt + 1 := g5_iadd (a := p_d.toInt) (b := 1) (by rfl) (by decide +kernel) (by omega) (by omega)
                  refine W.eq (g2 := F0 m 65 ls [.int (p_d + 1), .ref a_r]) rfl ?_
                  obtain ⟨hPc, hDc, hFc⟩ := g5_sub3 (wc := [(a_r, (oc4 a_tk a_rh a_rs a_rc e_ln e_pa z312 e_fp)), (a_tk, (oc8 a_kd a_nm a_pl)), (a_kd, (arI G 401 f_kd)), (a_nm, (arI G 401 f_nm)), (a_rc, (arI G 400 f_rc))]) hP hD hS hA [2, 3, 4, 0, 1] (by decide +kernel) rfl
                  refine va_calli (va_runV (As := [.int (p_d + 1)]) (rest := []) ⟨hx, hb, hml, hown, hts⟩ ((h_test (p_d + 1) (by omega) (by omega)) l G a_r a_tk a_kd a_nm a_rc a_rh a_rs a_pl H.size e_ln e_pa z312 e_fp f_kd f_nm f_rc g_x g_n g_T h_e_ln h_e_pa i_309 (e_tk) (e_cd) (e_by) (e_kr) (by omega) (by omega) (e_lv)) (cwV 1 hts gV_X4_76 rfl rfl rfl hv_X4_readTest ⟨by simp only [headSpec]; omega, by simp only [headSpec]; omega⟩) (g5_preV hPc hK hDc hN hT hS hFc (ci := 4) (q0 := 0) rfl rfl) rfl rfl hl.1 rfl (lv_room (Nat.le_of_ble_eq_true rfl)) dX4_readPlain_65 ⟨Nat.le_of_ble_eq_true rfl, Nat.le_of_ble_eq_true rfl⟩) hS (fun q _ h => hFc q h) hFc (fun r u t H locs ht hvm hw hB hz1 hk1 hS => ?_)
                  obtain ⟨hP1, hD1⟩ := hB
                  have hP1 := g5_ht ht hP1
                  rcases hw with ⟨z327, z328, z329, z330, (i_320 : e_ln.toInt ≤ z327.toInt ∧ z327.toInt ≤ 400), (i_321 : 0 ≤ z329.toInt ∧ z329.toInt ≤ 401), (i_322 : 0 ≤ z328.toInt ∧ z328.toInt ≤ 50), (i_323 : CDI z330 z327.toInt), (i_324 : OPK f_rc z330 e_ln.toInt), (i_325 : ∃ d : DS, (tsF (KDT g_x g_n) (NMT g_x g_n) (p_d + 1)) z312.toInt.toNat e_pa.toInt.toNat = (z329.toInt.toNat, z328.toInt.toNat, some d) ∧ is01 d ∧ KCC f_rc z330 e_ln.toInt ∧ MCC z330 e_ln.toInt.toNat z327.toInt.toNat d ∧ lvC z330 z327.toInt.toNat = z328.toInt.toNat), (i_326 : z329.toInt ≤ (g_T : Int) ∧ z312.toInt < z329.toInt ∧ z327.toInt + z312.toInt ≤ e_ln.toInt + z329.toInt), rfl, rfl⟩ | ⟨z338, z339, z340, z341, (i_331 : e_ln.toInt ≤ z338.toInt ∧ z338.toInt ≤ 400), (i_332 : 0 ≤ z340.toInt ∧ z340.toInt ≤ 401), (i_333 : 0 ≤ z339.toInt ∧ z339.toInt ≤ 50), (i_334 : CDI z341 z338.toInt), (i_335 : OPK f_rc z341 e_ln.toInt), (i_336 : ∃ q : Nat, (tsF (KDT g_x g_n) (NMT g_x g_n) (p_d + 1)) z312.toInt.toNat e_pa.toInt.toNat = (z340.toInt.toNat, q, none)), (i_337 : z340.toInt ≤ (g_T : Int)), rfl, rfl⟩
                  ·
                    have hJ9 := va_join (wr := []) hP hD [2, 3, 4, 0, 1] [] rfl rfl (by decide +kernel) (by decide +kernel) hk1 hFc hP1 hD1
                    clear hP hD hPc hDc hFc ht hvm hz1 hk1 hP1 hD1
                    obtain ⟨hP, hD⟩ := hJ9
                    refine g5_rs [(a_r, (oc4 a_tk a_rh a_rs a_rc z327 z328 z329 e_fp)), (a_tk, (oc8 a_kd a_nm a_pl)), (a_kd, (arI G 401 f_kd)), (a_nm, (arI G 401 f_nm)), (a_rc, (arI G 400 z330))] hP hD ?_
                    clear hP hD
                    intro hP hD
                    obtain ⟨dd342, hd342, hz342, hc342, hm342, hv342⟩ := i_325
                    have hK_343 : (f_kd z329.toNatClampNeg).toInt = KDT g_x g_n z329.toInt.toNat := tkr_at e_kr (by omega) (by omega)
                    refine lv_if_eq (tgt := 80) hx hb dX4_readPlain_68 (by decide +kernel) (fun c_344 => ?_) (fun c_344 => ?_)
                    ·
                      exact absurd c_344 (by decide +kernel)
                    ·
                      refine lv_aload_n hx hb dX4_readPlain_71 rfl (lv_at hl 2 rfl) ?_
                      refine lv_bipush (v := 41) hx hb dX4_readPlain_72 (by decide +kernel) ?_
                      obtain ⟨hPc, hDc, hFc⟩ := g5_sub3 (wc := [(a_r, (oc4 a_tk a_rh a_rs a_rc z327 z328 z329 e_fp)), (a_tk, (oc8 a_kd a_nm a_pl)), (a_kd, (arI G 401 f_kd))]) hP hD hS hA [0, 1, 2] (by decide +kernel) rfl
                      refine va_calli (va_runV (As := [.int 41]) (rest := []) ⟨hx, hb, hml, hown, hts⟩ (r_passedX41 l G a_r a_tk a_kd a_rh a_rs a_rc a_nm a_pl H.size z327 z328 z329 e_fp f_kd ⟨by omega, by omega⟩ i_322 i_321 (by omega)) (cwV 1 hts gV_X4_63 rfl rfl rfl hv_X4_passed ⟨by simp only [headSpec]; omega, by simp only [headSpec]; omega⟩) (g5_preV hPc hK hDc hN hT hS hFc (ci := 4) (q0 := 0) rfl rfl) rfl rfl hl.1 rfl (lv_room (Nat.le_of_ble_eq_true rfl)) dX4_readPlain_74 ⟨Nat.le_of_ble_eq_true rfl, Nat.le_of_ble_eq_true rfl⟩) hS (fun q _ h => hFc q h) hFc (fun r u t H locs ht hvm hw hB hz1 hk1 hS => ?_)
                      obtain ⟨hP1, hD1⟩ := hB
                      have hP1 := g5_ht ht hP1
                      rcases hw with ⟨z348, (i_345 : 0 ≤ z348.toInt ∧ z348.toInt ≤ 401), (i_346 : z348.toInt = z329.toInt + 1), (i_347 : (f_kd z329.toNatClampNeg).toInt = 41), rfl, rfl⟩ | ⟨z352, (i_349 : 0 ≤ z352.toInt ∧ z352.toInt ≤ 401), (i_350 : z352.toInt = z329.toInt), (i_351 : gNe (f_kd z329.toNatClampNeg).toInt 41), rfl, rfl⟩
                      ·
                        have hJ9 := va_join (wr := [(a_nm, (arI G 401 f_nm)), (a_rc, (arI G 400 z330))]) hP hD [0, 1, 2] [3, 4] rfl rfl (by decide +kernel) (by decide +kernel) hk1 hFc hP1 hD1
                        clear hP hD hPc hDc hFc ht hvm hz1 hk1 hP1 hD1
                        obtain ⟨hP, hD⟩ := hJ9
                        refine g5_rs [(a_nm, (arI G 401 f_nm)), (a_rc, (arI G 400 z330)), (a_r, (oc4 a_tk a_rh a_rs a_rc z327 z328 z348 e_fp)), (a_tk, (oc8 a_kd a_nm a_pl)), (a_kd, (arI G 401 f_kd))] hP hD ?_
                        clear hP hD
                        intro hP hD
                        have hL_353 : z329.toInt < (g_T : Int) := tkr_ltI e_kr (by omega) (by omega) i_347 (by decide +kernel)
                        refine lv_if_ne (tgt := 170) hx hb dX4_readPlain_77 (by decide +kernel) (fun c_354 => ?_) (fun c_354 => ?_)
                        ·
                          refine lv_iload_n hx hb dX4_readPlain_170 rfl (lv_at hl 0 rfl) ?_
                          refine lv_if_eq (tgt := 182) hx hb dX4_readPlain_171 (by decide +kernel) (fun c_355 => ?_) (fun c_355 => ?_)
                          ·
                            have i_355 : k_u.toInt = 0 := g5_eq (a := k_u.toInt) (b := 0) rfl (by decide +kernel) c_355
                            refine lv_iconst (v := 1) hx hb dX4_readPlain_182 (by decide +kernel) ?_
                            exact W.zret (v := 1) hx hb hr rfl (fun t ht hW => ⟨⟨1, [(a_r, (oc4 a_tk a_rh a_rs a_rc z327 z328 z348 e_fp)), (a_tk, (oc8 a_kd a_nm a_pl)), (a_kd, (arI G 401 f_kd)), (a_nm, (arI G 401 f_nm)), (a_rc, (arI G 400 z330))], rfl, Or.inl (⟨z327, z328, z348, z330, ⟨by omega, by omega⟩, i_345, i_322, i_323, i_324, by have f9 := pl_in1 hNL (hK_304.symm.trans i_311) h_p_d.1 (by omega) (by omega) (by omega) (by omega) hd342 (hK_343.symm.trans i_347) (by omega) (by omega); rw [nt_0 (by omega)] at f9; exact ⟨_, f9, hz342, hc342, hm342, hv342⟩, by omega, rfl, rfl⟩), by rw [ht]; exact hP.sub [2, 3, 4, 0, 1] rfl, hD.sub [2, 3, 4, 0, 1] (by decide +kernel) rfl⟩, hS.F ht⟩) hS.2.2 dX4_readPlain_183
                          ·
                            have n_355 : gNe (k_u.toInt) (0) := g5_eqN (a := k_u.toInt) (b := 0) rfl (by decide +kernel) c_355
                            have i_355 : k_u.toInt ≥ 1 := by have z := g5_eqN (a := k_u.toInt) (b := 0) (by rfl) (by decide +kernel) c_355; omega
                            refine lv_aload_n hx hb dX4_readPlain_174 rfl (lv_at hl 2 rfl) ?_
                            refine lv_bipush (v := 9) hx hb dX4_readPlain_175 (by decide +kernel) ?_
                            refine lv_iconst (v := 0) hx hb dX4_readPlain_177 (by decide +kernel) ?_
                            obtain ⟨hPc, hDc, hFc⟩ := g5_sub3 (wc := [(a_r, (oc4 a_tk a_rh a_rs a_rc z327 z328 z348 e_fp)), (a_rc, (arI G 400 z330))]) hP hD hS hA [2, 1] (by decide +kernel) rfl
                            refine va_calli (va_runV (As := [.int 9, .int 0]) (rest := []) ⟨hx, hb, hml, hown, hts⟩ (r_emitX l G a_r a_rc a_tk a_rh a_rs H.size z327 z328 z348 e_fp 9 0 z330 ⟨by omega, by omega⟩ i_322 i_345 (i_323) (by unfold wOK; decide) (by omega)) (cwV 2 hts gV_X4_79 rfl rfl rfl hv_X4_emit ⟨by simp only [headSpec]; omega, by simp only [headSpec]; omega⟩) (g5_preV hPc hK hDc hN hT hS hFc (ci := 4) (q0 := 0) rfl rfl) rfl rfl hl.1 rfl (lv_room (Nat.le_of_ble_eq_true rfl)) dX4_readPlain_178 ⟨Nat.le_of_ble_eq_true rfl, Nat.le_of_ble_eq_true rfl⟩) hS (fun q _ h => hFc q h) hFc (fun r u t H locs ht hvm hw hB hz1 hk1 hS => ?_)
                            obtain ⟨hP1, hD1⟩ := hB
                            have hP1 := g5_ht ht hP1
                            obtain ⟨z364, z365, z366, (i_356 : 0 ≤ z364.toInt ∧ z364.toInt ≤ 399), (i_357 : z364.toInt = z327.toInt), (i_358 : z365.toInt = z327.toInt + 1), (i_359 : z327.toInt ≤ z365.toInt ∧ z365.toInt ≤ 400), (i_360 : CDI z366 z365.toInt), (i_361 : OPK z330 z366 z327.toInt), (i_362 : 0 ≤ z364.toInt → z364.toInt < z365.toInt ∧ z366 z364.toNatClampNeg = (((9 : Int32) <<< (12 &&& 31)) ||| (0 : Int32))), (i_363 : z366 = upd z330 z327.toNatClampNeg (((9 : Int32) <<< (12 &&& 31)) ||| (0 : Int32))), y367, rfl⟩ := hw
                            have hJ9 := va_join (wr := [(a_nm, (arI G 401 f_nm)), (a_tk, (oc8 a_kd a_nm a_pl)), (a_kd, (arI G 401 f_kd))]) hP hD [2, 1] [0, 3, 4] rfl rfl (by decide +kernel) (by decide +kernel) hk1 hFc hP1 hD1
                            clear hP hD hPc hDc hFc ht hvm hz1 hk1 hP1 hD1
                            obtain ⟨hP, hD⟩ := hJ9
                            refine g5_rs [(a_nm, (arI G 401 f_nm)), (a_tk, (oc8 a_kd a_nm a_pl)), (a_kd, (arI G 401 f_kd)), (a_r, (oc4 a_tk a_rh a_rs a_rc z365 z328 z348 e_fp)), (a_rc, (arI G 400 z366))] hP hD ?_
                            clear hP hD
                            intro hP hD
                            refine g5_ti (v := z364) y367 ?_
                            have hE_368 : lvC z366 z365.toInt.toNat = z328.toInt.toNat := by rw [i_363, lvC_em0 (by omega) (by omega) (opT_20 (by decide +kernel) (by decide +kernel))]; exact hv342
                            refine W.eq (g2 := F0 m 181 ls [.int z364]) rfl ?_
                            refine lv_pop hx hb dX4_readPlain_181 rfl ?_
                            refine lv_iconst (v := 1) hx hb dX4_readPlain_182 (by decide +kernel) ?_
                            exact W.zret (v := 1) hx hb hr rfl (fun t ht hW => ⟨⟨1, [(a_r, (oc4 a_tk a_rh a_rs a_rc z365 z328 z348 e_fp)), (a_tk, (oc8 a_kd a_nm a_pl)), (a_kd, (arI G 401 f_kd)), (a_nm, (arI G 401 f_nm)), (a_rc, (arI G 400 z366))], rfl, Or.inl (⟨z365, z328, z348, z366, ⟨by omega, by omega⟩, i_345, i_322, i_360, opk_trans i_324 (i_361) (by omega), by have f9 := pl_in1 hNL (hK_304.symm.trans i_311) h_p_d.1 (by omega) (by omega) (by omega) (by omega) hd342 (hK_343.symm.trans i_347) (by omega) (by omega); have z9 := hz342; have k9 := (show KCC f_rc z330 e_ln.toInt from hc342); have m9 := (show MCC z330 e_ln.toInt.toNat z327.toInt.toNat dd342 from hm342); rw [nt_1 (by omega)] at f9; exact ⟨_, f9, i01_n z9, by rw [i_363]; exact kcc_tr k9 (kcc_em (by omega)) (by omega), by rw [i_363]; exact mcc_not (by omega) (by omega) m9, hE_368⟩, by omega, rfl, rfl⟩), by rw [ht]; exact hP.sub [3, 1, 2, 0, 4] rfl, hD.sub [3, 1, 2, 0, 4] (by decide +kernel) rfl⟩, hS.F ht⟩) hS.2.2 dX4_readPlain_183
                        ·
                          exact absurd c_354 (by decide +kernel)
                      ·
                        have hJ9 := va_join (wr := [(a_nm, (arI G 401 f_nm)), (a_rc, (arI G 400 z330))]) hP hD [0, 1, 2] [3, 4] rfl rfl (by decide +kernel) (by decide +kernel) hk1 hFc hP1 hD1
                        clear hP hD hPc hDc hFc ht hvm hz1 hk1 hP1 hD1
                        obtain ⟨hP, hD⟩ := hJ9
                        refine g5_rs [(a_nm, (arI G 401 f_nm)), (a_rc, (arI G 400 z330)), (a_r, (oc4 a_tk a_rh a_rs a_rc z327 z328 z352 e_fp)), (a_tk, (oc8 a_kd a_nm a_pl)), (a_kd, (arI G 401 f_kd))] hP hD ?_
                        clear hP hD
                        intro hP hD
                        refine lv_if_ne (tgt := 170) hx hb dX4_readPlain_77 (by decide +kernel) (fun c_369 => ?_) (fun c_369 => ?_)
                        ·
                          exact absurd c_369 (by decide +kernel)
                        ·
                          refine lv_iconst (v := 0) hx hb dX4_readPlain_80 (by decide +kernel) ?_
                          exact W.zret (v := 0) hx hb hr rfl (fun t ht hW => ⟨⟨0, [(a_r, (oc4 a_tk a_rh a_rs a_rc z327 z328 z352 e_fp)), (a_tk, (oc8 a_kd a_nm a_pl)), (a_kd, (arI G 401 f_kd)), (a_nm, (arI G 401 f_nm)), (a_rc, (arI G 400 z330))], rfl, Or.inr (⟨z327, z328, z352, z330, ⟨by omega, by omega⟩, i_349, i_322, i_323, i_324, ⟨_, pl_inB hNL (hK_304.symm.trans i_311) h_p_d.1 (by omega) (by omega) (by omega) (by omega) hd342 (fun q9 => i_351 (hK_343.trans q9)) (by omega)⟩, by omega, rfl, rfl⟩), by rw [ht]; exact hP.sub [2, 3, 4, 0, 1] rfl, hD.sub [2, 3, 4, 0, 1] (by decide +kernel) rfl⟩, hS.F ht⟩) hS.2.2 dX4_readPlain_81
                  ·
                    have hJ9 := va_join (wr := []) hP hD [2, 3, 4, 0, 1] [] rfl rfl (by decide +kernel) (by decide +kernel) hk1 hFc hP1 hD1
                    clear hP hD hPc hDc hFc ht hvm hz1 hk1 hP1 hD1
                    obtain ⟨hP, hD⟩ := hJ9
                    refine g5_rs [(a_r, (oc4 a_tk a_rh a_rs a_rc z338 z339 z340 e_fp)), (a_tk, (oc8 a_kd a_nm a_pl)), (a_kd, (arI G 401 f_kd)), (a_nm, (arI G 401 f_nm)), (a_rc, (arI G 400 z341))] hP hD ?_
                    clear hP hD
                    intro hP hD
                    obtain ⟨qq370, hq370⟩ := i_336
                    refine lv_if_eq (tgt := 80) hx hb dX4_readPlain_68 (by decide +kernel) (fun c_371 => ?_) (fun c_371 => ?_)
                    ·
                      refine lv_iconst (v := 0) hx hb dX4_readPlain_80 (by decide +kernel) ?_
                      exact W.zret (v := 0) hx hb hr rfl (fun t ht hW => ⟨⟨0, [(a_r, (oc4 a_tk a_rh a_rs a_rc z338 z339 z340 e_fp)), (a_tk, (oc8 a_kd a_nm a_pl)), (a_kd, (arI G 401 f_kd)), (a_nm, (arI G 401 f_nm)), (a_rc, (arI G 400 z341))], rfl, Or.inr (⟨z338, z339, z340, z341, ⟨by omega, by omega⟩, i_332, i_333, i_334, i_335, ⟨qq370, pl_in0 hNL (hK_304.symm.trans i_311) h_p_d.1 (by omega) (by omega) (by omega) (by omega) hq370⟩, by omega, rfl, rfl⟩), by rw [ht]; exact hP.sub [0, 1, 2, 3, 4] rfl, hD.sub [0, 1, 2, 3, 4] (by decide +kernel) rfl⟩, hS.F ht⟩) hS.2.2 dX4_readPlain_81
                    ·
                      exact absurd c_371 (by decide +kernel)
              ·
                have hJ9 := va_join (wr := [(a_nm, (arI G 401 f_nm)), (a_rc, (arI G 400 f_rc))]) hP hD [2, 3, 4] [0, 1] rfl rfl (by decide +kernel) (by decide +kernel) hk1 hFc hP1 hD1
                clear hP hD hPc hDc hFc ht hvm hz1 hk1 hP1 hD1
                obtain ⟨hP, hD⟩ := hJ9
                refine g5_rs [(a_nm, (arI G 401 f_nm)), (a_rc, (arI G 400 f_rc)), (a_r, (oc4 a_tk a_rh a_rs a_rc e_ln e_pa z316 e_fp)), (a_tk, (oc8 a_kd a_nm a_pl)), (a_kd, (arI G 401 f_kd))] hP hD ?_
                clear hP hD
                intro hP hD
                refine lv_if_eq (tgt := 80) hx hb dX4_readPlain_58 (by decide +kernel) (fun c_372 => ?_) (fun c_372 => ?_)
                ·
                  refine lv_iconst (v := 0) hx hb dX4_readPlain_80 (by decide +kernel) ?_
                  exact W.zret (v := 0) hx hb hr rfl (fun t ht hW => ⟨⟨0, [(a_r, (oc4 a_tk a_rh a_rs a_rc e_ln e_pa z316 e_fp)), (a_tk, (oc8 a_kd a_nm a_pl)), (a_kd, (arI G 401 f_kd)), (a_nm, (arI G 401 f_nm)), (a_rc, (arI G 400 f_rc))], rfl, Or.inr (⟨e_ln, e_pa, z316, f_rc, ⟨by omega, by omega⟩, i_313, h_e_pa, e_cd, opk_refl, absurd i_305 i_315, by omega, rfl, rfl⟩), by rw [ht]; exact hP.sub [2, 3, 4, 0, 1] rfl, hD.sub [2, 3, 4, 0, 1] (by decide +kernel) rfl⟩, hS.F ht⟩) hS.2.2 dX4_readPlain_81
                ·
                  exact absurd c_372 (by decide +kernel)
        ·
          have hJ9 := va_join (wr := [(a_nm, (arI G 401 f_nm)), (a_rc, (arI G 400 f_rc))]) hP hD [2, 3, 4] [0, 1] rfl rfl (by decide +kernel) (by decide +kernel) hk1 hFc hP1 hD1
          clear hP hD hPc hDc hFc ht hvm hz1 hk1 hP1 hD1
          obtain ⟨hP, hD⟩ := hJ9
          refine g5_rs [(a_nm, (arI G 401 f_nm)), (a_rc, (arI G 400 f_rc)), (a_r, (oc4 a_tk a_rh a_rs a_rc e_ln e_pa z297 e_fp)), (a_tk, (oc8 a_kd a_nm a_pl)), (a_kd, (arI G 401 f_kd))] hP hD ?_
          clear hP hD
          intro hP hD
          refine lv_if_eq (tgt := 82) hx hb dX4_readPlain_43 (by decide +kernel) (fun c_373 => ?_) (fun c_373 => ?_)
          ·
            refine lv_aload_n hx hb dX4_readPlain_82 rfl (lv_at hl 2 rfl) ?_
            refine lv_iload_n hx hb dX4_readPlain_83 rfl (lv_at hl 3 rfl) ?_
            obtain ⟨hPc, hDc, hFc⟩ := g5_sub3 (wc := [(a_r, (oc4 a_tk a_rh a_rs a_rc e_ln e_pa z297 e_fp)), (a_tk, (oc8 a_kd a_nm a_pl)), (a_kd, (arI G 401 f_kd)), (a_nm, (arI G 401 f_nm)), (a_rc, (arI G 400 f_rc))]) hP hD hS hA [2, 3, 4, 0, 1] (by decide +kernel) rfl
            refine va_calli (va_runV (As := [.int p_d]) (rest := []) ⟨hx, hb, hml, hown, hts⟩ ((r_sumX fr lo p_d h_p_d h_sum) l G a_r a_tk a_kd a_nm a_rc a_rh a_rs a_pl H.size e_ln e_pa z297 e_fp f_kd f_nm f_rc g_x g_n g_T h_e_ln h_e_pa i_294 (e_tk) (e_cd) (e_by) (e_kr) (by omega) (by omega) (e_lv)) (cwV 1 hts gV_X4_73 rfl rfl rfl hv_X4_readSum ⟨by simp only [headSpec]; omega, by simp only [headSpec]; omega⟩) (g5_preV hPc hK hDc hN hT hS hFc (ci := 4) (q0 := 0) rfl rfl) rfl rfl hl.1 rfl (lv_room (Nat.le_of_ble_eq_true rfl)) dX4_readPlain_84 ⟨Nat.le_of_ble_eq_true rfl, Nat.le_of_ble_eq_true rfl⟩) hS (fun q _ h => hFc q h) hFc (fun r u t H locs ht hvm hw hB hz1 hk1 hS => ?_)
            obtain ⟨hP1, hD1⟩ := hB
            have hP1 := g5_ht ht hP1
            rcases hw with ⟨z381, z382, z383, z384, (i_374 : e_ln.toInt ≤ z381.toInt ∧ z381.toInt ≤ 400), (i_375 : 0 ≤ z383.toInt ∧ z383.toInt ≤ 401), (i_376 : 0 ≤ z382.toInt ∧ z382.toInt ≤ 50), (i_377 : CDI z384 z381.toInt), (i_378 : OPK f_rc z384 e_ln.toInt), (i_379 : ∃ d : DS, (smF (KDT g_x g_n) (NMT g_x g_n) p_d) z297.toInt.toNat e_pa.toInt.toNat = (z383.toInt.toNat, z382.toInt.toNat, some d) ∧ KCC f_rc z384 e_ln.toInt ∧ MCC z384 e_ln.toInt.toNat z381.toInt.toNat d ∧ lvC z384 z381.toInt.toNat = z382.toInt.toNat), (i_380 : z383.toInt ≤ (g_T : Int) ∧ z297.toInt < z383.toInt ∧ z381.toInt + z297.toInt ≤ e_ln.toInt + z383.toInt), rfl, rfl⟩ | ⟨z392, z393, z394, z395, (i_385 : e_ln.toInt ≤ z392.toInt ∧ z392.toInt ≤ 400), (i_386 : 0 ≤ z394.toInt ∧ z394.toInt ≤ 401), (i_387 : 0 ≤ z393.toInt ∧ z393.toInt ≤ 50), (i_388 : CDI z395 z392.toInt), (i_389 : OPK f_rc z395 e_ln.toInt), (i_390 : ∃ q : Nat, (smF (KDT g_x g_n) (NMT g_x g_n) p_d) z297.toInt.toNat e_pa.toInt.toNat = (z394.toInt.toNat, q, none)), (i_391 : z394.toInt ≤ (g_T : Int)), rfl, rfl⟩
            ·
              have hJ9 := va_join (wr := []) hP hD [2, 3, 4, 0, 1] [] rfl rfl (by decide +kernel) (by decide +kernel) hk1 hFc hP1 hD1
              clear hP hD hPc hDc hFc ht hvm hz1 hk1 hP1 hD1
              obtain ⟨hP, hD⟩ := hJ9
              refine g5_rs [(a_r, (oc4 a_tk a_rh a_rs a_rc z381 z382 z383 e_fp)), (a_tk, (oc8 a_kd a_nm a_pl)), (a_kd, (arI G 401 f_kd)), (a_nm, (arI G 401 f_nm)), (a_rc, (arI G 400 z384))] hP hD ?_
              clear hP hD
              intro hP hD
              obtain ⟨dd396, hd396, hc396, hm396, hv396⟩ := i_379
              have hK_397 : (f_kd z383.toNatClampNeg).toInt = KDT g_x g_n z383.toInt.toNat := tkr_at e_kr (by omega) (by omega)
              refine lv_if_ne (tgt := 92) hx hb dX4_readPlain_87 (by decide +kernel) (fun c_398 => ?_) (fun c_398 => ?_)
              ·
                refine lv_aload_n hx hb dX4_readPlain_92 rfl (lv_at hl 2 rfl) ?_
                refine lv_bipush (v := 60) hx hb dX4_readPlain_93 (by decide +kernel) ?_
                obtain ⟨hPc, hDc, hFc⟩ := g5_sub3 (wc := [(a_r, (oc4 a_tk a_rh a_rs a_rc z381 z382 z383 e_fp)), (a_tk, (oc8 a_kd a_nm a_pl)), (a_kd, (arI G 401 f_kd))]) hP hD hS hA [0, 1, 2] (by decide +kernel) rfl
                refine va_calli (va_runV (As := [.int 60]) (rest := []) ⟨hx, hb, hml, hown, hts⟩ (r_isNextX60 l G a_r a_tk a_kd a_rh a_rs a_rc a_nm a_pl H.size z381 z382 z383 e_fp f_kd ⟨by omega, by omega⟩ i_376 i_375 (by omega)) (cwV 1 hts gV_X4_49 rfl rfl rfl hv_X4_isNext ⟨by simp only [headSpec]; omega, by simp only [headSpec]; omega⟩) (g5_preV hPc hK hDc hN hT hS hFc (ci := 4) (q0 := 0) rfl rfl) rfl rfl hl.1 rfl (lv_room (Nat.le_of_ble_eq_true rfl)) dX4_readPlain_95 ⟨Nat.le_of_ble_eq_true rfl, Nat.le_of_ble_eq_true rfl⟩) hS (fun q _ h => hFc q h) hFc (fun r u t H locs ht hvm hw hB hz1 hk1 hS => ?_)
                obtain ⟨hP1, hD1⟩ := hB
                have hP1 := g5_ht ht hP1
                rcases hw with ⟨(i_399 : (f_kd z383.toNatClampNeg).toInt = 60), rfl, rfl⟩ | ⟨(i_400 : gNe (f_kd z383.toNatClampNeg).toInt 60), rfl, rfl⟩
                ·
                  have hJ9 := va_join (wr := [(a_nm, (arI G 401 f_nm)), (a_rc, (arI G 400 z384))]) hP hD [0, 1, 2] [3, 4] rfl rfl (by decide +kernel) (by decide +kernel) hk1 hFc hP1 hD1
                  clear hP hD hPc hDc hFc ht hvm hz1 hk1 hP1 hD1
                  obtain ⟨hP, hD⟩ := hJ9
                  refine g5_rs [(a_nm, (arI G 401 f_nm)), (a_rc, (arI G 400 z384)), (a_r, (oc4 a_tk a_rh a_rs a_rc z381 z382 z383 e_fp)), (a_tk, (oc8 a_kd a_nm a_pl)), (a_kd, (arI G 401 f_kd))] hP hD ?_
                  clear hP hD
                  intro hP hD
                  refine lv_if_eq (tgt := 106) hx hb dX4_readPlain_98 (by decide +kernel) (fun c_401 => ?_) (fun c_401 => ?_)
                  ·
                    exact absurd c_401 (by decide +kernel)
                  ·
                    refine lv_bipush (v := 6) hx hb dX4_readPlain_101 (by decide +kernel) ?_
                    refine lv_goto (tgt := 135) hx hb dX4_readPlain_103 (by decide +kernel) ?_
                    have hL_402 : z383.toInt < (g_T : Int) := tkr_ltI e_kr (by omega) (by omega) i_399 (by decide +kernel)
                    refine lv_istore_n (lv' := [(3, .int 6), (2, .int k_u), (0, .ref a_r), (1, .int p_d)]) hx hb dX4_readPlain_135 rfl hl (by decide +kernel) rfl ?_
                    clear hl
                    intro ls hl
                    refine lv_iload_n hx hb dX4_readPlain_136 rfl (lv_at hl 0 rfl) ?_
                    refine W.eq (g2 := F0 m 137 ls [.int 6]) rfl ?_
                    refine lv_iconst (v := (-1)) hx hb dX4_readPlain_137 (by decide +kernel) ?_
                    refine lv_icmp_ne (tgt := 143) hx hb dX4_readPlain_138 (by decide +kernel) (fun c_403 => ?_) (fun c_403 => ?_)
                    ·
                      refine lv_aload_n hx hb dX4_readPlain_143 rfl (lv_at hl 2 rfl) ?_
                      refine lv_dup hx hb dX4_readPlain_144 rfl ?_
                      refine va_get (D := G.1) (ci := 4) (v := .int z383) (C := RX4) (T := TX4) (N := 8) hx hb hts inG_X4 hown hK hP 2 rfl rfl 6 (by decide +kernel) (hts _ fl_X4_42) (fun _ h9 => h9) rfl dX4_readPlain_145 ?_
                      refine lv_iconst (v := 1) hx hb dX4_readPlain_148 (by decide +kernel) ?_
                      refine W.eq (g2 := F0 m 149 ls [.int 1, .int z383, .ref a_r]) rfl ?_
                      refine lv_iadd hx hb dX4_readPlain_149 ?_
                      have t_404 : (z383 + 1).toInt = z383.toInt + 1 := g5_iadd (a := z383.toInt) (b := 1) (by rfl) (by decide +kernel) (by omega) (by omega)
                      refine va_put (D := G.1) (ci := 4) (v := .int (z383 + 1)) (ty := .int) (C := RX4) (T := TX4) (N := 8) hx hb hts inG_X4 tyX4 tyX4_ok nmX4 hown hK hP hD hS 2 rfl rfl 6 (by decide +kernel) (hts _ fl_X4_42) (fun _ h9 => h9) rfl (by decide +kernel) rfl rfl (Nat.le_of_ble_eq_true rfl) dX4_readPlain_150 ?_
                      clear hP hD hS
                      intro H locs hP hD hS
                      refine g5_rs [(a_nm, (arI G 401 f_nm)), (a_rc, (arI G 400 z384)), (a_r, (oc4 a_tk a_rh a_rs a_rc z381 z382 (z383 + 1) e_fp)), (a_tk, (oc8 a_kd a_nm a_pl)), (a_kd, (arI G 401 f_kd))] hP hD ?_
                      clear hP hD
                      intro hP hD
                      refine lv_aload_n hx hb dX4_readPlain_153 rfl (lv_at hl 2 rfl) ?_
                      refine lv_iload_n hx hb dX4_readPlain_154 rfl (lv_at hl 3 rfl) ?_
                      obtain ⟨hPc, hDc, hFc⟩ := g5_sub3 (wc := [(a_r, (oc4 a_tk a_rh a_rs a_rc z381 z382 (z383 + 1) e_fp)), (a_tk, (oc8 a_kd a_nm a_pl)), (a_kd, (arI G 401 f_kd)), (a_nm, (arI G 401 f_nm)), (a_rc, (arI G 400 z384))]) hP hD hS hA [2, 3, 4, 0, 1] (by decide +kernel) rfl
                      refine va_calli (va_runV (As := [.int p_d]) (rest := []) ⟨hx, hb, hml, hown, hts⟩ ((r_sumX fr lo p_d h_p_d h_sum) l G a_r a_tk a_kd a_nm a_rc a_rh a_rs a_pl H.size z381 z382 (z383 + 1) e_fp f_kd f_nm z384 g_x g_n g_T ⟨by omega, by omega⟩ i_376 ⟨by omega, by omega⟩ (e_tk) (i_377) (e_by) (e_kr) (by omega) (by omega) (hv396)) (cwV 1 hts gV_X4_73 rfl rfl rfl hv_X4_readSum ⟨by simp only [headSpec]; omega, by simp only [headSpec]; omega⟩) (g5_preV hPc hK hDc hN hT hS hFc (ci := 4) (q0 := 0) rfl rfl) rfl rfl hl.1 rfl (lv_room (Nat.le_of_ble_eq_true rfl)) dX4_readPlain_155 ⟨Nat.le_of_ble_eq_true rfl, Nat.le_of_ble_eq_true rfl⟩) hS (fun q _ h => hFc q h) hFc (fun r u t H locs ht hvm hw hB hz1 hk1 hS => ?_)
                      obtain ⟨hP1, hD1⟩ := hB
                      have hP1 := g5_ht ht hP1
                      rcases hw with ⟨z412, z413, z414, z415, (i_405 : z381.toInt ≤ z412.toInt ∧ z412.toInt ≤ 400), (i_406 : 0 ≤ z414.toInt ∧ z414.toInt ≤ 401), (i_407 : 0 ≤ z413.toInt ∧ z413.toInt ≤ 50), (i_408 : CDI z415 z412.toInt), (i_409 : OPK z384 z415 z381.toInt), (i_410 : ∃ d : DS, (smF (KDT g_x g_n) (NMT g_x g_n) p_d) (z383 + 1).toInt.toNat z382.toInt.toNat = (z414.toInt.toNat, z413.toInt.toNat, some d) ∧ KCC z384 z415 z381.toInt ∧ MCC z415 z381.toInt.toNat z412.toInt.toNat d ∧ lvC z415 z412.toInt.toNat = z413.toInt.toNat), (i_411 : z414.toInt ≤ (g_T : Int) ∧ (z383 + 1).toInt < z414.toInt ∧ z412.toInt + (z383 + 1).toInt ≤ z381.toInt + z414.toInt), rfl, rfl⟩ | ⟨z423, z424, z425, z426, (i_416 : z381.toInt ≤ z423.toInt ∧ z423.toInt ≤ 400), (i_417 : 0 ≤ z425.toInt ∧ z425.toInt ≤ 401), (i_418 : 0 ≤ z424.toInt ∧ z424.toInt ≤ 50), (i_419 : CDI z426 z423.toInt), (i_420 : OPK z384 z426 z381.toInt), (i_421 : ∃ q : Nat, (smF (KDT g_x g_n) (NMT g_x g_n) p_d) (z383 + 1).toInt.toNat z382.toInt.toNat = (z425.toInt.toNat, q, none)), (i_422 : z425.toInt ≤ (g_T : Int)), rfl, rfl⟩
                      ·
                        have hJ9 := va_join (wr := []) hP hD [2, 3, 4, 0, 1] [] rfl rfl (by decide +kernel) (by decide +kernel) hk1 hFc hP1 hD1
                        clear hP hD hPc hDc hFc ht hvm hz1 hk1 hP1 hD1
                        obtain ⟨hP, hD⟩ := hJ9
                        refine g5_rs [(a_r, (oc4 a_tk a_rh a_rs a_rc z412 z413 z414 e_fp)), (a_tk, (oc8 a_kd a_nm a_pl)), (a_kd, (arI G 401 f_kd)), (a_nm, (arI G 401 f_nm)), (a_rc, (arI G 400 z415))] hP hD ?_
                        clear hP hD
                        intro hP hD
                        obtain ⟨dd427, hd427, hc427, hm427, hv427⟩ := i_410
                        have hK_428 : (f_kd z414.toNatClampNeg).toInt = KDT g_x g_n z414.toInt.toNat := tkr_at e_kr (by omega) (by omega)
                        refine lv_if_ne (tgt := 163) hx hb dX4_readPlain_158 (by decide +kernel) (fun c_429 => ?_) (fun c_429 => ?_)
                        ·
                          refine lv_aload_n hx hb dX4_readPlain_163 rfl (lv_at hl 2 rfl) ?_
                          refine lv_iload_n hx hb dX4_readPlain_164 rfl (lv_at hl 0 rfl) ?_
                          refine lv_iconst (v := 0) hx hb dX4_readPlain_165 (by decide +kernel) ?_
                          obtain ⟨hPc, hDc, hFc⟩ := g5_sub3 (wc := [(a_r, (oc4 a_tk a_rh a_rs a_rc z412 z413 z414 e_fp)), (a_rc, (arI G 400 z415))]) hP hD hS hA [0, 4] (by decide +kernel) rfl
                          refine va_calli (va_runV (As := [.int 6, .int 0]) (rest := []) ⟨hx, hb, hml, hown, hts⟩ (r_emitX l G a_r a_rc a_tk a_rh a_rs H.size z412 z413 z414 e_fp 6 0 z415 ⟨by omega, by omega⟩ i_407 i_406 (i_408) (by unfold wOK; decide) (by omega)) (cwV 2 hts gV_X4_79 rfl rfl rfl hv_X4_emit ⟨by simp only [headSpec]; omega, by simp only [headSpec]; omega⟩) (g5_preV hPc hK hDc hN hT hS hFc (ci := 4) (q0 := 0) rfl rfl) rfl rfl hl.1 rfl (lv_room (Nat.le_of_ble_eq_true rfl)) dX4_readPlain_166 ⟨Nat.le_of_ble_eq_true rfl, Nat.le_of_ble_eq_true rfl⟩) hS (fun q _ h => hFc q h) hFc (fun r u t H locs ht hvm hw hB hz1 hk1 hS => ?_)
                          obtain ⟨hP1, hD1⟩ := hB
                          have hP1 := g5_ht ht hP1
                          obtain ⟨z438, z439, z440, (i_430 : 0 ≤ z438.toInt ∧ z438.toInt ≤ 399), (i_431 : z438.toInt = z412.toInt), (i_432 : z439.toInt = z412.toInt + 1), (i_433 : z412.toInt ≤ z439.toInt ∧ z439.toInt ≤ 400), (i_434 : CDI z440 z439.toInt), (i_435 : OPK z415 z440 z412.toInt), (i_436 : 0 ≤ z438.toInt → z438.toInt < z439.toInt ∧ z440 z438.toNatClampNeg = (((6 : Int32) <<< (12 &&& 31)) ||| (0 : Int32))), (i_437 : z440 = upd z415 z412.toNatClampNeg (((6 : Int32) <<< (12 &&& 31)) ||| (0 : Int32))), y441, rfl⟩ := hw
                          have hJ9 := va_join (wr := [(a_tk, (oc8 a_kd a_nm a_pl)), (a_kd, (arI G 401 f_kd)), (a_nm, (arI G 401 f_nm))]) hP hD [0, 4] [1, 2, 3] rfl rfl (by decide +kernel) (by decide +kernel) hk1 hFc hP1 hD1
                          clear hP hD hPc hDc hFc ht hvm hz1 hk1 hP1 hD1
                          obtain ⟨hP, hD⟩ := hJ9
                          refine g5_rs [(a_tk, (oc8 a_kd a_nm a_pl)), (a_kd, (arI G 401 f_kd)), (a_nm, (arI G 401 f_nm)), (a_r, (oc4 a_tk a_rh a_rs a_rc z439 z413 z414 e_fp)), (a_rc, (arI G 400 z440))] hP hD ?_
                          clear hP hD
                          intro hP hD
                          refine g5_ti (v := z438) y441 ?_
                          have hE_442 : lvC z440 z439.toInt.toNat = z413.toInt.toNat := by rw [i_437, lvC_em0 (by omega) (by omega) (opT_20 (by decide +kernel) (by decide +kernel))]; exact hv427
                          refine W.eq (g2 := F0 m 169 ls [.int z438]) rfl ?_
                          refine lv_pop hx hb dX4_readPlain_169 rfl ?_
                          refine lv_iload_n hx hb dX4_readPlain_170 rfl (lv_at hl 1 rfl) ?_
                          refine lv_if_eq (tgt := 182) hx hb dX4_readPlain_171 (by decide +kernel) (fun c_443 => ?_) (fun c_443 => ?_)
                          ·
                            have i_443 : k_u.toInt = 0 := g5_eq (a := k_u.toInt) (b := 0) rfl (by decide +kernel) c_443
                            refine lv_iconst (v := 1) hx hb dX4_readPlain_182 (by decide +kernel) ?_
                            exact W.zret (v := 1) hx hb hr rfl (fun t ht hW => ⟨⟨1, [(a_r, (oc4 a_tk a_rh a_rs a_rc z439 z413 z414 e_fp)), (a_tk, (oc8 a_kd a_nm a_pl)), (a_kd, (arI G 401 f_kd)), (a_nm, (arI G 401 f_nm)), (a_rc, (arI G 400 z440))], rfl, Or.inl (⟨z439, z413, z414, z440, ⟨by omega, by omega⟩, i_406, i_407, i_434, opk_trans i_378 (opk_trans i_409 (i_435) (by omega)) (by omega), by have f9 := pl_1 hNL (fun q9 => i_306 (hK_304.trans q9)) hd396 (by rw [(hK_397.symm.trans i_399)]; decide) (by omega) (by omega) hd427; rw [nt_0 (by omega)] at f9; exact ⟨_, f9, (i01_c (o := cpM (KDT g_x g_n z383.toInt.toNat)) (l := dd396) (r := dd427) (by rw [(hK_397.symm.trans i_399)]; decide)), (by rw [i_437]; exact kcc_tr (kcc_tr hc396 hc427 (by omega)) (kcc_em (by omega)) (by omega)), (by rw [i_437]; have q9 := hm396.1; have z9 := mcc_bin (o := 6) (by omega) (by omega) (mcc_k hm396 hc427 (by omega)) hm427 ⟨by decide, by decide⟩; rw [show cpM (KDT g_x g_n z383.toInt.toNat) = (6 : Int32).toInt + 18 by rw [(hK_397.symm.trans i_399)]; decide]; exact z9), hE_442⟩, by omega, rfl, rfl⟩), by rw [ht]; exact hP.sub [3, 0, 1, 2, 4] rfl, hD.sub [3, 0, 1, 2, 4] (by decide +kernel) rfl⟩, hS.F ht⟩) hS.2.2 dX4_readPlain_183
                          ·
                            have n_443 : gNe (k_u.toInt) (0) := g5_eqN (a := k_u.toInt) (b := 0) rfl (by decide +kernel) c_443
                            have i_443 : k_u.toInt ≥ 1 := by have z := g5_eqN (a := k_u.toInt) (b := 0) (by rfl) (by decide +kernel) c_443; omega
                            refine lv_aload_n hx hb dX4_readPlain_174 rfl (lv_at hl 2 rfl) ?_
                            refine lv_bipush (v := 9) hx hb dX4_readPlain_175 (by decide +kernel) ?_
                            refine lv_iconst (v := 0) hx hb dX4_readPlain_177 (by decide +kernel) ?_
                            obtain ⟨hPc, hDc, hFc⟩ := g5_sub3 (wc := [(a_r, (oc4 a_tk a_rh a_rs a_rc z439 z413 z414 e_fp)), (a_rc, (arI G 400 z440))]) hP hD hS hA [3, 4] (by decide +kernel) rfl
                            refine va_calli (va_runV (As := [.int 9, .int 0]) (rest := []) ⟨hx, hb, hml, hown, hts⟩ (r_emitX l G a_r a_rc a_tk a_rh a_rs H.size z439 z413 z414 e_fp 9 0 z440 ⟨by omega, by omega⟩ i_407 i_406 (i_434) (by unfold wOK; decide) (by omega)) (cwV 2 hts gV_X4_79 rfl rfl rfl hv_X4_emit ⟨by simp only [headSpec]; omega, by simp only [headSpec]; omega⟩) (g5_preV hPc hK hDc hN hT hS hFc (ci := 4) (q0 := 0) rfl rfl) rfl rfl hl.1 rfl (lv_room (Nat.le_of_ble_eq_true rfl)) dX4_readPlain_178 ⟨Nat.le_of_ble_eq_true rfl, Nat.le_of_ble_eq_true rfl⟩) hS (fun q _ h => hFc q h) hFc (fun r u t H locs ht hvm hw hB hz1 hk1 hS => ?_)
                            obtain ⟨hP1, hD1⟩ := hB
                            have hP1 := g5_ht ht hP1
                            obtain ⟨z452, z453, z454, (i_444 : 0 ≤ z452.toInt ∧ z452.toInt ≤ 399), (i_445 : z452.toInt = z439.toInt), (i_446 : z453.toInt = z439.toInt + 1), (i_447 : z439.toInt ≤ z453.toInt ∧ z453.toInt ≤ 400), (i_448 : CDI z454 z453.toInt), (i_449 : OPK z440 z454 z439.toInt), (i_450 : 0 ≤ z452.toInt → z452.toInt < z453.toInt ∧ z454 z452.toNatClampNeg = (((9 : Int32) <<< (12 &&& 31)) ||| (0 : Int32))), (i_451 : z454 = upd z440 z439.toNatClampNeg (((9 : Int32) <<< (12 &&& 31)) ||| (0 : Int32))), y455, rfl⟩ := hw
                            have hJ9 := va_join (wr := [(a_tk, (oc8 a_kd a_nm a_pl)), (a_kd, (arI G 401 f_kd)), (a_nm, (arI G 401 f_nm))]) hP hD [3, 4] [0, 1, 2] rfl rfl (by decide +kernel) (by decide +kernel) hk1 hFc hP1 hD1
                            clear hP hD hPc hDc hFc ht hvm hz1 hk1 hP1 hD1
                            obtain ⟨hP, hD⟩ := hJ9
                            refine g5_rs [(a_tk, (oc8 a_kd a_nm a_pl)), (a_kd, (arI G 401 f_kd)), (a_nm, (arI G 401 f_nm)), (a_r, (oc4 a_tk a_rh a_rs a_rc z453 z413 z414 e_fp)), (a_rc, (arI G 400 z454))] hP hD ?_
                            clear hP hD
                            intro hP hD
                            refine g5_ti (v := z452) y455 ?_
                            have hE_456 : lvC z454 z453.toInt.toNat = z413.toInt.toNat := by rw [i_451, lvC_em0 (by omega) (by omega) (opT_20 (by decide +kernel) (by decide +kernel))]; exact hE_442
                            refine W.eq (g2 := F0 m 181 ls [.int z452]) rfl ?_
                            refine lv_pop hx hb dX4_readPlain_181 rfl ?_
                            refine lv_iconst (v := 1) hx hb dX4_readPlain_182 (by decide +kernel) ?_
                            exact W.zret (v := 1) hx hb hr rfl (fun t ht hW => ⟨⟨1, [(a_r, (oc4 a_tk a_rh a_rs a_rc z453 z413 z414 e_fp)), (a_tk, (oc8 a_kd a_nm a_pl)), (a_kd, (arI G 401 f_kd)), (a_nm, (arI G 401 f_nm)), (a_rc, (arI G 400 z454))], rfl, Or.inl (⟨z453, z413, z414, z454, ⟨by omega, by omega⟩, i_406, i_407, i_448, opk_trans i_378 (opk_trans i_409 (opk_trans i_435 (i_449) (by omega)) (by omega)) (by omega), by have f9 := pl_1 hNL (fun q9 => i_306 (hK_304.trans q9)) hd396 (by rw [(hK_397.symm.trans i_399)]; decide) (by omega) (by omega) hd427; have z9 := (i01_c (o := cpM (KDT g_x g_n z383.toInt.toNat)) (l := dd396) (r := dd427) (by rw [(hK_397.symm.trans i_399)]; decide)); have k9 := (show KCC f_rc z440 e_ln.toInt from (by rw [i_437]; exact kcc_tr (kcc_tr hc396 hc427 (by omega)) (kcc_em (by omega)) (by omega))); have m9 := (show MCC z440 e_ln.toInt.toNat z439.toInt.toNat (bS (cpM (KDT g_x g_n z383.toInt.toNat)) dd396 dd427) from (by rw [i_437]; have q9 := hm396.1; have z9 := mcc_bin (o := 6) (by omega) (by omega) (mcc_k hm396 hc427 (by omega)) hm427 ⟨by decide, by decide⟩; rw [show cpM (KDT g_x g_n z383.toInt.toNat) = (6 : Int32).toInt + 18 by rw [(hK_397.symm.trans i_399)]; decide]; exact z9)); rw [nt_1 (by omega)] at f9; exact ⟨_, f9, i01_n z9, by rw [i_451]; exact kcc_tr k9 (kcc_em (by omega)) (by omega), by rw [i_451]; exact mcc_not (by omega) (by omega) m9, hE_456⟩, by omega, rfl, rfl⟩), by rw [ht]; exact hP.sub [3, 0, 1, 2, 4] rfl, hD.sub [3, 0, 1, 2, 4] (by decide +kernel) rfl⟩, hS.F ht⟩) hS.2.2 dX4_readPlain_183
                        ·
                          exact absurd c_429 (by decide +kernel)
                      ·
                        have hJ9 := va_join (wr := []) hP hD [2, 3, 4, 0, 1] [] rfl rfl (by decide +kernel) (by decide +kernel) hk1 hFc hP1 hD1
                        clear hP hD hPc hDc hFc ht hvm hz1 hk1 hP1 hD1
                        obtain ⟨hP, hD⟩ := hJ9
                        refine g5_rs [(a_r, (oc4 a_tk a_rh a_rs a_rc z423 z424 z425 e_fp)), (a_tk, (oc8 a_kd a_nm a_pl)), (a_kd, (arI G 401 f_kd)), (a_nm, (arI G 401 f_nm)), (a_rc, (arI G 400 z426))] hP hD ?_
                        clear hP hD
                        intro hP hD
                        obtain ⟨qq457, hq457⟩ := i_421
                        refine lv_if_ne (tgt := 163) hx hb dX4_readPlain_158 (by decide +kernel) (fun c_458 => ?_) (fun c_458 => ?_)
                        ·
                          exact absurd c_458 (by decide +kernel)
                        ·
                          refine lv_iconst (v := 0) hx hb dX4_readPlain_161 (by decide +kernel) ?_
                          exact W.zret (v := 0) hx hb hr rfl (fun t ht hW => ⟨⟨0, [(a_r, (oc4 a_tk a_rh a_rs a_rc z423 z424 z425 e_fp)), (a_tk, (oc8 a_kd a_nm a_pl)), (a_kd, (arI G 401 f_kd)), (a_nm, (arI G 401 f_nm)), (a_rc, (arI G 400 z426))], rfl, Or.inr (⟨z423, z424, z425, z426, ⟨by omega, by omega⟩, i_417, i_418, i_419, opk_trans i_378 (i_420) (by omega), ⟨_, pl_r0 hNL (fun q9 => i_306 (hK_304.trans q9)) hd396 (by rw [(hK_397.symm.trans i_399)]; decide) (by omega) (by omega) hq457⟩, by omega, rfl, rfl⟩), by rw [ht]; exact hP.sub [0, 1, 2, 3, 4] rfl, hD.sub [0, 1, 2, 3, 4] (by decide +kernel) rfl⟩, hS.F ht⟩) hS.2.2 dX4_readPlain_162
                    ·
                      exact absurd c_403 (by decide +kernel)
                ·
                  have hJ9 := va_join (wr := [(a_nm, (arI G 401 f_nm)), (a_rc, (arI G 400 z384))]) hP hD [0, 1, 2] [3, 4] rfl rfl (by decide +kernel) (by decide +kernel) hk1 hFc hP1 hD1
                  clear hP hD hPc hDc hFc ht hvm hz1 hk1 hP1 hD1
                  obtain ⟨hP, hD⟩ := hJ9
                  refine g5_rs [(a_nm, (arI G 401 f_nm)), (a_rc, (arI G 400 z384)), (a_r, (oc4 a_tk a_rh a_rs a_rc z381 z382 z383 e_fp)), (a_tk, (oc8 a_kd a_nm a_pl)), (a_kd, (arI G 401 f_kd))] hP hD ?_
                  clear hP hD
                  intro hP hD
                  refine lv_if_eq (tgt := 106) hx hb dX4_readPlain_98 (by decide +kernel) (fun c_459 => ?_) (fun c_459 => ?_)
                  ·
                    refine lv_aload_n hx hb dX4_readPlain_106 rfl (lv_at hl 2 rfl) ?_
                    refine lv_bipush (v := 62) hx hb dX4_readPlain_107 (by decide +kernel) ?_
                    obtain ⟨hPc, hDc, hFc⟩ := g5_sub3 (wc := [(a_r, (oc4 a_tk a_rh a_rs a_rc z381 z382 z383 e_fp)), (a_tk, (oc8 a_kd a_nm a_pl)), (a_kd, (arI G 401 f_kd))]) hP hD hS hA [2, 3, 4] (by decide +kernel) rfl
                    refine va_calli (va_runV (As := [.int 62]) (rest := []) ⟨hx, hb, hml, hown, hts⟩ (r_isNextX62 l G a_r a_tk a_kd a_rh a_rs a_rc a_nm a_pl H.size z381 z382 z383 e_fp f_kd ⟨by omega, by omega⟩ i_376 i_375 (by omega)) (cwV 1 hts gV_X4_49 rfl rfl rfl hv_X4_isNext ⟨by simp only [headSpec]; omega, by simp only [headSpec]; omega⟩) (g5_preV hPc hK hDc hN hT hS hFc (ci := 4) (q0 := 0) rfl rfl) rfl rfl hl.1 rfl (lv_room (Nat.le_of_ble_eq_true rfl)) dX4_readPlain_109 ⟨Nat.le_of_ble_eq_true rfl, Nat.le_of_ble_eq_true rfl⟩) hS (fun q _ h => hFc q h) hFc (fun r u t H locs ht hvm hw hB hz1 hk1 hS => ?_)
                    obtain ⟨hP1, hD1⟩ := hB
                    have hP1 := g5_ht ht hP1
                    rcases hw with ⟨(i_460 : (f_kd z383.toNatClampNeg).toInt = 62), rfl, rfl⟩ | ⟨(i_461 : gNe (f_kd z383.toNatClampNeg).toInt 62), rfl, rfl⟩
                    ·
                      have hJ9 := va_join (wr := [(a_nm, (arI G 401 f_nm)), (a_rc, (arI G 400 z384))]) hP hD [2, 3, 4] [0, 1] rfl rfl (by decide +kernel) (by decide +kernel) hk1 hFc hP1 hD1
                      clear hP hD hPc hDc hFc ht hvm hz1 hk1 hP1 hD1
                      obtain ⟨hP, hD⟩ := hJ9
                      refine g5_rs [(a_nm, (arI G 401 f_nm)), (a_rc, (arI G 400 z384)), (a_r, (oc4 a_tk a_rh a_rs a_rc z381 z382 z383 e_fp)), (a_tk, (oc8 a_kd a_nm a_pl)), (a_kd, (arI G 401 f_kd))] hP hD ?_
                      clear hP hD
                      intro hP hD
                      refine lv_if_eq (tgt := 120) hx hb dX4_readPlain_112 (by decide +kernel) (fun c_462 => ?_) (fun c_462 => ?_)
                      ·
                        exact absurd c_462 (by decide +kernel)
                      ·
                        refine lv_bipush (v := 7) hx hb dX4_readPlain_115 (by decide +kernel) ?_
                        refine lv_goto (tgt := 135) hx hb dX4_readPlain_117 (by decide +kernel) ?_
                        have hL_463 : z383.toInt < (g_T : Int) := tkr_ltI e_kr (by omega) (by omega) i_460 (by decide +kernel)
                        refine lv_istore_n (lv' := [(3, .int 7), (2, .int k_u), (0, .ref a_r), (1, .int p_d)]) hx hb dX4_readPlain_135 rfl hl (by decide +kernel) rfl ?_
                        clear hl
                        intro ls hl
                        refine lv_iload_n hx hb dX4_readPlain_136 rfl (lv_at hl 0 rfl) ?_
                        refine W.eq (g2 := F0 m 137 ls [.int 7]) rfl ?_
                        refine lv_iconst (v := (-1)) hx hb dX4_readPlain_137 (by decide +kernel) ?_
                        refine lv_icmp_ne (tgt := 143) hx hb dX4_readPlain_138 (by decide +kernel) (fun c_464 => ?_) (fun c_464 => ?_)
                        ·
                          refine lv_aload_n hx hb dX4_readPlain_143 rfl (lv_at hl 2 rfl) ?_
                          refine lv_dup hx hb dX4_readPlain_144 rfl ?_
                          refine va_get (D := G.1) (ci := 4) (v := .int z383) (C := RX4) (T := TX4) (N := 8) hx hb hts inG_X4 hown hK hP 2 rfl rfl 6 (by decide +kernel) (hts _ fl_X4_42) (fun _ h9 => h9) rfl dX4_readPlain_145 ?_
                          refine lv_iconst (v := 1) hx hb dX4_readPlain_148 (by decide +kernel) ?_
                          refine W.eq (g2 := F0 m 149 ls [.int 1, .int z383, .ref a_r]) rfl ?_
                          refine lv_iadd hx hb dX4_readPlain_149 ?_
                          have t_465 : (z383 + 1).toInt = z383.toInt + 1 := g5_iadd (a := z383.toInt) (b := 1) (by rfl) (by decide +kernel) (by omega) (by omega)
                          refine va_put (D := G.1) (ci := 4) (v := .int (z383 + 1)) (ty := .int) (C := RX4) (T := TX4) (N := 8) hx hb hts inG_X4 tyX4 tyX4_ok nmX4 hown hK hP hD hS 2 rfl rfl 6 (by decide +kernel) (hts _ fl_X4_42) (fun _ h9 => h9) rfl (by decide +kernel) rfl rfl (Nat.le_of_ble_eq_true rfl) dX4_readPlain_150 ?_
                          clear hP hD hS
                          intro H locs hP hD hS
                          refine g5_rs [(a_nm, (arI G 401 f_nm)), (a_rc, (arI G 400 z384)), (a_r, (oc4 a_tk a_rh a_rs a_rc z381 z382 (z383 + 1) e_fp)), (a_tk, (oc8 a_kd a_nm a_pl)), (a_kd, (arI G 401 f_kd))] hP hD ?_
                          clear hP hD
                          intro hP hD
                          refine lv_aload_n hx hb dX4_readPlain_153 rfl (lv_at hl 2 rfl) ?_
                          refine lv_iload_n hx hb dX4_readPlain_154 rfl (lv_at hl 3 rfl) ?_
                          obtain ⟨hPc, hDc, hFc⟩ := g5_sub3 (wc := [(a_r, (oc4 a_tk a_rh a_rs a_rc z381 z382 (z383 + 1) e_fp)), (a_tk, (oc8 a_kd a_nm a_pl)), (a_kd, (arI G 401 f_kd)), (a_nm, (arI G 401 f_nm)), (a_rc, (arI G 400 z384))]) hP hD hS hA [2, 3, 4, 0, 1] (by decide +kernel) rfl
                          refine va_calli (va_runV (As := [.int p_d]) (rest := []) ⟨hx, hb, hml, hown, hts⟩ ((r_sumX fr lo p_d h_p_d h_sum) l G a_r a_tk a_kd a_nm a_rc a_rh a_rs a_pl H.size z381 z382 (z383 + 1) e_fp f_kd f_nm z384 g_x g_n g_T ⟨by omega, by omega⟩ i_376 ⟨by omega, by omega⟩ (e_tk) (i_377) (e_by) (e_kr) (by omega) (by omega) (hv396)) (cwV 1 hts gV_X4_73 rfl rfl rfl hv_X4_readSum ⟨by simp only [headSpec]; omega, by simp only [headSpec]; omega⟩) (g5_preV hPc hK hDc hN hT hS hFc (ci := 4) (q0 := 0) rfl rfl) rfl rfl hl.1 rfl (lv_room (Nat.le_of_ble_eq_true rfl)) dX4_readPlain_155 ⟨Nat.le_of_ble_eq_true rfl, Nat.le_of_ble_eq_true rfl⟩) hS (fun q _ h => hFc q h) hFc (fun r u t H locs ht hvm hw hB hz1 hk1 hS => ?_)
                          obtain ⟨hP1, hD1⟩ := hB
                          have hP1 := g5_ht ht hP1
                          rcases hw with ⟨z473, z474, z475, z476, (i_466 : z381.toInt ≤ z473.toInt ∧ z473.toInt ≤ 400), (i_467 : 0 ≤ z475.toInt ∧ z475.toInt ≤ 401), (i_468 : 0 ≤ z474.toInt ∧ z474.toInt ≤ 50), (i_469 : CDI z476 z473.toInt), (i_470 : OPK z384 z476 z381.toInt), (i_471 : ∃ d : DS, (smF (KDT g_x g_n) (NMT g_x g_n) p_d) (z383 + 1).toInt.toNat z382.toInt.toNat = (z475.toInt.toNat, z474.toInt.toNat, some d) ∧ KCC z384 z476 z381.toInt ∧ MCC z476 z381.toInt.toNat z473.toInt.toNat d ∧ lvC z476 z473.toInt.toNat = z474.toInt.toNat), (i_472 : z475.toInt ≤ (g_T : Int) ∧ (z383 + 1).toInt < z475.toInt ∧ z473.toInt + (z383 + 1).toInt ≤ z381.toInt + z475.toInt), rfl, rfl⟩ | ⟨z484, z485, z486, z487, (i_477 : z381.toInt ≤ z484.toInt ∧ z484.toInt ≤ 400), (i_478 : 0 ≤ z486.toInt ∧ z486.toInt ≤ 401), (i_479 : 0 ≤ z485.toInt ∧ z485.toInt ≤ 50), (i_480 : CDI z487 z484.toInt), (i_481 : OPK z384 z487 z381.toInt), (i_482 : ∃ q : Nat, (smF (KDT g_x g_n) (NMT g_x g_n) p_d) (z383 + 1).toInt.toNat z382.toInt.toNat = (z486.toInt.toNat, q, none)), (i_483 : z486.toInt ≤ (g_T : Int)), rfl, rfl⟩
                          ·
                            have hJ9 := va_join (wr := []) hP hD [2, 3, 4, 0, 1] [] rfl rfl (by decide +kernel) (by decide +kernel) hk1 hFc hP1 hD1
                            clear hP hD hPc hDc hFc ht hvm hz1 hk1 hP1 hD1
                            obtain ⟨hP, hD⟩ := hJ9
                            refine g5_rs [(a_r, (oc4 a_tk a_rh a_rs a_rc z473 z474 z475 e_fp)), (a_tk, (oc8 a_kd a_nm a_pl)), (a_kd, (arI G 401 f_kd)), (a_nm, (arI G 401 f_nm)), (a_rc, (arI G 400 z476))] hP hD ?_
                            clear hP hD
                            intro hP hD
                            obtain ⟨dd488, hd488, hc488, hm488, hv488⟩ := i_471
                            have hK_489 : (f_kd z475.toNatClampNeg).toInt = KDT g_x g_n z475.toInt.toNat := tkr_at e_kr (by omega) (by omega)
                            refine lv_if_ne (tgt := 163) hx hb dX4_readPlain_158 (by decide +kernel) (fun c_490 => ?_) (fun c_490 => ?_)
                            ·
                              refine lv_aload_n hx hb dX4_readPlain_163 rfl (lv_at hl 2 rfl) ?_
                              refine lv_iload_n hx hb dX4_readPlain_164 rfl (lv_at hl 0 rfl) ?_
                              refine lv_iconst (v := 0) hx hb dX4_readPlain_165 (by decide +kernel) ?_
                              obtain ⟨hPc, hDc, hFc⟩ := g5_sub3 (wc := [(a_r, (oc4 a_tk a_rh a_rs a_rc z473 z474 z475 e_fp)), (a_rc, (arI G 400 z476))]) hP hD hS hA [0, 4] (by decide +kernel) rfl
                              refine va_calli (va_runV (As := [.int 7, .int 0]) (rest := []) ⟨hx, hb, hml, hown, hts⟩ (r_emitX l G a_r a_rc a_tk a_rh a_rs H.size z473 z474 z475 e_fp 7 0 z476 ⟨by omega, by omega⟩ i_468 i_467 (i_469) (by unfold wOK; decide) (by omega)) (cwV 2 hts gV_X4_79 rfl rfl rfl hv_X4_emit ⟨by simp only [headSpec]; omega, by simp only [headSpec]; omega⟩) (g5_preV hPc hK hDc hN hT hS hFc (ci := 4) (q0 := 0) rfl rfl) rfl rfl hl.1 rfl (lv_room (Nat.le_of_ble_eq_true rfl)) dX4_readPlain_166 ⟨Nat.le_of_ble_eq_true rfl, Nat.le_of_ble_eq_true rfl⟩) hS (fun q _ h => hFc q h) hFc (fun r u t H locs ht hvm hw hB hz1 hk1 hS => ?_)
                              obtain ⟨hP1, hD1⟩ := hB
                              have hP1 := g5_ht ht hP1
                              obtain ⟨z499, z500, z501, (i_491 : 0 ≤ z499.toInt ∧ z499.toInt ≤ 399), (i_492 : z499.toInt = z473.toInt), (i_493 : z500.toInt = z473.toInt + 1), (i_494 : z473.toInt ≤ z500.toInt ∧ z500.toInt ≤ 400), (i_495 : CDI z501 z500.toInt), (i_496 : OPK z476 z501 z473.toInt), (i_497 : 0 ≤ z499.toInt → z499.toInt < z500.toInt ∧ z501 z499.toNatClampNeg = (((7 : Int32) <<< (12 &&& 31)) ||| (0 : Int32))), (i_498 : z501 = upd z476 z473.toNatClampNeg (((7 : Int32) <<< (12 &&& 31)) ||| (0 : Int32))), y502, rfl⟩ := hw
                              have hJ9 := va_join (wr := [(a_tk, (oc8 a_kd a_nm a_pl)), (a_kd, (arI G 401 f_kd)), (a_nm, (arI G 401 f_nm))]) hP hD [0, 4] [1, 2, 3] rfl rfl (by decide +kernel) (by decide +kernel) hk1 hFc hP1 hD1
                              clear hP hD hPc hDc hFc ht hvm hz1 hk1 hP1 hD1
                              obtain ⟨hP, hD⟩ := hJ9
                              refine g5_rs [(a_tk, (oc8 a_kd a_nm a_pl)), (a_kd, (arI G 401 f_kd)), (a_nm, (arI G 401 f_nm)), (a_r, (oc4 a_tk a_rh a_rs a_rc z500 z474 z475 e_fp)), (a_rc, (arI G 400 z501))] hP hD ?_
                              clear hP hD
                              intro hP hD
                              refine g5_ti (v := z499) y502 ?_
                              have hE_503 : lvC z501 z500.toInt.toNat = z474.toInt.toNat := by rw [i_498, lvC_em0 (by omega) (by omega) (opT_20 (by decide +kernel) (by decide +kernel))]; exact hv488
                              refine W.eq (g2 := F0 m 169 ls [.int z499]) rfl ?_
                              refine lv_pop hx hb dX4_readPlain_169 rfl ?_
                              refine lv_iload_n hx hb dX4_readPlain_170 rfl (lv_at hl 1 rfl) ?_
                              refine lv_if_eq (tgt := 182) hx hb dX4_readPlain_171 (by decide +kernel) (fun c_504 => ?_) (fun c_504 => ?_)
                              ·
                                have i_504 : k_u.toInt = 0 := g5_eq (a := k_u.toInt) (b := 0) rfl (by decide +kernel) c_504
                                refine lv_iconst (v := 1) hx hb dX4_readPlain_182 (by decide +kernel) ?_
                                exact W.zret (v := 1) hx hb hr rfl (fun t ht hW => ⟨⟨1, [(a_r, (oc4 a_tk a_rh a_rs a_rc z500 z474 z475 e_fp)), (a_tk, (oc8 a_kd a_nm a_pl)), (a_kd, (arI G 401 f_kd)), (a_nm, (arI G 401 f_nm)), (a_rc, (arI G 400 z501))], rfl, Or.inl (⟨z500, z474, z475, z501, ⟨by omega, by omega⟩, i_467, i_468, i_495, opk_trans i_378 (opk_trans i_470 (i_496) (by omega)) (by omega), by have f9 := pl_1 hNL (fun q9 => i_306 (hK_304.trans q9)) hd396 (by rw [(hK_397.symm.trans i_460)]; decide) (by omega) (by omega) hd488; rw [nt_0 (by omega)] at f9; exact ⟨_, f9, (i01_c (o := cpM (KDT g_x g_n z383.toInt.toNat)) (l := dd396) (r := dd488) (by rw [(hK_397.symm.trans i_460)]; decide)), (by rw [i_498]; exact kcc_tr (kcc_tr hc396 hc488 (by omega)) (kcc_em (by omega)) (by omega)), (by rw [i_498]; have q9 := hm396.1; have z9 := mcc_bin (o := 7) (by omega) (by omega) (mcc_k hm396 hc488 (by omega)) hm488 ⟨by decide, by decide⟩; rw [show cpM (KDT g_x g_n z383.toInt.toNat) = (7 : Int32).toInt + 18 by rw [(hK_397.symm.trans i_460)]; decide]; exact z9), hE_503⟩, by omega, rfl, rfl⟩), by rw [ht]; exact hP.sub [3, 0, 1, 2, 4] rfl, hD.sub [3, 0, 1, 2, 4] (by decide +kernel) rfl⟩, hS.F ht⟩) hS.2.2 dX4_readPlain_183
                              ·
                                have n_504 : gNe (k_u.toInt) (0) := g5_eqN (a := k_u.toInt) (b := 0) rfl (by decide +kernel) c_504
                                have i_504 : k_u.toInt ≥ 1 := by have z := g5_eqN (a := k_u.toInt) (b := 0) (by rfl) (by decide +kernel) c_504; omega
                                refine lv_aload_n hx hb dX4_readPlain_174 rfl (lv_at hl 2 rfl) ?_
                                refine lv_bipush (v := 9) hx hb dX4_readPlain_175 (by decide +kernel) ?_
                                refine lv_iconst (v := 0) hx hb dX4_readPlain_177 (by decide +kernel) ?_
                                obtain ⟨hPc, hDc, hFc⟩ := g5_sub3 (wc := [(a_r, (oc4 a_tk a_rh a_rs a_rc z500 z474 z475 e_fp)), (a_rc, (arI G 400 z501))]) hP hD hS hA [3, 4] (by decide +kernel) rfl
                                refine va_calli (va_runV (As := [.int 9, .int 0]) (rest := []) ⟨hx, hb, hml, hown, hts⟩ (r_emitX l G a_r a_rc a_tk a_rh a_rs H.size z500 z474 z475 e_fp 9 0 z501 ⟨by omega, by omega⟩ i_468 i_467 (i_495) (by unfold wOK; decide) (by omega)) (cwV 2 hts gV_X4_79 rfl rfl rfl hv_X4_emit ⟨by simp only [headSpec]; omega, by simp only [headSpec]; omega⟩) (g5_preV hPc hK hDc hN hT hS hFc (ci := 4) (q0 := 0) rfl rfl) rfl rfl hl.1 rfl (lv_room (Nat.le_of_ble_eq_true rfl)) dX4_readPlain_178 ⟨Nat.le_of_ble_eq_true rfl, Nat.le_of_ble_eq_true rfl⟩) hS (fun q _ h => hFc q h) hFc (fun r u t H locs ht hvm hw hB hz1 hk1 hS => ?_)
                                obtain ⟨hP1, hD1⟩ := hB
                                have hP1 := g5_ht ht hP1
                                obtain ⟨z513, z514, z515, (i_505 : 0 ≤ z513.toInt ∧ z513.toInt ≤ 399), (i_506 : z513.toInt = z500.toInt), (i_507 : z514.toInt = z500.toInt + 1), (i_508 : z500.toInt ≤ z514.toInt ∧ z514.toInt ≤ 400), (i_509 : CDI z515 z514.toInt), (i_510 : OPK z501 z515 z500.toInt), (i_511 : 0 ≤ z513.toInt → z513.toInt < z514.toInt ∧ z515 z513.toNatClampNeg = (((9 : Int32) <<< (12 &&& 31)) ||| (0 : Int32))), (i_512 : z515 = upd z501 z500.toNatClampNeg (((9 : Int32) <<< (12 &&& 31)) ||| (0 : Int32))), y516, rfl⟩ := hw
                                have hJ9 := va_join (wr := [(a_tk, (oc8 a_kd a_nm a_pl)), (a_kd, (arI G 401 f_kd)), (a_nm, (arI G 401 f_nm))]) hP hD [3, 4] [0, 1, 2] rfl rfl (by decide +kernel) (by decide +kernel) hk1 hFc hP1 hD1
                                clear hP hD hPc hDc hFc ht hvm hz1 hk1 hP1 hD1
                                obtain ⟨hP, hD⟩ := hJ9
                                refine g5_rs [(a_tk, (oc8 a_kd a_nm a_pl)), (a_kd, (arI G 401 f_kd)), (a_nm, (arI G 401 f_nm)), (a_r, (oc4 a_tk a_rh a_rs a_rc z514 z474 z475 e_fp)), (a_rc, (arI G 400 z515))] hP hD ?_
                                clear hP hD
                                intro hP hD
                                refine g5_ti (v := z513) y516 ?_
                                have hE_517 : lvC z515 z514.toInt.toNat = z474.toInt.toNat := by rw [i_512, lvC_em0 (by omega) (by omega) (opT_20 (by decide +kernel) (by decide +kernel))]; exact hE_503
                                refine W.eq (g2 := F0 m 181 ls [.int z513]) rfl ?_
                                refine lv_pop hx hb dX4_readPlain_181 rfl ?_
                                refine lv_iconst (v := 1) hx hb dX4_readPlain_182 (by decide +kernel) ?_
                                exact W.zret (v := 1) hx hb hr rfl (fun t ht hW => ⟨⟨1, [(a_r, (oc4 a_tk a_rh a_rs a_rc z514 z474 z475 e_fp)), (a_tk, (oc8 a_kd a_nm a_pl)), (a_kd, (arI G 401 f_kd)), (a_nm, (arI G 401 f_nm)), (a_rc, (arI G 400 z515))], rfl, Or.inl (⟨z514, z474, z475, z515, ⟨by omega, by omega⟩, i_467, i_468, i_509, opk_trans i_378 (opk_trans i_470 (opk_trans i_496 (i_510) (by omega)) (by omega)) (by omega), by have f9 := pl_1 hNL (fun q9 => i_306 (hK_304.trans q9)) hd396 (by rw [(hK_397.symm.trans i_460)]; decide) (by omega) (by omega) hd488; have z9 := (i01_c (o := cpM (KDT g_x g_n z383.toInt.toNat)) (l := dd396) (r := dd488) (by rw [(hK_397.symm.trans i_460)]; decide)); have k9 := (show KCC f_rc z501 e_ln.toInt from (by rw [i_498]; exact kcc_tr (kcc_tr hc396 hc488 (by omega)) (kcc_em (by omega)) (by omega))); have m9 := (show MCC z501 e_ln.toInt.toNat z500.toInt.toNat (bS (cpM (KDT g_x g_n z383.toInt.toNat)) dd396 dd488) from (by rw [i_498]; have q9 := hm396.1; have z9 := mcc_bin (o := 7) (by omega) (by omega) (mcc_k hm396 hc488 (by omega)) hm488 ⟨by decide, by decide⟩; rw [show cpM (KDT g_x g_n z383.toInt.toNat) = (7 : Int32).toInt + 18 by rw [(hK_397.symm.trans i_460)]; decide]; exact z9)); rw [nt_1 (by omega)] at f9; exact ⟨_, f9, i01_n z9, by rw [i_512]; exact kcc_tr k9 (kcc_em (by omega)) (by omega), by rw [i_512]; exact mcc_not (by omega) (by omega) m9, hE_517⟩, by omega, rfl, rfl⟩), by rw [ht]; exact hP.sub [3, 0, 1, 2, 4] rfl, hD.sub [3, 0, 1, 2, 4] (by decide +kernel) rfl⟩, hS.F ht⟩) hS.2.2 dX4_readPlain_183
                            ·
                              exact absurd c_490 (by decide +kernel)
                          ·
                            have hJ9 := va_join (wr := []) hP hD [2, 3, 4, 0, 1] [] rfl rfl (by decide +kernel) (by decide +kernel) hk1 hFc hP1 hD1
                            clear hP hD hPc hDc hFc ht hvm hz1 hk1 hP1 hD1
                            obtain ⟨hP, hD⟩ := hJ9
                            refine g5_rs [(a_r, (oc4 a_tk a_rh a_rs a_rc z484 z485 z486 e_fp)), (a_tk, (oc8 a_kd a_nm a_pl)), (a_kd, (arI G 401 f_kd)), (a_nm, (arI G 401 f_nm)), (a_rc, (arI G 400 z487))] hP hD ?_
                            clear hP hD
                            intro hP hD
                            obtain ⟨qq518, hq518⟩ := i_482
                            refine lv_if_ne (tgt := 163) hx hb dX4_readPlain_158 (by decide +kernel) (fun c_519 => ?_) (fun c_519 => ?_)
                            ·
                              exact absurd c_519 (by decide +kernel)
                            ·
                              refine lv_iconst (v := 0) hx hb dX4_readPlain_161 (by decide +kernel) ?_
                              exact W.zret (v := 0) hx hb hr rfl (fun t ht hW => ⟨⟨0, [(a_r, (oc4 a_tk a_rh a_rs a_rc z484 z485 z486 e_fp)), (a_tk, (oc8 a_kd a_nm a_pl)), (a_kd, (arI G 401 f_kd)), (a_nm, (arI G 401 f_nm)), (a_rc, (arI G 400 z487))], rfl, Or.inr (⟨z484, z485, z486, z487, ⟨by omega, by omega⟩, i_478, i_479, i_480, opk_trans i_378 (i_481) (by omega), ⟨_, pl_r0 hNL (fun q9 => i_306 (hK_304.trans q9)) hd396 (by rw [(hK_397.symm.trans i_460)]; decide) (by omega) (by omega) hq518⟩, by omega, rfl, rfl⟩), by rw [ht]; exact hP.sub [0, 1, 2, 3, 4] rfl, hD.sub [0, 1, 2, 3, 4] (by decide +kernel) rfl⟩, hS.F ht⟩) hS.2.2 dX4_readPlain_162
                        ·
                          exact absurd c_464 (by decide +kernel)
                    ·
                      have hJ9 := va_join (wr := [(a_nm, (arI G 401 f_nm)), (a_rc, (arI G 400 z384))]) hP hD [2, 3, 4] [0, 1] rfl rfl (by decide +kernel) (by decide +kernel) hk1 hFc hP1 hD1
                      clear hP hD hPc hDc hFc ht hvm hz1 hk1 hP1 hD1
                      obtain ⟨hP, hD⟩ := hJ9
                      refine g5_rs [(a_nm, (arI G 401 f_nm)), (a_rc, (arI G 400 z384)), (a_r, (oc4 a_tk a_rh a_rs a_rc z381 z382 z383 e_fp)), (a_tk, (oc8 a_kd a_nm a_pl)), (a_kd, (arI G 401 f_kd))] hP hD ?_
                      clear hP hD
                      intro hP hD
                      refine lv_if_eq (tgt := 120) hx hb dX4_readPlain_112 (by decide +kernel) (fun c_520 => ?_) (fun c_520 => ?_)
                      ·
                        refine lv_aload_n hx hb dX4_readPlain_120 rfl (lv_at hl 2 rfl) ?_
                        refine lv_bipush (v := 61) hx hb dX4_readPlain_121 (by decide +kernel) ?_
                        obtain ⟨hPc, hDc, hFc⟩ := g5_sub3 (wc := [(a_r, (oc4 a_tk a_rh a_rs a_rc z381 z382 z383 e_fp)), (a_tk, (oc8 a_kd a_nm a_pl)), (a_kd, (arI G 401 f_kd))]) hP hD hS hA [2, 3, 4] (by decide +kernel) rfl
                        refine va_calli (va_runV (As := [.int 61]) (rest := []) ⟨hx, hb, hml, hown, hts⟩ (r_isNextX61 l G a_r a_tk a_kd a_rh a_rs a_rc a_nm a_pl H.size z381 z382 z383 e_fp f_kd ⟨by omega, by omega⟩ i_376 i_375 (by omega)) (cwV 1 hts gV_X4_49 rfl rfl rfl hv_X4_isNext ⟨by simp only [headSpec]; omega, by simp only [headSpec]; omega⟩) (g5_preV hPc hK hDc hN hT hS hFc (ci := 4) (q0 := 0) rfl rfl) rfl rfl hl.1 rfl (lv_room (Nat.le_of_ble_eq_true rfl)) dX4_readPlain_123 ⟨Nat.le_of_ble_eq_true rfl, Nat.le_of_ble_eq_true rfl⟩) hS (fun q _ h => hFc q h) hFc (fun r u t H locs ht hvm hw hB hz1 hk1 hS => ?_)
                        obtain ⟨hP1, hD1⟩ := hB
                        have hP1 := g5_ht ht hP1
                        rcases hw with ⟨(i_521 : (f_kd z383.toNatClampNeg).toInt = 61), rfl, rfl⟩ | ⟨(i_522 : gNe (f_kd z383.toNatClampNeg).toInt 61), rfl, rfl⟩
                        ·
                          have hJ9 := va_join (wr := [(a_nm, (arI G 401 f_nm)), (a_rc, (arI G 400 z384))]) hP hD [2, 3, 4] [0, 1] rfl rfl (by decide +kernel) (by decide +kernel) hk1 hFc hP1 hD1
                          clear hP hD hPc hDc hFc ht hvm hz1 hk1 hP1 hD1
                          obtain ⟨hP, hD⟩ := hJ9
                          refine g5_rs [(a_nm, (arI G 401 f_nm)), (a_rc, (arI G 400 z384)), (a_r, (oc4 a_tk a_rh a_rs a_rc z381 z382 z383 e_fp)), (a_tk, (oc8 a_kd a_nm a_pl)), (a_kd, (arI G 401 f_kd))] hP hD ?_
                          clear hP hD
                          intro hP hD
                          refine lv_if_eq (tgt := 134) hx hb dX4_readPlain_126 (by decide +kernel) (fun c_523 => ?_) (fun c_523 => ?_)
                          ·
                            exact absurd c_523 (by decide +kernel)
                          ·
                            refine lv_bipush (v := 8) hx hb dX4_readPlain_129 (by decide +kernel) ?_
                            refine lv_goto (tgt := 135) hx hb dX4_readPlain_131 (by decide +kernel) ?_
                            have hL_524 : z383.toInt < (g_T : Int) := tkr_ltI e_kr (by omega) (by omega) i_521 (by decide +kernel)
                            refine lv_istore_n (lv' := [(3, .int 8), (2, .int k_u), (0, .ref a_r), (1, .int p_d)]) hx hb dX4_readPlain_135 rfl hl (by decide +kernel) rfl ?_
                            clear hl
                            intro ls hl
                            refine lv_iload_n hx hb dX4_readPlain_136 rfl (lv_at hl 0 rfl) ?_
                            refine W.eq (g2 := F0 m 137 ls [.int 8]) rfl ?_
                            refine lv_iconst (v := (-1)) hx hb dX4_readPlain_137 (by decide +kernel) ?_
                            refine lv_icmp_ne (tgt := 143) hx hb dX4_readPlain_138 (by decide +kernel) (fun c_525 => ?_) (fun c_525 => ?_)
                            ·
                              refine lv_aload_n hx hb dX4_readPlain_143 rfl (lv_at hl 2 rfl) ?_
                              refine lv_dup hx hb dX4_readPlain_144 rfl ?_
                              refine va_get (D := G.1) (ci := 4) (v := .int z383) (C := RX4) (T := TX4) (N := 8) hx hb hts inG_X4 hown hK hP 2 rfl rfl 6 (by decide +kernel) (hts _ fl_X4_42) (fun _ h9 => h9) rfl dX4_readPlain_145 ?_
                              refine lv_iconst (v := 1) hx hb dX4_readPlain_148 (by decide +kernel) ?_
                              refine W.eq (g2 := F0 m 149 ls [.int 1, .int z383, .ref a_r]) rfl ?_
                              refine lv_iadd hx hb dX4_readPlain_149 ?_
                              have t_526 : (z383 + 1).toInt = z383.toInt + 1 := g5_iadd (a := z383.toInt) (b := 1) (by rfl) (by decide +kernel) (by omega) (by omega)
                              refine va_put (D := G.1) (ci := 4) (v := .int (z383 + 1)) (ty := .int) (C := RX4) (T := TX4) (N := 8) hx hb hts inG_X4 tyX4 tyX4_ok nmX4 hown hK hP hD hS 2 rfl rfl 6 (by decide +kernel) (hts _ fl_X4_42) (fun _ h9 => h9) rfl (by decide +kernel) rfl rfl (Nat.le_of_ble_eq_true rfl) dX4_readPlain_150 ?_
                              clear hP hD hS
                              intro H locs hP hD hS
                              refine g5_rs [(a_nm, (arI G 401 f_nm)), (a_rc, (arI G 400 z384)), (a_r, (oc4 a_tk a_rh a_rs a_rc z381 z382 (z383 + 1) e_fp)), (a_tk, (oc8 a_kd a_nm a_pl)), (a_kd, (arI G 401 f_kd))] hP hD ?_
                              clear hP hD
                              intro hP hD
                              refine lv_aload_n hx hb dX4_readPlain_153 rfl (lv_at hl 2 rfl) ?_
                              refine lv_iload_n hx hb dX4_readPlain_154 rfl (lv_at hl 3 rfl) ?_
                              obtain ⟨hPc, hDc, hFc⟩ := g5_sub3 (wc := [(a_r, (oc4 a_tk a_rh a_rs a_rc z381 z382 (z383 + 1) e_fp)), (a_tk, (oc8 a_kd a_nm a_pl)), (a_kd, (arI G 401 f_kd)), (a_nm, (arI G 401 f_nm)), (a_rc, (arI G 400 z384))]) hP hD hS hA [2, 3, 4, 0, 1] (by decide +kernel) rfl
                              refine va_calli (va_runV (As := [.int p_d]) (rest := []) ⟨hx, hb, hml, hown, hts⟩ ((r_sumX fr lo p_d h_p_d h_sum) l G a_r a_tk a_kd a_nm a_rc a_rh a_rs a_pl H.size z381 z382 (z383 + 1) e_fp f_kd f_nm z384 g_x g_n g_T ⟨by omega, by omega⟩ i_376 ⟨by omega, by omega⟩ (e_tk) (i_377) (e_by) (e_kr) (by omega) (by omega) (hv396)) (cwV 1 hts gV_X4_73 rfl rfl rfl hv_X4_readSum ⟨by simp only [headSpec]; omega, by simp only [headSpec]; omega⟩) (g5_preV hPc hK hDc hN hT hS hFc (ci := 4) (q0 := 0) rfl rfl) rfl rfl hl.1 rfl (lv_room (Nat.le_of_ble_eq_true rfl)) dX4_readPlain_155 ⟨Nat.le_of_ble_eq_true rfl, Nat.le_of_ble_eq_true rfl⟩) hS (fun q _ h => hFc q h) hFc (fun r u t H locs ht hvm hw hB hz1 hk1 hS => ?_)
                              obtain ⟨hP1, hD1⟩ := hB
                              have hP1 := g5_ht ht hP1
                              rcases hw with ⟨z534, z535, z536, z537, (i_527 : z381.toInt ≤ z534.toInt ∧ z534.toInt ≤ 400), (i_528 : 0 ≤ z536.toInt ∧ z536.toInt ≤ 401), (i_529 : 0 ≤ z535.toInt ∧ z535.toInt ≤ 50), (i_530 : CDI z537 z534.toInt), (i_531 : OPK z384 z537 z381.toInt), (i_532 : ∃ d : DS, (smF (KDT g_x g_n) (NMT g_x g_n) p_d) (z383 + 1).toInt.toNat z382.toInt.toNat = (z536.toInt.toNat, z535.toInt.toNat, some d) ∧ KCC z384 z537 z381.toInt ∧ MCC z537 z381.toInt.toNat z534.toInt.toNat d ∧ lvC z537 z534.toInt.toNat = z535.toInt.toNat), (i_533 : z536.toInt ≤ (g_T : Int) ∧ (z383 + 1).toInt < z536.toInt ∧ z534.toInt + (z383 + 1).toInt ≤ z381.toInt + z536.toInt), rfl, rfl⟩ | ⟨z545, z546, z547, z548, (i_538 : z381.toInt ≤ z545.toInt ∧ z545.toInt ≤ 400), (i_539 : 0 ≤ z547.toInt ∧ z547.toInt ≤ 401), (i_540 : 0 ≤ z546.toInt ∧ z546.toInt ≤ 50), (i_541 : CDI z548 z545.toInt), (i_542 : OPK z384 z548 z381.toInt), (i_543 : ∃ q : Nat, (smF (KDT g_x g_n) (NMT g_x g_n) p_d) (z383 + 1).toInt.toNat z382.toInt.toNat = (z547.toInt.toNat, q, none)), (i_544 : z547.toInt ≤ (g_T : Int)), rfl, rfl⟩
                              ·
                                have hJ9 := va_join (wr := []) hP hD [2, 3, 4, 0, 1] [] rfl rfl (by decide +kernel) (by decide +kernel) hk1 hFc hP1 hD1
                                clear hP hD hPc hDc hFc ht hvm hz1 hk1 hP1 hD1
                                obtain ⟨hP, hD⟩ := hJ9
                                refine g5_rs [(a_r, (oc4 a_tk a_rh a_rs a_rc z534 z535 z536 e_fp)), (a_tk, (oc8 a_kd a_nm a_pl)), (a_kd, (arI G 401 f_kd)), (a_nm, (arI G 401 f_nm)), (a_rc, (arI G 400 z537))] hP hD ?_
                                clear hP hD
                                intro hP hD
                                obtain ⟨dd549, hd549, hc549, hm549, hv549⟩ := i_532
                                have hK_550 : (f_kd z536.toNatClampNeg).toInt = KDT g_x g_n z536.toInt.toNat := tkr_at e_kr (by omega) (by omega)
                                refine lv_if_ne (tgt := 163) hx hb dX4_readPlain_158 (by decide +kernel) (fun c_551 => ?_) (fun c_551 => ?_)
                                ·
                                  refine lv_aload_n hx hb dX4_readPlain_163 rfl (lv_at hl 2 rfl) ?_
                                  refine lv_iload_n hx hb dX4_readPlain_164 rfl (lv_at hl 0 rfl) ?_
                                  refine lv_iconst (v := 0) hx hb dX4_readPlain_165 (by decide +kernel) ?_
                                  obtain ⟨hPc, hDc, hFc⟩ := g5_sub3 (wc := [(a_r, (oc4 a_tk a_rh a_rs a_rc z534 z535 z536 e_fp)), (a_rc, (arI G 400 z537))]) hP hD hS hA [0, 4] (by decide +kernel) rfl
                                  refine va_calli (va_runV (As := [.int 8, .int 0]) (rest := []) ⟨hx, hb, hml, hown, hts⟩ (r_emitX l G a_r a_rc a_tk a_rh a_rs H.size z534 z535 z536 e_fp 8 0 z537 ⟨by omega, by omega⟩ i_529 i_528 (i_530) (by unfold wOK; decide) (by omega)) (cwV 2 hts gV_X4_79 rfl rfl rfl hv_X4_emit ⟨by simp only [headSpec]; omega, by simp only [headSpec]; omega⟩) (g5_preV hPc hK hDc hN hT hS hFc (ci := 4) (q0 := 0) rfl rfl) rfl rfl hl.1 rfl (lv_room (Nat.le_of_ble_eq_true rfl)) dX4_readPlain_166 ⟨Nat.le_of_ble_eq_true rfl, Nat.le_of_ble_eq_true rfl⟩) hS (fun q _ h => hFc q h) hFc (fun r u t H locs ht hvm hw hB hz1 hk1 hS => ?_)
                                  obtain ⟨hP1, hD1⟩ := hB
                                  have hP1 := g5_ht ht hP1
                                  obtain ⟨z560, z561, z562, (i_552 : 0 ≤ z560.toInt ∧ z560.toInt ≤ 399), (i_553 : z560.toInt = z534.toInt), (i_554 : z561.toInt = z534.toInt + 1), (i_555 : z534.toInt ≤ z561.toInt ∧ z561.toInt ≤ 400), (i_556 : CDI z562 z561.toInt), (i_557 : OPK z537 z562 z534.toInt), (i_558 : 0 ≤ z560.toInt → z560.toInt < z561.toInt ∧ z562 z560.toNatClampNeg = (((8 : Int32) <<< (12 &&& 31)) ||| (0 : Int32))), (i_559 : z562 = upd z537 z534.toNatClampNeg (((8 : Int32) <<< (12 &&& 31)) ||| (0 : Int32))), y563, rfl⟩ := hw
                                  have hJ9 := va_join (wr := [(a_tk, (oc8 a_kd a_nm a_pl)), (a_kd, (arI G 401 f_kd)), (a_nm, (arI G 401 f_nm))]) hP hD [0, 4] [1, 2, 3] rfl rfl (by decide +kernel) (by decide +kernel) hk1 hFc hP1 hD1
                                  clear hP hD hPc hDc hFc ht hvm hz1 hk1 hP1 hD1
                                  obtain ⟨hP, hD⟩ := hJ9
                                  refine g5_rs [(a_tk, (oc8 a_kd a_nm a_pl)), (a_kd, (arI G 401 f_kd)), (a_nm, (arI G 401 f_nm)), (a_r, (oc4 a_tk a_rh a_rs a_rc z561 z535 z536 e_fp)), (a_rc, (arI G 400 z562))] hP hD ?_
                                  clear hP hD
                                  intro hP hD
                                  refine g5_ti (v := z560) y563 ?_
                                  have hE_564 : lvC z562 z561.toInt.toNat = z535.toInt.toNat := by rw [i_559, lvC_em0 (by omega) (by omega) (opT_20 (by decide +kernel) (by decide +kernel))]; exact hv549
                                  refine W.eq (g2 := F0 m 169 ls [.int z560]) rfl ?_
                                  refine lv_pop hx hb dX4_readPlain_169 rfl ?_
                                  refine lv_iload_n hx hb dX4_readPlain_170 rfl (lv_at hl 1 rfl) ?_
                                  refine lv_if_eq (tgt := 182) hx hb dX4_readPlain_171 (by decide +kernel) (fun c_565 => ?_) (fun c_565 => ?_)
                                  ·
                                    have i_565 : k_u.toInt = 0 := g5_eq (a := k_u.toInt) (b := 0) rfl (by decide +kernel) c_565
                                    refine lv_iconst (v := 1) hx hb dX4_readPlain_182 (by decide +kernel) ?_
                                    exact W.zret (v := 1) hx hb hr rfl (fun t ht hW => ⟨⟨1, [(a_r, (oc4 a_tk a_rh a_rs a_rc z561 z535 z536 e_fp)), (a_tk, (oc8 a_kd a_nm a_pl)), (a_kd, (arI G 401 f_kd)), (a_nm, (arI G 401 f_nm)), (a_rc, (arI G 400 z562))], rfl, Or.inl (⟨z561, z535, z536, z562, ⟨by omega, by omega⟩, i_528, i_529, i_556, opk_trans i_378 (opk_trans i_531 (i_557) (by omega)) (by omega), by have f9 := pl_1 hNL (fun q9 => i_306 (hK_304.trans q9)) hd396 (by rw [(hK_397.symm.trans i_521)]; decide) (by omega) (by omega) hd549; rw [nt_0 (by omega)] at f9; exact ⟨_, f9, (i01_c (o := cpM (KDT g_x g_n z383.toInt.toNat)) (l := dd396) (r := dd549) (by rw [(hK_397.symm.trans i_521)]; decide)), (by rw [i_559]; exact kcc_tr (kcc_tr hc396 hc549 (by omega)) (kcc_em (by omega)) (by omega)), (by rw [i_559]; have q9 := hm396.1; have z9 := mcc_bin (o := 8) (by omega) (by omega) (mcc_k hm396 hc549 (by omega)) hm549 ⟨by decide, by decide⟩; rw [show cpM (KDT g_x g_n z383.toInt.toNat) = (8 : Int32).toInt + 18 by rw [(hK_397.symm.trans i_521)]; decide]; exact z9), hE_564⟩, by omega, rfl, rfl⟩), by rw [ht]; exact hP.sub [3, 0, 1, 2, 4] rfl, hD.sub [3, 0, 1, 2, 4] (by decide +kernel) rfl⟩, hS.F ht⟩) hS.2.2 dX4_readPlain_183
                                  ·
                                    have n_565 : gNe (k_u.toInt) (0) := g5_eqN (a := k_u.toInt) (b := 0) rfl (by decide +kernel) c_565
                                    have i_565 : k_u.toInt ≥ 1 := by have z := g5_eqN (a := k_u.toInt) (b := 0) (by rfl) (by decide +kernel) c_565; omega
                                    refine lv_aload_n hx hb dX4_readPlain_174 rfl (lv_at hl 2 rfl) ?_
                                    refine lv_bipush (v := 9) hx hb dX4_readPlain_175 (by decide +kernel) ?_
                                    refine lv_iconst (v := 0) hx hb dX4_readPlain_177 (by decide +kernel) ?_
                                    obtain ⟨hPc, hDc, hFc⟩ := g5_sub3 (wc := [(a_r, (oc4 a_tk a_rh a_rs a_rc z561 z535 z536 e_fp)), (a_rc, (arI G 400 z562))]) hP hD hS hA [3, 4] (by decide +kernel) rfl
                                    refine va_calli (va_runV (As := [.int 9, .int 0]) (rest := []) ⟨hx, hb, hml, hown, hts⟩ (r_emitX l G a_r a_rc a_tk a_rh a_rs H.size z561 z535 z536 e_fp 9 0 z562 ⟨by omega, by omega⟩ i_529 i_528 (i_556) (by unfold wOK; decide) (by omega)) (cwV 2 hts gV_X4_79 rfl rfl rfl hv_X4_emit ⟨by simp only [headSpec]; omega, by simp only [headSpec]; omega⟩) (g5_preV hPc hK hDc hN hT hS hFc (ci := 4) (q0 := 0) rfl rfl) rfl rfl hl.1 rfl (lv_room (Nat.le_of_ble_eq_true rfl)) dX4_readPlain_178 ⟨Nat.le_of_ble_eq_true rfl, Nat.le_of_ble_eq_true rfl⟩) hS (fun q _ h => hFc q h) hFc (fun r u t H locs ht hvm hw hB hz1 hk1 hS => ?_)
                                    obtain ⟨hP1, hD1⟩ := hB
                                    have hP1 := g5_ht ht hP1
                                    obtain ⟨z574, z575, z576, (i_566 : 0 ≤ z574.toInt ∧ z574.toInt ≤ 399), (i_567 : z574.toInt = z561.toInt), (i_568 : z575.toInt = z561.toInt + 1), (i_569 : z561.toInt ≤ z575.toInt ∧ z575.toInt ≤ 400), (i_570 : CDI z576 z575.toInt), (i_571 : OPK z562 z576 z561.toInt), (i_572 : 0 ≤ z574.toInt → z574.toInt < z575.toInt ∧ z576 z574.toNatClampNeg = (((9 : Int32) <<< (12 &&& 31)) ||| (0 : Int32))), (i_573 : z576 = upd z562 z561.toNatClampNeg (((9 : Int32) <<< (12 &&& 31)) ||| (0 : Int32))), y577, rfl⟩ := hw
                                    have hJ9 := va_join (wr := [(a_tk, (oc8 a_kd a_nm a_pl)), (a_kd, (arI G 401 f_kd)), (a_nm, (arI G 401 f_nm))]) hP hD [3, 4] [0, 1, 2] rfl rfl (by decide +kernel) (by decide +kernel) hk1 hFc hP1 hD1
                                    clear hP hD hPc hDc hFc ht hvm hz1 hk1 hP1 hD1
                                    obtain ⟨hP, hD⟩ := hJ9
                                    refine g5_rs [(a_tk, (oc8 a_kd a_nm a_pl)), (a_kd, (arI G 401 f_kd)), (a_nm, (arI G 401 f_nm)), (a_r, (oc4 a_tk a_rh a_rs a_rc z575 z535 z536 e_fp)), (a_rc, (arI G 400 z576))] hP hD ?_
                                    clear hP hD
                                    intro hP hD
                                    refine g5_ti (v := z574) y577 ?_
                                    have hE_578 : lvC z576 z575.toInt.toNat = z535.toInt.toNat := by rw [i_573, lvC_em0 (by omega) (by omega) (opT_20 (by decide +kernel) (by decide +kernel))]; exact hE_564
                                    refine W.eq (g2 := F0 m 181 ls [.int z574]) rfl ?_
                                    refine lv_pop hx hb dX4_readPlain_181 rfl ?_
                                    refine lv_iconst (v := 1) hx hb dX4_readPlain_182 (by decide +kernel) ?_
                                    exact W.zret (v := 1) hx hb hr rfl (fun t ht hW => ⟨⟨1, [(a_r, (oc4 a_tk a_rh a_rs a_rc z575 z535 z536 e_fp)), (a_tk, (oc8 a_kd a_nm a_pl)), (a_kd, (arI G 401 f_kd)), (a_nm, (arI G 401 f_nm)), (a_rc, (arI G 400 z576))], rfl, Or.inl (⟨z575, z535, z536, z576, ⟨by omega, by omega⟩, i_528, i_529, i_570, opk_trans i_378 (opk_trans i_531 (opk_trans i_557 (i_571) (by omega)) (by omega)) (by omega), by have f9 := pl_1 hNL (fun q9 => i_306 (hK_304.trans q9)) hd396 (by rw [(hK_397.symm.trans i_521)]; decide) (by omega) (by omega) hd549; have z9 := (i01_c (o := cpM (KDT g_x g_n z383.toInt.toNat)) (l := dd396) (r := dd549) (by rw [(hK_397.symm.trans i_521)]; decide)); have k9 := (show KCC f_rc z562 e_ln.toInt from (by rw [i_559]; exact kcc_tr (kcc_tr hc396 hc549 (by omega)) (kcc_em (by omega)) (by omega))); have m9 := (show MCC z562 e_ln.toInt.toNat z561.toInt.toNat (bS (cpM (KDT g_x g_n z383.toInt.toNat)) dd396 dd549) from (by rw [i_559]; have q9 := hm396.1; have z9 := mcc_bin (o := 8) (by omega) (by omega) (mcc_k hm396 hc549 (by omega)) hm549 ⟨by decide, by decide⟩; rw [show cpM (KDT g_x g_n z383.toInt.toNat) = (8 : Int32).toInt + 18 by rw [(hK_397.symm.trans i_521)]; decide]; exact z9)); rw [nt_1 (by omega)] at f9; exact ⟨_, f9, i01_n z9, by rw [i_573]; exact kcc_tr k9 (kcc_em (by omega)) (by omega), by rw [i_573]; exact mcc_not (by omega) (by omega) m9, hE_578⟩, by omega, rfl, rfl⟩), by rw [ht]; exact hP.sub [3, 0, 1, 2, 4] rfl, hD.sub [3, 0, 1, 2, 4] (by decide +kernel) rfl⟩, hS.F ht⟩) hS.2.2 dX4_readPlain_183
                                ·
                                  exact absurd c_551 (by decide +kernel)
                              ·
                                have hJ9 := va_join (wr := []) hP hD [2, 3, 4, 0, 1] [] rfl rfl (by decide +kernel) (by decide +kernel) hk1 hFc hP1 hD1
                                clear hP hD hPc hDc hFc ht hvm hz1 hk1 hP1 hD1
                                obtain ⟨hP, hD⟩ := hJ9
                                refine g5_rs [(a_r, (oc4 a_tk a_rh a_rs a_rc z545 z546 z547 e_fp)), (a_tk, (oc8 a_kd a_nm a_pl)), (a_kd, (arI G 401 f_kd)), (a_nm, (arI G 401 f_nm)), (a_rc, (arI G 400 z548))] hP hD ?_
                                clear hP hD
                                intro hP hD
                                obtain ⟨qq579, hq579⟩ := i_543
                                refine lv_if_ne (tgt := 163) hx hb dX4_readPlain_158 (by decide +kernel) (fun c_580 => ?_) (fun c_580 => ?_)
                                ·
                                  exact absurd c_580 (by decide +kernel)
                                ·
                                  refine lv_iconst (v := 0) hx hb dX4_readPlain_161 (by decide +kernel) ?_
                                  exact W.zret (v := 0) hx hb hr rfl (fun t ht hW => ⟨⟨0, [(a_r, (oc4 a_tk a_rh a_rs a_rc z545 z546 z547 e_fp)), (a_tk, (oc8 a_kd a_nm a_pl)), (a_kd, (arI G 401 f_kd)), (a_nm, (arI G 401 f_nm)), (a_rc, (arI G 400 z548))], rfl, Or.inr (⟨z545, z546, z547, z548, ⟨by omega, by omega⟩, i_539, i_540, i_541, opk_trans i_378 (i_542) (by omega), ⟨_, pl_r0 hNL (fun q9 => i_306 (hK_304.trans q9)) hd396 (by rw [(hK_397.symm.trans i_521)]; decide) (by omega) (by omega) hq579⟩, by omega, rfl, rfl⟩), by rw [ht]; exact hP.sub [0, 1, 2, 3, 4] rfl, hD.sub [0, 1, 2, 3, 4] (by decide +kernel) rfl⟩, hS.F ht⟩) hS.2.2 dX4_readPlain_162
                            ·
                              exact absurd c_525 (by decide +kernel)
                        ·
                          have hJ9 := va_join (wr := [(a_nm, (arI G 401 f_nm)), (a_rc, (arI G 400 z384))]) hP hD [2, 3, 4] [0, 1] rfl rfl (by decide +kernel) (by decide +kernel) hk1 hFc hP1 hD1
                          clear hP hD hPc hDc hFc ht hvm hz1 hk1 hP1 hD1
                          obtain ⟨hP, hD⟩ := hJ9
                          refine g5_rs [(a_nm, (arI G 401 f_nm)), (a_rc, (arI G 400 z384)), (a_r, (oc4 a_tk a_rh a_rs a_rc z381 z382 z383 e_fp)), (a_tk, (oc8 a_kd a_nm a_pl)), (a_kd, (arI G 401 f_kd))] hP hD ?_
                          clear hP hD
                          intro hP hD
                          refine lv_if_eq (tgt := 134) hx hb dX4_readPlain_126 (by decide +kernel) (fun c_581 => ?_) (fun c_581 => ?_)
                          ·
                            refine lv_iconst (v := (-1)) hx hb dX4_readPlain_134 (by decide +kernel) ?_
                            refine lv_istore_n (lv' := [(3, .int (-1)), (2, .int k_u), (0, .ref a_r), (1, .int p_d)]) hx hb dX4_readPlain_135 rfl hl (by decide +kernel) rfl ?_
                            clear hl
                            intro ls hl
                            refine lv_iload_n hx hb dX4_readPlain_136 rfl (lv_at hl 0 rfl) ?_
                            refine lv_iconst (v := (-1)) hx hb dX4_readPlain_137 (by decide +kernel) ?_
                            refine W.eq (g2 := F0 m 138 ls [.int (-1), .int (-1)]) rfl ?_
                            refine lv_icmp_ne (tgt := 143) hx hb dX4_readPlain_138 (by decide +kernel) (fun c_582 => ?_) (fun c_582 => ?_)
                            ·
                              exact absurd c_582 (by decide +kernel)
                            ·
                              refine lv_iconst (v := 0) hx hb dX4_readPlain_141 (by decide +kernel) ?_
                              exact W.zret (v := 0) hx hb hr rfl (fun t ht hW => ⟨⟨0, [(a_r, (oc4 a_tk a_rh a_rs a_rc z381 z382 z383 e_fp)), (a_tk, (oc8 a_kd a_nm a_pl)), (a_kd, (arI G 401 f_kd)), (a_nm, (arI G 401 f_nm)), (a_rc, (arI G 400 z384))], rfl, Or.inr (⟨z381, z382, z383, z384, ⟨by omega, by omega⟩, i_375, i_376, i_377, i_378, ⟨_, pl_c0 hNL (fun q9 => i_306 (hK_304.trans q9)) hd396 (cpM_0 (fun q9 => i_400 (hK_397.trans q9)) (fun q9 => i_461 (hK_397.trans q9)) (fun q9 => i_522 (hK_397.trans q9)))⟩, by omega, rfl, rfl⟩), by rw [ht]; exact hP.sub [2, 3, 4, 0, 1] rfl, hD.sub [2, 3, 4, 0, 1] (by decide +kernel) rfl⟩, hS.F ht⟩) hS.2.2 dX4_readPlain_142
                          ·
                            exact absurd c_581 (by decide +kernel)
                      ·
                        exact absurd c_520 (by decide +kernel)
                  ·
                    exact absurd c_459 (by decide +kernel)
              ·
                exact absurd c_398 (by decide +kernel)
            ·
              have hJ9 := va_join (wr := []) hP hD [2, 3, 4, 0, 1] [] rfl rfl (by decide +kernel) (by decide +kernel) hk1 hFc hP1 hD1
              clear hP hD hPc hDc hFc ht hvm hz1 hk1 hP1 hD1
              obtain ⟨hP, hD⟩ := hJ9
              refine g5_rs [(a_r, (oc4 a_tk a_rh a_rs a_rc z392 z393 z394 e_fp)), (a_tk, (oc8 a_kd a_nm a_pl)), (a_kd, (arI G 401 f_kd)), (a_nm, (arI G 401 f_nm)), (a_rc, (arI G 400 z395))] hP hD ?_
              clear hP hD
              intro hP hD
              obtain ⟨qq583, hq583⟩ := i_390
              refine lv_if_ne (tgt := 92) hx hb dX4_readPlain_87 (by decide +kernel) (fun c_584 => ?_) (fun c_584 => ?_)
              ·
                exact absurd c_584 (by decide +kernel)
              ·
                refine lv_iconst (v := 0) hx hb dX4_readPlain_90 (by decide +kernel) ?_
                exact W.zret (v := 0) hx hb hr rfl (fun t ht hW => ⟨⟨0, [(a_r, (oc4 a_tk a_rh a_rs a_rc z392 z393 z394 e_fp)), (a_tk, (oc8 a_kd a_nm a_pl)), (a_kd, (arI G 401 f_kd)), (a_nm, (arI G 401 f_nm)), (a_rc, (arI G 400 z395))], rfl, Or.inr (⟨z392, z393, z394, z395, ⟨by omega, by omega⟩, i_386, i_387, i_388, i_389, ⟨_, pl_s0 hNL (fun q9 => i_306 (hK_304.trans q9)) hq583⟩, by omega, rfl, rfl⟩), by rw [ht]; exact hP.sub [0, 1, 2, 3, 4] rfl, hD.sub [0, 1, 2, 3, 4] (by decide +kernel) rfl⟩, hS.F ht⟩) hS.2.2 dX4_readPlain_91
          ·
            exact absurd c_373 (by decide +kernel)
      ·
        exact absurd c_303 (by decide +kernel)
