set_option maxHeartbeats 4000000 in
set_option maxRecDepth 100000 in
theorem r_testX (fr lo f2 l2 : Nat) (p_d : Int32) (h_p_d : 0 ≤ p_d.toInt ∧ p_d.toInt ≤ 8) (h_sum : ∀ x : Int32, x.toInt = p_d.toInt + 1 → p_d.toInt < 8 → ∀ (l : Launch) (G : g5_G) (a_r a_tk a_kd a_nm a_rc a_rh a_rs a_pl : Nat) (sz : Nat) (e_ln : Int32) (e_pa : Int32) (e_at : Int32) (e_fp : Int32) (f_kd : Nat → Int32) (f_nm : Nat → Int32) (f_rc : Nat → Int32) (g_x : Nat → Int32) (g_n : Nat) (g_T : Nat) (h_e_ln : 0 ≤ e_ln.toInt ∧ e_ln.toInt ≤ 400) (h_e_pa : 0 ≤ e_pa.toInt ∧ e_pa.toInt ≤ 50) (h_e_at : 0 ≤ e_at.toInt ∧ e_at.toInt ≤ 401) (e_tk : TOKI f_kd f_nm) (e_cd : CDI f_rc e_ln.toInt) (e_by : byOK g_x) (e_kr : TKR f_kd f_nm g_x g_n g_T) (e_aT : e_at.toInt ≤ (g_T : Int)) (e_la : e_ln.toInt ≤ e_at.toInt) (e_lv : lvC f_rc e_ln.toInt.toNat = e_pa.toInt.toNat), Met l yX4_readSum (wsG yX4_readSum cX4_readSum 6 (some .boolean)) ({ frames := fr + 0, cells := 0, slots := 0, locals := lo + 0 }) (va_Pc [.ref a_r, .int x] (g5_P G [(a_r, (oc4 a_tk a_rh a_rs a_rc e_ln e_pa e_at e_fp)), (a_tk, (oc8 a_kd a_nm a_pl)), (a_kd, (arI G 401 f_kd)), (a_nm, (arI G 401 f_nm)), (a_rc, (arI G 400 f_rc))] sz)) (va_Qi (fun (r : Int32) (u : va_W) => (∃ (o_ln : Int32) (o_pa : Int32) (o_at : Int32) (o_rc : Nat → Int32), (e_ln.toInt ≤ o_ln.toInt ∧ o_ln.toInt ≤ 400) ∧ (0 ≤ o_at.toInt ∧ o_at.toInt ≤ 401) ∧ (0 ≤ o_pa.toInt ∧ o_pa.toInt ≤ 50) ∧ (CDI o_rc o_ln.toInt) ∧ (OPK f_rc o_rc e_ln.toInt) ∧ (∃ d : DS, (smF (KDT g_x g_n) (NMT g_x g_n) x) e_at.toInt.toNat e_pa.toInt.toNat = (o_at.toInt.toNat, o_pa.toInt.toNat, some d) ∧ KCC f_rc o_rc e_ln.toInt ∧ MCC o_rc e_ln.toInt.toNat o_ln.toInt.toNat d ∧ lvC o_rc o_ln.toInt.toNat = o_pa.toInt.toNat) ∧ (o_at.toInt ≤ (g_T : Int) ∧ e_at.toInt < o_at.toInt ∧ o_ln.toInt + e_at.toInt ≤ e_ln.toInt + o_at.toInt) ∧ (r = 1) ∧ (u = [(a_r, (oc4 a_tk a_rh a_rs a_rc o_ln o_pa o_at e_fp)), (a_tk, (oc8 a_kd a_nm a_pl)), (a_kd, (arI G 401 f_kd)), (a_nm, (arI G 401 f_nm)), (a_rc, (arI G 400 o_rc))])) ∨ (∃ (o_ln : Int32) (o_pa : Int32) (o_at : Int32) (o_rc : Nat → Int32), (e_ln.toInt ≤ o_ln.toInt ∧ o_ln.toInt ≤ 400) ∧ (0 ≤ o_at.toInt ∧ o_at.toInt ≤ 401) ∧ (0 ≤ o_pa.toInt ∧ o_pa.toInt ≤ 50) ∧ (CDI o_rc o_ln.toInt) ∧ (OPK f_rc o_rc e_ln.toInt) ∧ (∃ q : Nat, (smF (KDT g_x g_n) (NMT g_x g_n) x) e_at.toInt.toNat e_pa.toInt.toNat = (o_at.toInt.toNat, q, none)) ∧ (o_at.toInt ≤ (g_T : Int)) ∧ (r = 0) ∧ (u = [(a_r, (oc4 a_tk a_rh a_rs a_rc o_ln o_pa o_at e_fp)), (a_tk, (oc8 a_kd a_nm a_pl)), (a_kd, (arI G 401 f_kd)), (a_nm, (arI G 401 f_nm)), (a_rc, (arI G 400 o_rc))]))) (g5_B G (va_A [(a_r, (oc4 a_tk a_rh a_rs a_rc e_ln e_pa e_at e_fp)), (a_tk, (oc8 a_kd a_nm a_pl)), (a_kd, (arI G 401 f_kd)), (a_nm, (arI G 401 f_nm)), (a_rc, (arI G 400 f_rc))] sz)) (va_A [(a_r, (oc4 a_tk a_rh a_rs a_rc e_ln e_pa e_at e_fp)), (a_tk, (oc8 a_kd a_nm a_pl)), (a_kd, (arI G 401 f_kd)), (a_nm, (arI G 401 f_nm)), (a_rc, (arI G 400 f_rc))] sz)) 0 0 (va_A [(a_r, (oc4 a_tk a_rh a_rs a_rc e_ln e_pa e_at e_fp)), (a_tk, (oc8 a_kd a_nm a_pl)), (a_kd, (arI G 401 f_kd)), (a_nm, (arI G 401 f_nm)), (a_rc, (arI G 400 f_rc))] sz)) (h_test : ∀ x : Int32, x.toInt = p_d.toInt + 1 → p_d.toInt < 8 → ∀ (l : Launch) (G : g5_G) (a_r a_tk a_kd a_nm a_rc a_rh a_rs a_pl : Nat) (sz : Nat) (e_ln : Int32) (e_pa : Int32) (e_at : Int32) (e_fp : Int32) (f_kd : Nat → Int32) (f_nm : Nat → Int32) (f_rc : Nat → Int32) (g_x : Nat → Int32) (g_n : Nat) (g_T : Nat) (h_e_ln : 0 ≤ e_ln.toInt ∧ e_ln.toInt ≤ 400) (h_e_pa : 0 ≤ e_pa.toInt ∧ e_pa.toInt ≤ 50) (h_e_at : 0 ≤ e_at.toInt ∧ e_at.toInt ≤ 401) (e_tk : TOKI f_kd f_nm) (e_cd : CDI f_rc e_ln.toInt) (e_by : byOK g_x) (e_kr : TKR f_kd f_nm g_x g_n g_T) (e_aT : e_at.toInt ≤ (g_T : Int)) (e_la : e_ln.toInt ≤ e_at.toInt) (e_lv : lvC f_rc e_ln.toInt.toNat = e_pa.toInt.toNat), Met l yX4_readTest (wsG yX4_readTest cX4_readTest 6 (some .boolean)) ({ frames := f2 + 0, cells := 0, slots := 0, locals := l2 + 0 }) (va_Pc [.ref a_r, .int x] (g5_P G [(a_r, (oc4 a_tk a_rh a_rs a_rc e_ln e_pa e_at e_fp)), (a_tk, (oc8 a_kd a_nm a_pl)), (a_kd, (arI G 401 f_kd)), (a_nm, (arI G 401 f_nm)), (a_rc, (arI G 400 f_rc))] sz)) (va_Qi (fun (r : Int32) (u : va_W) => (∃ (o_ln : Int32) (o_pa : Int32) (o_at : Int32) (o_rc : Nat → Int32), (e_ln.toInt ≤ o_ln.toInt ∧ o_ln.toInt ≤ 400) ∧ (0 ≤ o_at.toInt ∧ o_at.toInt ≤ 401) ∧ (0 ≤ o_pa.toInt ∧ o_pa.toInt ≤ 50) ∧ (CDI o_rc o_ln.toInt) ∧ (OPK f_rc o_rc e_ln.toInt) ∧ (∃ d : DS, (tsF (KDT g_x g_n) (NMT g_x g_n) x) e_at.toInt.toNat e_pa.toInt.toNat = (o_at.toInt.toNat, o_pa.toInt.toNat, some d) ∧ is01 d ∧ KCC f_rc o_rc e_ln.toInt ∧ MCC o_rc e_ln.toInt.toNat o_ln.toInt.toNat d ∧ lvC o_rc o_ln.toInt.toNat = o_pa.toInt.toNat) ∧ (o_at.toInt ≤ (g_T : Int) ∧ e_at.toInt < o_at.toInt ∧ o_ln.toInt + e_at.toInt ≤ e_ln.toInt + o_at.toInt) ∧ (r = 1) ∧ (u = [(a_r, (oc4 a_tk a_rh a_rs a_rc o_ln o_pa o_at e_fp)), (a_tk, (oc8 a_kd a_nm a_pl)), (a_kd, (arI G 401 f_kd)), (a_nm, (arI G 401 f_nm)), (a_rc, (arI G 400 o_rc))])) ∨ (∃ (o_ln : Int32) (o_pa : Int32) (o_at : Int32) (o_rc : Nat → Int32), (e_ln.toInt ≤ o_ln.toInt ∧ o_ln.toInt ≤ 400) ∧ (0 ≤ o_at.toInt ∧ o_at.toInt ≤ 401) ∧ (0 ≤ o_pa.toInt ∧ o_pa.toInt ≤ 50) ∧ (CDI o_rc o_ln.toInt) ∧ (OPK f_rc o_rc e_ln.toInt) ∧ (∃ q : Nat, (tsF (KDT g_x g_n) (NMT g_x g_n) x) e_at.toInt.toNat e_pa.toInt.toNat = (o_at.toInt.toNat, q, none)) ∧ (o_at.toInt ≤ (g_T : Int)) ∧ (r = 0) ∧ (u = [(a_r, (oc4 a_tk a_rh a_rs a_rc o_ln o_pa o_at e_fp)), (a_tk, (oc8 a_kd a_nm a_pl)), (a_kd, (arI G 401 f_kd)), (a_nm, (arI G 401 f_nm)), (a_rc, (arI G 400 o_rc))]))) (g5_B G (va_A [(a_r, (oc4 a_tk a_rh a_rs a_rc e_ln e_pa e_at e_fp)), (a_tk, (oc8 a_kd a_nm a_pl)), (a_kd, (arI G 401 f_kd)), (a_nm, (arI G 401 f_nm)), (a_rc, (arI G 400 f_rc))] sz)) (va_A [(a_r, (oc4 a_tk a_rh a_rs a_rc e_ln e_pa e_at e_fp)), (a_tk, (oc8 a_kd a_nm a_pl)), (a_kd, (arI G 401 f_kd)), (a_nm, (arI G 401 f_nm)), (a_rc, (arI G 400 f_rc))] sz)) 0 0 (va_A [(a_r, (oc4 a_tk a_rh a_rs a_rc e_ln e_pa e_at e_fp)), (a_tk, (oc8 a_kd a_nm a_pl)), (a_kd, (arI G 401 f_kd)), (a_nm, (arI G 401 f_nm)), (a_rc, (arI G 400 f_rc))] sz)) (l : Launch) (G : g5_G) (a_r a_tk a_kd a_nm a_rc a_rh a_rs a_pl : Nat) (sz : Nat) (e_ln : Int32) (e_pa : Int32) (e_at : Int32) (e_fp : Int32) (f_kd : Nat → Int32) (f_nm : Nat → Int32) (f_rc : Nat → Int32) (g_x : Nat → Int32) (g_n : Nat) (g_T : Nat) (h_e_ln : 0 ≤ e_ln.toInt ∧ e_ln.toInt ≤ 400) (h_e_pa : 0 ≤ e_pa.toInt ∧ e_pa.toInt ≤ 50) (h_e_at : 0 ≤ e_at.toInt ∧ e_at.toInt ≤ 401) (e_tk : TOKI f_kd f_nm) (e_cd : CDI f_rc e_ln.toInt) (e_by : byOK g_x) (e_kr : TKR f_kd f_nm g_x g_n g_T) (e_aT : e_at.toInt ≤ (g_T : Int)) (e_la : e_ln.toInt ≤ e_at.toInt) (e_lv : lvC f_rc e_ln.toInt.toNat = e_pa.toInt.toNat) : Met l yX4_readTest (wsG yX4_readTest cX4_readTest 6 (some .boolean)) ({ frames := fr + f2 + 4, cells := 0, slots := 0, locals := lo + l2 + 96 }) (va_Pc [.ref a_r, .int p_d] (g5_P G [(a_r, (oc4 a_tk a_rh a_rs a_rc e_ln e_pa e_at e_fp)), (a_tk, (oc8 a_kd a_nm a_pl)), (a_kd, (arI G 401 f_kd)), (a_nm, (arI G 401 f_nm)), (a_rc, (arI G 400 f_rc))] sz)) (va_Qi (fun (r : Int32) (u : va_W) => (∃ (o_ln : Int32) (o_pa : Int32) (o_at : Int32) (o_rc : Nat → Int32), (e_ln.toInt ≤ o_ln.toInt ∧ o_ln.toInt ≤ 400) ∧ (0 ≤ o_at.toInt ∧ o_at.toInt ≤ 401) ∧ (0 ≤ o_pa.toInt ∧ o_pa.toInt ≤ 50) ∧ (CDI o_rc o_ln.toInt) ∧ (OPK f_rc o_rc e_ln.toInt) ∧ (∃ d : DS, (tsF (KDT g_x g_n) (NMT g_x g_n) p_d) e_at.toInt.toNat e_pa.toInt.toNat = (o_at.toInt.toNat, o_pa.toInt.toNat, some d) ∧ is01 d ∧ KCC f_rc o_rc e_ln.toInt ∧ MCC o_rc e_ln.toInt.toNat o_ln.toInt.toNat d ∧ lvC o_rc o_ln.toInt.toNat = o_pa.toInt.toNat) ∧ (o_at.toInt ≤ (g_T : Int) ∧ e_at.toInt < o_at.toInt ∧ o_ln.toInt + e_at.toInt ≤ e_ln.toInt + o_at.toInt) ∧ (r = 1) ∧ (u = [(a_r, (oc4 a_tk a_rh a_rs a_rc o_ln o_pa o_at e_fp)), (a_tk, (oc8 a_kd a_nm a_pl)), (a_kd, (arI G 401 f_kd)), (a_nm, (arI G 401 f_nm)), (a_rc, (arI G 400 o_rc))])) ∨ (∃ (o_ln : Int32) (o_pa : Int32) (o_at : Int32) (o_rc : Nat → Int32), (e_ln.toInt ≤ o_ln.toInt ∧ o_ln.toInt ≤ 400) ∧ (0 ≤ o_at.toInt ∧ o_at.toInt ≤ 401) ∧ (0 ≤ o_pa.toInt ∧ o_pa.toInt ≤ 50) ∧ (CDI o_rc o_ln.toInt) ∧ (OPK f_rc o_rc e_ln.toInt) ∧ (∃ q : Nat, (tsF (KDT g_x g_n) (NMT g_x g_n) p_d) e_at.toInt.toNat e_pa.toInt.toNat = (o_at.toInt.toNat, q, none)) ∧ (o_at.toInt ≤ (g_T : Int)) ∧ (r = 0) ∧ (u = [(a_r, (oc4 a_tk a_rh a_rs a_rc o_ln o_pa o_at e_fp)), (a_tk, (oc8 a_kd a_nm a_pl)), (a_kd, (arI G 401 f_kd)), (a_nm, (arI G 401 f_nm)), (a_rc, (arI G 400 o_rc))]))) (g5_B G (va_A [(a_r, (oc4 a_tk a_rh a_rs a_rc e_ln e_pa e_at e_fp)), (a_tk, (oc8 a_kd a_nm a_pl)), (a_kd, (arI G 401 f_kd)), (a_nm, (arI G 401 f_nm)), (a_rc, (arI G 400 f_rc))] sz)) (va_A [(a_r, (oc4 a_tk a_rh a_rs a_rc e_ln e_pa e_at e_fp)), (a_tk, (oc8 a_kd a_nm a_pl)), (a_kd, (arI G 401 f_kd)), (a_nm, (arI G 401 f_nm)), (a_rc, (arI G 400 f_rc))] sz)) 0 0 (va_A [(a_r, (oc4 a_tk a_rh a_rs a_rc e_ln e_pa e_at e_fp)), (a_tk, (oc8 a_kd a_nm a_pl)), (a_kd, (arI G 401 f_kd)), (a_nm, (arI G 401 f_nm)), (a_rc, (arI G 400 f_rc))] sz) := by
  refine Met.ofW (cc := cX4_readTest) (maxL := 6) (ret := (some .boolean)) (by decide +kernel) rfl ?_
  intro p e s m args below meth c s₁ B hml hv
  obtain ⟨rfl, hsz, hP, hK, hD0, hN, hT⟩ := hv
  have hx := B.exec
  have hb := B.bytes
  have hr := B.returns
  have hts : ∀ w ∈ tblG, w.before _ s = true := fun w h => atoms_spec (ws := (wsG yX4_readTest cX4_readTest 6 (some .boolean))) B.pre w (List.mem_cons_of_mem _ h)
  have hown : s.vm.findClass RX4 = some m.cls := findClass_of_methodNamed B.named
  have hlocks := B.notSynchronized
  subst hsz
  have hD := hD0.self (sz := s.heap.size)
  generalize hAe : va_A [(a_r, (oc4 a_tk a_rh a_rs a_rc e_ln e_pa e_at e_fp)), (a_tk, (oc8 a_kd a_nm a_pl)), (a_kd, (arI G 401 f_kd)), (a_nm, (arI G 401 f_nm)), (a_rc, (arI G 400 f_rc))] s.heap.size = A at hD hT ⊢
  have hA : ∀ q : Nat, s.heap.size ≤ q → A q := fun q h => by rw [← hAe]; exact Or.inr h
  have hS : va_S A s.heap s.heap [] := va_S.rf
  replace hP : va_P G.1 vwCl [(a_r, (oc4 a_tk a_rh a_rs a_rc e_ln e_pa e_at e_fp)), (a_tk, (oc8 a_kd a_nm a_pl)), (a_kd, (arI G 401 f_kd)), (a_nm, (arI G 401 f_nm)), (a_rc, (arI G 400 f_rc))] s.heap := hP
  have hl := lv_entry ([.ref a_r, .int p_d]) (n := 6) (Nat.le_of_ble_eq_true rfl)
  rw [lg_entry_eq]
  generalize (lg_sl ([.ref a_r, .int p_d]) ++ List.replicate (6 - (lg_sl ([.ref a_r, .int p_d])).length) Slot.unset).toArray = ls at hl ⊢
  replace hl : lv_has ls 6 [(0, .ref a_r), (1, .int p_d)] := hl
  have hT4 : (g_T : Int) ≤ 400 := by have z9 := e_kr.2.2.2; omega
  have hK0 : (f_kd e_at.toNatClampNeg).toInt = KDT g_x g_n e_at.toInt.toNat := tkr_at e_kr (by omega) (by omega)
  refine lv_aload_n hx hb dX4_readTest_0 rfl (lv_at hl 0 rfl) ?_
  refine lv_iload_n hx hb dX4_readTest_1 rfl (lv_at hl 1 rfl) ?_
  obtain ⟨hPc, hDc, hFc⟩ := g5_sub3 (wc := [(a_r, (oc4 a_tk a_rh a_rs a_rc e_ln e_pa e_at e_fp)), (a_tk, (oc8 a_kd a_nm a_pl)), (a_kd, (arI G 401 f_kd)), (a_nm, (arI G 401 f_nm)), (a_rc, (arI G 400 f_rc))]) hP hD hS hA [0, 1, 2, 3, 4] (by decide +kernel) rfl
  refine va_calli (va_runV (As := [.int p_d]) (rest := []) ⟨hx, hb, hml, hown, hts⟩ ((r_plainX fr lo f2 l2 p_d h_p_d h_sum h_test) l G a_r a_tk a_kd a_nm a_rc a_rh a_rs a_pl s.heap.size e_ln e_pa e_at e_fp f_kd f_nm f_rc g_x g_n g_T h_e_ln h_e_pa h_e_at (e_tk) (e_cd) (e_by) (e_kr) (e_aT) (e_la) (e_lv)) (cwV 1 hts gV_X4_83 rfl rfl rfl hv_X4_readPlain ⟨by simp only [headSpec]; omega, by simp only [headSpec]; omega⟩) (g5_preV hPc hK hDc hN hT hS hFc (ci := 4) (q0 := 0) rfl rfl) rfl rfl hl.1 rfl (lv_room (Nat.le_of_ble_eq_true rfl)) dX4_readTest_2 ⟨Nat.le_of_ble_eq_true rfl, Nat.le_of_ble_eq_true rfl⟩) hS (fun q _ h => hFc q h) hFc (fun r u t H locs ht hvm hw hB hz1 hk1 hS => ?_)
  obtain ⟨hP1, hD1⟩ := hB
  have hP1 := g5_ht ht hP1
  rcases hw with ⟨z8, z9, z10, z11, (i_1 : e_ln.toInt ≤ z8.toInt ∧ z8.toInt ≤ 400), (i_2 : 0 ≤ z10.toInt ∧ z10.toInt ≤ 401), (i_3 : 0 ≤ z9.toInt ∧ z9.toInt ≤ 50), (i_4 : CDI z11 z8.toInt), (i_5 : OPK f_rc z11 e_ln.toInt), (i_6 : ∃ d : DS, (plF (KDT g_x g_n) (NMT g_x g_n) p_d) e_at.toInt.toNat e_pa.toInt.toNat = (z10.toInt.toNat, z9.toInt.toNat, some d) ∧ is01 d ∧ KCC f_rc z11 e_ln.toInt ∧ MCC z11 e_ln.toInt.toNat z8.toInt.toNat d ∧ lvC z11 z8.toInt.toNat = z9.toInt.toNat), (i_7 : z10.toInt ≤ (g_T : Int) ∧ e_at.toInt < z10.toInt ∧ z8.toInt + e_at.toInt ≤ e_ln.toInt + z10.toInt), rfl, rfl⟩ | ⟨z19, z20, z21, z22, (i_12 : e_ln.toInt ≤ z19.toInt ∧ z19.toInt ≤ 400), (i_13 : 0 ≤ z21.toInt ∧ z21.toInt ≤ 401), (i_14 : 0 ≤ z20.toInt ∧ z20.toInt ≤ 50), (i_15 : CDI z22 z19.toInt), (i_16 : OPK f_rc z22 e_ln.toInt), (i_17 : ∃ q : Nat, (plF (KDT g_x g_n) (NMT g_x g_n) p_d) e_at.toInt.toNat e_pa.toInt.toNat = (z21.toInt.toNat, q, none)), (i_18 : z21.toInt ≤ (g_T : Int)), rfl, rfl⟩
  ·
    have hJ9 := va_join (wr := []) hP hD [0, 1, 2, 3, 4] [] rfl rfl (by decide +kernel) (by decide +kernel) hk1 hFc hP1 hD1
    clear hP hD hPc hDc hFc ht hvm hz1 hk1 hP1 hD1
    obtain ⟨hP, hD⟩ := hJ9
    refine g5_rs [(a_r, (oc4 a_tk a_rh a_rs a_rc z8 z9 z10 e_fp)), (a_tk, (oc8 a_kd a_nm a_pl)), (a_kd, (arI G 401 f_kd)), (a_nm, (arI G 401 f_nm)), (a_rc, (arI G 400 z11))] hP hD ?_
    clear hP hD
    intro hP hD
    obtain ⟨dd23, hd23, hz23, hc23, hm23, hv23⟩ := i_6
    have hK_24 : (f_kd z10.toNatClampNeg).toInt = KDT g_x g_n z10.toInt.toNat := tkr_at e_kr (by omega) (by omega)
    refine lv_if_ne (tgt := 10) hx hb dX4_readTest_5 (by decide +kernel) (fun c_25 => ?_) (fun c_25 => ?_)
    ·
      refine lv_iconst (v := (-1)) hx hb dX4_readTest_10 (by decide +kernel) ?_
      refine lv_istore_n (lv' := [(2, .int (-1)), (0, .ref a_r), (1, .int p_d)]) hx hb dX4_readTest_11 rfl hl (by decide +kernel) rfl ?_
      clear hl
      intro ls hl
      refine lv_iconst (v := 0) hx hb dX4_readTest_12 (by decide +kernel) ?_
      refine lv_istore_n (lv' := [(3, .int 0), (2, .int (-1)), (0, .ref a_r), (1, .int p_d)]) hx hb dX4_readTest_13 rfl hl (by decide +kernel) rfl ?_
      clear hl
      intro ls hl
      refine g5_loop (α := (Int32) × (Int32) × (Int32) × (Int32) × (Int32) × (Nat → Int32)) (fun (q : (Int32) × (Int32) × (Int32) × (Int32) × (Int32) × (Nat → Int32)) (ls : Array Slot) (H : Heap) (locs : List Loc) => match q with | (k_w, k_i, k_ln, k_pa, k_at, k_rc) => lv_has ls 6 [(2, .int k_w), (3, .int k_i), (0, .ref a_r), (1, .int p_d)] ∧ va_P G.1 vwCl [(a_r, (oc4 a_tk a_rh a_rs a_rc k_ln k_pa k_at e_fp)), (a_tk, (oc8 a_kd a_nm a_pl)), (a_kd, (arI G 401 f_kd)), (a_nm, (arI G 401 f_nm)), (a_rc, (arI G 400 k_rc))] H ∧ va_D A [(a_r, (oc4 a_tk a_rh a_rs a_rc k_ln k_pa k_at e_fp)), (a_tk, (oc8 a_kd a_nm a_pl)), (a_kd, (arI G 401 f_kd)), (a_nm, (arI G 401 f_nm)), (a_rc, (arI G 400 k_rc))] ∧ va_S A s.heap H locs ∧ ((-1) ≤ k_w.toInt ∧ k_w.toInt ≤ 399) ∧ (0 ≤ k_i.toInt ∧ k_i.toInt ≤ 400) ∧ (0 ≤ k_ln.toInt ∧ k_ln.toInt ≤ 400) ∧ (0 ≤ k_pa.toInt ∧ k_pa.toInt ≤ 50) ∧ (0 ≤ k_at.toInt ∧ k_at.toInt ≤ 401) ∧ (e_ln.toInt ≤ k_ln.toInt) ∧ (CDI k_rc k_ln.toInt) ∧ (OPK f_rc k_rc e_ln.toInt) ∧ (JOK k_rc k_ln.toInt k_w) ∧ (TLC (plF (KDT g_x g_n) (NMT g_x g_n) p_d) (KDT g_x g_n) (tsF (KDT g_x g_n) (NMT g_x g_n) p_d e_at.toInt.toNat e_pa.toInt.toNat) f_rc k_rc e_ln k_ln k_w k_at k_pa k_i) ∧ (lvC k_rc k_ln.toInt.toNat = k_pa.toInt.toNat) ∧ (k_at.toInt ≤ (g_T : Int) ∧ e_at.toInt < k_at.toInt ∧ k_ln.toInt + e_at.toInt ≤ e_ln.toInt + k_at.toInt)) (fun (q : (Int32) × (Int32) × (Int32) × (Int32) × (Int32) × (Nat → Int32)) => match q with | (k_w, k_i, k_ln, k_pa, k_at, k_rc) => Int.toNat (400 - k_i.toInt)) ((-1), 0, z8, z9, z10, z11) ⟨lv_sub hl [1, 0, 2, 3] rfl, hP, hD, hS, ⟨by decide, by decide⟩, ⟨by decide, by decide⟩, ⟨by omega, by omega⟩, i_3, i_2, by omega, i_4, i_5, jok_none, tlc_0 rfl hd23 (by decide +kernel) (by decide +kernel) hm23 hz23 hc23 hv23, hv23, by omega⟩ ?_
      rintro ⟨k_w, k_i, k_ln, k_pa, k_at, k_rc⟩ ls H locs ⟨hl, hP, hD, hS, (i_26 : (-1) ≤ k_w.toInt ∧ k_w.toInt ≤ 399), (i_27 : 0 ≤ k_i.toInt ∧ k_i.toInt ≤ 400), (i_28 : 0 ≤ k_ln.toInt ∧ k_ln.toInt ≤ 400), (i_29 : 0 ≤ k_pa.toInt ∧ k_pa.toInt ≤ 50), (i_30 : 0 ≤ k_at.toInt ∧ k_at.toInt ≤ 401), (i_31 : e_ln.toInt ≤ k_ln.toInt), (i_32 : CDI k_rc k_ln.toInt), (i_33 : OPK f_rc k_rc e_ln.toInt), (i_34 : JOK k_rc k_ln.toInt k_w), (i_35 : TLC (plF (KDT g_x g_n) (NMT g_x g_n) p_d) (KDT g_x g_n) (tsF (KDT g_x g_n) (NMT g_x g_n) p_d e_at.toInt.toNat e_pa.toInt.toNat) f_rc k_rc e_ln k_ln k_w k_at k_pa k_i), (i_36 : lvC k_rc k_ln.toInt.toNat = k_pa.toInt.toNat), (i_37 : k_at.toInt ≤ (g_T : Int) ∧ e_at.toInt < k_at.toInt ∧ k_ln.toInt + e_at.toInt ≤ e_ln.toInt + k_at.toInt)⟩ ih_14_38
      replace hl : lv_has ls 6 [(2, .int k_w), (3, .int k_i), (0, .ref a_r), (1, .int p_d)] := hl
      refine g5_rs [(a_r, (oc4 a_tk a_rh a_rs a_rc k_ln k_pa k_at e_fp)), (a_tk, (oc8 a_kd a_nm a_pl)), (a_kd, (arI G 401 f_kd)), (a_nm, (arI G 401 f_nm)), (a_rc, (arI G 400 k_rc))] hP hD ?_
      clear hP hD
      intro hP hD
      refine lv_iload_n hx hb dX4_readTest_14 rfl (lv_at hl 1 rfl) ?_
      refine lv_sipush (v := 400) hx hb dX4_readTest_15 (by decide +kernel) ?_
      refine lv_icmp_ge (tgt := 122) hx hb dX4_readTest_18 (by decide +kernel) (fun c_39 => ?_) (fun c_39 => ?_)
      ·
        have i_39 : k_i.toInt ≥ 400 := g5_ge (a := k_i.toInt) (b := 400) rfl (by decide +kernel) c_39
        refine lv_aload_n hx hb dX4_readTest_122 rfl (lv_at hl 2 rfl) ?_
        refine lv_iload_n hx hb dX4_readTest_123 rfl (lv_at hl 0 rfl) ?_
        obtain ⟨hPc, hDc, hFc⟩ := g5_sub3 (wc := [(a_r, (oc4 a_tk a_rh a_rs a_rc k_ln k_pa k_at e_fp)), (a_rc, (arI G 400 k_rc))]) hP hD hS hA [0, 4] (by decide +kernel) rfl
        refine va_callv (va_runV (As := [.int k_w]) (rest := []) ⟨hx, hb, hml, hown, hts⟩ (r_jumpX l G a_r a_rc a_tk a_rh a_rs H.size k_ln k_pa k_at e_fp k_w k_rc i_28 i_29 i_30 i_26 (i_32) (i_34)) (cwV 1 hts gV_X4_86 rfl rfl rfl hv_X4_jumpHere ⟨by simp only [headSpec]; omega, by simp only [headSpec]; omega⟩) (g5_preV hPc hK hDc hN hT hS hFc (ci := 4) (q0 := 0) rfl rfl) rfl rfl hl.1 rfl (lv_room (Nat.le_of_ble_eq_true rfl)) dX4_readTest_124 ⟨Nat.le_of_ble_eq_true rfl, Nat.le_of_ble_eq_true rfl⟩) hS (fun q _ h => hFc q h) hFc (fun u t H locs ht hvm hw hB hz1 hk1 hS => ?_)
        obtain ⟨hP1, hD1⟩ := hB
        have hP1 := g5_ht ht hP1
        rcases hw with ⟨(i_40 : k_w.toInt < 0), rfl⟩ | ⟨z45, (i_41 : CDI z45 k_ln.toInt), (i_42 : OPK k_rc z45 k_ln.toInt), (i_43 : 0 ≤ k_w.toInt), (i_44 : z45 = upd k_rc k_w.toNatClampNeg (k_rc k_w.toNatClampNeg ||| k_ln)), rfl⟩
        ·
          have hJ9 := va_join (wr := [(a_tk, (oc8 a_kd a_nm a_pl)), (a_kd, (arI G 401 f_kd)), (a_nm, (arI G 401 f_nm))]) hP hD [0, 4] [1, 2, 3] rfl rfl (by decide +kernel) (by decide +kernel) hk1 hFc hP1 hD1
          clear hP hD hPc hDc hFc ht hvm hz1 hk1 hP1 hD1
          obtain ⟨hP, hD⟩ := hJ9
          refine g5_rs [(a_tk, (oc8 a_kd a_nm a_pl)), (a_kd, (arI G 401 f_kd)), (a_nm, (arI G 401 f_nm)), (a_r, (oc4 a_tk a_rh a_rs a_rc k_ln k_pa k_at e_fp)), (a_rc, (arI G 400 k_rc))] hP hD ?_
          clear hP hD
          intro hP hD
          refine lv_iconst (v := 1) hx hb dX4_readTest_127 (by decide +kernel) ?_
          exact W.zret (v := 1) hx hb hr rfl (fun t ht hW => ⟨⟨1, [(a_r, (oc4 a_tk a_rh a_rs a_rc k_ln k_pa k_at e_fp)), (a_tk, (oc8 a_kd a_nm a_pl)), (a_kd, (arI G 401 f_kd)), (a_nm, (arI G 401 f_nm)), (a_rc, (arI G 400 k_rc))], rfl, Or.inl (⟨k_ln, k_pa, k_at, k_rc, ⟨by omega, by omega⟩, i_30, i_29, i_32, i_33, tlc_end i_35 (by omega) ⟨by omega, by omega, by omega⟩ (Or.inl (by omega)) (Or.inl ⟨by omega, rfl⟩), by omega, rfl, rfl⟩), by rw [ht]; exact hP.sub [3, 0, 1, 2, 4] rfl, hD.sub [3, 0, 1, 2, 4] (by decide +kernel) rfl⟩, hS.F ht⟩) hS.2.2 dX4_readTest_128
        ·
          have hJ9 := va_join (wr := [(a_tk, (oc8 a_kd a_nm a_pl)), (a_kd, (arI G 401 f_kd)), (a_nm, (arI G 401 f_nm))]) hP hD [0, 4] [1, 2, 3] rfl rfl (by decide +kernel) (by decide +kernel) hk1 hFc hP1 hD1
          clear hP hD hPc hDc hFc ht hvm hz1 hk1 hP1 hD1
          obtain ⟨hP, hD⟩ := hJ9
          refine g5_rs [(a_tk, (oc8 a_kd a_nm a_pl)), (a_kd, (arI G 401 f_kd)), (a_nm, (arI G 401 f_nm)), (a_r, (oc4 a_tk a_rh a_rs a_rc k_ln k_pa k_at e_fp)), (a_rc, (arI G 400 z45))] hP hD ?_
          clear hP hD
          intro hP hD
          refine lv_iconst (v := 1) hx hb dX4_readTest_127 (by decide +kernel) ?_
          exact W.zret (v := 1) hx hb hr rfl (fun t ht hW => ⟨⟨1, [(a_r, (oc4 a_tk a_rh a_rs a_rc k_ln k_pa k_at e_fp)), (a_tk, (oc8 a_kd a_nm a_pl)), (a_kd, (arI G 401 f_kd)), (a_nm, (arI G 401 f_nm)), (a_rc, (arI G 400 z45))], rfl, Or.inl (⟨k_ln, k_pa, k_at, z45, ⟨by omega, by omega⟩, i_30, i_29, i_41, opk_trans i_33 (i_42) (by omega), tlc_end i_35 (by omega) ⟨by omega, by omega, by omega⟩ (Or.inl (by omega)) (Or.inr ⟨by omega, i_44⟩), by omega, rfl, rfl⟩), by rw [ht]; exact hP.sub [3, 0, 1, 2, 4] rfl, hD.sub [3, 0, 1, 2, 4] (by decide +kernel) rfl⟩, hS.F ht⟩) hS.2.2 dX4_readTest_128
      ·
        have i_39 : k_i.toInt < 400 := g5_geN (a := k_i.toInt) (b := 400) rfl (by decide +kernel) c_39
        have hKk : (f_kd k_at.toNatClampNeg).toInt = KDT g_x g_n k_at.toInt.toNat := tkr_at e_kr (by omega) (by omega)
        refine lv_aload_n hx hb dX4_readTest_21 rfl (lv_at hl 2 rfl) ?_
        refine lv_sipush (v := 261) hx hb dX4_readTest_22 (by decide +kernel) ?_
        obtain ⟨hPc, hDc, hFc⟩ := g5_sub3 (wc := [(a_r, (oc4 a_tk a_rh a_rs a_rc k_ln k_pa k_at e_fp)), (a_tk, (oc8 a_kd a_nm a_pl)), (a_kd, (arI G 401 f_kd))]) hP hD hS hA [0, 1, 2] (by decide +kernel) rfl
        refine va_calli (va_runV (As := [.int 261]) (rest := []) ⟨hx, hb, hml, hown, hts⟩ (r_isNextX261 l G a_r a_tk a_kd a_rh a_rs a_rc a_nm a_pl H.size k_ln k_pa k_at e_fp f_kd i_28 i_29 i_30 (by omega)) (cwV 1 hts gV_X4_49 rfl rfl rfl hv_X4_isNext ⟨by simp only [headSpec]; omega, by simp only [headSpec]; omega⟩) (g5_preV hPc hK hDc hN hT hS hFc (ci := 4) (q0 := 0) rfl rfl) rfl rfl hl.1 rfl (lv_room (Nat.le_of_ble_eq_true rfl)) dX4_readTest_25 ⟨Nat.le_of_ble_eq_true rfl, Nat.le_of_ble_eq_true rfl⟩) hS (fun q _ h => hFc q h) hFc (fun r u t H locs ht hvm hw hB hz1 hk1 hS => ?_)
        obtain ⟨hP1, hD1⟩ := hB
        have hP1 := g5_ht ht hP1
        rcases hw with ⟨(i_46 : (f_kd k_at.toNatClampNeg).toInt = 261), rfl, rfl⟩ | ⟨(i_47 : gNe (f_kd k_at.toNatClampNeg).toInt 261), rfl, rfl⟩
        ·
          have hJ9 := va_join (wr := [(a_nm, (arI G 401 f_nm)), (a_rc, (arI G 400 k_rc))]) hP hD [0, 1, 2] [3, 4] rfl rfl (by decide +kernel) (by decide +kernel) hk1 hFc hP1 hD1
          clear hP hD hPc hDc hFc ht hvm hz1 hk1 hP1 hD1
          obtain ⟨hP, hD⟩ := hJ9
          refine g5_rs [(a_nm, (arI G 401 f_nm)), (a_rc, (arI G 400 k_rc)), (a_r, (oc4 a_tk a_rh a_rs a_rc k_ln k_pa k_at e_fp)), (a_tk, (oc8 a_kd a_nm a_pl)), (a_kd, (arI G 401 f_kd))] hP hD ?_
          clear hP hD
          intro hP hD
          refine lv_if_ne (tgt := 41) hx hb dX4_readTest_28 (by decide +kernel) (fun c_48 => ?_) (fun c_48 => ?_)
          ·
            refine lv_aload_n hx hb dX4_readTest_41 rfl (lv_at hl 2 rfl) ?_
            refine lv_sipush (v := 261) hx hb dX4_readTest_42 (by decide +kernel) ?_
            obtain ⟨hPc, hDc, hFc⟩ := g5_sub3 (wc := [(a_r, (oc4 a_tk a_rh a_rs a_rc k_ln k_pa k_at e_fp)), (a_tk, (oc8 a_kd a_nm a_pl)), (a_kd, (arI G 401 f_kd))]) hP hD hS hA [2, 3, 4] (by decide +kernel) rfl
            refine va_calli (va_runV (As := [.int 261]) (rest := []) ⟨hx, hb, hml, hown, hts⟩ (r_isNextX261 l G a_r a_tk a_kd a_rh a_rs a_rc a_nm a_pl H.size k_ln k_pa k_at e_fp f_kd i_28 i_29 i_30 (by omega)) (cwV 1 hts gV_X4_49 rfl rfl rfl hv_X4_isNext ⟨by simp only [headSpec]; omega, by simp only [headSpec]; omega⟩) (g5_preV hPc hK hDc hN hT hS hFc (ci := 4) (q0 := 0) rfl rfl) rfl rfl hl.1 rfl (lv_room (Nat.le_of_ble_eq_true rfl)) dX4_readTest_45 ⟨Nat.le_of_ble_eq_true rfl, Nat.le_of_ble_eq_true rfl⟩) hS (fun q _ h => hFc q h) hFc (fun r u t H locs ht hvm hw hB hz1 hk1 hS => ?_)
            obtain ⟨hP1, hD1⟩ := hB
            have hP1 := g5_ht ht hP1
            rcases hw with ⟨(i_49 : (f_kd k_at.toNatClampNeg).toInt = 261), rfl, rfl⟩ | ⟨(i_50 : gNe (f_kd k_at.toNatClampNeg).toInt 261), rfl, rfl⟩
            ·
              have hJ9 := va_join (wr := [(a_nm, (arI G 401 f_nm)), (a_rc, (arI G 400 k_rc))]) hP hD [2, 3, 4] [0, 1] rfl rfl (by decide +kernel) (by decide +kernel) hk1 hFc hP1 hD1
              clear hP hD hPc hDc hFc ht hvm hz1 hk1 hP1 hD1
              obtain ⟨hP, hD⟩ := hJ9
              refine g5_rs [(a_nm, (arI G 401 f_nm)), (a_rc, (arI G 400 k_rc)), (a_r, (oc4 a_tk a_rh a_rs a_rc k_ln k_pa k_at e_fp)), (a_tk, (oc8 a_kd a_nm a_pl)), (a_kd, (arI G 401 f_kd))] hP hD ?_
              clear hP hD
              intro hP hD
              refine lv_istore (lv' := [(4, .int 1), (2, .int k_w), (3, .int k_i), (0, .ref a_r), (1, .int p_d)]) hx hb dX4_readTest_48 hl (by decide +kernel) rfl ?_
              clear hl
              intro ls hl
              have hL_51 : k_at.toInt < (g_T : Int) := tkr_ltI e_kr (by omega) (by omega) i_49 (by decide +kernel)
              refine lv_aload_n hx hb dX4_readTest_50 rfl (lv_at hl 3 rfl) ?_
              refine lv_dup hx hb dX4_readTest_51 rfl ?_
              refine va_get (D := G.1) (ci := 4) (v := .int k_at) (C := RX4) (T := TX4) (N := 8) hx hb hts inG_X4 hown hK hP 2 rfl rfl 6 (by decide +kernel) (hts _ fl_X4_42) (fun _ h9 => h9) rfl dX4_readTest_52 ?_
              refine W.eq (g2 := F0 m 55 ls [.int k_at, .ref a_r]) rfl ?_
              refine lv_iconst (v := 1) hx hb dX4_readTest_55 (by decide +kernel) ?_
              refine lv_iadd hx hb dX4_readTest_56 ?_
              have t_52 : (k_at + 1).toInt = k_at.toInt + 1 := g5_iadd (a := k_at.toInt) (b := 1) (by rfl) (by decide +kernel) (by omega) (by omega)
              refine va_put (D := G.1) (ci := 4) (v := .int (k_at + 1)) (ty := .int) (C := RX4) (T := TX4) (N := 8) hx hb hts inG_X4 tyX4 tyX4_ok nmX4 hown hK hP hD hS 2 rfl rfl 6 (by decide +kernel) (hts _ fl_X4_42) (fun _ h9 => h9) rfl (by decide +kernel) rfl rfl (Nat.le_of_ble_eq_true rfl) dX4_readTest_57 ?_
              clear hP hD hS
              intro H locs hP hD hS
              refine g5_rs [(a_nm, (arI G 401 f_nm)), (a_rc, (arI G 400 k_rc)), (a_r, (oc4 a_tk a_rh a_rs a_rc k_ln k_pa (k_at + 1) e_fp)), (a_tk, (oc8 a_kd a_nm a_pl)), (a_kd, (arI G 401 f_kd))] hP hD ?_
              clear hP hD
              intro hP hD
              refine lv_iload hx hb dX4_readTest_60 (lv_at hl 0 rfl) ?_
              refine lv_if_eq (tgt := 70) hx hb dX4_readTest_62 (by decide +kernel) (fun c_53 => ?_) (fun c_53 => ?_)
              ·
                exact absurd c_53 (by decide +kernel)
              ·
                refine lv_aload_n hx hb dX4_readTest_65 rfl (lv_at hl 3 rfl) ?_
                refine lv_iload_n hx hb dX4_readTest_66 rfl (lv_at hl 1 rfl) ?_
                obtain ⟨hPc, hDc, hFc⟩ := g5_sub3 (wc := [(a_r, (oc4 a_tk a_rh a_rs a_rc k_ln k_pa (k_at + 1) e_fp)), (a_rc, (arI G 400 k_rc))]) hP hD hS hA [2, 1] (by decide +kernel) rfl
                refine va_callv (va_runV (As := [.int k_w]) (rest := []) ⟨hx, hb, hml, hown, hts⟩ (r_jumpX l G a_r a_rc a_tk a_rh a_rs H.size k_ln k_pa (k_at + 1) e_fp k_w k_rc i_28 i_29 ⟨by omega, by omega⟩ i_26 (i_32) (i_34)) (cwV 1 hts gV_X4_86 rfl rfl rfl hv_X4_jumpHere ⟨by simp only [headSpec]; omega, by simp only [headSpec]; omega⟩) (g5_preV hPc hK hDc hN hT hS hFc (ci := 4) (q0 := 0) rfl rfl) rfl rfl hl.1 rfl (lv_room (Nat.le_of_ble_eq_true rfl)) dX4_readTest_67 ⟨Nat.le_of_ble_eq_true rfl, Nat.le_of_ble_eq_true rfl⟩) hS (fun q _ h => hFc q h) hFc (fun u t H locs ht hvm hw hB hz1 hk1 hS => ?_)
                obtain ⟨hP1, hD1⟩ := hB
                have hP1 := g5_ht ht hP1
                rcases hw with ⟨(i_54 : k_w.toInt < 0), rfl⟩ | ⟨z59, (i_55 : CDI z59 k_ln.toInt), (i_56 : OPK k_rc z59 k_ln.toInt), (i_57 : 0 ≤ k_w.toInt), (i_58 : z59 = upd k_rc k_w.toNatClampNeg (k_rc k_w.toNatClampNeg ||| k_ln)), rfl⟩
                ·
                  have hJ9 := va_join (wr := [(a_nm, (arI G 401 f_nm)), (a_tk, (oc8 a_kd a_nm a_pl)), (a_kd, (arI G 401 f_kd))]) hP hD [2, 1] [0, 3, 4] rfl rfl (by decide +kernel) (by decide +kernel) hk1 hFc hP1 hD1
                  clear hP hD hPc hDc hFc ht hvm hz1 hk1 hP1 hD1
                  obtain ⟨hP, hD⟩ := hJ9
                  refine g5_rs [(a_nm, (arI G 401 f_nm)), (a_tk, (oc8 a_kd a_nm a_pl)), (a_kd, (arI G 401 f_kd)), (a_r, (oc4 a_tk a_rh a_rs a_rc k_ln k_pa (k_at + 1) e_fp)), (a_rc, (arI G 400 k_rc))] hP hD ?_
                  clear hP hD
                  intro hP hD
                  refine lv_aload_n hx hb dX4_readTest_70 rfl (lv_at hl 3 rfl) ?_
                  refine lv_iload hx hb dX4_readTest_71 (lv_at hl 0 rfl) ?_
                  refine lv_if_eq (tgt := 81) hx hb dX4_readTest_73 (by decide +kernel) (fun c_60 => ?_) (fun c_60 => ?_)
                  ·
                    exact absurd c_60 (by decide +kernel)
                  ·
                    refine lv_bipush (v := 11) hx hb dX4_readTest_76 (by decide +kernel) ?_
                    refine lv_goto (tgt := 83) hx hb dX4_readTest_78 (by decide +kernel) ?_
                    refine lv_iconst (v := 0) hx hb dX4_readTest_83 (by decide +kernel) ?_
                    obtain ⟨hPc, hDc, hFc⟩ := g5_sub3 (wc := [(a_r, (oc4 a_tk a_rh a_rs a_rc k_ln k_pa (k_at + 1) e_fp)), (a_rc, (arI G 400 k_rc))]) hP hD hS hA [3, 4] (by decide +kernel) rfl
                    refine va_calli (va_runV (As := [.int 11, .int 0]) (rest := []) ⟨hx, hb, hml, hown, hts⟩ (r_emitX l G a_r a_rc a_tk a_rh a_rs H.size k_ln k_pa (k_at + 1) e_fp 11 0 k_rc i_28 i_29 ⟨by omega, by omega⟩ (i_32) (by unfold wOK; decide) (by omega)) (cwV 2 hts gV_X4_79 rfl rfl rfl hv_X4_emit ⟨by simp only [headSpec]; omega, by simp only [headSpec]; omega⟩) (g5_preV hPc hK hDc hN hT hS hFc (ci := 4) (q0 := 0) rfl rfl) rfl rfl hl.1 rfl (lv_room (Nat.le_of_ble_eq_true rfl)) dX4_readTest_84 ⟨Nat.le_of_ble_eq_true rfl, Nat.le_of_ble_eq_true rfl⟩) hS (fun q _ h => hFc q h) hFc (fun r u t H locs ht hvm hw hB hz1 hk1 hS => ?_)
                    obtain ⟨hP1, hD1⟩ := hB
                    have hP1 := g5_ht ht hP1
                    obtain ⟨z69, z70, z71, (i_61 : 0 ≤ z69.toInt ∧ z69.toInt ≤ 399), (i_62 : z69.toInt = k_ln.toInt), (i_63 : z70.toInt = k_ln.toInt + 1), (i_64 : k_ln.toInt ≤ z70.toInt ∧ z70.toInt ≤ 400), (i_65 : CDI z71 z70.toInt), (i_66 : OPK k_rc z71 k_ln.toInt), (i_67 : 0 ≤ z69.toInt → z69.toInt < z70.toInt ∧ z71 z69.toNatClampNeg = (((11 : Int32) <<< (12 &&& 31)) ||| (0 : Int32))), (i_68 : z71 = upd k_rc k_ln.toNatClampNeg (((11 : Int32) <<< (12 &&& 31)) ||| (0 : Int32))), y72, rfl⟩ := hw
                    have hJ9 := va_join (wr := [(a_nm, (arI G 401 f_nm)), (a_tk, (oc8 a_kd a_nm a_pl)), (a_kd, (arI G 401 f_kd))]) hP hD [3, 4] [0, 1, 2] rfl rfl (by decide +kernel) (by decide +kernel) hk1 hFc hP1 hD1
                    clear hP hD hPc hDc hFc ht hvm hz1 hk1 hP1 hD1
                    obtain ⟨hP, hD⟩ := hJ9
                    refine g5_rs [(a_nm, (arI G 401 f_nm)), (a_tk, (oc8 a_kd a_nm a_pl)), (a_kd, (arI G 401 f_kd)), (a_r, (oc4 a_tk a_rh a_rs a_rc z70 k_pa (k_at + 1) e_fp)), (a_rc, (arI G 400 z71))] hP hD ?_
                    clear hP hD
                    intro hP hD
                    refine g5_ti (v := z69) y72 ?_
                    have hE_73 : lvC z71 z70.toInt.toNat = k_pa.toInt.toNat := by rw [i_68, lvC_em0 (by omega) (by omega) (opT_20 (by decide +kernel) (by decide +kernel))]; exact i_36
                    refine W.eq (g2 := F0 m 87 ls [.int z69]) rfl ?_
                    refine lv_istore (lv' := [(5, .int z69), (4, .int 1), (2, .int k_w), (3, .int k_i), (0, .ref a_r), (1, .int p_d)]) hx hb dX4_readTest_87 hl (by decide +kernel) rfl ?_
                    clear hl
                    intro ls hl
                    refine lv_aload_n hx hb dX4_readTest_89 rfl (lv_at hl 4 rfl) ?_
                    refine lv_iload_n hx hb dX4_readTest_90 rfl (lv_at hl 5 rfl) ?_
                    obtain ⟨hPc, hDc, hFc⟩ := g5_sub3 (wc := [(a_r, (oc4 a_tk a_rh a_rs a_rc z70 k_pa (k_at + 1) e_fp)), (a_tk, (oc8 a_kd a_nm a_pl)), (a_kd, (arI G 401 f_kd)), (a_nm, (arI G 401 f_nm)), (a_rc, (arI G 400 z71))]) hP hD hS hA [3, 1, 2, 0, 4] (by decide +kernel) rfl
                    refine va_calli (va_runV (As := [.int p_d]) (rest := []) ⟨hx, hb, hml, hown, hts⟩ ((r_plainX fr lo f2 l2 p_d h_p_d h_sum h_test) l G a_r a_tk a_kd a_nm a_rc a_rh a_rs a_pl H.size z70 k_pa (k_at + 1) e_fp f_kd f_nm z71 g_x g_n g_T ⟨by omega, by omega⟩ i_29 ⟨by omega, by omega⟩ (e_tk) (i_65) (e_by) (e_kr) (by omega) (by omega) (hE_73)) (cwV 1 hts gV_X4_83 rfl rfl rfl hv_X4_readPlain ⟨by simp only [headSpec]; omega, by simp only [headSpec]; omega⟩) (g5_preV hPc hK hDc hN hT hS hFc (ci := 4) (q0 := 0) rfl rfl) rfl rfl hl.1 rfl (lv_room (Nat.le_of_ble_eq_true rfl)) dX4_readTest_91 ⟨Nat.le_of_ble_eq_true rfl, Nat.le_of_ble_eq_true rfl⟩) hS (fun q _ h => hFc q h) hFc (fun r u t H locs ht hvm hw hB hz1 hk1 hS => ?_)
                    obtain ⟨hP1, hD1⟩ := hB
                    have hP1 := g5_ht ht hP1
                    rcases hw with ⟨z81, z82, z83, z84, (i_74 : z70.toInt ≤ z81.toInt ∧ z81.toInt ≤ 400), (i_75 : 0 ≤ z83.toInt ∧ z83.toInt ≤ 401), (i_76 : 0 ≤ z82.toInt ∧ z82.toInt ≤ 50), (i_77 : CDI z84 z81.toInt), (i_78 : OPK z71 z84 z70.toInt), (i_79 : ∃ d : DS, (plF (KDT g_x g_n) (NMT g_x g_n) p_d) (k_at + 1).toInt.toNat k_pa.toInt.toNat = (z83.toInt.toNat, z82.toInt.toNat, some d) ∧ is01 d ∧ KCC z71 z84 z70.toInt ∧ MCC z84 z70.toInt.toNat z81.toInt.toNat d ∧ lvC z84 z81.toInt.toNat = z82.toInt.toNat), (i_80 : z83.toInt ≤ (g_T : Int) ∧ (k_at + 1).toInt < z83.toInt ∧ z81.toInt + (k_at + 1).toInt ≤ z70.toInt + z83.toInt), rfl, rfl⟩ | ⟨z92, z93, z94, z95, (i_85 : z70.toInt ≤ z92.toInt ∧ z92.toInt ≤ 400), (i_86 : 0 ≤ z94.toInt ∧ z94.toInt ≤ 401), (i_87 : 0 ≤ z93.toInt ∧ z93.toInt ≤ 50), (i_88 : CDI z95 z92.toInt), (i_89 : OPK z71 z95 z70.toInt), (i_90 : ∃ q : Nat, (plF (KDT g_x g_n) (NMT g_x g_n) p_d) (k_at + 1).toInt.toNat k_pa.toInt.toNat = (z94.toInt.toNat, q, none)), (i_91 : z94.toInt ≤ (g_T : Int)), rfl, rfl⟩
                    ·
                      have hJ9 := va_join (wr := []) hP hD [3, 1, 2, 0, 4] [] rfl rfl (by decide +kernel) (by decide +kernel) hk1 hFc hP1 hD1
                      clear hP hD hPc hDc hFc ht hvm hz1 hk1 hP1 hD1
                      obtain ⟨hP, hD⟩ := hJ9
                      refine g5_rs [(a_r, (oc4 a_tk a_rh a_rs a_rc z81 z82 z83 e_fp)), (a_tk, (oc8 a_kd a_nm a_pl)), (a_kd, (arI G 401 f_kd)), (a_nm, (arI G 401 f_nm)), (a_rc, (arI G 400 z84))] hP hD ?_
                      clear hP hD
                      intro hP hD
                      obtain ⟨dd96, hd96, hz96, hc96, hm96, hv96⟩ := i_79
                      have hK_97 : (f_kd z83.toNatClampNeg).toInt = KDT g_x g_n z83.toInt.toNat := tkr_at e_kr (by omega) (by omega)
                      refine lv_if_ne (tgt := 99) hx hb dX4_readTest_94 (by decide +kernel) (fun c_98 => ?_) (fun c_98 => ?_)
                      ·
                        refine lv_iload hx hb dX4_readTest_99 (lv_at hl 1 rfl) ?_
                        refine lv_if_eq (tgt := 110) hx hb dX4_readTest_101 (by decide +kernel) (fun c_99 => ?_) (fun c_99 => ?_)
                        ·
                          exact absurd c_99 (by decide +kernel)
                        ·
                          refine lv_iload hx hb dX4_readTest_104 (lv_at hl 0 rfl) ?_
                          refine lv_istore_n (lv' := [(2, .int z69), (5, .int z69), (4, .int 1), (3, .int k_i), (0, .ref a_r), (1, .int p_d)]) hx hb dX4_readTest_106 rfl hl (by decide +kernel) rfl ?_
                          clear hl
                          intro ls hl
                          refine lv_goto (tgt := 116) hx hb dX4_readTest_107 (by decide +kernel) ?_
                          refine lv_iinc (v := (k_i + 1)) (lv' := [(3, .int (k_i + 1)), (2, .int z69), (5, .int z69), (4, .int 1), (0, .ref a_r), (1, .int p_d)]) hx hb dX4_readTest_116 hl (k := 3) rfl rfl (by decide +kernel) rfl ?_
                          clear hl
                          intro ls hl
                          have t_100 : (k_i + 1).toInt = k_i.toInt + 1 := g5_iadd (a := k_i.toInt) (b := 1) rfl (by decide +kernel) (by omega) (by omega)
                          refine W.eq (g2 := F0 m 119 ls []) rfl ?_
                          refine lv_goto (tgt := 14) hx hb dX4_readTest_119 (by decide +kernel) ?_
                          exact ih_14_38 (z69, (k_i + 1), z81, z82, z83, z84) ls H locs (show Int.toNat (400 - (k_i + 1).toInt) < Int.toNat (400 - k_i.toInt) from g_up (show k_i.toInt < (k_i + 1).toInt by omega) (show k_i.toInt < 400 by omega)) ⟨lv_sub hl [1, 0, 4, 5] rfl, hP, hD, hS, ⟨by omega, by omega⟩, ⟨by omega, by omega⟩, ⟨by omega, by omega⟩, i_76, i_75, by omega, i_77, opk_trans i_33 (opk_trans i_66 (i_78) (by omega)) (by omega), jok_opk (jok_emit i_67 (by decide +kernel)) (i_78) (by omega), tlc_or i_35 (by omega) (by omega) ⟨by omega, by omega, by omega⟩ (hKk.symm.trans i_49) (Or.inl ⟨by omega, rfl⟩) i_68 (by omega) (by rw [show k_at.toInt.toNat + 1 = (k_at + 1).toInt.toNat by omega]; exact hd96) hz96 hc96 hm96 hv96 (by omega) (by omega), hv96, by omega⟩
                      ·
                        exact absurd c_98 (by decide +kernel)
                    ·
                      have hJ9 := va_join (wr := []) hP hD [3, 1, 2, 0, 4] [] rfl rfl (by decide +kernel) (by decide +kernel) hk1 hFc hP1 hD1
                      clear hP hD hPc hDc hFc ht hvm hz1 hk1 hP1 hD1
                      obtain ⟨hP, hD⟩ := hJ9
                      refine g5_rs [(a_r, (oc4 a_tk a_rh a_rs a_rc z92 z93 z94 e_fp)), (a_tk, (oc8 a_kd a_nm a_pl)), (a_kd, (arI G 401 f_kd)), (a_nm, (arI G 401 f_nm)), (a_rc, (arI G 400 z95))] hP hD ?_
                      clear hP hD
                      intro hP hD
                      obtain ⟨qq101, hq101⟩ := i_90
                      refine lv_if_ne (tgt := 99) hx hb dX4_readTest_94 (by decide +kernel) (fun c_102 => ?_) (fun c_102 => ?_)
                      ·
                        exact absurd c_102 (by decide +kernel)
                      ·
                        refine lv_iconst (v := 0) hx hb dX4_readTest_97 (by decide +kernel) ?_
                        exact W.zret (v := 0) hx hb hr rfl (fun t ht hW => ⟨⟨0, [(a_r, (oc4 a_tk a_rh a_rs a_rc z92 z93 z94 e_fp)), (a_tk, (oc8 a_kd a_nm a_pl)), (a_kd, (arI G 401 f_kd)), (a_nm, (arI G 401 f_nm)), (a_rc, (arI G 400 z95))], rfl, Or.inr (⟨z92, z93, z94, z95, ⟨by omega, by omega⟩, i_86, i_87, i_88, opk_trans i_33 (opk_trans i_66 (i_89) (by omega)) (by omega), ⟨qq101, tlc_bad i_35 (by omega) (by omega) (Or.inl (hKk.symm.trans i_49)) (by rw [show k_at.toInt.toNat + 1 = (k_at + 1).toInt.toNat by omega]; exact hq101)⟩, by omega, rfl, rfl⟩), by rw [ht]; exact hP.sub [0, 1, 2, 3, 4] rfl, hD.sub [0, 1, 2, 3, 4] (by decide +kernel) rfl⟩, hS.F ht⟩) hS.2.2 dX4_readTest_98
                ·
                  have hJ9 := va_join (wr := [(a_nm, (arI G 401 f_nm)), (a_tk, (oc8 a_kd a_nm a_pl)), (a_kd, (arI G 401 f_kd))]) hP hD [2, 1] [0, 3, 4] rfl rfl (by decide +kernel) (by decide +kernel) hk1 hFc hP1 hD1
                  clear hP hD hPc hDc hFc ht hvm hz1 hk1 hP1 hD1
                  obtain ⟨hP, hD⟩ := hJ9
                  refine g5_rs [(a_nm, (arI G 401 f_nm)), (a_tk, (oc8 a_kd a_nm a_pl)), (a_kd, (arI G 401 f_kd)), (a_r, (oc4 a_tk a_rh a_rs a_rc k_ln k_pa (k_at + 1) e_fp)), (a_rc, (arI G 400 z59))] hP hD ?_
                  clear hP hD
                  intro hP hD
                  have hE_103 : lvC z59 k_ln.toInt.toNat = k_pa.toInt.toNat := by rw [i_58, lvC_jmp (i_34 (by omega)).2 ⟨by omega, by omega⟩]; exact i_36
                  refine lv_aload_n hx hb dX4_readTest_70 rfl (lv_at hl 3 rfl) ?_
                  refine lv_iload hx hb dX4_readTest_71 (lv_at hl 0 rfl) ?_
                  refine lv_if_eq (tgt := 81) hx hb dX4_readTest_73 (by decide +kernel) (fun c_104 => ?_) (fun c_104 => ?_)
                  ·
                    exact absurd c_104 (by decide +kernel)
                  ·
                    refine lv_bipush (v := 11) hx hb dX4_readTest_76 (by decide +kernel) ?_
                    refine lv_goto (tgt := 83) hx hb dX4_readTest_78 (by decide +kernel) ?_
                    refine lv_iconst (v := 0) hx hb dX4_readTest_83 (by decide +kernel) ?_
                    obtain ⟨hPc, hDc, hFc⟩ := g5_sub3 (wc := [(a_r, (oc4 a_tk a_rh a_rs a_rc k_ln k_pa (k_at + 1) e_fp)), (a_rc, (arI G 400 z59))]) hP hD hS hA [3, 4] (by decide +kernel) rfl
                    refine va_calli (va_runV (As := [.int 11, .int 0]) (rest := []) ⟨hx, hb, hml, hown, hts⟩ (r_emitX l G a_r a_rc a_tk a_rh a_rs H.size k_ln k_pa (k_at + 1) e_fp 11 0 z59 i_28 i_29 ⟨by omega, by omega⟩ (i_55) (by unfold wOK; decide) (by omega)) (cwV 2 hts gV_X4_79 rfl rfl rfl hv_X4_emit ⟨by simp only [headSpec]; omega, by simp only [headSpec]; omega⟩) (g5_preV hPc hK hDc hN hT hS hFc (ci := 4) (q0 := 0) rfl rfl) rfl rfl hl.1 rfl (lv_room (Nat.le_of_ble_eq_true rfl)) dX4_readTest_84 ⟨Nat.le_of_ble_eq_true rfl, Nat.le_of_ble_eq_true rfl⟩) hS (fun q _ h => hFc q h) hFc (fun r u t H locs ht hvm hw hB hz1 hk1 hS => ?_)
                    obtain ⟨hP1, hD1⟩ := hB
                    have hP1 := g5_ht ht hP1
                    obtain ⟨z113, z114, z115, (i_105 : 0 ≤ z113.toInt ∧ z113.toInt ≤ 399), (i_106 : z113.toInt = k_ln.toInt), (i_107 : z114.toInt = k_ln.toInt + 1), (i_108 : k_ln.toInt ≤ z114.toInt ∧ z114.toInt ≤ 400), (i_109 : CDI z115 z114.toInt), (i_110 : OPK z59 z115 k_ln.toInt), (i_111 : 0 ≤ z113.toInt → z113.toInt < z114.toInt ∧ z115 z113.toNatClampNeg = (((11 : Int32) <<< (12 &&& 31)) ||| (0 : Int32))), (i_112 : z115 = upd z59 k_ln.toNatClampNeg (((11 : Int32) <<< (12 &&& 31)) ||| (0 : Int32))), y116, rfl⟩ := hw
                    have hJ9 := va_join (wr := [(a_nm, (arI G 401 f_nm)), (a_tk, (oc8 a_kd a_nm a_pl)), (a_kd, (arI G 401 f_kd))]) hP hD [3, 4] [0, 1, 2] rfl rfl (by decide +kernel) (by decide +kernel) hk1 hFc hP1 hD1
                    clear hP hD hPc hDc hFc ht hvm hz1 hk1 hP1 hD1
                    obtain ⟨hP, hD⟩ := hJ9
                    refine g5_rs [(a_nm, (arI G 401 f_nm)), (a_tk, (oc8 a_kd a_nm a_pl)), (a_kd, (arI G 401 f_kd)), (a_r, (oc4 a_tk a_rh a_rs a_rc z114 k_pa (k_at + 1) e_fp)), (a_rc, (arI G 400 z115))] hP hD ?_
                    clear hP hD
                    intro hP hD
                    refine g5_ti (v := z113) y116 ?_
                    have hE_117 : lvC z115 z114.toInt.toNat = k_pa.toInt.toNat := by rw [i_112, lvC_em0 (by omega) (by omega) (opT_20 (by decide +kernel) (by decide +kernel))]; exact hE_103
                    refine W.eq (g2 := F0 m 87 ls [.int z113]) rfl ?_
                    refine lv_istore (lv' := [(5, .int z113), (4, .int 1), (2, .int k_w), (3, .int k_i), (0, .ref a_r), (1, .int p_d)]) hx hb dX4_readTest_87 hl (by decide +kernel) rfl ?_
                    clear hl
                    intro ls hl
                    refine lv_aload_n hx hb dX4_readTest_89 rfl (lv_at hl 4 rfl) ?_
                    refine lv_iload_n hx hb dX4_readTest_90 rfl (lv_at hl 5 rfl) ?_
                    obtain ⟨hPc, hDc, hFc⟩ := g5_sub3 (wc := [(a_r, (oc4 a_tk a_rh a_rs a_rc z114 k_pa (k_at + 1) e_fp)), (a_tk, (oc8 a_kd a_nm a_pl)), (a_kd, (arI G 401 f_kd)), (a_nm, (arI G 401 f_nm)), (a_rc, (arI G 400 z115))]) hP hD hS hA [3, 1, 2, 0, 4] (by decide +kernel) rfl
                    refine va_calli (va_runV (As := [.int p_d]) (rest := []) ⟨hx, hb, hml, hown, hts⟩ ((r_plainX fr lo f2 l2 p_d h_p_d h_sum h_test) l G a_r a_tk a_kd a_nm a_rc a_rh a_rs a_pl H.size z114 k_pa (k_at + 1) e_fp f_kd f_nm z115 g_x g_n g_T ⟨by omega, by omega⟩ i_29 ⟨by omega, by omega⟩ (e_tk) (i_109) (e_by) (e_kr) (by omega) (by omega) (hE_117)) (cwV 1 hts gV_X4_83 rfl rfl rfl hv_X4_readPlain ⟨by simp only [headSpec]; omega, by simp only [headSpec]; omega⟩) (g5_preV hPc hK hDc hN hT hS hFc (ci := 4) (q0 := 0) rfl rfl) rfl rfl hl.1 rfl (lv_room (Nat.le_of_ble_eq_true rfl)) dX4_readTest_91 ⟨Nat.le_of_ble_eq_true rfl, Nat.le_of_ble_eq_true rfl⟩) hS (fun q _ h => hFc q h) hFc (fun r u t H locs ht hvm hw hB hz1 hk1 hS => ?_)
                    obtain ⟨hP1, hD1⟩ := hB
                    have hP1 := g5_ht ht hP1
                    rcases hw with ⟨z125, z126, z127, z128, (i_118 : z114.toInt ≤ z125.toInt ∧ z125.toInt ≤ 400), (i_119 : 0 ≤ z127.toInt ∧ z127.toInt ≤ 401), (i_120 : 0 ≤ z126.toInt ∧ z126.toInt ≤ 50), (i_121 : CDI z128 z125.toInt), (i_122 : OPK z115 z128 z114.toInt), (i_123 : ∃ d : DS, (plF (KDT g_x g_n) (NMT g_x g_n) p_d) (k_at + 1).toInt.toNat k_pa.toInt.toNat = (z127.toInt.toNat, z126.toInt.toNat, some d) ∧ is01 d ∧ KCC z115 z128 z114.toInt ∧ MCC z128 z114.toInt.toNat z125.toInt.toNat d ∧ lvC z128 z125.toInt.toNat = z126.toInt.toNat), (i_124 : z127.toInt ≤ (g_T : Int) ∧ (k_at + 1).toInt < z127.toInt ∧ z125.toInt + (k_at + 1).toInt ≤ z114.toInt + z127.toInt), rfl, rfl⟩ | ⟨z136, z137, z138, z139, (i_129 : z114.toInt ≤ z136.toInt ∧ z136.toInt ≤ 400), (i_130 : 0 ≤ z138.toInt ∧ z138.toInt ≤ 401), (i_131 : 0 ≤ z137.toInt ∧ z137.toInt ≤ 50), (i_132 : CDI z139 z136.toInt), (i_133 : OPK z115 z139 z114.toInt), (i_134 : ∃ q : Nat, (plF (KDT g_x g_n) (NMT g_x g_n) p_d) (k_at + 1).toInt.toNat k_pa.toInt.toNat = (z138.toInt.toNat, q, none)), (i_135 : z138.toInt ≤ (g_T : Int)), rfl, rfl⟩
                    ·
                      have hJ9 := va_join (wr := []) hP hD [3, 1, 2, 0, 4] [] rfl rfl (by decide +kernel) (by decide +kernel) hk1 hFc hP1 hD1
                      clear hP hD hPc hDc hFc ht hvm hz1 hk1 hP1 hD1
                      obtain ⟨hP, hD⟩ := hJ9
                      refine g5_rs [(a_r, (oc4 a_tk a_rh a_rs a_rc z125 z126 z127 e_fp)), (a_tk, (oc8 a_kd a_nm a_pl)), (a_kd, (arI G 401 f_kd)), (a_nm, (arI G 401 f_nm)), (a_rc, (arI G 400 z128))] hP hD ?_
                      clear hP hD
                      intro hP hD
                      obtain ⟨dd140, hd140, hz140, hc140, hm140, hv140⟩ := i_123
                      have hK_141 : (f_kd z127.toNatClampNeg).toInt = KDT g_x g_n z127.toInt.toNat := tkr_at e_kr (by omega) (by omega)
                      refine lv_if_ne (tgt := 99) hx hb dX4_readTest_94 (by decide +kernel) (fun c_142 => ?_) (fun c_142 => ?_)
                      ·
                        refine lv_iload hx hb dX4_readTest_99 (lv_at hl 1 rfl) ?_
                        refine lv_if_eq (tgt := 110) hx hb dX4_readTest_101 (by decide +kernel) (fun c_143 => ?_) (fun c_143 => ?_)
                        ·
                          exact absurd c_143 (by decide +kernel)
                        ·
                          refine lv_iload hx hb dX4_readTest_104 (lv_at hl 0 rfl) ?_
                          refine lv_istore_n (lv' := [(2, .int z113), (5, .int z113), (4, .int 1), (3, .int k_i), (0, .ref a_r), (1, .int p_d)]) hx hb dX4_readTest_106 rfl hl (by decide +kernel) rfl ?_
                          clear hl
                          intro ls hl
                          refine lv_goto (tgt := 116) hx hb dX4_readTest_107 (by decide +kernel) ?_
                          refine lv_iinc (v := (k_i + 1)) (lv' := [(3, .int (k_i + 1)), (2, .int z113), (5, .int z113), (4, .int 1), (0, .ref a_r), (1, .int p_d)]) hx hb dX4_readTest_116 hl (k := 3) rfl rfl (by decide +kernel) rfl ?_
                          clear hl
                          intro ls hl
                          have t_144 : (k_i + 1).toInt = k_i.toInt + 1 := g5_iadd (a := k_i.toInt) (b := 1) rfl (by decide +kernel) (by omega) (by omega)
                          refine W.eq (g2 := F0 m 119 ls []) rfl ?_
                          refine lv_goto (tgt := 14) hx hb dX4_readTest_119 (by decide +kernel) ?_
                          exact ih_14_38 (z113, (k_i + 1), z125, z126, z127, z128) ls H locs (show Int.toNat (400 - (k_i + 1).toInt) < Int.toNat (400 - k_i.toInt) from g_up (show k_i.toInt < (k_i + 1).toInt by omega) (show k_i.toInt < 400 by omega)) ⟨lv_sub hl [1, 0, 4, 5] rfl, hP, hD, hS, ⟨by omega, by omega⟩, ⟨by omega, by omega⟩, ⟨by omega, by omega⟩, i_120, i_119, by omega, i_121, opk_trans i_33 (opk_trans i_56 (opk_trans i_110 (i_122) (by omega)) (by omega)) (by omega), jok_opk (jok_emit i_111 (by decide +kernel)) (i_122) (by omega), tlc_or i_35 (by omega) (by omega) ⟨by omega, by omega, by omega⟩ (hKk.symm.trans i_49) (Or.inr ⟨by omega, i_58⟩) i_112 (by omega) (by rw [show k_at.toInt.toNat + 1 = (k_at + 1).toInt.toNat by omega]; exact hd140) hz140 hc140 hm140 hv140 (by omega) (by omega), hv140, by omega⟩
                      ·
                        exact absurd c_142 (by decide +kernel)
                    ·
                      have hJ9 := va_join (wr := []) hP hD [3, 1, 2, 0, 4] [] rfl rfl (by decide +kernel) (by decide +kernel) hk1 hFc hP1 hD1
                      clear hP hD hPc hDc hFc ht hvm hz1 hk1 hP1 hD1
                      obtain ⟨hP, hD⟩ := hJ9
                      refine g5_rs [(a_r, (oc4 a_tk a_rh a_rs a_rc z136 z137 z138 e_fp)), (a_tk, (oc8 a_kd a_nm a_pl)), (a_kd, (arI G 401 f_kd)), (a_nm, (arI G 401 f_nm)), (a_rc, (arI G 400 z139))] hP hD ?_
                      clear hP hD
                      intro hP hD
                      obtain ⟨qq145, hq145⟩ := i_134
                      refine lv_if_ne (tgt := 99) hx hb dX4_readTest_94 (by decide +kernel) (fun c_146 => ?_) (fun c_146 => ?_)
                      ·
                        exact absurd c_146 (by decide +kernel)
                      ·
                        refine lv_iconst (v := 0) hx hb dX4_readTest_97 (by decide +kernel) ?_
                        exact W.zret (v := 0) hx hb hr rfl (fun t ht hW => ⟨⟨0, [(a_r, (oc4 a_tk a_rh a_rs a_rc z136 z137 z138 e_fp)), (a_tk, (oc8 a_kd a_nm a_pl)), (a_kd, (arI G 401 f_kd)), (a_nm, (arI G 401 f_nm)), (a_rc, (arI G 400 z139))], rfl, Or.inr (⟨z136, z137, z138, z139, ⟨by omega, by omega⟩, i_130, i_131, i_132, opk_trans i_33 (opk_trans i_56 (opk_trans i_110 (i_133) (by omega)) (by omega)) (by omega), ⟨qq145, tlc_bad i_35 (by omega) (by omega) (Or.inl (hKk.symm.trans i_49)) (by rw [show k_at.toInt.toNat + 1 = (k_at + 1).toInt.toNat by omega]; exact hq145)⟩, by omega, rfl, rfl⟩), by rw [ht]; exact hP.sub [0, 1, 2, 3, 4] rfl, hD.sub [0, 1, 2, 3, 4] (by decide +kernel) rfl⟩, hS.F ht⟩) hS.2.2 dX4_readTest_98
            ·
              have hJ9 := va_join (wr := [(a_nm, (arI G 401 f_nm)), (a_rc, (arI G 400 k_rc))]) hP hD [2, 3, 4] [0, 1] rfl rfl (by decide +kernel) (by decide +kernel) hk1 hFc hP1 hD1
              clear hP hD hPc hDc hFc ht hvm hz1 hk1 hP1 hD1
              obtain ⟨hP, hD⟩ := hJ9
              refine g5_rs [(a_nm, (arI G 401 f_nm)), (a_rc, (arI G 400 k_rc)), (a_r, (oc4 a_tk a_rh a_rs a_rc k_ln k_pa k_at e_fp)), (a_tk, (oc8 a_kd a_nm a_pl)), (a_kd, (arI G 401 f_kd))] hP hD ?_
              clear hP hD
              intro hP hD
              refine lv_istore (lv' := [(4, .int 0), (2, .int k_w), (3, .int k_i), (0, .ref a_r), (1, .int p_d)]) hx hb dX4_readTest_48 hl (by decide +kernel) rfl ?_
              clear hl
              intro ls hl
              exact absurd i_46 i_50
          ·
            exact absurd c_48 (by decide +kernel)
        ·
          have hJ9 := va_join (wr := [(a_nm, (arI G 401 f_nm)), (a_rc, (arI G 400 k_rc))]) hP hD [0, 1, 2] [3, 4] rfl rfl (by decide +kernel) (by decide +kernel) hk1 hFc hP1 hD1
          clear hP hD hPc hDc hFc ht hvm hz1 hk1 hP1 hD1
          obtain ⟨hP, hD⟩ := hJ9
          refine g5_rs [(a_nm, (arI G 401 f_nm)), (a_rc, (arI G 400 k_rc)), (a_r, (oc4 a_tk a_rh a_rs a_rc k_ln k_pa k_at e_fp)), (a_tk, (oc8 a_kd a_nm a_pl)), (a_kd, (arI G 401 f_kd))] hP hD ?_
          clear hP hD
          intro hP hD
          refine lv_if_ne (tgt := 41) hx hb dX4_readTest_28 (by decide +kernel) (fun c_147 => ?_) (fun c_147 => ?_)
          ·
            exact absurd c_147 (by decide +kernel)
          ·
            refine lv_aload_n hx hb dX4_readTest_31 rfl (lv_at hl 2 rfl) ?_
            refine lv_sipush (v := 262) hx hb dX4_readTest_32 (by decide +kernel) ?_
            obtain ⟨hPc, hDc, hFc⟩ := g5_sub3 (wc := [(a_r, (oc4 a_tk a_rh a_rs a_rc k_ln k_pa k_at e_fp)), (a_tk, (oc8 a_kd a_nm a_pl)), (a_kd, (arI G 401 f_kd))]) hP hD hS hA [2, 3, 4] (by decide +kernel) rfl
            refine va_calli (va_runV (As := [.int 262]) (rest := []) ⟨hx, hb, hml, hown, hts⟩ (r_isNextX262 l G a_r a_tk a_kd a_rh a_rs a_rc a_nm a_pl H.size k_ln k_pa k_at e_fp f_kd i_28 i_29 i_30 (by omega)) (cwV 1 hts gV_X4_49 rfl rfl rfl hv_X4_isNext ⟨by simp only [headSpec]; omega, by simp only [headSpec]; omega⟩) (g5_preV hPc hK hDc hN hT hS hFc (ci := 4) (q0 := 0) rfl rfl) rfl rfl hl.1 rfl (lv_room (Nat.le_of_ble_eq_true rfl)) dX4_readTest_35 ⟨Nat.le_of_ble_eq_true rfl, Nat.le_of_ble_eq_true rfl⟩) hS (fun q _ h => hFc q h) hFc (fun r u t H locs ht hvm hw hB hz1 hk1 hS => ?_)
            obtain ⟨hP1, hD1⟩ := hB
            have hP1 := g5_ht ht hP1
            rcases hw with ⟨(i_148 : (f_kd k_at.toNatClampNeg).toInt = 262), rfl, rfl⟩ | ⟨(i_149 : gNe (f_kd k_at.toNatClampNeg).toInt 262), rfl, rfl⟩
            ·
              have hJ9 := va_join (wr := [(a_nm, (arI G 401 f_nm)), (a_rc, (arI G 400 k_rc))]) hP hD [2, 3, 4] [0, 1] rfl rfl (by decide +kernel) (by decide +kernel) hk1 hFc hP1 hD1
              clear hP hD hPc hDc hFc ht hvm hz1 hk1 hP1 hD1
              obtain ⟨hP, hD⟩ := hJ9
              refine g5_rs [(a_nm, (arI G 401 f_nm)), (a_rc, (arI G 400 k_rc)), (a_r, (oc4 a_tk a_rh a_rs a_rc k_ln k_pa k_at e_fp)), (a_tk, (oc8 a_kd a_nm a_pl)), (a_kd, (arI G 401 f_kd))] hP hD ?_
              clear hP hD
              intro hP hD
              refine lv_if_eq (tgt := 122) hx hb dX4_readTest_38 (by decide +kernel) (fun c_150 => ?_) (fun c_150 => ?_)
              ·
                exact absurd c_150 (by decide +kernel)
              ·
                refine lv_aload_n hx hb dX4_readTest_41 rfl (lv_at hl 2 rfl) ?_
                refine lv_sipush (v := 261) hx hb dX4_readTest_42 (by decide +kernel) ?_
                obtain ⟨hPc, hDc, hFc⟩ := g5_sub3 (wc := [(a_r, (oc4 a_tk a_rh a_rs a_rc k_ln k_pa k_at e_fp)), (a_tk, (oc8 a_kd a_nm a_pl)), (a_kd, (arI G 401 f_kd))]) hP hD hS hA [2, 3, 4] (by decide +kernel) rfl
                refine va_calli (va_runV (As := [.int 261]) (rest := []) ⟨hx, hb, hml, hown, hts⟩ (r_isNextX261 l G a_r a_tk a_kd a_rh a_rs a_rc a_nm a_pl H.size k_ln k_pa k_at e_fp f_kd i_28 i_29 i_30 (by omega)) (cwV 1 hts gV_X4_49 rfl rfl rfl hv_X4_isNext ⟨by simp only [headSpec]; omega, by simp only [headSpec]; omega⟩) (g5_preV hPc hK hDc hN hT hS hFc (ci := 4) (q0 := 0) rfl rfl) rfl rfl hl.1 rfl (lv_room (Nat.le_of_ble_eq_true rfl)) dX4_readTest_45 ⟨Nat.le_of_ble_eq_true rfl, Nat.le_of_ble_eq_true rfl⟩) hS (fun q _ h => hFc q h) hFc (fun r u t H locs ht hvm hw hB hz1 hk1 hS => ?_)
                obtain ⟨hP1, hD1⟩ := hB
                have hP1 := g5_ht ht hP1
                rcases hw with ⟨(i_151 : (f_kd k_at.toNatClampNeg).toInt = 261), rfl, rfl⟩ | ⟨(i_152 : gNe (f_kd k_at.toNatClampNeg).toInt 261), rfl, rfl⟩
                ·
                  have hJ9 := va_join (wr := [(a_nm, (arI G 401 f_nm)), (a_rc, (arI G 400 k_rc))]) hP hD [2, 3, 4] [0, 1] rfl rfl (by decide +kernel) (by decide +kernel) hk1 hFc hP1 hD1
                  clear hP hD hPc hDc hFc ht hvm hz1 hk1 hP1 hD1
                  obtain ⟨hP, hD⟩ := hJ9
                  refine g5_rs [(a_nm, (arI G 401 f_nm)), (a_rc, (arI G 400 k_rc)), (a_r, (oc4 a_tk a_rh a_rs a_rc k_ln k_pa k_at e_fp)), (a_tk, (oc8 a_kd a_nm a_pl)), (a_kd, (arI G 401 f_kd))] hP hD ?_
                  clear hP hD
                  intro hP hD
                  refine lv_istore (lv' := [(4, .int 1), (2, .int k_w), (3, .int k_i), (0, .ref a_r), (1, .int p_d)]) hx hb dX4_readTest_48 hl (by decide +kernel) rfl ?_
                  clear hl
                  intro ls hl
                  exact absurd i_151 i_47
                ·
                  have hJ9 := va_join (wr := [(a_nm, (arI G 401 f_nm)), (a_rc, (arI G 400 k_rc))]) hP hD [2, 3, 4] [0, 1] rfl rfl (by decide +kernel) (by decide +kernel) hk1 hFc hP1 hD1
                  clear hP hD hPc hDc hFc ht hvm hz1 hk1 hP1 hD1
                  obtain ⟨hP, hD⟩ := hJ9
                  refine g5_rs [(a_nm, (arI G 401 f_nm)), (a_rc, (arI G 400 k_rc)), (a_r, (oc4 a_tk a_rh a_rs a_rc k_ln k_pa k_at e_fp)), (a_tk, (oc8 a_kd a_nm a_pl)), (a_kd, (arI G 401 f_kd))] hP hD ?_
                  clear hP hD
                  intro hP hD
                  refine lv_istore (lv' := [(4, .int 0), (2, .int k_w), (3, .int k_i), (0, .ref a_r), (1, .int p_d)]) hx hb dX4_readTest_48 hl (by decide +kernel) rfl ?_
                  clear hl
                  intro ls hl
                  have hL_153 : k_at.toInt < (g_T : Int) := tkr_ltI e_kr (by omega) (by omega) i_148 (by decide +kernel)
                  refine lv_aload_n hx hb dX4_readTest_50 rfl (lv_at hl 3 rfl) ?_
                  refine lv_dup hx hb dX4_readTest_51 rfl ?_
                  refine va_get (D := G.1) (ci := 4) (v := .int k_at) (C := RX4) (T := TX4) (N := 8) hx hb hts inG_X4 hown hK hP 2 rfl rfl 6 (by decide +kernel) (hts _ fl_X4_42) (fun _ h9 => h9) rfl dX4_readTest_52 ?_
                  refine W.eq (g2 := F0 m 55 ls [.int k_at, .ref a_r]) rfl ?_
                  refine lv_iconst (v := 1) hx hb dX4_readTest_55 (by decide +kernel) ?_
                  refine lv_iadd hx hb dX4_readTest_56 ?_
                  have t_154 : (k_at + 1).toInt = k_at.toInt + 1 := g5_iadd (a := k_at.toInt) (b := 1) (by rfl) (by decide +kernel) (by omega) (by omega)
                  refine va_put (D := G.1) (ci := 4) (v := .int (k_at + 1)) (ty := .int) (C := RX4) (T := TX4) (N := 8) hx hb hts inG_X4 tyX4 tyX4_ok nmX4 hown hK hP hD hS 2 rfl rfl 6 (by decide +kernel) (hts _ fl_X4_42) (fun _ h9 => h9) rfl (by decide +kernel) rfl rfl (Nat.le_of_ble_eq_true rfl) dX4_readTest_57 ?_
                  clear hP hD hS
                  intro H locs hP hD hS
                  refine g5_rs [(a_nm, (arI G 401 f_nm)), (a_rc, (arI G 400 k_rc)), (a_r, (oc4 a_tk a_rh a_rs a_rc k_ln k_pa (k_at + 1) e_fp)), (a_tk, (oc8 a_kd a_nm a_pl)), (a_kd, (arI G 401 f_kd))] hP hD ?_
                  clear hP hD
                  intro hP hD
                  refine lv_iload hx hb dX4_readTest_60 (lv_at hl 0 rfl) ?_
                  refine lv_if_eq (tgt := 70) hx hb dX4_readTest_62 (by decide +kernel) (fun c_155 => ?_) (fun c_155 => ?_)
                  ·
                    refine lv_aload_n hx hb dX4_readTest_70 rfl (lv_at hl 3 rfl) ?_
                    refine lv_iload hx hb dX4_readTest_71 (lv_at hl 0 rfl) ?_
                    refine lv_if_eq (tgt := 81) hx hb dX4_readTest_73 (by decide +kernel) (fun c_156 => ?_) (fun c_156 => ?_)
                    ·
                      refine lv_bipush (v := 12) hx hb dX4_readTest_81 (by decide +kernel) ?_
                      refine lv_iconst (v := 0) hx hb dX4_readTest_83 (by decide +kernel) ?_
                      obtain ⟨hPc, hDc, hFc⟩ := g5_sub3 (wc := [(a_r, (oc4 a_tk a_rh a_rs a_rc k_ln k_pa (k_at + 1) e_fp)), (a_rc, (arI G 400 k_rc))]) hP hD hS hA [2, 1] (by decide +kernel) rfl
                      refine va_calli (va_runV (As := [.int 12, .int 0]) (rest := []) ⟨hx, hb, hml, hown, hts⟩ (r_emitX l G a_r a_rc a_tk a_rh a_rs H.size k_ln k_pa (k_at + 1) e_fp 12 0 k_rc i_28 i_29 ⟨by omega, by omega⟩ (i_32) (by unfold wOK; decide) (by omega)) (cwV 2 hts gV_X4_79 rfl rfl rfl hv_X4_emit ⟨by simp only [headSpec]; omega, by simp only [headSpec]; omega⟩) (g5_preV hPc hK hDc hN hT hS hFc (ci := 4) (q0 := 0) rfl rfl) rfl rfl hl.1 rfl (lv_room (Nat.le_of_ble_eq_true rfl)) dX4_readTest_84 ⟨Nat.le_of_ble_eq_true rfl, Nat.le_of_ble_eq_true rfl⟩) hS (fun q _ h => hFc q h) hFc (fun r u t H locs ht hvm hw hB hz1 hk1 hS => ?_)
                      obtain ⟨hP1, hD1⟩ := hB
                      have hP1 := g5_ht ht hP1
                      obtain ⟨z165, z166, z167, (i_157 : 0 ≤ z165.toInt ∧ z165.toInt ≤ 399), (i_158 : z165.toInt = k_ln.toInt), (i_159 : z166.toInt = k_ln.toInt + 1), (i_160 : k_ln.toInt ≤ z166.toInt ∧ z166.toInt ≤ 400), (i_161 : CDI z167 z166.toInt), (i_162 : OPK k_rc z167 k_ln.toInt), (i_163 : 0 ≤ z165.toInt → z165.toInt < z166.toInt ∧ z167 z165.toNatClampNeg = (((12 : Int32) <<< (12 &&& 31)) ||| (0 : Int32))), (i_164 : z167 = upd k_rc k_ln.toNatClampNeg (((12 : Int32) <<< (12 &&& 31)) ||| (0 : Int32))), y168, rfl⟩ := hw
                      have hJ9 := va_join (wr := [(a_nm, (arI G 401 f_nm)), (a_tk, (oc8 a_kd a_nm a_pl)), (a_kd, (arI G 401 f_kd))]) hP hD [2, 1] [0, 3, 4] rfl rfl (by decide +kernel) (by decide +kernel) hk1 hFc hP1 hD1
                      clear hP hD hPc hDc hFc ht hvm hz1 hk1 hP1 hD1
                      obtain ⟨hP, hD⟩ := hJ9
                      refine g5_rs [(a_nm, (arI G 401 f_nm)), (a_tk, (oc8 a_kd a_nm a_pl)), (a_kd, (arI G 401 f_kd)), (a_r, (oc4 a_tk a_rh a_rs a_rc z166 k_pa (k_at + 1) e_fp)), (a_rc, (arI G 400 z167))] hP hD ?_
                      clear hP hD
                      intro hP hD
                      refine g5_ti (v := z165) y168 ?_
                      have hE_169 : lvC z167 z166.toInt.toNat = k_pa.toInt.toNat := by rw [i_164, lvC_em0 (by omega) (by omega) (opT_20 (by decide +kernel) (by decide +kernel))]; exact i_36
                      refine lv_istore (lv' := [(5, .int z165), (4, .int 0), (2, .int k_w), (3, .int k_i), (0, .ref a_r), (1, .int p_d)]) hx hb dX4_readTest_87 hl (by decide +kernel) rfl ?_
                      clear hl
                      intro ls hl
                      refine W.eq (g2 := F0 m 89 ls []) rfl ?_
                      refine lv_aload_n hx hb dX4_readTest_89 rfl (lv_at hl 4 rfl) ?_
                      refine lv_iload_n hx hb dX4_readTest_90 rfl (lv_at hl 5 rfl) ?_
                      obtain ⟨hPc, hDc, hFc⟩ := g5_sub3 (wc := [(a_r, (oc4 a_tk a_rh a_rs a_rc z166 k_pa (k_at + 1) e_fp)), (a_tk, (oc8 a_kd a_nm a_pl)), (a_kd, (arI G 401 f_kd)), (a_nm, (arI G 401 f_nm)), (a_rc, (arI G 400 z167))]) hP hD hS hA [3, 1, 2, 0, 4] (by decide +kernel) rfl
                      refine va_calli (va_runV (As := [.int p_d]) (rest := []) ⟨hx, hb, hml, hown, hts⟩ ((r_plainX fr lo f2 l2 p_d h_p_d h_sum h_test) l G a_r a_tk a_kd a_nm a_rc a_rh a_rs a_pl H.size z166 k_pa (k_at + 1) e_fp f_kd f_nm z167 g_x g_n g_T ⟨by omega, by omega⟩ i_29 ⟨by omega, by omega⟩ (e_tk) (i_161) (e_by) (e_kr) (by omega) (by omega) (hE_169)) (cwV 1 hts gV_X4_83 rfl rfl rfl hv_X4_readPlain ⟨by simp only [headSpec]; omega, by simp only [headSpec]; omega⟩) (g5_preV hPc hK hDc hN hT hS hFc (ci := 4) (q0 := 0) rfl rfl) rfl rfl hl.1 rfl (lv_room (Nat.le_of_ble_eq_true rfl)) dX4_readTest_91 ⟨Nat.le_of_ble_eq_true rfl, Nat.le_of_ble_eq_true rfl⟩) hS (fun q _ h => hFc q h) hFc (fun r u t H locs ht hvm hw hB hz1 hk1 hS => ?_)
                      obtain ⟨hP1, hD1⟩ := hB
                      have hP1 := g5_ht ht hP1
                      rcases hw with ⟨z177, z178, z179, z180, (i_170 : z166.toInt ≤ z177.toInt ∧ z177.toInt ≤ 400), (i_171 : 0 ≤ z179.toInt ∧ z179.toInt ≤ 401), (i_172 : 0 ≤ z178.toInt ∧ z178.toInt ≤ 50), (i_173 : CDI z180 z177.toInt), (i_174 : OPK z167 z180 z166.toInt), (i_175 : ∃ d : DS, (plF (KDT g_x g_n) (NMT g_x g_n) p_d) (k_at + 1).toInt.toNat k_pa.toInt.toNat = (z179.toInt.toNat, z178.toInt.toNat, some d) ∧ is01 d ∧ KCC z167 z180 z166.toInt ∧ MCC z180 z166.toInt.toNat z177.toInt.toNat d ∧ lvC z180 z177.toInt.toNat = z178.toInt.toNat), (i_176 : z179.toInt ≤ (g_T : Int) ∧ (k_at + 1).toInt < z179.toInt ∧ z177.toInt + (k_at + 1).toInt ≤ z166.toInt + z179.toInt), rfl, rfl⟩ | ⟨z188, z189, z190, z191, (i_181 : z166.toInt ≤ z188.toInt ∧ z188.toInt ≤ 400), (i_182 : 0 ≤ z190.toInt ∧ z190.toInt ≤ 401), (i_183 : 0 ≤ z189.toInt ∧ z189.toInt ≤ 50), (i_184 : CDI z191 z188.toInt), (i_185 : OPK z167 z191 z166.toInt), (i_186 : ∃ q : Nat, (plF (KDT g_x g_n) (NMT g_x g_n) p_d) (k_at + 1).toInt.toNat k_pa.toInt.toNat = (z190.toInt.toNat, q, none)), (i_187 : z190.toInt ≤ (g_T : Int)), rfl, rfl⟩
                      ·
                        have hJ9 := va_join (wr := []) hP hD [3, 1, 2, 0, 4] [] rfl rfl (by decide +kernel) (by decide +kernel) hk1 hFc hP1 hD1
                        clear hP hD hPc hDc hFc ht hvm hz1 hk1 hP1 hD1
                        obtain ⟨hP, hD⟩ := hJ9
                        refine g5_rs [(a_r, (oc4 a_tk a_rh a_rs a_rc z177 z178 z179 e_fp)), (a_tk, (oc8 a_kd a_nm a_pl)), (a_kd, (arI G 401 f_kd)), (a_nm, (arI G 401 f_nm)), (a_rc, (arI G 400 z180))] hP hD ?_
                        clear hP hD
                        intro hP hD
                        obtain ⟨dd192, hd192, hz192, hc192, hm192, hv192⟩ := i_175
                        have hK_193 : (f_kd z179.toNatClampNeg).toInt = KDT g_x g_n z179.toInt.toNat := tkr_at e_kr (by omega) (by omega)
                        refine lv_if_ne (tgt := 99) hx hb dX4_readTest_94 (by decide +kernel) (fun c_194 => ?_) (fun c_194 => ?_)
                        ·
                          refine lv_iload hx hb dX4_readTest_99 (lv_at hl 1 rfl) ?_
                          refine lv_if_eq (tgt := 110) hx hb dX4_readTest_101 (by decide +kernel) (fun c_195 => ?_) (fun c_195 => ?_)
                          ·
                            refine lv_aload_n hx hb dX4_readTest_110 rfl (lv_at hl 4 rfl) ?_
                            refine lv_iload hx hb dX4_readTest_111 (lv_at hl 0 rfl) ?_
                            obtain ⟨hPc, hDc, hFc⟩ := g5_sub3 (wc := [(a_r, (oc4 a_tk a_rh a_rs a_rc z177 z178 z179 e_fp)), (a_rc, (arI G 400 z180))]) hP hD hS hA [0, 4] (by decide +kernel) rfl
                            refine va_callv (va_runV (As := [.int z165]) (rest := []) ⟨hx, hb, hml, hown, hts⟩ (r_jumpXp l G a_r a_rc a_tk a_rh a_rs H.size z177 z178 z179 e_fp z165 z180 ⟨by omega, by omega⟩ i_172 i_171 i_157 (i_173) (jok_opk (jok_emit i_163 (by decide +kernel)) (i_174) (by omega))) (cwV 1 hts gV_X4_86 rfl rfl rfl hv_X4_jumpHere ⟨by simp only [headSpec]; omega, by simp only [headSpec]; omega⟩) (g5_preV hPc hK hDc hN hT hS hFc (ci := 4) (q0 := 0) rfl rfl) rfl rfl hl.1 rfl (lv_room (Nat.le_of_ble_eq_true rfl)) dX4_readTest_113 ⟨Nat.le_of_ble_eq_true rfl, Nat.le_of_ble_eq_true rfl⟩) hS (fun q _ h => hFc q h) hFc (fun u t H locs ht hvm hw hB hz1 hk1 hS => ?_)
                            obtain ⟨hP1, hD1⟩ := hB
                            have hP1 := g5_ht ht hP1
                            obtain ⟨z199, (i_196 : CDI z199 z177.toInt), (i_197 : OPK z180 z199 z177.toInt), (i_198 : z199 = upd z180 z165.toNatClampNeg (z180 z165.toNatClampNeg ||| z177)), rfl⟩ := hw
                            have hJ9 := va_join (wr := [(a_tk, (oc8 a_kd a_nm a_pl)), (a_kd, (arI G 401 f_kd)), (a_nm, (arI G 401 f_nm))]) hP hD [0, 4] [1, 2, 3] rfl rfl (by decide +kernel) (by decide +kernel) hk1 hFc hP1 hD1
                            clear hP hD hPc hDc hFc ht hvm hz1 hk1 hP1 hD1
                            obtain ⟨hP, hD⟩ := hJ9
                            refine g5_rs [(a_tk, (oc8 a_kd a_nm a_pl)), (a_kd, (arI G 401 f_kd)), (a_nm, (arI G 401 f_nm)), (a_r, (oc4 a_tk a_rh a_rs a_rc z177 z178 z179 e_fp)), (a_rc, (arI G 400 z199))] hP hD ?_
                            clear hP hD
                            intro hP hD
                            refine lv_iinc (v := (k_i + 1)) (lv' := [(3, .int (k_i + 1)), (5, .int z165), (4, .int 0), (2, .int k_w), (0, .ref a_r), (1, .int p_d)]) hx hb dX4_readTest_116 hl (k := 3) rfl rfl (by decide +kernel) rfl ?_
                            clear hl
                            intro ls hl
                            have t_200 : (k_i + 1).toInt = k_i.toInt + 1 := g5_iadd (a := k_i.toInt) (b := 1) rfl (by decide +kernel) (by omega) (by omega)
                            refine W.eq (g2 := F0 m 119 ls []) rfl ?_
                            refine lv_goto (tgt := 14) hx hb dX4_readTest_119 (by decide +kernel) ?_
                            exact ih_14_38 (k_w, (k_i + 1), z177, z178, z179, z199) ls H locs (show Int.toNat (400 - (k_i + 1).toInt) < Int.toNat (400 - k_i.toInt) from g_up (show k_i.toInt < (k_i + 1).toInt by omega) (show k_i.toInt < 400 by omega)) ⟨lv_sub hl [3, 0, 4, 5] rfl, hP.sub [3, 0, 1, 2, 4] rfl, hD.sub [3, 0, 1, 2, 4] (by decide +kernel) rfl, hS, i_26, ⟨by omega, by omega⟩, ⟨by omega, by omega⟩, i_172, i_171, by omega, i_196, opk_trans i_33 (opk_trans i_162 (opk_trans i_174 (i_197) (by omega)) (by omega)) (by omega), jok_opk i_34 (opk_trans i_162 (opk_trans i_174 (i_197) (by omega)) (by omega)) (by omega), tlc_and i_35 (by omega) (by omega) ⟨by omega, by omega, by omega⟩ (hKk.symm.trans i_148) i_164 (by omega) (by rw [show k_at.toInt.toNat + 1 = (k_at + 1).toInt.toNat by omega]; exact hd192) hz192 hc192 hm192 ⟨by omega, by omega⟩ hv192 (by omega) i_198 (by omega), (lv_and i_164 (by omega) (by omega) hc192 ⟨by omega, by omega⟩ (by omega) i_198).trans hv192, by omega⟩
                          ·
                            exact absurd c_195 (by decide +kernel)
                        ·
                          exact absurd c_194 (by decide +kernel)
                      ·
                        have hJ9 := va_join (wr := []) hP hD [3, 1, 2, 0, 4] [] rfl rfl (by decide +kernel) (by decide +kernel) hk1 hFc hP1 hD1
                        clear hP hD hPc hDc hFc ht hvm hz1 hk1 hP1 hD1
                        obtain ⟨hP, hD⟩ := hJ9
                        refine g5_rs [(a_r, (oc4 a_tk a_rh a_rs a_rc z188 z189 z190 e_fp)), (a_tk, (oc8 a_kd a_nm a_pl)), (a_kd, (arI G 401 f_kd)), (a_nm, (arI G 401 f_nm)), (a_rc, (arI G 400 z191))] hP hD ?_
                        clear hP hD
                        intro hP hD
                        obtain ⟨qq201, hq201⟩ := i_186
                        refine lv_if_ne (tgt := 99) hx hb dX4_readTest_94 (by decide +kernel) (fun c_202 => ?_) (fun c_202 => ?_)
                        ·
                          exact absurd c_202 (by decide +kernel)
                        ·
                          refine lv_iconst (v := 0) hx hb dX4_readTest_97 (by decide +kernel) ?_
                          exact W.zret (v := 0) hx hb hr rfl (fun t ht hW => ⟨⟨0, [(a_r, (oc4 a_tk a_rh a_rs a_rc z188 z189 z190 e_fp)), (a_tk, (oc8 a_kd a_nm a_pl)), (a_kd, (arI G 401 f_kd)), (a_nm, (arI G 401 f_nm)), (a_rc, (arI G 400 z191))], rfl, Or.inr (⟨z188, z189, z190, z191, ⟨by omega, by omega⟩, i_182, i_183, i_184, opk_trans i_33 (opk_trans i_162 (i_185) (by omega)) (by omega), ⟨qq201, tlc_bad i_35 (by omega) (by omega) (Or.inr (hKk.symm.trans i_148)) (by rw [show k_at.toInt.toNat + 1 = (k_at + 1).toInt.toNat by omega]; exact hq201)⟩, by omega, rfl, rfl⟩), by rw [ht]; exact hP.sub [0, 1, 2, 3, 4] rfl, hD.sub [0, 1, 2, 3, 4] (by decide +kernel) rfl⟩, hS.F ht⟩) hS.2.2 dX4_readTest_98
                    ·
                      exact absurd c_156 (by decide +kernel)
                  ·
                    exact absurd c_155 (by decide +kernel)
            ·
              have hJ9 := va_join (wr := [(a_nm, (arI G 401 f_nm)), (a_rc, (arI G 400 k_rc))]) hP hD [2, 3, 4] [0, 1] rfl rfl (by decide +kernel) (by decide +kernel) hk1 hFc hP1 hD1
              clear hP hD hPc hDc hFc ht hvm hz1 hk1 hP1 hD1
              obtain ⟨hP, hD⟩ := hJ9
              refine g5_rs [(a_nm, (arI G 401 f_nm)), (a_rc, (arI G 400 k_rc)), (a_r, (oc4 a_tk a_rh a_rs a_rc k_ln k_pa k_at e_fp)), (a_tk, (oc8 a_kd a_nm a_pl)), (a_kd, (arI G 401 f_kd))] hP hD ?_
              clear hP hD
              intro hP hD
              refine lv_if_eq (tgt := 122) hx hb dX4_readTest_38 (by decide +kernel) (fun c_203 => ?_) (fun c_203 => ?_)
              ·
                refine lv_aload_n hx hb dX4_readTest_122 rfl (lv_at hl 2 rfl) ?_
                refine lv_iload_n hx hb dX4_readTest_123 rfl (lv_at hl 0 rfl) ?_
                obtain ⟨hPc, hDc, hFc⟩ := g5_sub3 (wc := [(a_r, (oc4 a_tk a_rh a_rs a_rc k_ln k_pa k_at e_fp)), (a_rc, (arI G 400 k_rc))]) hP hD hS hA [2, 1] (by decide +kernel) rfl
                refine va_callv (va_runV (As := [.int k_w]) (rest := []) ⟨hx, hb, hml, hown, hts⟩ (r_jumpX l G a_r a_rc a_tk a_rh a_rs H.size k_ln k_pa k_at e_fp k_w k_rc i_28 i_29 i_30 i_26 (i_32) (i_34)) (cwV 1 hts gV_X4_86 rfl rfl rfl hv_X4_jumpHere ⟨by simp only [headSpec]; omega, by simp only [headSpec]; omega⟩) (g5_preV hPc hK hDc hN hT hS hFc (ci := 4) (q0 := 0) rfl rfl) rfl rfl hl.1 rfl (lv_room (Nat.le_of_ble_eq_true rfl)) dX4_readTest_124 ⟨Nat.le_of_ble_eq_true rfl, Nat.le_of_ble_eq_true rfl⟩) hS (fun q _ h => hFc q h) hFc (fun u t H locs ht hvm hw hB hz1 hk1 hS => ?_)
                obtain ⟨hP1, hD1⟩ := hB
                have hP1 := g5_ht ht hP1
                rcases hw with ⟨(i_204 : k_w.toInt < 0), rfl⟩ | ⟨z209, (i_205 : CDI z209 k_ln.toInt), (i_206 : OPK k_rc z209 k_ln.toInt), (i_207 : 0 ≤ k_w.toInt), (i_208 : z209 = upd k_rc k_w.toNatClampNeg (k_rc k_w.toNatClampNeg ||| k_ln)), rfl⟩
                ·
                  have hJ9 := va_join (wr := [(a_nm, (arI G 401 f_nm)), (a_tk, (oc8 a_kd a_nm a_pl)), (a_kd, (arI G 401 f_kd))]) hP hD [2, 1] [0, 3, 4] rfl rfl (by decide +kernel) (by decide +kernel) hk1 hFc hP1 hD1
                  clear hP hD hPc hDc hFc ht hvm hz1 hk1 hP1 hD1
                  obtain ⟨hP, hD⟩ := hJ9
                  refine g5_rs [(a_nm, (arI G 401 f_nm)), (a_tk, (oc8 a_kd a_nm a_pl)), (a_kd, (arI G 401 f_kd)), (a_r, (oc4 a_tk a_rh a_rs a_rc k_ln k_pa k_at e_fp)), (a_rc, (arI G 400 k_rc))] hP hD ?_
                  clear hP hD
                  intro hP hD
                  refine lv_iconst (v := 1) hx hb dX4_readTest_127 (by decide +kernel) ?_
                  exact W.zret (v := 1) hx hb hr rfl (fun t ht hW => ⟨⟨1, [(a_r, (oc4 a_tk a_rh a_rs a_rc k_ln k_pa k_at e_fp)), (a_tk, (oc8 a_kd a_nm a_pl)), (a_kd, (arI G 401 f_kd)), (a_nm, (arI G 401 f_nm)), (a_rc, (arI G 400 k_rc))], rfl, Or.inl (⟨k_ln, k_pa, k_at, k_rc, ⟨by omega, by omega⟩, i_30, i_29, i_32, i_33, tlc_end i_35 (by omega) ⟨by omega, by omega, by omega⟩ (Or.inr ⟨(fun q9 => i_47 (hKk.trans q9)), (fun q9 => i_149 (hKk.trans q9))⟩) (Or.inl ⟨by omega, rfl⟩), by omega, rfl, rfl⟩), by rw [ht]; exact hP.sub [3, 1, 2, 0, 4] rfl, hD.sub [3, 1, 2, 0, 4] (by decide +kernel) rfl⟩, hS.F ht⟩) hS.2.2 dX4_readTest_128
                ·
                  have hJ9 := va_join (wr := [(a_nm, (arI G 401 f_nm)), (a_tk, (oc8 a_kd a_nm a_pl)), (a_kd, (arI G 401 f_kd))]) hP hD [2, 1] [0, 3, 4] rfl rfl (by decide +kernel) (by decide +kernel) hk1 hFc hP1 hD1
                  clear hP hD hPc hDc hFc ht hvm hz1 hk1 hP1 hD1
                  obtain ⟨hP, hD⟩ := hJ9
                  refine g5_rs [(a_nm, (arI G 401 f_nm)), (a_tk, (oc8 a_kd a_nm a_pl)), (a_kd, (arI G 401 f_kd)), (a_r, (oc4 a_tk a_rh a_rs a_rc k_ln k_pa k_at e_fp)), (a_rc, (arI G 400 z209))] hP hD ?_
                  clear hP hD
                  intro hP hD
                  refine lv_iconst (v := 1) hx hb dX4_readTest_127 (by decide +kernel) ?_
                  exact W.zret (v := 1) hx hb hr rfl (fun t ht hW => ⟨⟨1, [(a_r, (oc4 a_tk a_rh a_rs a_rc k_ln k_pa k_at e_fp)), (a_tk, (oc8 a_kd a_nm a_pl)), (a_kd, (arI G 401 f_kd)), (a_nm, (arI G 401 f_nm)), (a_rc, (arI G 400 z209))], rfl, Or.inl (⟨k_ln, k_pa, k_at, z209, ⟨by omega, by omega⟩, i_30, i_29, i_205, opk_trans i_33 (i_206) (by omega), tlc_end i_35 (by omega) ⟨by omega, by omega, by omega⟩ (Or.inr ⟨(fun q9 => i_47 (hKk.trans q9)), (fun q9 => i_149 (hKk.trans q9))⟩) (Or.inr ⟨by omega, i_208⟩), by omega, rfl, rfl⟩), by rw [ht]; exact hP.sub [3, 1, 2, 0, 4] rfl, hD.sub [3, 1, 2, 0, 4] (by decide +kernel) rfl⟩, hS.F ht⟩) hS.2.2 dX4_readTest_128
              ·
                exact absurd c_203 (by decide +kernel)
    ·
      exact absurd c_25 (by decide +kernel)
  ·
    have hJ9 := va_join (wr := []) hP hD [0, 1, 2, 3, 4] [] rfl rfl (by decide +kernel) (by decide +kernel) hk1 hFc hP1 hD1
    clear hP hD hPc hDc hFc ht hvm hz1 hk1 hP1 hD1
    obtain ⟨hP, hD⟩ := hJ9
    refine g5_rs [(a_r, (oc4 a_tk a_rh a_rs a_rc z19 z20 z21 e_fp)), (a_tk, (oc8 a_kd a_nm a_pl)), (a_kd, (arI G 401 f_kd)), (a_nm, (arI G 401 f_nm)), (a_rc, (arI G 400 z22))] hP hD ?_
    clear hP hD
    intro hP hD
    obtain ⟨qq210, hq210⟩ := i_17
    refine lv_if_ne (tgt := 10) hx hb dX4_readTest_5 (by decide +kernel) (fun c_211 => ?_) (fun c_211 => ?_)
    ·
      exact absurd c_211 (by decide +kernel)
    ·
      refine lv_iconst (v := 0) hx hb dX4_readTest_8 (by decide +kernel) ?_
      exact W.zret (v := 0) hx hb hr rfl (fun t ht hW => ⟨⟨0, [(a_r, (oc4 a_tk a_rh a_rs a_rc z19 z20 z21 e_fp)), (a_tk, (oc8 a_kd a_nm a_pl)), (a_kd, (arI G 401 f_kd)), (a_nm, (arI G 401 f_nm)), (a_rc, (arI G 400 z22))], rfl, Or.inr (⟨z19, z20, z21, z22, ⟨by omega, by omega⟩, i_13, i_14, i_15, i_16, ⟨qq210, testP_0 rfl hq210⟩, by omega, rfl, rfl⟩), by rw [ht]; exact hP.sub [0, 1, 2, 3, 4] rfl, hD.sub [0, 1, 2, 3, 4] (by decide +kernel) rfl⟩, hS.F ht⟩) hS.2.2 dX4_readTest_9
theorem r_sumX8 (l : Launch) (G : g5_G) (a_r a_tk a_kd a_nm a_rc a_rh a_rs a_pl : Nat) (sz : Nat) (e_ln : Int32) (e_pa : Int32) (e_at : Int32) (e_fp : Int32) (f_kd : Nat → Int32) (f_nm : Nat → Int32) (f_rc : Nat → Int32) (g_x : Nat → Int32) (g_n : Nat) (g_T : Nat) (h_e_ln : 0 ≤ e_ln.toInt ∧ e_ln.toInt ≤ 400) (h_e_pa : 0 ≤ e_pa.toInt ∧ e_pa.toInt ≤ 50) (h_e_at : 0 ≤ e_at.toInt ∧ e_at.toInt ≤ 401) (e_tk : TOKI f_kd f_nm) (e_cd : CDI f_rc e_ln.toInt) (e_by : byOK g_x) (e_kr : TKR f_kd f_nm g_x g_n g_T) (e_aT : e_at.toInt ≤ (g_T : Int)) (e_la : e_ln.toInt ≤ e_at.toInt) (e_lv : lvC f_rc e_ln.toInt.toNat = e_pa.toInt.toNat) : Met l yX4_readSum (wsG yX4_readSum cX4_readSum 6 (some .boolean)) ({ frames := 0 + 2, cells := 0, slots := 0, locals := 0 + 48 }) (va_Pc [.ref a_r, .int 8] (g5_P G [(a_r, (oc4 a_tk a_rh a_rs a_rc e_ln e_pa e_at e_fp)), (a_tk, (oc8 a_kd a_nm a_pl)), (a_kd, (arI G 401 f_kd)), (a_nm, (arI G 401 f_nm)), (a_rc, (arI G 400 f_rc))] sz)) (va_Qi (fun (r : Int32) (u : va_W) => (∃ (o_ln : Int32) (o_pa : Int32) (o_at : Int32) (o_rc : Nat → Int32), (e_ln.toInt ≤ o_ln.toInt ∧ o_ln.toInt ≤ 400) ∧ (0 ≤ o_at.toInt ∧ o_at.toInt ≤ 401) ∧ (0 ≤ o_pa.toInt ∧ o_pa.toInt ≤ 50) ∧ (CDI o_rc o_ln.toInt) ∧ (OPK f_rc o_rc e_ln.toInt) ∧ (∃ d : DS, (smF (KDT g_x g_n) (NMT g_x g_n) (8 : Int32)) e_at.toInt.toNat e_pa.toInt.toNat = (o_at.toInt.toNat, o_pa.toInt.toNat, some d) ∧ KCC f_rc o_rc e_ln.toInt ∧ MCC o_rc e_ln.toInt.toNat o_ln.toInt.toNat d ∧ lvC o_rc o_ln.toInt.toNat = o_pa.toInt.toNat) ∧ (o_at.toInt ≤ (g_T : Int) ∧ e_at.toInt < o_at.toInt ∧ o_ln.toInt + e_at.toInt ≤ e_ln.toInt + o_at.toInt) ∧ (r = 1) ∧ (u = [(a_r, (oc4 a_tk a_rh a_rs a_rc o_ln o_pa o_at e_fp)), (a_tk, (oc8 a_kd a_nm a_pl)), (a_kd, (arI G 401 f_kd)), (a_nm, (arI G 401 f_nm)), (a_rc, (arI G 400 o_rc))])) ∨ (∃ (o_ln : Int32) (o_pa : Int32) (o_at : Int32) (o_rc : Nat → Int32), (e_ln.toInt ≤ o_ln.toInt ∧ o_ln.toInt ≤ 400) ∧ (0 ≤ o_at.toInt ∧ o_at.toInt ≤ 401) ∧ (0 ≤ o_pa.toInt ∧ o_pa.toInt ≤ 50) ∧ (CDI o_rc o_ln.toInt) ∧ (OPK f_rc o_rc e_ln.toInt) ∧ (∃ q : Nat, (smF (KDT g_x g_n) (NMT g_x g_n) (8 : Int32)) e_at.toInt.toNat e_pa.toInt.toNat = (o_at.toInt.toNat, q, none)) ∧ (o_at.toInt ≤ (g_T : Int)) ∧ (r = 0) ∧ (u = [(a_r, (oc4 a_tk a_rh a_rs a_rc o_ln o_pa o_at e_fp)), (a_tk, (oc8 a_kd a_nm a_pl)), (a_kd, (arI G 401 f_kd)), (a_nm, (arI G 401 f_nm)), (a_rc, (arI G 400 o_rc))]))) (g5_B G (va_A [(a_r, (oc4 a_tk a_rh a_rs a_rc e_ln e_pa e_at e_fp)), (a_tk, (oc8 a_kd a_nm a_pl)), (a_kd, (arI G 401 f_kd)), (a_nm, (arI G 401 f_nm)), (a_rc, (arI G 400 f_rc))] sz)) (va_A [(a_r, (oc4 a_tk a_rh a_rs a_rc e_ln e_pa e_at e_fp)), (a_tk, (oc8 a_kd a_nm a_pl)), (a_kd, (arI G 401 f_kd)), (a_nm, (arI G 401 f_nm)), (a_rc, (arI G 400 f_rc))] sz)) 0 0 (va_A [(a_r, (oc4 a_tk a_rh a_rs a_rc e_ln e_pa e_at e_fp)), (a_tk, (oc8 a_kd a_nm a_pl)), (a_kd, (arI G 401 f_kd)), (a_nm, (arI G 401 f_nm)), (a_rc, (arI G 400 f_rc))] sz) := r_sumX 0 0 8 ⟨by decide, by decide⟩ (fun _ _ h => absurd h (by decide)) l G a_r a_tk a_kd a_nm a_rc a_rh a_rs a_pl sz e_ln e_pa e_at e_fp f_kd f_nm f_rc g_x g_n g_T h_e_ln h_e_pa h_e_at e_tk e_cd e_by e_kr e_aT e_la e_lv
theorem r_testX8 (l : Launch) (G : g5_G) (a_r a_tk a_kd a_nm a_rc a_rh a_rs a_pl : Nat) (sz : Nat) (e_ln : Int32) (e_pa : Int32) (e_at : Int32) (e_fp : Int32) (f_kd : Nat → Int32) (f_nm : Nat → Int32) (f_rc : Nat → Int32) (g_x : Nat → Int32) (g_n : Nat) (g_T : Nat) (h_e_ln : 0 ≤ e_ln.toInt ∧ e_ln.toInt ≤ 400) (h_e_pa : 0 ≤ e_pa.toInt ∧ e_pa.toInt ≤ 50) (h_e_at : 0 ≤ e_at.toInt ∧ e_at.toInt ≤ 401) (e_tk : TOKI f_kd f_nm) (e_cd : CDI f_rc e_ln.toInt) (e_by : byOK g_x) (e_kr : TKR f_kd f_nm g_x g_n g_T) (e_aT : e_at.toInt ≤ (g_T : Int)) (e_la : e_ln.toInt ≤ e_at.toInt) (e_lv : lvC f_rc e_ln.toInt.toNat = e_pa.toInt.toNat) : Met l yX4_readTest (wsG yX4_readTest cX4_readTest 6 (some .boolean)) ({ frames := 0 + 0 + 4, cells := 0, slots := 0, locals := 0 + 0 + 96 }) (va_Pc [.ref a_r, .int 8] (g5_P G [(a_r, (oc4 a_tk a_rh a_rs a_rc e_ln e_pa e_at e_fp)), (a_tk, (oc8 a_kd a_nm a_pl)), (a_kd, (arI G 401 f_kd)), (a_nm, (arI G 401 f_nm)), (a_rc, (arI G 400 f_rc))] sz)) (va_Qi (fun (r : Int32) (u : va_W) => (∃ (o_ln : Int32) (o_pa : Int32) (o_at : Int32) (o_rc : Nat → Int32), (e_ln.toInt ≤ o_ln.toInt ∧ o_ln.toInt ≤ 400) ∧ (0 ≤ o_at.toInt ∧ o_at.toInt ≤ 401) ∧ (0 ≤ o_pa.toInt ∧ o_pa.toInt ≤ 50) ∧ (CDI o_rc o_ln.toInt) ∧ (OPK f_rc o_rc e_ln.toInt) ∧ (∃ d : DS, (tsF (KDT g_x g_n) (NMT g_x g_n) (8 : Int32)) e_at.toInt.toNat e_pa.toInt.toNat = (o_at.toInt.toNat, o_pa.toInt.toNat, some d) ∧ is01 d ∧ KCC f_rc o_rc e_ln.toInt ∧ MCC o_rc e_ln.toInt.toNat o_ln.toInt.toNat d ∧ lvC o_rc o_ln.toInt.toNat = o_pa.toInt.toNat) ∧ (o_at.toInt ≤ (g_T : Int) ∧ e_at.toInt < o_at.toInt ∧ o_ln.toInt + e_at.toInt ≤ e_ln.toInt + o_at.toInt) ∧ (r = 1) ∧ (u = [(a_r, (oc4 a_tk a_rh a_rs a_rc o_ln o_pa o_at e_fp)), (a_tk, (oc8 a_kd a_nm a_pl)), (a_kd, (arI G 401 f_kd)), (a_nm, (arI G 401 f_nm)), (a_rc, (arI G 400 o_rc))])) ∨ (∃ (o_ln : Int32) (o_pa : Int32) (o_at : Int32) (o_rc : Nat → Int32), (e_ln.toInt ≤ o_ln.toInt ∧ o_ln.toInt ≤ 400) ∧ (0 ≤ o_at.toInt ∧ o_at.toInt ≤ 401) ∧ (0 ≤ o_pa.toInt ∧ o_pa.toInt ≤ 50) ∧ (CDI o_rc o_ln.toInt) ∧ (OPK f_rc o_rc e_ln.toInt) ∧ (∃ q : Nat, (tsF (KDT g_x g_n) (NMT g_x g_n) (8 : Int32)) e_at.toInt.toNat e_pa.toInt.toNat = (o_at.toInt.toNat, q, none)) ∧ (o_at.toInt ≤ (g_T : Int)) ∧ (r = 0) ∧ (u = [(a_r, (oc4 a_tk a_rh a_rs a_rc o_ln o_pa o_at e_fp)), (a_tk, (oc8 a_kd a_nm a_pl)), (a_kd, (arI G 401 f_kd)), (a_nm, (arI G 401 f_nm)), (a_rc, (arI G 400 o_rc))]))) (g5_B G (va_A [(a_r, (oc4 a_tk a_rh a_rs a_rc e_ln e_pa e_at e_fp)), (a_tk, (oc8 a_kd a_nm a_pl)), (a_kd, (arI G 401 f_kd)), (a_nm, (arI G 401 f_nm)), (a_rc, (arI G 400 f_rc))] sz)) (va_A [(a_r, (oc4 a_tk a_rh a_rs a_rc e_ln e_pa e_at e_fp)), (a_tk, (oc8 a_kd a_nm a_pl)), (a_kd, (arI G 401 f_kd)), (a_nm, (arI G 401 f_nm)), (a_rc, (arI G 400 f_rc))] sz)) 0 0 (va_A [(a_r, (oc4 a_tk a_rh a_rs a_rc e_ln e_pa e_at e_fp)), (a_tk, (oc8 a_kd a_nm a_pl)), (a_kd, (arI G 401 f_kd)), (a_nm, (arI G 401 f_nm)), (a_rc, (arI G 400 f_rc))] sz) := r_testX 0 0 0 0 8 ⟨by decide, by decide⟩ (fun _ _ h => absurd h (by decide)) (fun _ _ h => absurd h (by decide)) l G a_r a_tk a_kd a_nm a_rc a_rh a_rs a_pl sz e_ln e_pa e_at e_fp f_kd f_nm f_rc g_x g_n g_T h_e_ln h_e_pa h_e_at e_tk e_cd e_by e_kr e_aT e_la e_lv
theorem r_sumX7 (l : Launch) (G : g5_G) (a_r a_tk a_kd a_nm a_rc a_rh a_rs a_pl : Nat) (sz : Nat) (e_ln : Int32) (e_pa : Int32) (e_at : Int32) (e_fp : Int32) (f_kd : Nat → Int32) (f_nm : Nat → Int32) (f_rc : Nat → Int32) (g_x : Nat → Int32) (g_n : Nat) (g_T : Nat) (h_e_ln : 0 ≤ e_ln.toInt ∧ e_ln.toInt ≤ 400) (h_e_pa : 0 ≤ e_pa.toInt ∧ e_pa.toInt ≤ 50) (h_e_at : 0 ≤ e_at.toInt ∧ e_at.toInt ≤ 401) (e_tk : TOKI f_kd f_nm) (e_cd : CDI f_rc e_ln.toInt) (e_by : byOK g_x) (e_kr : TKR f_kd f_nm g_x g_n g_T) (e_aT : e_at.toInt ≤ (g_T : Int)) (e_la : e_ln.toInt ≤ e_at.toInt) (e_lv : lvC f_rc e_ln.toInt.toNat = e_pa.toInt.toNat) : Met l yX4_readSum (wsG yX4_readSum cX4_readSum 6 (some .boolean)) ({ frames := 2 + 2, cells := 0, slots := 0, locals := 48 + 48 }) (va_Pc [.ref a_r, .int 7] (g5_P G [(a_r, (oc4 a_tk a_rh a_rs a_rc e_ln e_pa e_at e_fp)), (a_tk, (oc8 a_kd a_nm a_pl)), (a_kd, (arI G 401 f_kd)), (a_nm, (arI G 401 f_nm)), (a_rc, (arI G 400 f_rc))] sz)) (va_Qi (fun (r : Int32) (u : va_W) => (∃ (o_ln : Int32) (o_pa : Int32) (o_at : Int32) (o_rc : Nat → Int32), (e_ln.toInt ≤ o_ln.toInt ∧ o_ln.toInt ≤ 400) ∧ (0 ≤ o_at.toInt ∧ o_at.toInt ≤ 401) ∧ (0 ≤ o_pa.toInt ∧ o_pa.toInt ≤ 50) ∧ (CDI o_rc o_ln.toInt) ∧ (OPK f_rc o_rc e_ln.toInt) ∧ (∃ d : DS, (smF (KDT g_x g_n) (NMT g_x g_n) (7 : Int32)) e_at.toInt.toNat e_pa.toInt.toNat = (o_at.toInt.toNat, o_pa.toInt.toNat, some d) ∧ KCC f_rc o_rc e_ln.toInt ∧ MCC o_rc e_ln.toInt.toNat o_ln.toInt.toNat d ∧ lvC o_rc o_ln.toInt.toNat = o_pa.toInt.toNat) ∧ (o_at.toInt ≤ (g_T : Int) ∧ e_at.toInt < o_at.toInt ∧ o_ln.toInt + e_at.toInt ≤ e_ln.toInt + o_at.toInt) ∧ (r = 1) ∧ (u = [(a_r, (oc4 a_tk a_rh a_rs a_rc o_ln o_pa o_at e_fp)), (a_tk, (oc8 a_kd a_nm a_pl)), (a_kd, (arI G 401 f_kd)), (a_nm, (arI G 401 f_nm)), (a_rc, (arI G 400 o_rc))])) ∨ (∃ (o_ln : Int32) (o_pa : Int32) (o_at : Int32) (o_rc : Nat → Int32), (e_ln.toInt ≤ o_ln.toInt ∧ o_ln.toInt ≤ 400) ∧ (0 ≤ o_at.toInt ∧ o_at.toInt ≤ 401) ∧ (0 ≤ o_pa.toInt ∧ o_pa.toInt ≤ 50) ∧ (CDI o_rc o_ln.toInt) ∧ (OPK f_rc o_rc e_ln.toInt) ∧ (∃ q : Nat, (smF (KDT g_x g_n) (NMT g_x g_n) (7 : Int32)) e_at.toInt.toNat e_pa.toInt.toNat = (o_at.toInt.toNat, q, none)) ∧ (o_at.toInt ≤ (g_T : Int)) ∧ (r = 0) ∧ (u = [(a_r, (oc4 a_tk a_rh a_rs a_rc o_ln o_pa o_at e_fp)), (a_tk, (oc8 a_kd a_nm a_pl)), (a_kd, (arI G 401 f_kd)), (a_nm, (arI G 401 f_nm)), (a_rc, (arI G 400 o_rc))]))) (g5_B G (va_A [(a_r, (oc4 a_tk a_rh a_rs a_rc e_ln e_pa e_at e_fp)), (a_tk, (oc8 a_kd a_nm a_pl)), (a_kd, (arI G 401 f_kd)), (a_nm, (arI G 401 f_nm)), (a_rc, (arI G 400 f_rc))] sz)) (va_A [(a_r, (oc4 a_tk a_rh a_rs a_rc e_ln e_pa e_at e_fp)), (a_tk, (oc8 a_kd a_nm a_pl)), (a_kd, (arI G 401 f_kd)), (a_nm, (arI G 401 f_nm)), (a_rc, (arI G 400 f_rc))] sz)) 0 0 (va_A [(a_r, (oc4 a_tk a_rh a_rs a_rc e_ln e_pa e_at e_fp)), (a_tk, (oc8 a_kd a_nm a_pl)), (a_kd, (arI G 401 f_kd)), (a_nm, (arI G 401 f_nm)), (a_rc, (arI G 400 f_rc))] sz) := r_sumX 2 48 7 ⟨by decide, by decide⟩ (fun x hx _ l G a_r a_tk a_kd a_nm a_rc a_rh a_rs a_pl sz e_ln e_pa e_at e_fp f_kd f_nm f_rc g_x g_n g_T h_e_ln h_e_pa h_e_at e_tk e_cd e_by e_kr e_aT e_la e_lv => by have e : x = 8 := g5_toc (n := 8) (by decide) (hx.trans (by decide)); subst e; exact r_sumX8 l G a_r a_tk a_kd a_nm a_rc a_rh a_rs a_pl sz e_ln e_pa e_at e_fp f_kd f_nm f_rc g_x g_n g_T h_e_ln h_e_pa h_e_at e_tk e_cd e_by e_kr e_aT e_la e_lv) l G a_r a_tk a_kd a_nm a_rc a_rh a_rs a_pl sz e_ln e_pa e_at e_fp f_kd f_nm f_rc g_x g_n g_T h_e_ln h_e_pa h_e_at e_tk e_cd e_by e_kr e_aT e_la e_lv
theorem r_testX7 (l : Launch) (G : g5_G) (a_r a_tk a_kd a_nm a_rc a_rh a_rs a_pl : Nat) (sz : Nat) (e_ln : Int32) (e_pa : Int32) (e_at : Int32) (e_fp : Int32) (f_kd : Nat → Int32) (f_nm : Nat → Int32) (f_rc : Nat → Int32) (g_x : Nat → Int32) (g_n : Nat) (g_T : Nat) (h_e_ln : 0 ≤ e_ln.toInt ∧ e_ln.toInt ≤ 400) (h_e_pa : 0 ≤ e_pa.toInt ∧ e_pa.toInt ≤ 50) (h_e_at : 0 ≤ e_at.toInt ∧ e_at.toInt ≤ 401) (e_tk : TOKI f_kd f_nm) (e_cd : CDI f_rc e_ln.toInt) (e_by : byOK g_x) (e_kr : TKR f_kd f_nm g_x g_n g_T) (e_aT : e_at.toInt ≤ (g_T : Int)) (e_la : e_ln.toInt ≤ e_at.toInt) (e_lv : lvC f_rc e_ln.toInt.toNat = e_pa.toInt.toNat) : Met l yX4_readTest (wsG yX4_readTest cX4_readTest 6 (some .boolean)) ({ frames := 2 + 4 + 4, cells := 0, slots := 0, locals := 48 + 96 + 96 }) (va_Pc [.ref a_r, .int 7] (g5_P G [(a_r, (oc4 a_tk a_rh a_rs a_rc e_ln e_pa e_at e_fp)), (a_tk, (oc8 a_kd a_nm a_pl)), (a_kd, (arI G 401 f_kd)), (a_nm, (arI G 401 f_nm)), (a_rc, (arI G 400 f_rc))] sz)) (va_Qi (fun (r : Int32) (u : va_W) => (∃ (o_ln : Int32) (o_pa : Int32) (o_at : Int32) (o_rc : Nat → Int32), (e_ln.toInt ≤ o_ln.toInt ∧ o_ln.toInt ≤ 400) ∧ (0 ≤ o_at.toInt ∧ o_at.toInt ≤ 401) ∧ (0 ≤ o_pa.toInt ∧ o_pa.toInt ≤ 50) ∧ (CDI o_rc o_ln.toInt) ∧ (OPK f_rc o_rc e_ln.toInt) ∧ (∃ d : DS, (tsF (KDT g_x g_n) (NMT g_x g_n) (7 : Int32)) e_at.toInt.toNat e_pa.toInt.toNat = (o_at.toInt.toNat, o_pa.toInt.toNat, some d) ∧ is01 d ∧ KCC f_rc o_rc e_ln.toInt ∧ MCC o_rc e_ln.toInt.toNat o_ln.toInt.toNat d ∧ lvC o_rc o_ln.toInt.toNat = o_pa.toInt.toNat) ∧ (o_at.toInt ≤ (g_T : Int) ∧ e_at.toInt < o_at.toInt ∧ o_ln.toInt + e_at.toInt ≤ e_ln.toInt + o_at.toInt) ∧ (r = 1) ∧ (u = [(a_r, (oc4 a_tk a_rh a_rs a_rc o_ln o_pa o_at e_fp)), (a_tk, (oc8 a_kd a_nm a_pl)), (a_kd, (arI G 401 f_kd)), (a_nm, (arI G 401 f_nm)), (a_rc, (arI G 400 o_rc))])) ∨ (∃ (o_ln : Int32) (o_pa : Int32) (o_at : Int32) (o_rc : Nat → Int32), (e_ln.toInt ≤ o_ln.toInt ∧ o_ln.toInt ≤ 400) ∧ (0 ≤ o_at.toInt ∧ o_at.toInt ≤ 401) ∧ (0 ≤ o_pa.toInt ∧ o_pa.toInt ≤ 50) ∧ (CDI o_rc o_ln.toInt) ∧ (OPK f_rc o_rc e_ln.toInt) ∧ (∃ q : Nat, (tsF (KDT g_x g_n) (NMT g_x g_n) (7 : Int32)) e_at.toInt.toNat e_pa.toInt.toNat = (o_at.toInt.toNat, q, none)) ∧ (o_at.toInt ≤ (g_T : Int)) ∧ (r = 0) ∧ (u = [(a_r, (oc4 a_tk a_rh a_rs a_rc o_ln o_pa o_at e_fp)), (a_tk, (oc8 a_kd a_nm a_pl)), (a_kd, (arI G 401 f_kd)), (a_nm, (arI G 401 f_nm)), (a_rc, (arI G 400 o_rc))]))) (g5_B G (va_A [(a_r, (oc4 a_tk a_rh a_rs a_rc e_ln e_pa e_at e_fp)), (a_tk, (oc8 a_kd a_nm a_pl)), (a_kd, (arI G 401 f_kd)), (a_nm, (arI G 401 f_nm)), (a_rc, (arI G 400 f_rc))] sz)) (va_A [(a_r, (oc4 a_tk a_rh a_rs a_rc e_ln e_pa e_at e_fp)), (a_tk, (oc8 a_kd a_nm a_pl)), (a_kd, (arI G 401 f_kd)), (a_nm, (arI G 401 f_nm)), (a_rc, (arI G 400 f_rc))] sz)) 0 0 (va_A [(a_r, (oc4 a_tk a_rh a_rs a_rc e_ln e_pa e_at e_fp)), (a_tk, (oc8 a_kd a_nm a_pl)), (a_kd, (arI G 401 f_kd)), (a_nm, (arI G 401 f_nm)), (a_rc, (arI G 400 f_rc))] sz) := r_testX 2 48 4 96 7 ⟨by decide, by decide⟩ (fun x hx _ l G a_r a_tk a_kd a_nm a_rc a_rh a_rs a_pl sz e_ln e_pa e_at e_fp f_kd f_nm f_rc g_x g_n g_T h_e_ln h_e_pa h_e_at e_tk e_cd e_by e_kr e_aT e_la e_lv => by have e : x = 8 := g5_toc (n := 8) (by decide) (hx.trans (by decide)); subst e; exact r_sumX8 l G a_r a_tk a_kd a_nm a_rc a_rh a_rs a_pl sz e_ln e_pa e_at e_fp f_kd f_nm f_rc g_x g_n g_T h_e_ln h_e_pa h_e_at e_tk e_cd e_by e_kr e_aT e_la e_lv) (fun x hx _ l G a_r a_tk a_kd a_nm a_rc a_rh a_rs a_pl sz e_ln e_pa e_at e_fp f_kd f_nm f_rc g_x g_n g_T h_e_ln h_e_pa h_e_at e_tk e_cd e_by e_kr e_aT e_la e_lv => by have e : x = 8 := g5_toc (n := 8) (by decide) (hx.trans (by decide)); subst e; exact r_testX8 l G a_r a_tk a_kd a_nm a_rc a_rh a_rs a_pl sz e_ln e_pa e_at e_fp f_kd f_nm f_rc g_x g_n g_T h_e_ln h_e_pa h_e_at e_tk e_cd e_by e_kr e_aT e_la e_lv) l G a_r a_tk a_kd a_nm a_rc a_rh a_rs a_pl sz e_ln e_pa e_at e_fp f_kd f_nm f_rc g_x g_n g_T h_e_ln h_e_pa h_e_at e_tk e_cd e_by e_kr e_aT e_la e_lv
theorem r_sumX6 (l : Launch) (G : g5_G) (a_r a_tk a_kd a_nm a_rc a_rh a_rs a_pl : Nat) (sz : Nat) (e_ln : Int32) (e_pa : Int32) (e_at : Int32) (e_fp : Int32) (f_kd : Nat → Int32) (f_nm : Nat → Int32) (f_rc : Nat → Int32) (g_x : Nat → Int32) (g_n : Nat) (g_T : Nat) (h_e_ln : 0 ≤ e_ln.toInt ∧ e_ln.toInt ≤ 400) (h_e_pa : 0 ≤ e_pa.toInt ∧ e_pa.toInt ≤ 50) (h_e_at : 0 ≤ e_at.toInt ∧ e_at.toInt ≤ 401) (e_tk : TOKI f_kd f_nm) (e_cd : CDI f_rc e_ln.toInt) (e_by : byOK g_x) (e_kr : TKR f_kd f_nm g_x g_n g_T) (e_aT : e_at.toInt ≤ (g_T : Int)) (e_la : e_ln.toInt ≤ e_at.toInt) (e_lv : lvC f_rc e_ln.toInt.toNat = e_pa.toInt.toNat) : Met l yX4_readSum (wsG yX4_readSum cX4_readSum 6 (some .boolean)) ({ frames := 4 + 2, cells := 0, slots := 0, locals := 96 + 48 }) (va_Pc [.ref a_r, .int 6] (g5_P G [(a_r, (oc4 a_tk a_rh a_rs a_rc e_ln e_pa e_at e_fp)), (a_tk, (oc8 a_kd a_nm a_pl)), (a_kd, (arI G 401 f_kd)), (a_nm, (arI G 401 f_nm)), (a_rc, (arI G 400 f_rc))] sz)) (va_Qi (fun (r : Int32) (u : va_W) => (∃ (o_ln : Int32) (o_pa : Int32) (o_at : Int32) (o_rc : Nat → Int32), (e_ln.toInt ≤ o_ln.toInt ∧ o_ln.toInt ≤ 400) ∧ (0 ≤ o_at.toInt ∧ o_at.toInt ≤ 401) ∧ (0 ≤ o_pa.toInt ∧ o_pa.toInt ≤ 50) ∧ (CDI o_rc o_ln.toInt) ∧ (OPK f_rc o_rc e_ln.toInt) ∧ (∃ d : DS, (smF (KDT g_x g_n) (NMT g_x g_n) (6 : Int32)) e_at.toInt.toNat e_pa.toInt.toNat = (o_at.toInt.toNat, o_pa.toInt.toNat, some d) ∧ KCC f_rc o_rc e_ln.toInt ∧ MCC o_rc e_ln.toInt.toNat o_ln.toInt.toNat d ∧ lvC o_rc o_ln.toInt.toNat = o_pa.toInt.toNat) ∧ (o_at.toInt ≤ (g_T : Int) ∧ e_at.toInt < o_at.toInt ∧ o_ln.toInt + e_at.toInt ≤ e_ln.toInt + o_at.toInt) ∧ (r = 1) ∧ (u = [(a_r, (oc4 a_tk a_rh a_rs a_rc o_ln o_pa o_at e_fp)), (a_tk, (oc8 a_kd a_nm a_pl)), (a_kd, (arI G 401 f_kd)), (a_nm, (arI G 401 f_nm)), (a_rc, (arI G 400 o_rc))])) ∨ (∃ (o_ln : Int32) (o_pa : Int32) (o_at : Int32) (o_rc : Nat → Int32), (e_ln.toInt ≤ o_ln.toInt ∧ o_ln.toInt ≤ 400) ∧ (0 ≤ o_at.toInt ∧ o_at.toInt ≤ 401) ∧ (0 ≤ o_pa.toInt ∧ o_pa.toInt ≤ 50) ∧ (CDI o_rc o_ln.toInt) ∧ (OPK f_rc o_rc e_ln.toInt) ∧ (∃ q : Nat, (smF (KDT g_x g_n) (NMT g_x g_n) (6 : Int32)) e_at.toInt.toNat e_pa.toInt.toNat = (o_at.toInt.toNat, q, none)) ∧ (o_at.toInt ≤ (g_T : Int)) ∧ (r = 0) ∧ (u = [(a_r, (oc4 a_tk a_rh a_rs a_rc o_ln o_pa o_at e_fp)), (a_tk, (oc8 a_kd a_nm a_pl)), (a_kd, (arI G 401 f_kd)), (a_nm, (arI G 401 f_nm)), (a_rc, (arI G 400 o_rc))]))) (g5_B G (va_A [(a_r, (oc4 a_tk a_rh a_rs a_rc e_ln e_pa e_at e_fp)), (a_tk, (oc8 a_kd a_nm a_pl)), (a_kd, (arI G 401 f_kd)), (a_nm, (arI G 401 f_nm)), (a_rc, (arI G 400 f_rc))] sz)) (va_A [(a_r, (oc4 a_tk a_rh a_rs a_rc e_ln e_pa e_at e_fp)), (a_tk, (oc8 a_kd a_nm a_pl)), (a_kd, (arI G 401 f_kd)), (a_nm, (arI G 401 f_nm)), (a_rc, (arI G 400 f_rc))] sz)) 0 0 (va_A [(a_r, (oc4 a_tk a_rh a_rs a_rc e_ln e_pa e_at e_fp)), (a_tk, (oc8 a_kd a_nm a_pl)), (a_kd, (arI G 401 f_kd)), (a_nm, (arI G 401 f_nm)), (a_rc, (arI G 400 f_rc))] sz) := r_sumX 4 96 6 ⟨by decide, by decide⟩ (fun x hx _ l G a_r a_tk a_kd a_nm a_rc a_rh a_rs a_pl sz e_ln e_pa e_at e_fp f_kd f_nm f_rc g_x g_n g_T h_e_ln h_e_pa h_e_at e_tk e_cd e_by e_kr e_aT e_la e_lv => by have e : x = 7 := g5_toc (n := 7) (by decide) (hx.trans (by decide)); subst e; exact r_sumX7 l G a_r a_tk a_kd a_nm a_rc a_rh a_rs a_pl sz e_ln e_pa e_at e_fp f_kd f_nm f_rc g_x g_n g_T h_e_ln h_e_pa h_e_at e_tk e_cd e_by e_kr e_aT e_la e_lv) l G a_r a_tk a_kd a_nm a_rc a_rh a_rs a_pl sz e_ln e_pa e_at e_fp f_kd f_nm f_rc g_x g_n g_T h_e_ln h_e_pa h_e_at e_tk e_cd e_by e_kr e_aT e_la e_lv
theorem r_testX6 (l : Launch) (G : g5_G) (a_r a_tk a_kd a_nm a_rc a_rh a_rs a_pl : Nat) (sz : Nat) (e_ln : Int32) (e_pa : Int32) (e_at : Int32) (e_fp : Int32) (f_kd : Nat → Int32) (f_nm : Nat → Int32) (f_rc : Nat → Int32) (g_x : Nat → Int32) (g_n : Nat) (g_T : Nat) (h_e_ln : 0 ≤ e_ln.toInt ∧ e_ln.toInt ≤ 400) (h_e_pa : 0 ≤ e_pa.toInt ∧ e_pa.toInt ≤ 50) (h_e_at : 0 ≤ e_at.toInt ∧ e_at.toInt ≤ 401) (e_tk : TOKI f_kd f_nm) (e_cd : CDI f_rc e_ln.toInt) (e_by : byOK g_x) (e_kr : TKR f_kd f_nm g_x g_n g_T) (e_aT : e_at.toInt ≤ (g_T : Int)) (e_la : e_ln.toInt ≤ e_at.toInt) (e_lv : lvC f_rc e_ln.toInt.toNat = e_pa.toInt.toNat) : Met l yX4_readTest (wsG yX4_readTest cX4_readTest 6 (some .boolean)) ({ frames := 4 + 10 + 4, cells := 0, slots := 0, locals := 96 + 240 + 96 }) (va_Pc [.ref a_r, .int 6] (g5_P G [(a_r, (oc4 a_tk a_rh a_rs a_rc e_ln e_pa e_at e_fp)), (a_tk, (oc8 a_kd a_nm a_pl)), (a_kd, (arI G 401 f_kd)), (a_nm, (arI G 401 f_nm)), (a_rc, (arI G 400 f_rc))] sz)) (va_Qi (fun (r : Int32) (u : va_W) => (∃ (o_ln : Int32) (o_pa : Int32) (o_at : Int32) (o_rc : Nat → Int32), (e_ln.toInt ≤ o_ln.toInt ∧ o_ln.toInt ≤ 400) ∧ (0 ≤ o_at.toInt ∧ o_at.toInt ≤ 401) ∧ (0 ≤ o_pa.toInt ∧ o_pa.toInt ≤ 50) ∧ (CDI o_rc o_ln.toInt) ∧ (OPK f_rc o_rc e_ln.toInt) ∧ (∃ d : DS, (tsF (KDT g_x g_n) (NMT g_x g_n) (6 : Int32)) e_at.toInt.toNat e_pa.toInt.toNat = (o_at.toInt.toNat, o_pa.toInt.toNat, some d) ∧ is01 d ∧ KCC f_rc o_rc e_ln.toInt ∧ MCC o_rc e_ln.toInt.toNat o_ln.toInt.toNat d ∧ lvC o_rc o_ln.toInt.toNat = o_pa.toInt.toNat) ∧ (o_at.toInt ≤ (g_T : Int) ∧ e_at.toInt < o_at.toInt ∧ o_ln.toInt + e_at.toInt ≤ e_ln.toInt + o_at.toInt) ∧ (r = 1) ∧ (u = [(a_r, (oc4 a_tk a_rh a_rs a_rc o_ln o_pa o_at e_fp)), (a_tk, (oc8 a_kd a_nm a_pl)), (a_kd, (arI G 401 f_kd)), (a_nm, (arI G 401 f_nm)), (a_rc, (arI G 400 o_rc))])) ∨ (∃ (o_ln : Int32) (o_pa : Int32) (o_at : Int32) (o_rc : Nat → Int32), (e_ln.toInt ≤ o_ln.toInt ∧ o_ln.toInt ≤ 400) ∧ (0 ≤ o_at.toInt ∧ o_at.toInt ≤ 401) ∧ (0 ≤ o_pa.toInt ∧ o_pa.toInt ≤ 50) ∧ (CDI o_rc o_ln.toInt) ∧ (OPK f_rc o_rc e_ln.toInt) ∧ (∃ q : Nat, (tsF (KDT g_x g_n) (NMT g_x g_n) (6 : Int32)) e_at.toInt.toNat e_pa.toInt.toNat = (o_at.toInt.toNat, q, none)) ∧ (o_at.toInt ≤ (g_T : Int)) ∧ (r = 0) ∧ (u = [(a_r, (oc4 a_tk a_rh a_rs a_rc o_ln o_pa o_at e_fp)), (a_tk, (oc8 a_kd a_nm a_pl)), (a_kd, (arI G 401 f_kd)), (a_nm, (arI G 401 f_nm)), (a_rc, (arI G 400 o_rc))]))) (g5_B G (va_A [(a_r, (oc4 a_tk a_rh a_rs a_rc e_ln e_pa e_at e_fp)), (a_tk, (oc8 a_kd a_nm a_pl)), (a_kd, (arI G 401 f_kd)), (a_nm, (arI G 401 f_nm)), (a_rc, (arI G 400 f_rc))] sz)) (va_A [(a_r, (oc4 a_tk a_rh a_rs a_rc e_ln e_pa e_at e_fp)), (a_tk, (oc8 a_kd a_nm a_pl)), (a_kd, (arI G 401 f_kd)), (a_nm, (arI G 401 f_nm)), (a_rc, (arI G 400 f_rc))] sz)) 0 0 (va_A [(a_r, (oc4 a_tk a_rh a_rs a_rc e_ln e_pa e_at e_fp)), (a_tk, (oc8 a_kd a_nm a_pl)), (a_kd, (arI G 401 f_kd)), (a_nm, (arI G 401 f_nm)), (a_rc, (arI G 400 f_rc))] sz) := r_testX 4 96 10 240 6 ⟨by decide, by decide⟩ (fun x hx _ l G a_r a_tk a_kd a_nm a_rc a_rh a_rs a_pl sz e_ln e_pa e_at e_fp f_kd f_nm f_rc g_x g_n g_T h_e_ln h_e_pa h_e_at e_tk e_cd e_by e_kr e_aT e_la e_lv => by have e : x = 7 := g5_toc (n := 7) (by decide) (hx.trans (by decide)); subst e; exact r_sumX7 l G a_r a_tk a_kd a_nm a_rc a_rh a_rs a_pl sz e_ln e_pa e_at e_fp f_kd f_nm f_rc g_x g_n g_T h_e_ln h_e_pa h_e_at e_tk e_cd e_by e_kr e_aT e_la e_lv) (fun x hx _ l G a_r a_tk a_kd a_nm a_rc a_rh a_rs a_pl sz e_ln e_pa e_at e_fp f_kd f_nm f_rc g_x g_n g_T h_e_ln h_e_pa h_e_at e_tk e_cd e_by e_kr e_aT e_la e_lv => by have e : x = 7 := g5_toc (n := 7) (by decide) (hx.trans (by decide)); subst e; exact r_testX7 l G a_r a_tk a_kd a_nm a_rc a_rh a_rs a_pl sz e_ln e_pa e_at e_fp f_kd f_nm f_rc g_x g_n g_T h_e_ln h_e_pa h_e_at e_tk e_cd e_by e_kr e_aT e_la e_lv) l G a_r a_tk a_kd a_nm a_rc a_rh a_rs a_pl sz e_ln e_pa e_at e_fp f_kd f_nm f_rc g_x g_n g_T h_e_ln h_e_pa h_e_at e_tk e_cd e_by e_kr e_aT e_la e_lv
theorem r_sumX5 (l : Launch) (G : g5_G) (a_r a_tk a_kd a_nm a_rc a_rh a_rs a_pl : Nat) (sz : Nat) (e_ln : Int32) (e_pa : Int32) (e_at : Int32) (e_fp : Int32) (f_kd : Nat → Int32) (f_nm : Nat → Int32) (f_rc : Nat → Int32) (g_x : Nat → Int32) (g_n : Nat) (g_T : Nat) (h_e_ln : 0 ≤ e_ln.toInt ∧ e_ln.toInt ≤ 400) (h_e_pa : 0 ≤ e_pa.toInt ∧ e_pa.toInt ≤ 50) (h_e_at : 0 ≤ e_at.toInt ∧ e_at.toInt ≤ 401) (e_tk : TOKI f_kd f_nm) (e_cd : CDI f_rc e_ln.toInt) (e_by : byOK g_x) (e_kr : TKR f_kd f_nm g_x g_n g_T) (e_aT : e_at.toInt ≤ (g_T : Int)) (e_la : e_ln.toInt ≤ e_at.toInt) (e_lv : lvC f_rc e_ln.toInt.toNat = e_pa.toInt.toNat) : Met l yX4_readSum (wsG yX4_readSum cX4_readSum 6 (some .boolean)) ({ frames := 6 + 2, cells := 0, slots := 0, locals := 144 + 48 }) (va_Pc [.ref a_r, .int 5] (g5_P G [(a_r, (oc4 a_tk a_rh a_rs a_rc e_ln e_pa e_at e_fp)), (a_tk, (oc8 a_kd a_nm a_pl)), (a_kd, (arI G 401 f_kd)), (a_nm, (arI G 401 f_nm)), (a_rc, (arI G 400 f_rc))] sz)) (va_Qi (fun (r : Int32) (u : va_W) => (∃ (o_ln : Int32) (o_pa : Int32) (o_at : Int32) (o_rc : Nat → Int32), (e_ln.toInt ≤ o_ln.toInt ∧ o_ln.toInt ≤ 400) ∧ (0 ≤ o_at.toInt ∧ o_at.toInt ≤ 401) ∧ (0 ≤ o_pa.toInt ∧ o_pa.toInt ≤ 50) ∧ (CDI o_rc o_ln.toInt) ∧ (OPK f_rc o_rc e_ln.toInt) ∧ (∃ d : DS, (smF (KDT g_x g_n) (NMT g_x g_n) (5 : Int32)) e_at.toInt.toNat e_pa.toInt.toNat = (o_at.toInt.toNat, o_pa.toInt.toNat, some d) ∧ KCC f_rc o_rc e_ln.toInt ∧ MCC o_rc e_ln.toInt.toNat o_ln.toInt.toNat d ∧ lvC o_rc o_ln.toInt.toNat = o_pa.toInt.toNat) ∧ (o_at.toInt ≤ (g_T : Int) ∧ e_at.toInt < o_at.toInt ∧ o_ln.toInt + e_at.toInt ≤ e_ln.toInt + o_at.toInt) ∧ (r = 1) ∧ (u = [(a_r, (oc4 a_tk a_rh a_rs a_rc o_ln o_pa o_at e_fp)), (a_tk, (oc8 a_kd a_nm a_pl)), (a_kd, (arI G 401 f_kd)), (a_nm, (arI G 401 f_nm)), (a_rc, (arI G 400 o_rc))])) ∨ (∃ (o_ln : Int32) (o_pa : Int32) (o_at : Int32) (o_rc : Nat → Int32), (e_ln.toInt ≤ o_ln.toInt ∧ o_ln.toInt ≤ 400) ∧ (0 ≤ o_at.toInt ∧ o_at.toInt ≤ 401) ∧ (0 ≤ o_pa.toInt ∧ o_pa.toInt ≤ 50) ∧ (CDI o_rc o_ln.toInt) ∧ (OPK f_rc o_rc e_ln.toInt) ∧ (∃ q : Nat, (smF (KDT g_x g_n) (NMT g_x g_n) (5 : Int32)) e_at.toInt.toNat e_pa.toInt.toNat = (o_at.toInt.toNat, q, none)) ∧ (o_at.toInt ≤ (g_T : Int)) ∧ (r = 0) ∧ (u = [(a_r, (oc4 a_tk a_rh a_rs a_rc o_ln o_pa o_at e_fp)), (a_tk, (oc8 a_kd a_nm a_pl)), (a_kd, (arI G 401 f_kd)), (a_nm, (arI G 401 f_nm)), (a_rc, (arI G 400 o_rc))]))) (g5_B G (va_A [(a_r, (oc4 a_tk a_rh a_rs a_rc e_ln e_pa e_at e_fp)), (a_tk, (oc8 a_kd a_nm a_pl)), (a_kd, (arI G 401 f_kd)), (a_nm, (arI G 401 f_nm)), (a_rc, (arI G 400 f_rc))] sz)) (va_A [(a_r, (oc4 a_tk a_rh a_rs a_rc e_ln e_pa e_at e_fp)), (a_tk, (oc8 a_kd a_nm a_pl)), (a_kd, (arI G 401 f_kd)), (a_nm, (arI G 401 f_nm)), (a_rc, (arI G 400 f_rc))] sz)) 0 0 (va_A [(a_r, (oc4 a_tk a_rh a_rs a_rc e_ln e_pa e_at e_fp)), (a_tk, (oc8 a_kd a_nm a_pl)), (a_kd, (arI G 401 f_kd)), (a_nm, (arI G 401 f_nm)), (a_rc, (arI G 400 f_rc))] sz) := r_sumX 6 144 5 ⟨by decide, by decide⟩ (fun x hx _ l G a_r a_tk a_kd a_nm a_rc a_rh a_rs a_pl sz e_ln e_pa e_at e_fp f_kd f_nm f_rc g_x g_n g_T h_e_ln h_e_pa h_e_at e_tk e_cd e_by e_kr e_aT e_la e_lv => by have e : x = 6 := g5_toc (n := 6) (by decide) (hx.trans (by decide)); subst e; exact r_sumX6 l G a_r a_tk a_kd a_nm a_rc a_rh a_rs a_pl sz e_ln e_pa e_at e_fp f_kd f_nm f_rc g_x g_n g_T h_e_ln h_e_pa h_e_at e_tk e_cd e_by e_kr e_aT e_la e_lv) l G a_r a_tk a_kd a_nm a_rc a_rh a_rs a_pl sz e_ln e_pa e_at e_fp f_kd f_nm f_rc g_x g_n g_T h_e_ln h_e_pa h_e_at e_tk e_cd e_by e_kr e_aT e_la e_lv
theorem r_testX5 (l : Launch) (G : g5_G) (a_r a_tk a_kd a_nm a_rc a_rh a_rs a_pl : Nat) (sz : Nat) (e_ln : Int32) (e_pa : Int32) (e_at : Int32) (e_fp : Int32) (f_kd : Nat → Int32) (f_nm : Nat → Int32) (f_rc : Nat → Int32) (g_x : Nat → Int32) (g_n : Nat) (g_T : Nat) (h_e_ln : 0 ≤ e_ln.toInt ∧ e_ln.toInt ≤ 400) (h_e_pa : 0 ≤ e_pa.toInt ∧ e_pa.toInt ≤ 50) (h_e_at : 0 ≤ e_at.toInt ∧ e_at.toInt ≤ 401) (e_tk : TOKI f_kd f_nm) (e_cd : CDI f_rc e_ln.toInt) (e_by : byOK g_x) (e_kr : TKR f_kd f_nm g_x g_n g_T) (e_aT : e_at.toInt ≤ (g_T : Int)) (e_la : e_ln.toInt ≤ e_at.toInt) (e_lv : lvC f_rc e_ln.toInt.toNat = e_pa.toInt.toNat) : Met l yX4_readTest (wsG yX4_readTest cX4_readTest 6 (some .boolean)) ({ frames := 6 + 18 + 4, cells := 0, slots := 0, locals := 144 + 432 + 96 }) (va_Pc [.ref a_r, .int 5] (g5_P G [(a_r, (oc4 a_tk a_rh a_rs a_rc e_ln e_pa e_at e_fp)), (a_tk, (oc8 a_kd a_nm a_pl)), (a_kd, (arI G 401 f_kd)), (a_nm, (arI G 401 f_nm)), (a_rc, (arI G 400 f_rc))] sz)) (va_Qi (fun (r : Int32) (u : va_W) => (∃ (o_ln : Int32) (o_pa : Int32) (o_at : Int32) (o_rc : Nat → Int32), (e_ln.toInt ≤ o_ln.toInt ∧ o_ln.toInt ≤ 400) ∧ (0 ≤ o_at.toInt ∧ o_at.toInt ≤ 401) ∧ (0 ≤ o_pa.toInt ∧ o_pa.toInt ≤ 50) ∧ (CDI o_rc o_ln.toInt) ∧ (OPK f_rc o_rc e_ln.toInt) ∧ (∃ d : DS, (tsF (KDT g_x g_n) (NMT g_x g_n) (5 : Int32)) e_at.toInt.toNat e_pa.toInt.toNat = (o_at.toInt.toNat, o_pa.toInt.toNat, some d) ∧ is01 d ∧ KCC f_rc o_rc e_ln.toInt ∧ MCC o_rc e_ln.toInt.toNat o_ln.toInt.toNat d ∧ lvC o_rc o_ln.toInt.toNat = o_pa.toInt.toNat) ∧ (o_at.toInt ≤ (g_T : Int) ∧ e_at.toInt < o_at.toInt ∧ o_ln.toInt + e_at.toInt ≤ e_ln.toInt + o_at.toInt) ∧ (r = 1) ∧ (u = [(a_r, (oc4 a_tk a_rh a_rs a_rc o_ln o_pa o_at e_fp)), (a_tk, (oc8 a_kd a_nm a_pl)), (a_kd, (arI G 401 f_kd)), (a_nm, (arI G 401 f_nm)), (a_rc, (arI G 400 o_rc))])) ∨ (∃ (o_ln : Int32) (o_pa : Int32) (o_at : Int32) (o_rc : Nat → Int32), (e_ln.toInt ≤ o_ln.toInt ∧ o_ln.toInt ≤ 400) ∧ (0 ≤ o_at.toInt ∧ o_at.toInt ≤ 401) ∧ (0 ≤ o_pa.toInt ∧ o_pa.toInt ≤ 50) ∧ (CDI o_rc o_ln.toInt) ∧ (OPK f_rc o_rc e_ln.toInt) ∧ (∃ q : Nat, (tsF (KDT g_x g_n) (NMT g_x g_n) (5 : Int32)) e_at.toInt.toNat e_pa.toInt.toNat = (o_at.toInt.toNat, q, none)) ∧ (o_at.toInt ≤ (g_T : Int)) ∧ (r = 0) ∧ (u = [(a_r, (oc4 a_tk a_rh a_rs a_rc o_ln o_pa o_at e_fp)), (a_tk, (oc8 a_kd a_nm a_pl)), (a_kd, (arI G 401 f_kd)), (a_nm, (arI G 401 f_nm)), (a_rc, (arI G 400 o_rc))]))) (g5_B G (va_A [(a_r, (oc4 a_tk a_rh a_rs a_rc e_ln e_pa e_at e_fp)), (a_tk, (oc8 a_kd a_nm a_pl)), (a_kd, (arI G 401 f_kd)), (a_nm, (arI G 401 f_nm)), (a_rc, (arI G 400 f_rc))] sz)) (va_A [(a_r, (oc4 a_tk a_rh a_rs a_rc e_ln e_pa e_at e_fp)), (a_tk, (oc8 a_kd a_nm a_pl)), (a_kd, (arI G 401 f_kd)), (a_nm, (arI G 401 f_nm)), (a_rc, (arI G 400 f_rc))] sz)) 0 0 (va_A [(a_r, (oc4 a_tk a_rh a_rs a_rc e_ln e_pa e_at e_fp)), (a_tk, (oc8 a_kd a_nm a_pl)), (a_kd, (arI G 401 f_kd)), (a_nm, (arI G 401 f_nm)), (a_rc, (arI G 400 f_rc))] sz) := r_testX 6 144 18 432 5 ⟨by decide, by decide⟩ (fun x hx _ l G a_r a_tk a_kd a_nm a_rc a_rh a_rs a_pl sz e_ln e_pa e_at e_fp f_kd f_nm f_rc g_x g_n g_T h_e_ln h_e_pa h_e_at e_tk e_cd e_by e_kr e_aT e_la e_lv => by have e : x = 6 := g5_toc (n := 6) (by decide) (hx.trans (by decide)); subst e; exact r_sumX6 l G a_r a_tk a_kd a_nm a_rc a_rh a_rs a_pl sz e_ln e_pa e_at e_fp f_kd f_nm f_rc g_x g_n g_T h_e_ln h_e_pa h_e_at e_tk e_cd e_by e_kr e_aT e_la e_lv) (fun x hx _ l G a_r a_tk a_kd a_nm a_rc a_rh a_rs a_pl sz e_ln e_pa e_at e_fp f_kd f_nm f_rc g_x g_n g_T h_e_ln h_e_pa h_e_at e_tk e_cd e_by e_kr e_aT e_la e_lv => by have e : x = 6 := g5_toc (n := 6) (by decide) (hx.trans (by decide)); subst e; exact r_testX6 l G a_r a_tk a_kd a_nm a_rc a_rh a_rs a_pl sz e_ln e_pa e_at e_fp f_kd f_nm f_rc g_x g_n g_T h_e_ln h_e_pa h_e_at e_tk e_cd e_by e_kr e_aT e_la e_lv) l G a_r a_tk a_kd a_nm a_rc a_rh a_rs a_pl sz e_ln e_pa e_at e_fp f_kd f_nm f_rc g_x g_n g_T h_e_ln h_e_pa h_e_at e_tk e_cd e_by e_kr e_aT e_la e_lv
theorem r_sumX4 (l : Launch) (G : g5_G) (a_r a_tk a_kd a_nm a_rc a_rh a_rs a_pl : Nat) (sz : Nat) (e_ln : Int32) (e_pa : Int32) (e_at : Int32) (e_fp : Int32) (f_kd : Nat → Int32) (f_nm : Nat → Int32) (f_rc : Nat → Int32) (g_x : Nat → Int32) (g_n : Nat) (g_T : Nat) (h_e_ln : 0 ≤ e_ln.toInt ∧ e_ln.toInt ≤ 400) (h_e_pa : 0 ≤ e_pa.toInt ∧ e_pa.toInt ≤ 50) (h_e_at : 0 ≤ e_at.toInt ∧ e_at.toInt ≤ 401) (e_tk : TOKI f_kd f_nm) (e_cd : CDI f_rc e_ln.toInt) (e_by : byOK g_x) (e_kr : TKR f_kd f_nm g_x g_n g_T) (e_aT : e_at.toInt ≤ (g_T : Int)) (e_la : e_ln.toInt ≤ e_at.toInt) (e_lv : lvC f_rc e_ln.toInt.toNat = e_pa.toInt.toNat) : Met l yX4_readSum (wsG yX4_readSum cX4_readSum 6 (some .boolean)) ({ frames := 8 + 2, cells := 0, slots := 0, locals := 192 + 48 }) (va_Pc [.ref a_r, .int 4] (g5_P G [(a_r, (oc4 a_tk a_rh a_rs a_rc e_ln e_pa e_at e_fp)), (a_tk, (oc8 a_kd a_nm a_pl)), (a_kd, (arI G 401 f_kd)), (a_nm, (arI G 401 f_nm)), (a_rc, (arI G 400 f_rc))] sz)) (va_Qi (fun (r : Int32) (u : va_W) => (∃ (o_ln : Int32) (o_pa : Int32) (o_at : Int32) (o_rc : Nat → Int32), (e_ln.toInt ≤ o_ln.toInt ∧ o_ln.toInt ≤ 400) ∧ (0 ≤ o_at.toInt ∧ o_at.toInt ≤ 401) ∧ (0 ≤ o_pa.toInt ∧ o_pa.toInt ≤ 50) ∧ (CDI o_rc o_ln.toInt) ∧ (OPK f_rc o_rc e_ln.toInt) ∧ (∃ d : DS, (smF (KDT g_x g_n) (NMT g_x g_n) (4 : Int32)) e_at.toInt.toNat e_pa.toInt.toNat = (o_at.toInt.toNat, o_pa.toInt.toNat, some d) ∧ KCC f_rc o_rc e_ln.toInt ∧ MCC o_rc e_ln.toInt.toNat o_ln.toInt.toNat d ∧ lvC o_rc o_ln.toInt.toNat = o_pa.toInt.toNat) ∧ (o_at.toInt ≤ (g_T : Int) ∧ e_at.toInt < o_at.toInt ∧ o_ln.toInt + e_at.toInt ≤ e_ln.toInt + o_at.toInt) ∧ (r = 1) ∧ (u = [(a_r, (oc4 a_tk a_rh a_rs a_rc o_ln o_pa o_at e_fp)), (a_tk, (oc8 a_kd a_nm a_pl)), (a_kd, (arI G 401 f_kd)), (a_nm, (arI G 401 f_nm)), (a_rc, (arI G 400 o_rc))])) ∨ (∃ (o_ln : Int32) (o_pa : Int32) (o_at : Int32) (o_rc : Nat → Int32), (e_ln.toInt ≤ o_ln.toInt ∧ o_ln.toInt ≤ 400) ∧ (0 ≤ o_at.toInt ∧ o_at.toInt ≤ 401) ∧ (0 ≤ o_pa.toInt ∧ o_pa.toInt ≤ 50) ∧ (CDI o_rc o_ln.toInt) ∧ (OPK f_rc o_rc e_ln.toInt) ∧ (∃ q : Nat, (smF (KDT g_x g_n) (NMT g_x g_n) (4 : Int32)) e_at.toInt.toNat e_pa.toInt.toNat = (o_at.toInt.toNat, q, none)) ∧ (o_at.toInt ≤ (g_T : Int)) ∧ (r = 0) ∧ (u = [(a_r, (oc4 a_tk a_rh a_rs a_rc o_ln o_pa o_at e_fp)), (a_tk, (oc8 a_kd a_nm a_pl)), (a_kd, (arI G 401 f_kd)), (a_nm, (arI G 401 f_nm)), (a_rc, (arI G 400 o_rc))]))) (g5_B G (va_A [(a_r, (oc4 a_tk a_rh a_rs a_rc e_ln e_pa e_at e_fp)), (a_tk, (oc8 a_kd a_nm a_pl)), (a_kd, (arI G 401 f_kd)), (a_nm, (arI G 401 f_nm)), (a_rc, (arI G 400 f_rc))] sz)) (va_A [(a_r, (oc4 a_tk a_rh a_rs a_rc e_ln e_pa e_at e_fp)), (a_tk, (oc8 a_kd a_nm a_pl)), (a_kd, (arI G 401 f_kd)), (a_nm, (arI G 401 f_nm)), (a_rc, (arI G 400 f_rc))] sz)) 0 0 (va_A [(a_r, (oc4 a_tk a_rh a_rs a_rc e_ln e_pa e_at e_fp)), (a_tk, (oc8 a_kd a_nm a_pl)), (a_kd, (arI G 401 f_kd)), (a_nm, (arI G 401 f_nm)), (a_rc, (arI G 400 f_rc))] sz) := r_sumX 8 192 4 ⟨by decide, by decide⟩ (fun x hx _ l G a_r a_tk a_kd a_nm a_rc a_rh a_rs a_pl sz e_ln e_pa e_at e_fp f_kd f_nm f_rc g_x g_n g_T h_e_ln h_e_pa h_e_at e_tk e_cd e_by e_kr e_aT e_la e_lv => by have e : x = 5 := g5_toc (n := 5) (by decide) (hx.trans (by decide)); subst e; exact r_sumX5 l G a_r a_tk a_kd a_nm a_rc a_rh a_rs a_pl sz e_ln e_pa e_at e_fp f_kd f_nm f_rc g_x g_n g_T h_e_ln h_e_pa h_e_at e_tk e_cd e_by e_kr e_aT e_la e_lv) l G a_r a_tk a_kd a_nm a_rc a_rh a_rs a_pl sz e_ln e_pa e_at e_fp f_kd f_nm f_rc g_x g_n g_T h_e_ln h_e_pa h_e_at e_tk e_cd e_by e_kr e_aT e_la e_lv
theorem r_testX4 (l : Launch) (G : g5_G) (a_r a_tk a_kd a_nm a_rc a_rh a_rs a_pl : Nat) (sz : Nat) (e_ln : Int32) (e_pa : Int32) (e_at : Int32) (e_fp : Int32) (f_kd : Nat → Int32) (f_nm : Nat → Int32) (f_rc : Nat → Int32) (g_x : Nat → Int32) (g_n : Nat) (g_T : Nat) (h_e_ln : 0 ≤ e_ln.toInt ∧ e_ln.toInt ≤ 400) (h_e_pa : 0 ≤ e_pa.toInt ∧ e_pa.toInt ≤ 50) (h_e_at : 0 ≤ e_at.toInt ∧ e_at.toInt ≤ 401) (e_tk : TOKI f_kd f_nm) (e_cd : CDI f_rc e_ln.toInt) (e_by : byOK g_x) (e_kr : TKR f_kd f_nm g_x g_n g_T) (e_aT : e_at.toInt ≤ (g_T : Int)) (e_la : e_ln.toInt ≤ e_at.toInt) (e_lv : lvC f_rc e_ln.toInt.toNat = e_pa.toInt.toNat) : Met l yX4_readTest (wsG yX4_readTest cX4_readTest 6 (some .boolean)) ({ frames := 8 + 28 + 4, cells := 0, slots := 0, locals := 192 + 672 + 96 }) (va_Pc [.ref a_r, .int 4] (g5_P G [(a_r, (oc4 a_tk a_rh a_rs a_rc e_ln e_pa e_at e_fp)), (a_tk, (oc8 a_kd a_nm a_pl)), (a_kd, (arI G 401 f_kd)), (a_nm, (arI G 401 f_nm)), (a_rc, (arI G 400 f_rc))] sz)) (va_Qi (fun (r : Int32) (u : va_W) => (∃ (o_ln : Int32) (o_pa : Int32) (o_at : Int32) (o_rc : Nat → Int32), (e_ln.toInt ≤ o_ln.toInt ∧ o_ln.toInt ≤ 400) ∧ (0 ≤ o_at.toInt ∧ o_at.toInt ≤ 401) ∧ (0 ≤ o_pa.toInt ∧ o_pa.toInt ≤ 50) ∧ (CDI o_rc o_ln.toInt) ∧ (OPK f_rc o_rc e_ln.toInt) ∧ (∃ d : DS, (tsF (KDT g_x g_n) (NMT g_x g_n) (4 : Int32)) e_at.toInt.toNat e_pa.toInt.toNat = (o_at.toInt.toNat, o_pa.toInt.toNat, some d) ∧ is01 d ∧ KCC f_rc o_rc e_ln.toInt ∧ MCC o_rc e_ln.toInt.toNat o_ln.toInt.toNat d ∧ lvC o_rc o_ln.toInt.toNat = o_pa.toInt.toNat) ∧ (o_at.toInt ≤ (g_T : Int) ∧ e_at.toInt < o_at.toInt ∧ o_ln.toInt + e_at.toInt ≤ e_ln.toInt + o_at.toInt) ∧ (r = 1) ∧ (u = [(a_r, (oc4 a_tk a_rh a_rs a_rc o_ln o_pa o_at e_fp)), (a_tk, (oc8 a_kd a_nm a_pl)), (a_kd, (arI G 401 f_kd)), (a_nm, (arI G 401 f_nm)), (a_rc, (arI G 400 o_rc))])) ∨ (∃ (o_ln : Int32) (o_pa : Int32) (o_at : Int32) (o_rc : Nat → Int32), (e_ln.toInt ≤ o_ln.toInt ∧ o_ln.toInt ≤ 400) ∧ (0 ≤ o_at.toInt ∧ o_at.toInt ≤ 401) ∧ (0 ≤ o_pa.toInt ∧ o_pa.toInt ≤ 50) ∧ (CDI o_rc o_ln.toInt) ∧ (OPK f_rc o_rc e_ln.toInt) ∧ (∃ q : Nat, (tsF (KDT g_x g_n) (NMT g_x g_n) (4 : Int32)) e_at.toInt.toNat e_pa.toInt.toNat = (o_at.toInt.toNat, q, none)) ∧ (o_at.toInt ≤ (g_T : Int)) ∧ (r = 0) ∧ (u = [(a_r, (oc4 a_tk a_rh a_rs a_rc o_ln o_pa o_at e_fp)), (a_tk, (oc8 a_kd a_nm a_pl)), (a_kd, (arI G 401 f_kd)), (a_nm, (arI G 401 f_nm)), (a_rc, (arI G 400 o_rc))]))) (g5_B G (va_A [(a_r, (oc4 a_tk a_rh a_rs a_rc e_ln e_pa e_at e_fp)), (a_tk, (oc8 a_kd a_nm a_pl)), (a_kd, (arI G 401 f_kd)), (a_nm, (arI G 401 f_nm)), (a_rc, (arI G 400 f_rc))] sz)) (va_A [(a_r, (oc4 a_tk a_rh a_rs a_rc e_ln e_pa e_at e_fp)), (a_tk, (oc8 a_kd a_nm a_pl)), (a_kd, (arI G 401 f_kd)), (a_nm, (arI G 401 f_nm)), (a_rc, (arI G 400 f_rc))] sz)) 0 0 (va_A [(a_r, (oc4 a_tk a_rh a_rs a_rc e_ln e_pa e_at e_fp)), (a_tk, (oc8 a_kd a_nm a_pl)), (a_kd, (arI G 401 f_kd)), (a_nm, (arI G 401 f_nm)), (a_rc, (arI G 400 f_rc))] sz) := r_testX 8 192 28 672 4 ⟨by decide, by decide⟩ (fun x hx _ l G a_r a_tk a_kd a_nm a_rc a_rh a_rs a_pl sz e_ln e_pa e_at e_fp f_kd f_nm f_rc g_x g_n g_T h_e_ln h_e_pa h_e_at e_tk e_cd e_by e_kr e_aT e_la e_lv => by have e : x = 5 := g5_toc (n := 5) (by decide) (hx.trans (by decide)); subst e; exact r_sumX5 l G a_r a_tk a_kd a_nm a_rc a_rh a_rs a_pl sz e_ln e_pa e_at e_fp f_kd f_nm f_rc g_x g_n g_T h_e_ln h_e_pa h_e_at e_tk e_cd e_by e_kr e_aT e_la e_lv) (fun x hx _ l G a_r a_tk a_kd a_nm a_rc a_rh a_rs a_pl sz e_ln e_pa e_at e_fp f_kd f_nm f_rc g_x g_n g_T h_e_ln h_e_pa h_e_at e_tk e_cd e_by e_kr e_aT e_la e_lv => by have e : x = 5 := g5_toc (n := 5) (by decide) (hx.trans (by decide)); subst e; exact r_testX5 l G a_r a_tk a_kd a_nm a_rc a_rh a_rs a_pl sz e_ln e_pa e_at e_fp f_kd f_nm f_rc g_x g_n g_T h_e_ln h_e_pa h_e_at e_tk e_cd e_by e_kr e_aT e_la e_lv) l G a_r a_tk a_kd a_nm a_rc a_rh a_rs a_pl sz e_ln e_pa e_at e_fp f_kd f_nm f_rc g_x g_n g_T h_e_ln h_e_pa h_e_at e_tk e_cd e_by e_kr e_aT e_la e_lv
theorem r_sumX3 (l : Launch) (G : g5_G) (a_r a_tk a_kd a_nm a_rc a_rh a_rs a_pl : Nat) (sz : Nat) (e_ln : Int32) (e_pa : Int32) (e_at : Int32) (e_fp : Int32) (f_kd : Nat → Int32) (f_nm : Nat → Int32) (f_rc : Nat → Int32) (g_x : Nat → Int32) (g_n : Nat) (g_T : Nat) (h_e_ln : 0 ≤ e_ln.toInt ∧ e_ln.toInt ≤ 400) (h_e_pa : 0 ≤ e_pa.toInt ∧ e_pa.toInt ≤ 50) (h_e_at : 0 ≤ e_at.toInt ∧ e_at.toInt ≤ 401) (e_tk : TOKI f_kd f_nm) (e_cd : CDI f_rc e_ln.toInt) (e_by : byOK g_x) (e_kr : TKR f_kd f_nm g_x g_n g_T) (e_aT : e_at.toInt ≤ (g_T : Int)) (e_la : e_ln.toInt ≤ e_at.toInt) (e_lv : lvC f_rc e_ln.toInt.toNat = e_pa.toInt.toNat) : Met l yX4_readSum (wsG yX4_readSum cX4_readSum 6 (some .boolean)) ({ frames := 10 + 2, cells := 0, slots := 0, locals := 240 + 48 }) (va_Pc [.ref a_r, .int 3] (g5_P G [(a_r, (oc4 a_tk a_rh a_rs a_rc e_ln e_pa e_at e_fp)), (a_tk, (oc8 a_kd a_nm a_pl)), (a_kd, (arI G 401 f_kd)), (a_nm, (arI G 401 f_nm)), (a_rc, (arI G 400 f_rc))] sz)) (va_Qi (fun (r : Int32) (u : va_W) => (∃ (o_ln : Int32) (o_pa : Int32) (o_at : Int32) (o_rc : Nat → Int32), (e_ln.toInt ≤ o_ln.toInt ∧ o_ln.toInt ≤ 400) ∧ (0 ≤ o_at.toInt ∧ o_at.toInt ≤ 401) ∧ (0 ≤ o_pa.toInt ∧ o_pa.toInt ≤ 50) ∧ (CDI o_rc o_ln.toInt) ∧ (OPK f_rc o_rc e_ln.toInt) ∧ (∃ d : DS, (smF (KDT g_x g_n) (NMT g_x g_n) (3 : Int32)) e_at.toInt.toNat e_pa.toInt.toNat = (o_at.toInt.toNat, o_pa.toInt.toNat, some d) ∧ KCC f_rc o_rc e_ln.toInt ∧ MCC o_rc e_ln.toInt.toNat o_ln.toInt.toNat d ∧ lvC o_rc o_ln.toInt.toNat = o_pa.toInt.toNat) ∧ (o_at.toInt ≤ (g_T : Int) ∧ e_at.toInt < o_at.toInt ∧ o_ln.toInt + e_at.toInt ≤ e_ln.toInt + o_at.toInt) ∧ (r = 1) ∧ (u = [(a_r, (oc4 a_tk a_rh a_rs a_rc o_ln o_pa o_at e_fp)), (a_tk, (oc8 a_kd a_nm a_pl)), (a_kd, (arI G 401 f_kd)), (a_nm, (arI G 401 f_nm)), (a_rc, (arI G 400 o_rc))])) ∨ (∃ (o_ln : Int32) (o_pa : Int32) (o_at : Int32) (o_rc : Nat → Int32), (e_ln.toInt ≤ o_ln.toInt ∧ o_ln.toInt ≤ 400) ∧ (0 ≤ o_at.toInt ∧ o_at.toInt ≤ 401) ∧ (0 ≤ o_pa.toInt ∧ o_pa.toInt ≤ 50) ∧ (CDI o_rc o_ln.toInt) ∧ (OPK f_rc o_rc e_ln.toInt) ∧ (∃ q : Nat, (smF (KDT g_x g_n) (NMT g_x g_n) (3 : Int32)) e_at.toInt.toNat e_pa.toInt.toNat = (o_at.toInt.toNat, q, none)) ∧ (o_at.toInt ≤ (g_T : Int)) ∧ (r = 0) ∧ (u = [(a_r, (oc4 a_tk a_rh a_rs a_rc o_ln o_pa o_at e_fp)), (a_tk, (oc8 a_kd a_nm a_pl)), (a_kd, (arI G 401 f_kd)), (a_nm, (arI G 401 f_nm)), (a_rc, (arI G 400 o_rc))]))) (g5_B G (va_A [(a_r, (oc4 a_tk a_rh a_rs a_rc e_ln e_pa e_at e_fp)), (a_tk, (oc8 a_kd a_nm a_pl)), (a_kd, (arI G 401 f_kd)), (a_nm, (arI G 401 f_nm)), (a_rc, (arI G 400 f_rc))] sz)) (va_A [(a_r, (oc4 a_tk a_rh a_rs a_rc e_ln e_pa e_at e_fp)), (a_tk, (oc8 a_kd a_nm a_pl)), (a_kd, (arI G 401 f_kd)), (a_nm, (arI G 401 f_nm)), (a_rc, (arI G 400 f_rc))] sz)) 0 0 (va_A [(a_r, (oc4 a_tk a_rh a_rs a_rc e_ln e_pa e_at e_fp)), (a_tk, (oc8 a_kd a_nm a_pl)), (a_kd, (arI G 401 f_kd)), (a_nm, (arI G 401 f_nm)), (a_rc, (arI G 400 f_rc))] sz) := r_sumX 10 240 3 ⟨by decide, by decide⟩ (fun x hx _ l G a_r a_tk a_kd a_nm a_rc a_rh a_rs a_pl sz e_ln e_pa e_at e_fp f_kd f_nm f_rc g_x g_n g_T h_e_ln h_e_pa h_e_at e_tk e_cd e_by e_kr e_aT e_la e_lv => by have e : x = 4 := g5_toc (n := 4) (by decide) (hx.trans (by decide)); subst e; exact r_sumX4 l G a_r a_tk a_kd a_nm a_rc a_rh a_rs a_pl sz e_ln e_pa e_at e_fp f_kd f_nm f_rc g_x g_n g_T h_e_ln h_e_pa h_e_at e_tk e_cd e_by e_kr e_aT e_la e_lv) l G a_r a_tk a_kd a_nm a_rc a_rh a_rs a_pl sz e_ln e_pa e_at e_fp f_kd f_nm f_rc g_x g_n g_T h_e_ln h_e_pa h_e_at e_tk e_cd e_by e_kr e_aT e_la e_lv
theorem r_testX3 (l : Launch) (G : g5_G) (a_r a_tk a_kd a_nm a_rc a_rh a_rs a_pl : Nat) (sz : Nat) (e_ln : Int32) (e_pa : Int32) (e_at : Int32) (e_fp : Int32) (f_kd : Nat → Int32) (f_nm : Nat → Int32) (f_rc : Nat → Int32) (g_x : Nat → Int32) (g_n : Nat) (g_T : Nat) (h_e_ln : 0 ≤ e_ln.toInt ∧ e_ln.toInt ≤ 400) (h_e_pa : 0 ≤ e_pa.toInt ∧ e_pa.toInt ≤ 50) (h_e_at : 0 ≤ e_at.toInt ∧ e_at.toInt ≤ 401) (e_tk : TOKI f_kd f_nm) (e_cd : CDI f_rc e_ln.toInt) (e_by : byOK g_x) (e_kr : TKR f_kd f_nm g_x g_n g_T) (e_aT : e_at.toInt ≤ (g_T : Int)) (e_la : e_ln.toInt ≤ e_at.toInt) (e_lv : lvC f_rc e_ln.toInt.toNat = e_pa.toInt.toNat) : Met l yX4_readTest (wsG yX4_readTest cX4_readTest 6 (some .boolean)) ({ frames := 10 + 40 + 4, cells := 0, slots := 0, locals := 240 + 960 + 96 }) (va_Pc [.ref a_r, .int 3] (g5_P G [(a_r, (oc4 a_tk a_rh a_rs a_rc e_ln e_pa e_at e_fp)), (a_tk, (oc8 a_kd a_nm a_pl)), (a_kd, (arI G 401 f_kd)), (a_nm, (arI G 401 f_nm)), (a_rc, (arI G 400 f_rc))] sz)) (va_Qi (fun (r : Int32) (u : va_W) => (∃ (o_ln : Int32) (o_pa : Int32) (o_at : Int32) (o_rc : Nat → Int32), (e_ln.toInt ≤ o_ln.toInt ∧ o_ln.toInt ≤ 400) ∧ (0 ≤ o_at.toInt ∧ o_at.toInt ≤ 401) ∧ (0 ≤ o_pa.toInt ∧ o_pa.toInt ≤ 50) ∧ (CDI o_rc o_ln.toInt) ∧ (OPK f_rc o_rc e_ln.toInt) ∧ (∃ d : DS, (tsF (KDT g_x g_n) (NMT g_x g_n) (3 : Int32)) e_at.toInt.toNat e_pa.toInt.toNat = (o_at.toInt.toNat, o_pa.toInt.toNat, some d) ∧ is01 d ∧ KCC f_rc o_rc e_ln.toInt ∧ MCC o_rc e_ln.toInt.toNat o_ln.toInt.toNat d ∧ lvC o_rc o_ln.toInt.toNat = o_pa.toInt.toNat) ∧ (o_at.toInt ≤ (g_T : Int) ∧ e_at.toInt < o_at.toInt ∧ o_ln.toInt + e_at.toInt ≤ e_ln.toInt + o_at.toInt) ∧ (r = 1) ∧ (u = [(a_r, (oc4 a_tk a_rh a_rs a_rc o_ln o_pa o_at e_fp)), (a_tk, (oc8 a_kd a_nm a_pl)), (a_kd, (arI G 401 f_kd)), (a_nm, (arI G 401 f_nm)), (a_rc, (arI G 400 o_rc))])) ∨ (∃ (o_ln : Int32) (o_pa : Int32) (o_at : Int32) (o_rc : Nat → Int32), (e_ln.toInt ≤ o_ln.toInt ∧ o_ln.toInt ≤ 400) ∧ (0 ≤ o_at.toInt ∧ o_at.toInt ≤ 401) ∧ (0 ≤ o_pa.toInt ∧ o_pa.toInt ≤ 50) ∧ (CDI o_rc o_ln.toInt) ∧ (OPK f_rc o_rc e_ln.toInt) ∧ (∃ q : Nat, (tsF (KDT g_x g_n) (NMT g_x g_n) (3 : Int32)) e_at.toInt.toNat e_pa.toInt.toNat = (o_at.toInt.toNat, q, none)) ∧ (o_at.toInt ≤ (g_T : Int)) ∧ (r = 0) ∧ (u = [(a_r, (oc4 a_tk a_rh a_rs a_rc o_ln o_pa o_at e_fp)), (a_tk, (oc8 a_kd a_nm a_pl)), (a_kd, (arI G 401 f_kd)), (a_nm, (arI G 401 f_nm)), (a_rc, (arI G 400 o_rc))]))) (g5_B G (va_A [(a_r, (oc4 a_tk a_rh a_rs a_rc e_ln e_pa e_at e_fp)), (a_tk, (oc8 a_kd a_nm a_pl)), (a_kd, (arI G 401 f_kd)), (a_nm, (arI G 401 f_nm)), (a_rc, (arI G 400 f_rc))] sz)) (va_A [(a_r, (oc4 a_tk a_rh a_rs a_rc e_ln e_pa e_at e_fp)), (a_tk, (oc8 a_kd a_nm a_pl)), (a_kd, (arI G 401 f_kd)), (a_nm, (arI G 401 f_nm)), (a_rc, (arI G 400 f_rc))] sz)) 0 0 (va_A [(a_r, (oc4 a_tk a_rh a_rs a_rc e_ln e_pa e_at e_fp)), (a_tk, (oc8 a_kd a_nm a_pl)), (a_kd, (arI G 401 f_kd)), (a_nm, (arI G 401 f_nm)), (a_rc, (arI G 400 f_rc))] sz) := r_testX 10 240 40 960 3 ⟨by decide, by decide⟩ (fun x hx _ l G a_r a_tk a_kd a_nm a_rc a_rh a_rs a_pl sz e_ln e_pa e_at e_fp f_kd f_nm f_rc g_x g_n g_T h_e_ln h_e_pa h_e_at e_tk e_cd e_by e_kr e_aT e_la e_lv => by have e : x = 4 := g5_toc (n := 4) (by decide) (hx.trans (by decide)); subst e; exact r_sumX4 l G a_r a_tk a_kd a_nm a_rc a_rh a_rs a_pl sz e_ln e_pa e_at e_fp f_kd f_nm f_rc g_x g_n g_T h_e_ln h_e_pa h_e_at e_tk e_cd e_by e_kr e_aT e_la e_lv) (fun x hx _ l G a_r a_tk a_kd a_nm a_rc a_rh a_rs a_pl sz e_ln e_pa e_at e_fp f_kd f_nm f_rc g_x g_n g_T h_e_ln h_e_pa h_e_at e_tk e_cd e_by e_kr e_aT e_la e_lv => by have e : x = 4 := g5_toc (n := 4) (by decide) (hx.trans (by decide)); subst e; exact r_testX4 l G a_r a_tk a_kd a_nm a_rc a_rh a_rs a_pl sz e_ln e_pa e_at e_fp f_kd f_nm f_rc g_x g_n g_T h_e_ln h_e_pa h_e_at e_tk e_cd e_by e_kr e_aT e_la e_lv) l G a_r a_tk a_kd a_nm a_rc a_rh a_rs a_pl sz e_ln e_pa e_at e_fp f_kd f_nm f_rc g_x g_n g_T h_e_ln h_e_pa h_e_at e_tk e_cd e_by e_kr e_aT e_la e_lv
theorem r_sumX2 (l : Launch) (G : g5_G) (a_r a_tk a_kd a_nm a_rc a_rh a_rs a_pl : Nat) (sz : Nat) (e_ln : Int32) (e_pa : Int32) (e_at : Int32) (e_fp : Int32) (f_kd : Nat → Int32) (f_nm : Nat → Int32) (f_rc : Nat → Int32) (g_x : Nat → Int32) (g_n : Nat) (g_T : Nat) (h_e_ln : 0 ≤ e_ln.toInt ∧ e_ln.toInt ≤ 400) (h_e_pa : 0 ≤ e_pa.toInt ∧ e_pa.toInt ≤ 50) (h_e_at : 0 ≤ e_at.toInt ∧ e_at.toInt ≤ 401) (e_tk : TOKI f_kd f_nm) (e_cd : CDI f_rc e_ln.toInt) (e_by : byOK g_x) (e_kr : TKR f_kd f_nm g_x g_n g_T) (e_aT : e_at.toInt ≤ (g_T : Int)) (e_la : e_ln.toInt ≤ e_at.toInt) (e_lv : lvC f_rc e_ln.toInt.toNat = e_pa.toInt.toNat) : Met l yX4_readSum (wsG yX4_readSum cX4_readSum 6 (some .boolean)) ({ frames := 12 + 2, cells := 0, slots := 0, locals := 288 + 48 }) (va_Pc [.ref a_r, .int 2] (g5_P G [(a_r, (oc4 a_tk a_rh a_rs a_rc e_ln e_pa e_at e_fp)), (a_tk, (oc8 a_kd a_nm a_pl)), (a_kd, (arI G 401 f_kd)), (a_nm, (arI G 401 f_nm)), (a_rc, (arI G 400 f_rc))] sz)) (va_Qi (fun (r : Int32) (u : va_W) => (∃ (o_ln : Int32) (o_pa : Int32) (o_at : Int32) (o_rc : Nat → Int32), (e_ln.toInt ≤ o_ln.toInt ∧ o_ln.toInt ≤ 400) ∧ (0 ≤ o_at.toInt ∧ o_at.toInt ≤ 401) ∧ (0 ≤ o_pa.toInt ∧ o_pa.toInt ≤ 50) ∧ (CDI o_rc o_ln.toInt) ∧ (OPK f_rc o_rc e_ln.toInt) ∧ (∃ d : DS, (smF (KDT g_x g_n) (NMT g_x g_n) (2 : Int32)) e_at.toInt.toNat e_pa.toInt.toNat = (o_at.toInt.toNat, o_pa.toInt.toNat, some d) ∧ KCC f_rc o_rc e_ln.toInt ∧ MCC o_rc e_ln.toInt.toNat o_ln.toInt.toNat d ∧ lvC o_rc o_ln.toInt.toNat = o_pa.toInt.toNat) ∧ (o_at.toInt ≤ (g_T : Int) ∧ e_at.toInt < o_at.toInt ∧ o_ln.toInt + e_at.toInt ≤ e_ln.toInt + o_at.toInt) ∧ (r = 1) ∧ (u = [(a_r, (oc4 a_tk a_rh a_rs a_rc o_ln o_pa o_at e_fp)), (a_tk, (oc8 a_kd a_nm a_pl)), (a_kd, (arI G 401 f_kd)), (a_nm, (arI G 401 f_nm)), (a_rc, (arI G 400 o_rc))])) ∨ (∃ (o_ln : Int32) (o_pa : Int32) (o_at : Int32) (o_rc : Nat → Int32), (e_ln.toInt ≤ o_ln.toInt ∧ o_ln.toInt ≤ 400) ∧ (0 ≤ o_at.toInt ∧ o_at.toInt ≤ 401) ∧ (0 ≤ o_pa.toInt ∧ o_pa.toInt ≤ 50) ∧ (CDI o_rc o_ln.toInt) ∧ (OPK f_rc o_rc e_ln.toInt) ∧ (∃ q : Nat, (smF (KDT g_x g_n) (NMT g_x g_n) (2 : Int32)) e_at.toInt.toNat e_pa.toInt.toNat = (o_at.toInt.toNat, q, none)) ∧ (o_at.toInt ≤ (g_T : Int)) ∧ (r = 0) ∧ (u = [(a_r, (oc4 a_tk a_rh a_rs a_rc o_ln o_pa o_at e_fp)), (a_tk, (oc8 a_kd a_nm a_pl)), (a_kd, (arI G 401 f_kd)), (a_nm, (arI G 401 f_nm)), (a_rc, (arI G 400 o_rc))]))) (g5_B G (va_A [(a_r, (oc4 a_tk a_rh a_rs a_rc e_ln e_pa e_at e_fp)), (a_tk, (oc8 a_kd a_nm a_pl)), (a_kd, (arI G 401 f_kd)), (a_nm, (arI G 401 f_nm)), (a_rc, (arI G 400 f_rc))] sz)) (va_A [(a_r, (oc4 a_tk a_rh a_rs a_rc e_ln e_pa e_at e_fp)), (a_tk, (oc8 a_kd a_nm a_pl)), (a_kd, (arI G 401 f_kd)), (a_nm, (arI G 401 f_nm)), (a_rc, (arI G 400 f_rc))] sz)) 0 0 (va_A [(a_r, (oc4 a_tk a_rh a_rs a_rc e_ln e_pa e_at e_fp)), (a_tk, (oc8 a_kd a_nm a_pl)), (a_kd, (arI G 401 f_kd)), (a_nm, (arI G 401 f_nm)), (a_rc, (arI G 400 f_rc))] sz) := r_sumX 12 288 2 ⟨by decide, by decide⟩ (fun x hx _ l G a_r a_tk a_kd a_nm a_rc a_rh a_rs a_pl sz e_ln e_pa e_at e_fp f_kd f_nm f_rc g_x g_n g_T h_e_ln h_e_pa h_e_at e_tk e_cd e_by e_kr e_aT e_la e_lv => by have e : x = 3 := g5_toc (n := 3) (by decide) (hx.trans (by decide)); subst e; exact r_sumX3 l G a_r a_tk a_kd a_nm a_rc a_rh a_rs a_pl sz e_ln e_pa e_at e_fp f_kd f_nm f_rc g_x g_n g_T h_e_ln h_e_pa h_e_at e_tk e_cd e_by e_kr e_aT e_la e_lv) l G a_r a_tk a_kd a_nm a_rc a_rh a_rs a_pl sz e_ln e_pa e_at e_fp f_kd f_nm f_rc g_x g_n g_T h_e_ln h_e_pa h_e_at e_tk e_cd e_by e_kr e_aT e_la e_lv
theorem r_testX2 (l : Launch) (G : g5_G) (a_r a_tk a_kd a_nm a_rc a_rh a_rs a_pl : Nat) (sz : Nat) (e_ln : Int32) (e_pa : Int32) (e_at : Int32) (e_fp : Int32) (f_kd : Nat → Int32) (f_nm : Nat → Int32) (f_rc : Nat → Int32) (g_x : Nat → Int32) (g_n : Nat) (g_T : Nat) (h_e_ln : 0 ≤ e_ln.toInt ∧ e_ln.toInt ≤ 400) (h_e_pa : 0 ≤ e_pa.toInt ∧ e_pa.toInt ≤ 50) (h_e_at : 0 ≤ e_at.toInt ∧ e_at.toInt ≤ 401) (e_tk : TOKI f_kd f_nm) (e_cd : CDI f_rc e_ln.toInt) (e_by : byOK g_x) (e_kr : TKR f_kd f_nm g_x g_n g_T) (e_aT : e_at.toInt ≤ (g_T : Int)) (e_la : e_ln.toInt ≤ e_at.toInt) (e_lv : lvC f_rc e_ln.toInt.toNat = e_pa.toInt.toNat) : Met l yX4_readTest (wsG yX4_readTest cX4_readTest 6 (some .boolean)) ({ frames := 12 + 54 + 4, cells := 0, slots := 0, locals := 288 + 1296 + 96 }) (va_Pc [.ref a_r, .int 2] (g5_P G [(a_r, (oc4 a_tk a_rh a_rs a_rc e_ln e_pa e_at e_fp)), (a_tk, (oc8 a_kd a_nm a_pl)), (a_kd, (arI G 401 f_kd)), (a_nm, (arI G 401 f_nm)), (a_rc, (arI G 400 f_rc))] sz)) (va_Qi (fun (r : Int32) (u : va_W) => (∃ (o_ln : Int32) (o_pa : Int32) (o_at : Int32) (o_rc : Nat → Int32), (e_ln.toInt ≤ o_ln.toInt ∧ o_ln.toInt ≤ 400) ∧ (0 ≤ o_at.toInt ∧ o_at.toInt ≤ 401) ∧ (0 ≤ o_pa.toInt ∧ o_pa.toInt ≤ 50) ∧ (CDI o_rc o_ln.toInt) ∧ (OPK f_rc o_rc e_ln.toInt) ∧ (∃ d : DS, (tsF (KDT g_x g_n) (NMT g_x g_n) (2 : Int32)) e_at.toInt.toNat e_pa.toInt.toNat = (o_at.toInt.toNat, o_pa.toInt.toNat, some d) ∧ is01 d ∧ KCC f_rc o_rc e_ln.toInt ∧ MCC o_rc e_ln.toInt.toNat o_ln.toInt.toNat d ∧ lvC o_rc o_ln.toInt.toNat = o_pa.toInt.toNat) ∧ (o_at.toInt ≤ (g_T : Int) ∧ e_at.toInt < o_at.toInt ∧ o_ln.toInt + e_at.toInt ≤ e_ln.toInt + o_at.toInt) ∧ (r = 1) ∧ (u = [(a_r, (oc4 a_tk a_rh a_rs a_rc o_ln o_pa o_at e_fp)), (a_tk, (oc8 a_kd a_nm a_pl)), (a_kd, (arI G 401 f_kd)), (a_nm, (arI G 401 f_nm)), (a_rc, (arI G 400 o_rc))])) ∨ (∃ (o_ln : Int32) (o_pa : Int32) (o_at : Int32) (o_rc : Nat → Int32), (e_ln.toInt ≤ o_ln.toInt ∧ o_ln.toInt ≤ 400) ∧ (0 ≤ o_at.toInt ∧ o_at.toInt ≤ 401) ∧ (0 ≤ o_pa.toInt ∧ o_pa.toInt ≤ 50) ∧ (CDI o_rc o_ln.toInt) ∧ (OPK f_rc o_rc e_ln.toInt) ∧ (∃ q : Nat, (tsF (KDT g_x g_n) (NMT g_x g_n) (2 : Int32)) e_at.toInt.toNat e_pa.toInt.toNat = (o_at.toInt.toNat, q, none)) ∧ (o_at.toInt ≤ (g_T : Int)) ∧ (r = 0) ∧ (u = [(a_r, (oc4 a_tk a_rh a_rs a_rc o_ln o_pa o_at e_fp)), (a_tk, (oc8 a_kd a_nm a_pl)), (a_kd, (arI G 401 f_kd)), (a_nm, (arI G 401 f_nm)), (a_rc, (arI G 400 o_rc))]))) (g5_B G (va_A [(a_r, (oc4 a_tk a_rh a_rs a_rc e_ln e_pa e_at e_fp)), (a_tk, (oc8 a_kd a_nm a_pl)), (a_kd, (arI G 401 f_kd)), (a_nm, (arI G 401 f_nm)), (a_rc, (arI G 400 f_rc))] sz)) (va_A [(a_r, (oc4 a_tk a_rh a_rs a_rc e_ln e_pa e_at e_fp)), (a_tk, (oc8 a_kd a_nm a_pl)), (a_kd, (arI G 401 f_kd)), (a_nm, (arI G 401 f_nm)), (a_rc, (arI G 400 f_rc))] sz)) 0 0 (va_A [(a_r, (oc4 a_tk a_rh a_rs a_rc e_ln e_pa e_at e_fp)), (a_tk, (oc8 a_kd a_nm a_pl)), (a_kd, (arI G 401 f_kd)), (a_nm, (arI G 401 f_nm)), (a_rc, (arI G 400 f_rc))] sz) := r_testX 12 288 54 1296 2 ⟨by decide, by decide⟩ (fun x hx _ l G a_r a_tk a_kd a_nm a_rc a_rh a_rs a_pl sz e_ln e_pa e_at e_fp f_kd f_nm f_rc g_x g_n g_T h_e_ln h_e_pa h_e_at e_tk e_cd e_by e_kr e_aT e_la e_lv => by have e : x = 3 := g5_toc (n := 3) (by decide) (hx.trans (by decide)); subst e; exact r_sumX3 l G a_r a_tk a_kd a_nm a_rc a_rh a_rs a_pl sz e_ln e_pa e_at e_fp f_kd f_nm f_rc g_x g_n g_T h_e_ln h_e_pa h_e_at e_tk e_cd e_by e_kr e_aT e_la e_lv) (fun x hx _ l G a_r a_tk a_kd a_nm a_rc a_rh a_rs a_pl sz e_ln e_pa e_at e_fp f_kd f_nm f_rc g_x g_n g_T h_e_ln h_e_pa h_e_at e_tk e_cd e_by e_kr e_aT e_la e_lv => by have e : x = 3 := g5_toc (n := 3) (by decide) (hx.trans (by decide)); subst e; exact r_testX3 l G a_r a_tk a_kd a_nm a_rc a_rh a_rs a_pl sz e_ln e_pa e_at e_fp f_kd f_nm f_rc g_x g_n g_T h_e_ln h_e_pa h_e_at e_tk e_cd e_by e_kr e_aT e_la e_lv) l G a_r a_tk a_kd a_nm a_rc a_rh a_rs a_pl sz e_ln e_pa e_at e_fp f_kd f_nm f_rc g_x g_n g_T h_e_ln h_e_pa h_e_at e_tk e_cd e_by e_kr e_aT e_la e_lv
theorem r_sumX1 (l : Launch) (G : g5_G) (a_r a_tk a_kd a_nm a_rc a_rh a_rs a_pl : Nat) (sz : Nat) (e_ln : Int32) (e_pa : Int32) (e_at : Int32) (e_fp : Int32) (f_kd : Nat → Int32) (f_nm : Nat → Int32) (f_rc : Nat → Int32) (g_x : Nat → Int32) (g_n : Nat) (g_T : Nat) (h_e_ln : 0 ≤ e_ln.toInt ∧ e_ln.toInt ≤ 400) (h_e_pa : 0 ≤ e_pa.toInt ∧ e_pa.toInt ≤ 50) (h_e_at : 0 ≤ e_at.toInt ∧ e_at.toInt ≤ 401) (e_tk : TOKI f_kd f_nm) (e_cd : CDI f_rc e_ln.toInt) (e_by : byOK g_x) (e_kr : TKR f_kd f_nm g_x g_n g_T) (e_aT : e_at.toInt ≤ (g_T : Int)) (e_la : e_ln.toInt ≤ e_at.toInt) (e_lv : lvC f_rc e_ln.toInt.toNat = e_pa.toInt.toNat) : Met l yX4_readSum (wsG yX4_readSum cX4_readSum 6 (some .boolean)) ({ frames := 14 + 2, cells := 0, slots := 0, locals := 336 + 48 }) (va_Pc [.ref a_r, .int 1] (g5_P G [(a_r, (oc4 a_tk a_rh a_rs a_rc e_ln e_pa e_at e_fp)), (a_tk, (oc8 a_kd a_nm a_pl)), (a_kd, (arI G 401 f_kd)), (a_nm, (arI G 401 f_nm)), (a_rc, (arI G 400 f_rc))] sz)) (va_Qi (fun (r : Int32) (u : va_W) => (∃ (o_ln : Int32) (o_pa : Int32) (o_at : Int32) (o_rc : Nat → Int32), (e_ln.toInt ≤ o_ln.toInt ∧ o_ln.toInt ≤ 400) ∧ (0 ≤ o_at.toInt ∧ o_at.toInt ≤ 401) ∧ (0 ≤ o_pa.toInt ∧ o_pa.toInt ≤ 50) ∧ (CDI o_rc o_ln.toInt) ∧ (OPK f_rc o_rc e_ln.toInt) ∧ (∃ d : DS, (smF (KDT g_x g_n) (NMT g_x g_n) (1 : Int32)) e_at.toInt.toNat e_pa.toInt.toNat = (o_at.toInt.toNat, o_pa.toInt.toNat, some d) ∧ KCC f_rc o_rc e_ln.toInt ∧ MCC o_rc e_ln.toInt.toNat o_ln.toInt.toNat d ∧ lvC o_rc o_ln.toInt.toNat = o_pa.toInt.toNat) ∧ (o_at.toInt ≤ (g_T : Int) ∧ e_at.toInt < o_at.toInt ∧ o_ln.toInt + e_at.toInt ≤ e_ln.toInt + o_at.toInt) ∧ (r = 1) ∧ (u = [(a_r, (oc4 a_tk a_rh a_rs a_rc o_ln o_pa o_at e_fp)), (a_tk, (oc8 a_kd a_nm a_pl)), (a_kd, (arI G 401 f_kd)), (a_nm, (arI G 401 f_nm)), (a_rc, (arI G 400 o_rc))])) ∨ (∃ (o_ln : Int32) (o_pa : Int32) (o_at : Int32) (o_rc : Nat → Int32), (e_ln.toInt ≤ o_ln.toInt ∧ o_ln.toInt ≤ 400) ∧ (0 ≤ o_at.toInt ∧ o_at.toInt ≤ 401) ∧ (0 ≤ o_pa.toInt ∧ o_pa.toInt ≤ 50) ∧ (CDI o_rc o_ln.toInt) ∧ (OPK f_rc o_rc e_ln.toInt) ∧ (∃ q : Nat, (smF (KDT g_x g_n) (NMT g_x g_n) (1 : Int32)) e_at.toInt.toNat e_pa.toInt.toNat = (o_at.toInt.toNat, q, none)) ∧ (o_at.toInt ≤ (g_T : Int)) ∧ (r = 0) ∧ (u = [(a_r, (oc4 a_tk a_rh a_rs a_rc o_ln o_pa o_at e_fp)), (a_tk, (oc8 a_kd a_nm a_pl)), (a_kd, (arI G 401 f_kd)), (a_nm, (arI G 401 f_nm)), (a_rc, (arI G 400 o_rc))]))) (g5_B G (va_A [(a_r, (oc4 a_tk a_rh a_rs a_rc e_ln e_pa e_at e_fp)), (a_tk, (oc8 a_kd a_nm a_pl)), (a_kd, (arI G 401 f_kd)), (a_nm, (arI G 401 f_nm)), (a_rc, (arI G 400 f_rc))] sz)) (va_A [(a_r, (oc4 a_tk a_rh a_rs a_rc e_ln e_pa e_at e_fp)), (a_tk, (oc8 a_kd a_nm a_pl)), (a_kd, (arI G 401 f_kd)), (a_nm, (arI G 401 f_nm)), (a_rc, (arI G 400 f_rc))] sz)) 0 0 (va_A [(a_r, (oc4 a_tk a_rh a_rs a_rc e_ln e_pa e_at e_fp)), (a_tk, (oc8 a_kd a_nm a_pl)), (a_kd, (arI G 401 f_kd)), (a_nm, (arI G 401 f_nm)), (a_rc, (arI G 400 f_rc))] sz) := r_sumX 14 336 1 ⟨by decide, by decide⟩ (fun x hx _ l G a_r a_tk a_kd a_nm a_rc a_rh a_rs a_pl sz e_ln e_pa e_at e_fp f_kd f_nm f_rc g_x g_n g_T h_e_ln h_e_pa h_e_at e_tk e_cd e_by e_kr e_aT e_la e_lv => by have e : x = 2 := g5_toc (n := 2) (by decide) (hx.trans (by decide)); subst e; exact r_sumX2 l G a_r a_tk a_kd a_nm a_rc a_rh a_rs a_pl sz e_ln e_pa e_at e_fp f_kd f_nm f_rc g_x g_n g_T h_e_ln h_e_pa h_e_at e_tk e_cd e_by e_kr e_aT e_la e_lv) l G a_r a_tk a_kd a_nm a_rc a_rh a_rs a_pl sz e_ln e_pa e_at e_fp f_kd f_nm f_rc g_x g_n g_T h_e_ln h_e_pa h_e_at e_tk e_cd e_by e_kr e_aT e_la e_lv
theorem r_testX1 (l : Launch) (G : g5_G) (a_r a_tk a_kd a_nm a_rc a_rh a_rs a_pl : Nat) (sz : Nat) (e_ln : Int32) (e_pa : Int32) (e_at : Int32) (e_fp : Int32) (f_kd : Nat → Int32) (f_nm : Nat → Int32) (f_rc : Nat → Int32) (g_x : Nat → Int32) (g_n : Nat) (g_T : Nat) (h_e_ln : 0 ≤ e_ln.toInt ∧ e_ln.toInt ≤ 400) (h_e_pa : 0 ≤ e_pa.toInt ∧ e_pa.toInt ≤ 50) (h_e_at : 0 ≤ e_at.toInt ∧ e_at.toInt ≤ 401) (e_tk : TOKI f_kd f_nm) (e_cd : CDI f_rc e_ln.toInt) (e_by : byOK g_x) (e_kr : TKR f_kd f_nm g_x g_n g_T) (e_aT : e_at.toInt ≤ (g_T : Int)) (e_la : e_ln.toInt ≤ e_at.toInt) (e_lv : lvC f_rc e_ln.toInt.toNat = e_pa.toInt.toNat) : Met l yX4_readTest (wsG yX4_readTest cX4_readTest 6 (some .boolean)) ({ frames := 14 + 70 + 4, cells := 0, slots := 0, locals := 336 + 1680 + 96 }) (va_Pc [.ref a_r, .int 1] (g5_P G [(a_r, (oc4 a_tk a_rh a_rs a_rc e_ln e_pa e_at e_fp)), (a_tk, (oc8 a_kd a_nm a_pl)), (a_kd, (arI G 401 f_kd)), (a_nm, (arI G 401 f_nm)), (a_rc, (arI G 400 f_rc))] sz)) (va_Qi (fun (r : Int32) (u : va_W) => (∃ (o_ln : Int32) (o_pa : Int32) (o_at : Int32) (o_rc : Nat → Int32), (e_ln.toInt ≤ o_ln.toInt ∧ o_ln.toInt ≤ 400) ∧ (0 ≤ o_at.toInt ∧ o_at.toInt ≤ 401) ∧ (0 ≤ o_pa.toInt ∧ o_pa.toInt ≤ 50) ∧ (CDI o_rc o_ln.toInt) ∧ (OPK f_rc o_rc e_ln.toInt) ∧ (∃ d : DS, (tsF (KDT g_x g_n) (NMT g_x g_n) (1 : Int32)) e_at.toInt.toNat e_pa.toInt.toNat = (o_at.toInt.toNat, o_pa.toInt.toNat, some d) ∧ is01 d ∧ KCC f_rc o_rc e_ln.toInt ∧ MCC o_rc e_ln.toInt.toNat o_ln.toInt.toNat d ∧ lvC o_rc o_ln.toInt.toNat = o_pa.toInt.toNat) ∧ (o_at.toInt ≤ (g_T : Int) ∧ e_at.toInt < o_at.toInt ∧ o_ln.toInt + e_at.toInt ≤ e_ln.toInt + o_at.toInt) ∧ (r = 1) ∧ (u = [(a_r, (oc4 a_tk a_rh a_rs a_rc o_ln o_pa o_at e_fp)), (a_tk, (oc8 a_kd a_nm a_pl)), (a_kd, (arI G 401 f_kd)), (a_nm, (arI G 401 f_nm)), (a_rc, (arI G 400 o_rc))])) ∨ (∃ (o_ln : Int32) (o_pa : Int32) (o_at : Int32) (o_rc : Nat → Int32), (e_ln.toInt ≤ o_ln.toInt ∧ o_ln.toInt ≤ 400) ∧ (0 ≤ o_at.toInt ∧ o_at.toInt ≤ 401) ∧ (0 ≤ o_pa.toInt ∧ o_pa.toInt ≤ 50) ∧ (CDI o_rc o_ln.toInt) ∧ (OPK f_rc o_rc e_ln.toInt) ∧ (∃ q : Nat, (tsF (KDT g_x g_n) (NMT g_x g_n) (1 : Int32)) e_at.toInt.toNat e_pa.toInt.toNat = (o_at.toInt.toNat, q, none)) ∧ (o_at.toInt ≤ (g_T : Int)) ∧ (r = 0) ∧ (u = [(a_r, (oc4 a_tk a_rh a_rs a_rc o_ln o_pa o_at e_fp)), (a_tk, (oc8 a_kd a_nm a_pl)), (a_kd, (arI G 401 f_kd)), (a_nm, (arI G 401 f_nm)), (a_rc, (arI G 400 o_rc))]))) (g5_B G (va_A [(a_r, (oc4 a_tk a_rh a_rs a_rc e_ln e_pa e_at e_fp)), (a_tk, (oc8 a_kd a_nm a_pl)), (a_kd, (arI G 401 f_kd)), (a_nm, (arI G 401 f_nm)), (a_rc, (arI G 400 f_rc))] sz)) (va_A [(a_r, (oc4 a_tk a_rh a_rs a_rc e_ln e_pa e_at e_fp)), (a_tk, (oc8 a_kd a_nm a_pl)), (a_kd, (arI G 401 f_kd)), (a_nm, (arI G 401 f_nm)), (a_rc, (arI G 400 f_rc))] sz)) 0 0 (va_A [(a_r, (oc4 a_tk a_rh a_rs a_rc e_ln e_pa e_at e_fp)), (a_tk, (oc8 a_kd a_nm a_pl)), (a_kd, (arI G 401 f_kd)), (a_nm, (arI G 401 f_nm)), (a_rc, (arI G 400 f_rc))] sz) := r_testX 14 336 70 1680 1 ⟨by decide, by decide⟩ (fun x hx _ l G a_r a_tk a_kd a_nm a_rc a_rh a_rs a_pl sz e_ln e_pa e_at e_fp f_kd f_nm f_rc g_x g_n g_T h_e_ln h_e_pa h_e_at e_tk e_cd e_by e_kr e_aT e_la e_lv => by have e : x = 2 := g5_toc (n := 2) (by decide) (hx.trans (by decide)); subst e; exact r_sumX2 l G a_r a_tk a_kd a_nm a_rc a_rh a_rs a_pl sz e_ln e_pa e_at e_fp f_kd f_nm f_rc g_x g_n g_T h_e_ln h_e_pa h_e_at e_tk e_cd e_by e_kr e_aT e_la e_lv) (fun x hx _ l G a_r a_tk a_kd a_nm a_rc a_rh a_rs a_pl sz e_ln e_pa e_at e_fp f_kd f_nm f_rc g_x g_n g_T h_e_ln h_e_pa h_e_at e_tk e_cd e_by e_kr e_aT e_la e_lv => by have e : x = 2 := g5_toc (n := 2) (by decide) (hx.trans (by decide)); subst e; exact r_testX2 l G a_r a_tk a_kd a_nm a_rc a_rh a_rs a_pl sz e_ln e_pa e_at e_fp f_kd f_nm f_rc g_x g_n g_T h_e_ln h_e_pa h_e_at e_tk e_cd e_by e_kr e_aT e_la e_lv) l G a_r a_tk a_kd a_nm a_rc a_rh a_rs a_pl sz e_ln e_pa e_at e_fp f_kd f_nm f_rc g_x g_n g_T h_e_ln h_e_pa h_e_at e_tk e_cd e_by e_kr e_aT e_la e_lv
theorem r_sumX0 (l : Launch) (G : g5_G) (a_r a_tk a_kd a_nm a_rc a_rh a_rs a_pl : Nat) (sz : Nat) (e_ln : Int32) (e_pa : Int32) (e_at : Int32) (e_fp : Int32) (f_kd : Nat → Int32) (f_nm : Nat → Int32) (f_rc : Nat → Int32) (g_x : Nat → Int32) (g_n : Nat) (g_T : Nat) (h_e_ln : 0 ≤ e_ln.toInt ∧ e_ln.toInt ≤ 400) (h_e_pa : 0 ≤ e_pa.toInt ∧ e_pa.toInt ≤ 50) (h_e_at : 0 ≤ e_at.toInt ∧ e_at.toInt ≤ 401) (e_tk : TOKI f_kd f_nm) (e_cd : CDI f_rc e_ln.toInt) (e_by : byOK g_x) (e_kr : TKR f_kd f_nm g_x g_n g_T) (e_aT : e_at.toInt ≤ (g_T : Int)) (e_la : e_ln.toInt ≤ e_at.toInt) (e_lv : lvC f_rc e_ln.toInt.toNat = e_pa.toInt.toNat) : Met l yX4_readSum (wsG yX4_readSum cX4_readSum 6 (some .boolean)) ({ frames := 16 + 2, cells := 0, slots := 0, locals := 384 + 48 }) (va_Pc [.ref a_r, .int 0] (g5_P G [(a_r, (oc4 a_tk a_rh a_rs a_rc e_ln e_pa e_at e_fp)), (a_tk, (oc8 a_kd a_nm a_pl)), (a_kd, (arI G 401 f_kd)), (a_nm, (arI G 401 f_nm)), (a_rc, (arI G 400 f_rc))] sz)) (va_Qi (fun (r : Int32) (u : va_W) => (∃ (o_ln : Int32) (o_pa : Int32) (o_at : Int32) (o_rc : Nat → Int32), (e_ln.toInt ≤ o_ln.toInt ∧ o_ln.toInt ≤ 400) ∧ (0 ≤ o_at.toInt ∧ o_at.toInt ≤ 401) ∧ (0 ≤ o_pa.toInt ∧ o_pa.toInt ≤ 50) ∧ (CDI o_rc o_ln.toInt) ∧ (OPK f_rc o_rc e_ln.toInt) ∧ (∃ d : DS, (smF (KDT g_x g_n) (NMT g_x g_n) (0 : Int32)) e_at.toInt.toNat e_pa.toInt.toNat = (o_at.toInt.toNat, o_pa.toInt.toNat, some d) ∧ KCC f_rc o_rc e_ln.toInt ∧ MCC o_rc e_ln.toInt.toNat o_ln.toInt.toNat d ∧ lvC o_rc o_ln.toInt.toNat = o_pa.toInt.toNat) ∧ (o_at.toInt ≤ (g_T : Int) ∧ e_at.toInt < o_at.toInt ∧ o_ln.toInt + e_at.toInt ≤ e_ln.toInt + o_at.toInt) ∧ (r = 1) ∧ (u = [(a_r, (oc4 a_tk a_rh a_rs a_rc o_ln o_pa o_at e_fp)), (a_tk, (oc8 a_kd a_nm a_pl)), (a_kd, (arI G 401 f_kd)), (a_nm, (arI G 401 f_nm)), (a_rc, (arI G 400 o_rc))])) ∨ (∃ (o_ln : Int32) (o_pa : Int32) (o_at : Int32) (o_rc : Nat → Int32), (e_ln.toInt ≤ o_ln.toInt ∧ o_ln.toInt ≤ 400) ∧ (0 ≤ o_at.toInt ∧ o_at.toInt ≤ 401) ∧ (0 ≤ o_pa.toInt ∧ o_pa.toInt ≤ 50) ∧ (CDI o_rc o_ln.toInt) ∧ (OPK f_rc o_rc e_ln.toInt) ∧ (∃ q : Nat, (smF (KDT g_x g_n) (NMT g_x g_n) (0 : Int32)) e_at.toInt.toNat e_pa.toInt.toNat = (o_at.toInt.toNat, q, none)) ∧ (o_at.toInt ≤ (g_T : Int)) ∧ (r = 0) ∧ (u = [(a_r, (oc4 a_tk a_rh a_rs a_rc o_ln o_pa o_at e_fp)), (a_tk, (oc8 a_kd a_nm a_pl)), (a_kd, (arI G 401 f_kd)), (a_nm, (arI G 401 f_nm)), (a_rc, (arI G 400 o_rc))]))) (g5_B G (va_A [(a_r, (oc4 a_tk a_rh a_rs a_rc e_ln e_pa e_at e_fp)), (a_tk, (oc8 a_kd a_nm a_pl)), (a_kd, (arI G 401 f_kd)), (a_nm, (arI G 401 f_nm)), (a_rc, (arI G 400 f_rc))] sz)) (va_A [(a_r, (oc4 a_tk a_rh a_rs a_rc e_ln e_pa e_at e_fp)), (a_tk, (oc8 a_kd a_nm a_pl)), (a_kd, (arI G 401 f_kd)), (a_nm, (arI G 401 f_nm)), (a_rc, (arI G 400 f_rc))] sz)) 0 0 (va_A [(a_r, (oc4 a_tk a_rh a_rs a_rc e_ln e_pa e_at e_fp)), (a_tk, (oc8 a_kd a_nm a_pl)), (a_kd, (arI G 401 f_kd)), (a_nm, (arI G 401 f_nm)), (a_rc, (arI G 400 f_rc))] sz) := r_sumX 16 384 0 ⟨by decide, by decide⟩ (fun x hx _ l G a_r a_tk a_kd a_nm a_rc a_rh a_rs a_pl sz e_ln e_pa e_at e_fp f_kd f_nm f_rc g_x g_n g_T h_e_ln h_e_pa h_e_at e_tk e_cd e_by e_kr e_aT e_la e_lv => by have e : x = 1 := g5_toc (n := 1) (by decide) (hx.trans (by decide)); subst e; exact r_sumX1 l G a_r a_tk a_kd a_nm a_rc a_rh a_rs a_pl sz e_ln e_pa e_at e_fp f_kd f_nm f_rc g_x g_n g_T h_e_ln h_e_pa h_e_at e_tk e_cd e_by e_kr e_aT e_la e_lv) l G a_r a_tk a_kd a_nm a_rc a_rh a_rs a_pl sz e_ln e_pa e_at e_fp f_kd f_nm f_rc g_x g_n g_T h_e_ln h_e_pa h_e_at e_tk e_cd e_by e_kr e_aT e_la e_lv
theorem r_testX0 (l : Launch) (G : g5_G) (a_r a_tk a_kd a_nm a_rc a_rh a_rs a_pl : Nat) (sz : Nat) (e_ln : Int32) (e_pa : Int32) (e_at : Int32) (e_fp : Int32) (f_kd : Nat → Int32) (f_nm : Nat → Int32) (f_rc : Nat → Int32) (g_x : Nat → Int32) (g_n : Nat) (g_T : Nat) (h_e_ln : 0 ≤ e_ln.toInt ∧ e_ln.toInt ≤ 400) (h_e_pa : 0 ≤ e_pa.toInt ∧ e_pa.toInt ≤ 50) (h_e_at : 0 ≤ e_at.toInt ∧ e_at.toInt ≤ 401) (e_tk : TOKI f_kd f_nm) (e_cd : CDI f_rc e_ln.toInt) (e_by : byOK g_x) (e_kr : TKR f_kd f_nm g_x g_n g_T) (e_aT : e_at.toInt ≤ (g_T : Int)) (e_la : e_ln.toInt ≤ e_at.toInt) (e_lv : lvC f_rc e_ln.toInt.toNat = e_pa.toInt.toNat) : Met l yX4_readTest (wsG yX4_readTest cX4_readTest 6 (some .boolean)) ({ frames := 16 + 88 + 4, cells := 0, slots := 0, locals := 384 + 2112 + 96 }) (va_Pc [.ref a_r, .int 0] (g5_P G [(a_r, (oc4 a_tk a_rh a_rs a_rc e_ln e_pa e_at e_fp)), (a_tk, (oc8 a_kd a_nm a_pl)), (a_kd, (arI G 401 f_kd)), (a_nm, (arI G 401 f_nm)), (a_rc, (arI G 400 f_rc))] sz)) (va_Qi (fun (r : Int32) (u : va_W) => (∃ (o_ln : Int32) (o_pa : Int32) (o_at : Int32) (o_rc : Nat → Int32), (e_ln.toInt ≤ o_ln.toInt ∧ o_ln.toInt ≤ 400) ∧ (0 ≤ o_at.toInt ∧ o_at.toInt ≤ 401) ∧ (0 ≤ o_pa.toInt ∧ o_pa.toInt ≤ 50) ∧ (CDI o_rc o_ln.toInt) ∧ (OPK f_rc o_rc e_ln.toInt) ∧ (∃ d : DS, (tsF (KDT g_x g_n) (NMT g_x g_n) (0 : Int32)) e_at.toInt.toNat e_pa.toInt.toNat = (o_at.toInt.toNat, o_pa.toInt.toNat, some d) ∧ is01 d ∧ KCC f_rc o_rc e_ln.toInt ∧ MCC o_rc e_ln.toInt.toNat o_ln.toInt.toNat d ∧ lvC o_rc o_ln.toInt.toNat = o_pa.toInt.toNat) ∧ (o_at.toInt ≤ (g_T : Int) ∧ e_at.toInt < o_at.toInt ∧ o_ln.toInt + e_at.toInt ≤ e_ln.toInt + o_at.toInt) ∧ (r = 1) ∧ (u = [(a_r, (oc4 a_tk a_rh a_rs a_rc o_ln o_pa o_at e_fp)), (a_tk, (oc8 a_kd a_nm a_pl)), (a_kd, (arI G 401 f_kd)), (a_nm, (arI G 401 f_nm)), (a_rc, (arI G 400 o_rc))])) ∨ (∃ (o_ln : Int32) (o_pa : Int32) (o_at : Int32) (o_rc : Nat → Int32), (e_ln.toInt ≤ o_ln.toInt ∧ o_ln.toInt ≤ 400) ∧ (0 ≤ o_at.toInt ∧ o_at.toInt ≤ 401) ∧ (0 ≤ o_pa.toInt ∧ o_pa.toInt ≤ 50) ∧ (CDI o_rc o_ln.toInt) ∧ (OPK f_rc o_rc e_ln.toInt) ∧ (∃ q : Nat, (tsF (KDT g_x g_n) (NMT g_x g_n) (0 : Int32)) e_at.toInt.toNat e_pa.toInt.toNat = (o_at.toInt.toNat, q, none)) ∧ (o_at.toInt ≤ (g_T : Int)) ∧ (r = 0) ∧ (u = [(a_r, (oc4 a_tk a_rh a_rs a_rc o_ln o_pa o_at e_fp)), (a_tk, (oc8 a_kd a_nm a_pl)), (a_kd, (arI G 401 f_kd)), (a_nm, (arI G 401 f_nm)), (a_rc, (arI G 400 o_rc))]))) (g5_B G (va_A [(a_r, (oc4 a_tk a_rh a_rs a_rc e_ln e_pa e_at e_fp)), (a_tk, (oc8 a_kd a_nm a_pl)), (a_kd, (arI G 401 f_kd)), (a_nm, (arI G 401 f_nm)), (a_rc, (arI G 400 f_rc))] sz)) (va_A [(a_r, (oc4 a_tk a_rh a_rs a_rc e_ln e_pa e_at e_fp)), (a_tk, (oc8 a_kd a_nm a_pl)), (a_kd, (arI G 401 f_kd)), (a_nm, (arI G 401 f_nm)), (a_rc, (arI G 400 f_rc))] sz)) 0 0 (va_A [(a_r, (oc4 a_tk a_rh a_rs a_rc e_ln e_pa e_at e_fp)), (a_tk, (oc8 a_kd a_nm a_pl)), (a_kd, (arI G 401 f_kd)), (a_nm, (arI G 401 f_nm)), (a_rc, (arI G 400 f_rc))] sz) := r_testX 16 384 88 2112 0 ⟨by decide, by decide⟩ (fun x hx _ l G a_r a_tk a_kd a_nm a_rc a_rh a_rs a_pl sz e_ln e_pa e_at e_fp f_kd f_nm f_rc g_x g_n g_T h_e_ln h_e_pa h_e_at e_tk e_cd e_by e_kr e_aT e_la e_lv => by have e : x = 1 := g5_toc (n := 1) (by decide) (hx.trans (by decide)); subst e; exact r_sumX1 l G a_r a_tk a_kd a_nm a_rc a_rh a_rs a_pl sz e_ln e_pa e_at e_fp f_kd f_nm f_rc g_x g_n g_T h_e_ln h_e_pa h_e_at e_tk e_cd e_by e_kr e_aT e_la e_lv) (fun x hx _ l G a_r a_tk a_kd a_nm a_rc a_rh a_rs a_pl sz e_ln e_pa e_at e_fp f_kd f_nm f_rc g_x g_n g_T h_e_ln h_e_pa h_e_at e_tk e_cd e_by e_kr e_aT e_la e_lv => by have e : x = 1 := g5_toc (n := 1) (by decide) (hx.trans (by decide)); subst e; exact r_testX1 l G a_r a_tk a_kd a_nm a_rc a_rh a_rs a_pl sz e_ln e_pa e_at e_fp f_kd f_nm f_rc g_x g_n g_T h_e_ln h_e_pa h_e_at e_tk e_cd e_by e_kr e_aT e_la e_lv) l G a_r a_tk a_kd a_nm a_rc a_rh a_rs a_pl sz e_ln e_pa e_at e_fp f_kd f_nm f_rc g_x g_n g_T h_e_ln h_e_pa h_e_at e_tk e_cd e_by e_kr e_aT e_la e_lv
set_option maxHeartbeats 4000000 in
set_option maxRecDepth 100000 in
theorem r_clauseX (l : Launch) (G : g5_G) (a_r a_tk a_kd a_nm a_rc a_rh a_rs a_pl : Nat) (sz : Nat) (e_ln : Int32) (e_pa : Int32) (e_at : Int32) (e_fp : Int32) (p_c : Int32) (f_kd : Nat → Int32) (f_nm : Nat → Int32) (f_rc : Nat → Int32) (f_rh : Nat → Int32) (f_rs : Nat → Int32) (g_x : Nat → Int32) (g_n : Nat) (g_T : Nat) (h_e_ln : 0 ≤ e_ln.toInt ∧ e_ln.toInt ≤ 400) (h_e_pa : 0 ≤ e_pa.toInt ∧ e_pa.toInt ≤ 50) (h_e_at : 0 ≤ e_at.toInt ∧ e_at.toInt ≤ 401) (h_p_c : 0 ≤ p_c.toInt ∧ p_c.toInt ≤ 11) (e_tk : TOKI f_kd f_nm) (e_cd : CDI f_rc e_ln.toInt) (e_by : byOK g_x) (e_kr : TKR f_kd f_nm g_x g_n g_T) (e_aT : e_at.toInt ≤ (g_T : Int)) (e_la : e_ln.toInt ≤ e_at.toInt) (e_lv : lvC f_rc e_ln.toInt.toNat = e_pa.toInt.toNat) (e_si : STI f_rs p_c.toInt e_ln.toInt) : Met l yX4_readClause (wsG yX4_readClause cX4_readClause 3 (some .boolean)) ({ frames := 109, cells := 0, slots := 0, locals := 2617 }) (va_Pc [.ref a_r, .int p_c] (g5_P G [(a_r, (oc4 a_tk a_rh a_rs a_rc e_ln e_pa e_at e_fp)), (a_tk, (oc8 a_kd a_nm a_pl)), (a_kd, (arI G 401 f_kd)), (a_nm, (arI G 401 f_nm)), (a_rc, (arI G 400 f_rc)), (a_rh, (arI G 12 f_rh)), (a_rs, (arI G 13 f_rs))] sz)) (va_Qi (fun (r : Int32) (u : va_W) => (∃ (o_ln : Int32) (o_pa : Int32) (o_at : Int32) (o_rc : Nat → Int32) (o_rh : Nat → Int32) (o_rs : Nat → Int32), (e_ln.toInt ≤ o_ln.toInt ∧ o_ln.toInt ≤ 400) ∧ (0 ≤ o_at.toInt ∧ o_at.toInt ≤ 401) ∧ (0 ≤ o_pa.toInt ∧ o_pa.toInt ≤ 50) ∧ (CDI o_rc o_ln.toInt) ∧ (STI o_rs (p_c.toInt + 1) o_ln.toInt) ∧ (∃ c : CLT, clsP (KDT g_x g_n) (NMT g_x g_n) e_at.toInt.toNat e_pa.toInt.toNat = (o_at.toInt.toNat, o_pa.toInt.toNat, some c) ∧ KCC f_rc o_rc e_ln.toInt ∧ (o_rh p_c.toNatClampNeg).toInt = c.1 ∧ o_rs p_c.toNatClampNeg = e_ln ∧ CLC o_rc e_ln.toInt.toNat o_ln.toInt.toNat c ∧ lvC o_rc o_ln.toInt.toNat = o_pa.toInt.toNat) ∧ (∀ j : Nat, j ≠ p_c.toNatClampNeg → o_rh j = f_rh j ∧ o_rs j = f_rs j) ∧ (o_at.toInt ≤ (g_T : Int) ∧ e_at.toInt < o_at.toInt ∧ o_ln.toInt + e_at.toInt ≤ e_ln.toInt + o_at.toInt) ∧ (r = 1) ∧ (u = [(a_r, (oc4 a_tk a_rh a_rs a_rc o_ln o_pa o_at e_fp)), (a_tk, (oc8 a_kd a_nm a_pl)), (a_kd, (arI G 401 f_kd)), (a_nm, (arI G 401 f_nm)), (a_rc, (arI G 400 o_rc)), (a_rh, (arI G 12 o_rh)), (a_rs, (arI G 13 o_rs))])) ∨ (∃ (o_ln : Int32) (o_pa : Int32) (o_at : Int32) (o_rc : Nat → Int32) (o_rh : Nat → Int32) (o_rs : Nat → Int32), (e_ln.toInt ≤ o_ln.toInt ∧ o_ln.toInt ≤ 400) ∧ (0 ≤ o_at.toInt ∧ o_at.toInt ≤ 401) ∧ (0 ≤ o_pa.toInt ∧ o_pa.toInt ≤ 50) ∧ (CDI o_rc o_ln.toInt) ∧ (∃ q : Nat, clsP (KDT g_x g_n) (NMT g_x g_n) e_at.toInt.toNat e_pa.toInt.toNat = (o_at.toInt.toNat, q, none)) ∧ (o_at.toInt ≤ (g_T : Int)) ∧ (r = 0) ∧ (u = [(a_r, (oc4 a_tk a_rh a_rs a_rc o_ln o_pa o_at e_fp)), (a_tk, (oc8 a_kd a_nm a_pl)), (a_kd, (arI G 401 f_kd)), (a_nm, (arI G 401 f_nm)), (a_rc, (arI G 400 o_rc)), (a_rh, (arI G 12 o_rh)), (a_rs, (arI G 13 o_rs))]))) (g5_B G (va_A [(a_r, (oc4 a_tk a_rh a_rs a_rc e_ln e_pa e_at e_fp)), (a_tk, (oc8 a_kd a_nm a_pl)), (a_kd, (arI G 401 f_kd)), (a_nm, (arI G 401 f_nm)), (a_rc, (arI G 400 f_rc)), (a_rh, (arI G 12 f_rh)), (a_rs, (arI G 13 f_rs))] sz)) (va_A [(a_r, (oc4 a_tk a_rh a_rs a_rc e_ln e_pa e_at e_fp)), (a_tk, (oc8 a_kd a_nm a_pl)), (a_kd, (arI G 401 f_kd)), (a_nm, (arI G 401 f_nm)), (a_rc, (arI G 400 f_rc)), (a_rh, (arI G 12 f_rh)), (a_rs, (arI G 13 f_rs))] sz)) 0 0 (va_A [(a_r, (oc4 a_tk a_rh a_rs a_rc e_ln e_pa e_at e_fp)), (a_tk, (oc8 a_kd a_nm a_pl)), (a_kd, (arI G 401 f_kd)), (a_nm, (arI G 401 f_nm)), (a_rc, (arI G 400 f_rc)), (a_rh, (arI G 12 f_rh)), (a_rs, (arI G 13 f_rs))] sz) := by
  refine Met.ofW (cc := cX4_readClause) (maxL := 3) (ret := (some .boolean)) (by decide +kernel) rfl ?_
  intro p e s m args below meth c s₁ B hml hv
  obtain ⟨rfl, hsz, hP, hK, hD0, hN, hT⟩ := hv
  have hx := B.exec
  have hb := B.bytes
  have hr := B.returns
  have hts : ∀ w ∈ tblG, w.before _ s = true := fun w h => atoms_spec (ws := (wsG yX4_readClause cX4_readClause 3 (some .boolean))) B.pre w (List.mem_cons_of_mem _ h)
  have hown : s.vm.findClass RX4 = some m.cls := findClass_of_methodNamed B.named
  have hlocks := B.notSynchronized
  subst hsz
  have hD := hD0.self (sz := s.heap.size)
  generalize hAe : va_A [(a_r, (oc4 a_tk a_rh a_rs a_rc e_ln e_pa e_at e_fp)), (a_tk, (oc8 a_kd a_nm a_pl)), (a_kd, (arI G 401 f_kd)), (a_nm, (arI G 401 f_nm)), (a_rc, (arI G 400 f_rc)), (a_rh, (arI G 12 f_rh)), (a_rs, (arI G 13 f_rs))] s.heap.size = A at hD hT ⊢
  have hA : ∀ q : Nat, s.heap.size ≤ q → A q := fun q h => by rw [← hAe]; exact Or.inr h
  have hS : va_S A s.heap s.heap [] := va_S.rf
  replace hP : va_P G.1 vwCl [(a_r, (oc4 a_tk a_rh a_rs a_rc e_ln e_pa e_at e_fp)), (a_tk, (oc8 a_kd a_nm a_pl)), (a_kd, (arI G 401 f_kd)), (a_nm, (arI G 401 f_nm)), (a_rc, (arI G 400 f_rc)), (a_rh, (arI G 12 f_rh)), (a_rs, (arI G 13 f_rs))] s.heap := hP
  have hl := lv_entry ([.ref a_r, .int p_c]) (n := 3) (Nat.le_of_ble_eq_true rfl)
  rw [lg_entry_eq]
  generalize (lg_sl ([.ref a_r, .int p_c]) ++ List.replicate (3 - (lg_sl ([.ref a_r, .int p_c])).length) Slot.unset).toArray = ls at hl ⊢
  replace hl : lv_has ls 3 [(0, .ref a_r), (1, .int p_c)] := hl
  have hT4 : (g_T : Int) ≤ 400 := by have z9 := e_kr.2.2.2; omega
  have hK0 : (f_kd e_at.toNatClampNeg).toInt = KDT g_x g_n e_at.toInt.toNat := tkr_at e_kr (by omega) (by omega)
  refine lv_aload_n hx hb dX4_readClause_0 rfl (lv_at hl 0 rfl) ?_
  refine va_get (D := G.1) (ci := 4) (v := .ref a_tk) (C := RX4) (T := TX4) (N := 8) hx hb hts inG_X4 hown hK hP 0 rfl rfl 0 (by decide +kernel) (hts _ fl_X4_12) (fun _ h9 => h9) rfl dX4_readClause_1 ?_
  refine lv_aload_n hx hb dX4_readClause_4 rfl (lv_at hl 0 rfl) ?_
  refine va_get (D := G.1) (ci := 4) (v := .int e_at) (C := RX4) (T := TX4) (N := 8) hx hb hts inG_X4 hown hK hP 0 rfl rfl 6 (by decide +kernel) (hts _ fl_X4_42) (fun _ h9 => h9) rfl dX4_readClause_5 ?_
  refine W.eq (g2 := F0 m 8 ls [.int e_at, .ref a_tk]) rfl ?_
  obtain ⟨hPc, hDc, hFc⟩ := g5_sub3 (wc := [(a_tk, (oc8 a_kd a_nm a_pl)), (a_kd, (arI G 401 f_kd))]) hP hD hS hA [1, 2] (by decide +kernel) rfl
  refine va_calli (va_runV (As := [.int e_at]) (rest := []) ⟨hx, hb, hml, hown, hts⟩ (k_kindAtX l G a_tk a_kd a_nm a_pl s.heap.size e_at f_kd ⟨by omega, by omega⟩) (cwV 1 hts gV_X4_69 rfl rfl rfl hv_X8_kindAt ⟨Nat.le_of_ble_eq_true rfl, Nat.le_of_ble_eq_true rfl⟩) (g5_preV hPc hK hDc hN hT hS hFc (ci := 8) (q0 := 0) rfl rfl) rfl rfl hl.1 rfl (lv_room (Nat.le_of_ble_eq_true rfl)) dX4_readClause_8 ⟨Nat.le_of_ble_eq_true rfl, Nat.le_of_ble_eq_true rfl⟩) hS (fun q _ h => hFc q h) hFc (fun r u t H locs ht hvm hw hB hz1 hk1 hS => ?_)
  obtain ⟨hP1, hD1⟩ := hB
  have hP1 := g5_ht ht hP1
  obtain ⟨z2, (i_1 : z2 = f_kd e_at.toNatClampNeg), y3, rfl⟩ := hw
  have hJ9 := va_join (wr := [(a_r, (oc4 a_tk a_rh a_rs a_rc e_ln e_pa e_at e_fp)), (a_nm, (arI G 401 f_nm)), (a_rc, (arI G 400 f_rc)), (a_rh, (arI G 12 f_rh)), (a_rs, (arI G 13 f_rs))]) hP hD [1, 2] [0, 3, 4, 5, 6] rfl rfl (by decide +kernel) (by decide +kernel) hk1 hFc hP1 hD1
  clear hP hD hPc hDc hFc ht hvm hz1 hk1 hP1 hD1
  obtain ⟨hP, hD⟩ := hJ9
  refine g5_rs [(a_r, (oc4 a_tk a_rh a_rs a_rc e_ln e_pa e_at e_fp)), (a_nm, (arI G 401 f_nm)), (a_rc, (arI G 400 f_rc)), (a_rh, (arI G 12 f_rh)), (a_rs, (arI G 13 f_rs)), (a_tk, (oc8 a_kd a_nm a_pl)), (a_kd, (arI G 401 f_kd))] hP hD ?_
  clear hP hD
  intro hP hD
  refine g5_ti (v := z2) y3 ?_
  have hz9 : 0 ≤ z2.toInt ∧ z2.toInt ≤ 302 := by rw [i_1]; exact tkr_rg e_by e_kr (by omega) (by omega)
  have hk9 : KDT g_x g_n e_at.toInt.toNat = z2.toInt := by rw [i_1]; exact hK0.symm
  refine lv_sipush (v := 256) hx hb dX4_readClause_11 (by decide +kernel) ?_
  refine lv_isub hx hb dX4_readClause_14 ?_
  have t_4 : (z2 - 256).toInt = z2.toInt - 256 := g5_isub (a := z2.toInt) (b := 256) (by rfl) (by decide +kernel) (by omega) (by omega)
  refine lv_istore_n (lv' := [(2, .int (z2 - 256)), (0, .ref a_r), (1, .int p_c)]) hx hb dX4_readClause_15 rfl hl (by decide +kernel) rfl ?_
  clear hl
  intro ls hl
  refine lv_iload_n hx hb dX4_readClause_16 rfl (lv_at hl 0 rfl) ?_
  refine W.eq (g2 := F0 m 17 ls [.int (z2 - 256)]) rfl ?_
  refine lv_if_lt (tgt := 25) hx hb dX4_readClause_17 (by decide +kernel) (fun c_5 => ?_) (fun c_5 => ?_)
  ·
    have i_5 : (z2.toInt - 256) < 0 := by have z := g5_lt (a := (z2 - 256).toInt) (b := 0) (by rfl) (by decide +kernel) c_5; omega
    refine lv_iconst (v := 0) hx hb dX4_readClause_25 (by decide +kernel) ?_
    exact W.zret (v := 0) hx hb hr rfl (fun t ht hW => ⟨⟨0, [(a_r, (oc4 a_tk a_rh a_rs a_rc e_ln e_pa e_at e_fp)), (a_tk, (oc8 a_kd a_nm a_pl)), (a_kd, (arI G 401 f_kd)), (a_nm, (arI G 401 f_nm)), (a_rc, (arI G 400 f_rc)), (a_rh, (arI G 12 f_rh)), (a_rs, (arI G 13 f_rs))], rfl, Or.inr (⟨e_ln, e_pa, e_at, f_rc, f_rh, f_rs, ⟨by omega, by omega⟩, h_e_at, h_e_pa, e_cd, ⟨_, cl_no (by omega)⟩, by omega, rfl, rfl⟩), by rw [ht]; exact hP.sub [0, 5, 6, 1, 2, 3, 4] rfl, hD.sub [0, 5, 6, 1, 2, 3, 4] (by decide +kernel) rfl⟩, hS.F ht⟩) hS.2.2 dX4_readClause_26
  ·
    have i_5 : (z2.toInt - 256) ≥ 0 := by have z := g5_ltN (a := (z2 - 256).toInt) (b := 0) (by rfl) (by decide +kernel) c_5; omega
    refine lv_iload_n hx hb dX4_readClause_20 rfl (lv_at hl 0 rfl) ?_
    refine lv_iconst (v := 4) hx hb dX4_readClause_21 (by decide +kernel) ?_
    refine lv_icmp_lt (tgt := 27) hx hb dX4_readClause_22 (by decide +kernel) (fun c_6 => ?_) (fun c_6 => ?_)
    ·
      have i_6 : (z2.toInt - 256) < 4 := by have z := g5_lt (a := (z2 - 256).toInt) (b := 4) (by rfl) (by decide +kernel) c_6; omega
      have hL9 : e_at.toInt < (g_T : Int) := by have q9 := (tkr_lt (i := e_at.toInt.toNat) e_kr (by omega) (by omega)).1; omega
      refine lv_aload_n hx hb dX4_readClause_27 rfl (lv_at hl 1 rfl) ?_
      refine lv_dup hx hb dX4_readClause_28 rfl ?_
      refine va_get (D := G.1) (ci := 4) (v := .int e_at) (C := RX4) (T := TX4) (N := 8) hx hb hts inG_X4 hown hK hP 0 rfl rfl 6 (by decide +kernel) (hts _ fl_X4_42) (fun _ h9 => h9) rfl dX4_readClause_29 ?_
      refine lv_iconst (v := 1) hx hb dX4_readClause_32 (by decide +kernel) ?_
      refine W.eq (g2 := F0 m 33 ls [.int 1, .int e_at, .ref a_r]) rfl ?_
      refine lv_iadd hx hb dX4_readClause_33 ?_
      have t_7 : (e_at + 1).toInt = e_at.toInt + 1 := g5_iadd (a := e_at.toInt) (b := 1) (by rfl) (by decide +kernel) (by omega) (by omega)
      refine va_put (D := G.1) (ci := 4) (v := .int (e_at + 1)) (ty := .int) (C := RX4) (T := TX4) (N := 8) hx hb hts inG_X4 tyX4 tyX4_ok nmX4 hown hK hP hD hS 0 rfl rfl 6 (by decide +kernel) (hts _ fl_X4_42) (fun _ h9 => h9) rfl (by decide +kernel) rfl rfl (Nat.le_of_ble_eq_true rfl) dX4_readClause_34 ?_
      clear hP hD hS
      intro H locs hP hD hS
      refine g5_rs [(a_r, (oc4 a_tk a_rh a_rs a_rc e_ln e_pa (e_at + 1) e_fp)), (a_nm, (arI G 401 f_nm)), (a_rc, (arI G 400 f_rc)), (a_rh, (arI G 12 f_rh)), (a_rs, (arI G 13 f_rs)), (a_tk, (oc8 a_kd a_nm a_pl)), (a_kd, (arI G 401 f_kd))] hP hD ?_
      clear hP hD
      intro hP hD
      refine lv_aload_n hx hb dX4_readClause_37 rfl (lv_at hl 1 rfl) ?_
      refine va_get (D := G.1) (ci := 4) (v := .ref a_rh) (C := RX4) (T := TX4) (N := 8) hx hb hts inG_X4 hown hK hP 0 rfl rfl 1 (by decide +kernel) (hts _ fl_X4_18) (fun _ h9 => h9) rfl dX4_readClause_38 ?_
      refine lv_iload_n hx hb dX4_readClause_41 rfl (lv_at hl 2 rfl) ?_
      refine W.eq (g2 := F0 m 42 ls [.int p_c, .ref a_rh]) rfl ?_
      refine lv_iload_n hx hb dX4_readClause_42 rfl (lv_at hl 0 rfl) ?_
      refine va_iast hx hb hK hP hD hS 3 0 rfl rfl (i := p_c) (x := (z2 - 256)) (vp_in_iff.mpr ⟨by omega, by omega⟩) dX4_readClause_43 ?_
      clear hP hD hS
      intro H locs hP hD hS
      refine g5_rs [(a_r, (oc4 a_tk a_rh a_rs a_rc e_ln e_pa (e_at + 1) e_fp)), (a_nm, (arI G 401 f_nm)), (a_rc, (arI G 400 f_rc)), (a_rh, (arI G 12 (upd f_rh p_c.toNatClampNeg (z2 - 256)))), (a_rs, (arI G 13 f_rs)), (a_tk, (oc8 a_kd a_nm a_pl)), (a_kd, (arI G 401 f_kd))] hP hD ?_
      clear hP hD
      intro hP hD
      refine lv_aload_n hx hb dX4_readClause_44 rfl (lv_at hl 1 rfl) ?_
      refine va_get (D := G.1) (ci := 4) (v := .ref a_rs) (C := RX4) (T := TX4) (N := 8) hx hb hts inG_X4 hown hK hP 0 rfl rfl 2 (by decide +kernel) (hts _ fl_X4_22) (fun _ h9 => h9) rfl dX4_readClause_45 ?_
      refine lv_iload_n hx hb dX4_readClause_48 rfl (lv_at hl 2 rfl) ?_
      refine W.eq (g2 := F0 m 49 ls [.int p_c, .ref a_rs]) rfl ?_
      refine lv_aload_n hx hb dX4_readClause_49 rfl (lv_at hl 1 rfl) ?_
      refine va_get (D := G.1) (ci := 4) (v := .int e_ln) (C := RX4) (T := TX4) (N := 8) hx hb hts inG_X4 hown hK hP 0 rfl rfl 4 (by decide +kernel) (hts _ fl_X4_36) (fun _ h9 => h9) rfl dX4_readClause_50 ?_
      refine va_iast hx hb hK hP hD hS 4 0 rfl rfl (i := p_c) (x := e_ln) (vp_in_iff.mpr ⟨by omega, by omega⟩) dX4_readClause_53 ?_
      clear hP hD hS
      intro H locs hP hD hS
      refine g5_rs [(a_r, (oc4 a_tk a_rh a_rs a_rc e_ln e_pa (e_at + 1) e_fp)), (a_nm, (arI G 401 f_nm)), (a_rc, (arI G 400 f_rc)), (a_rh, (arI G 12 (upd f_rh p_c.toNatClampNeg (z2 - 256)))), (a_rs, (arI G 13 (upd f_rs p_c.toNatClampNeg e_ln))), (a_tk, (oc8 a_kd a_nm a_pl)), (a_kd, (arI G 401 f_kd))] hP hD ?_
      clear hP hD
      intro hP hD
      refine lv_iload_n hx hb dX4_readClause_54 rfl (lv_at hl 0 rfl) ?_
      refine lv_if_eq (tgt := 63) hx hb dX4_readClause_55 (by decide +kernel) (fun c_8 => ?_) (fun c_8 => ?_)
      ·
        have i_8 : (z2.toInt - 256) = 0 := by have z := g5_eq (a := (z2 - 256).toInt) (b := 0) (by rfl) (by decide +kernel) c_8; omega
        refine lv_aload_n hx hb dX4_readClause_63 rfl (lv_at hl 1 rfl) ?_
        refine lv_iconst (v := 0) hx hb dX4_readClause_64 (by decide +kernel) ?_
        obtain ⟨hPc, hDc, hFc⟩ := g5_sub3 (wc := [(a_r, (oc4 a_tk a_rh a_rs a_rc e_ln e_pa (e_at + 1) e_fp)), (a_tk, (oc8 a_kd a_nm a_pl)), (a_kd, (arI G 401 f_kd)), (a_nm, (arI G 401 f_nm)), (a_rc, (arI G 400 f_rc))]) hP hD hS hA [0, 5, 6, 1, 2] (by decide +kernel) rfl
        refine va_calli (va_runV (As := [.int 0]) (rest := []) ⟨hx, hb, hml, hown, hts⟩ (r_sumX0 l G a_r a_tk a_kd a_nm a_rc a_rh a_rs a_pl H.size e_ln e_pa (e_at + 1) e_fp f_kd f_nm f_rc g_x g_n g_T h_e_ln h_e_pa ⟨by omega, by omega⟩ (e_tk) (e_cd) (e_by) (e_kr) (by omega) (by omega) (e_lv)) (cwV 1 hts gV_X4_73 rfl rfl rfl hv_X4_readSum ⟨Nat.le_of_ble_eq_true rfl, Nat.le_of_ble_eq_true rfl⟩) (g5_preV hPc hK hDc hN hT hS hFc (ci := 4) (q0 := 0) rfl rfl) rfl rfl hl.1 rfl (lv_room (Nat.le_of_ble_eq_true rfl)) dX4_readClause_65 ⟨Nat.le_of_ble_eq_true rfl, Nat.le_of_ble_eq_true rfl⟩) hS (fun q _ h => hFc q h) hFc (fun r u t H locs ht hvm hw hB hz1 hk1 hS => ?_)
        obtain ⟨hP1, hD1⟩ := hB
        have hP1 := g5_ht ht hP1
        rcases hw with ⟨z16, z17, z18, z19, (i_9 : e_ln.toInt ≤ z16.toInt ∧ z16.toInt ≤ 400), (i_10 : 0 ≤ z18.toInt ∧ z18.toInt ≤ 401), (i_11 : 0 ≤ z17.toInt ∧ z17.toInt ≤ 50), (i_12 : CDI z19 z16.toInt), (i_13 : OPK f_rc z19 e_ln.toInt), (i_14 : ∃ d : DS, (smF (KDT g_x g_n) (NMT g_x g_n) (0 : Int32)) (e_at + 1).toInt.toNat e_pa.toInt.toNat = (z18.toInt.toNat, z17.toInt.toNat, some d) ∧ KCC f_rc z19 e_ln.toInt ∧ MCC z19 e_ln.toInt.toNat z16.toInt.toNat d ∧ lvC z19 z16.toInt.toNat = z17.toInt.toNat), (i_15 : z18.toInt ≤ (g_T : Int) ∧ (e_at + 1).toInt < z18.toInt ∧ z16.toInt + (e_at + 1).toInt ≤ e_ln.toInt + z18.toInt), rfl, rfl⟩ | ⟨z27, z28, z29, z30, (i_20 : e_ln.toInt ≤ z27.toInt ∧ z27.toInt ≤ 400), (i_21 : 0 ≤ z29.toInt ∧ z29.toInt ≤ 401), (i_22 : 0 ≤ z28.toInt ∧ z28.toInt ≤ 50), (i_23 : CDI z30 z27.toInt), (i_24 : OPK f_rc z30 e_ln.toInt), (i_25 : ∃ q : Nat, (smF (KDT g_x g_n) (NMT g_x g_n) (0 : Int32)) (e_at + 1).toInt.toNat e_pa.toInt.toNat = (z29.toInt.toNat, q, none)), (i_26 : z29.toInt ≤ (g_T : Int)), rfl, rfl⟩
        ·
          have hJ9 := va_join (wr := [(a_rh, (arI G 12 (upd f_rh p_c.toNatClampNeg (z2 - 256)))), (a_rs, (arI G 13 (upd f_rs p_c.toNatClampNeg e_ln)))]) hP hD [0, 5, 6, 1, 2] [3, 4] rfl rfl (by decide +kernel) (by decide +kernel) hk1 hFc hP1 hD1
          clear hP hD hPc hDc hFc ht hvm hz1 hk1 hP1 hD1
          obtain ⟨hP, hD⟩ := hJ9
          refine g5_rs [(a_rh, (arI G 12 (upd f_rh p_c.toNatClampNeg (z2 - 256)))), (a_rs, (arI G 13 (upd f_rs p_c.toNatClampNeg e_ln))), (a_r, (oc4 a_tk a_rh a_rs a_rc z16 z17 z18 e_fp)), (a_tk, (oc8 a_kd a_nm a_pl)), (a_kd, (arI G 401 f_kd)), (a_nm, (arI G 401 f_nm)), (a_rc, (arI G 400 z19))] hP hD ?_
          clear hP hD
          intro hP hD
          obtain ⟨dd31, hd31, hc31, hm31, hv31⟩ := i_14
          have hK_32 : (f_kd z18.toNatClampNeg).toInt = KDT g_x g_n z18.toInt.toNat := tkr_at e_kr (by omega) (by omega)
          refine lv_if_ne (tgt := 73) hx hb dX4_readClause_68 (by decide +kernel) (fun c_33 => ?_) (fun c_33 => ?_)
          ·
            have hH9 := hdr_s (a := e_at) (a' := (e_at + 1)) ⟨by omega, by omega⟩ (by omega) (by omega) hd31
            have hCL : CLC z19 e_ln.toInt.toNat z16.toInt.toNat (KDT g_x g_n e_at.toInt.toNat - 256, some dd31, none) := clc_s (by omega) hm31
            have hK_34 : (f_kd z18.toNatClampNeg).toInt = KDT g_x g_n z18.toInt.toNat := tkr_at e_kr (by omega) (by omega)
            refine lv_aload_n hx hb dX4_readClause_73 rfl (lv_at hl 1 rfl) ?_
            refine lv_sipush (v := 260) hx hb dX4_readClause_74 (by decide +kernel) ?_
            obtain ⟨hPc, hDc, hFc⟩ := g5_sub3 (wc := [(a_r, (oc4 a_tk a_rh a_rs a_rc z16 z17 z18 e_fp)), (a_tk, (oc8 a_kd a_nm a_pl)), (a_kd, (arI G 401 f_kd))]) hP hD hS hA [2, 3, 4] (by decide +kernel) rfl
            refine va_calli (va_runV (As := [.int 260]) (rest := []) ⟨hx, hb, hml, hown, hts⟩ (r_passedX260 l G a_r a_tk a_kd a_rh a_rs a_rc a_nm a_pl H.size z16 z17 z18 e_fp f_kd ⟨by omega, by omega⟩ i_11 i_10 (by omega)) (cwV 1 hts gV_X4_63 rfl rfl rfl hv_X4_passed ⟨Nat.le_of_ble_eq_true rfl, Nat.le_of_ble_eq_true rfl⟩) (g5_preV hPc hK hDc hN hT hS hFc (ci := 4) (q0 := 0) rfl rfl) rfl rfl hl.1 rfl (lv_room (Nat.le_of_ble_eq_true rfl)) dX4_readClause_77 ⟨Nat.le_of_ble_eq_true rfl, Nat.le_of_ble_eq_true rfl⟩) hS (fun q _ h => hFc q h) hFc (fun r u t H locs ht hvm hw hB hz1 hk1 hS => ?_)
            obtain ⟨hP1, hD1⟩ := hB
            have hP1 := g5_ht ht hP1
            rcases hw with ⟨z38, (i_35 : 0 ≤ z38.toInt ∧ z38.toInt ≤ 401), (i_36 : z38.toInt = z18.toInt + 1), (i_37 : (f_kd z18.toNatClampNeg).toInt = 260), rfl, rfl⟩ | ⟨z42, (i_39 : 0 ≤ z42.toInt ∧ z42.toInt ≤ 401), (i_40 : z42.toInt = z18.toInt), (i_41 : gNe (f_kd z18.toNatClampNeg).toInt 260), rfl, rfl⟩
            ·
              have hJ9 := va_join (wr := [(a_rh, (arI G 12 (upd f_rh p_c.toNatClampNeg (z2 - 256)))), (a_rs, (arI G 13 (upd f_rs p_c.toNatClampNeg e_ln))), (a_nm, (arI G 401 f_nm)), (a_rc, (arI G 400 z19))]) hP hD [2, 3, 4] [0, 1, 5, 6] rfl rfl (by decide +kernel) (by decide +kernel) hk1 hFc hP1 hD1
              clear hP hD hPc hDc hFc ht hvm hz1 hk1 hP1 hD1
              obtain ⟨hP, hD⟩ := hJ9
              refine g5_rs [(a_rh, (arI G 12 (upd f_rh p_c.toNatClampNeg (z2 - 256)))), (a_rs, (arI G 13 (upd f_rs p_c.toNatClampNeg e_ln))), (a_nm, (arI G 401 f_nm)), (a_rc, (arI G 400 z19)), (a_r, (oc4 a_tk a_rh a_rs a_rc z16 z17 z38 e_fp)), (a_tk, (oc8 a_kd a_nm a_pl)), (a_kd, (arI G 401 f_kd))] hP hD ?_
              clear hP hD
              intro hP hD
              have hL_43 : z18.toInt < (g_T : Int) := tkr_ltI e_kr (by omega) (by omega) i_37 (by decide +kernel)
              refine lv_if_ne (tgt := 85) hx hb dX4_readClause_80 (by decide +kernel) (fun c_44 => ?_) (fun c_44 => ?_)
              ·
                refine lv_aload_n hx hb dX4_readClause_85 rfl (lv_at hl 1 rfl) ?_
                refine lv_iconst (v := 0) hx hb dX4_readClause_86 (by decide +kernel) ?_
                obtain ⟨hPc, hDc, hFc⟩ := g5_sub3 (wc := [(a_r, (oc4 a_tk a_rh a_rs a_rc z16 z17 z38 e_fp)), (a_tk, (oc8 a_kd a_nm a_pl)), (a_kd, (arI G 401 f_kd)), (a_nm, (arI G 401 f_nm)), (a_rc, (arI G 400 z19))]) hP hD hS hA [4, 5, 6, 2, 3] (by decide +kernel) rfl
                refine va_calli (va_runV (As := [.int 0]) (rest := []) ⟨hx, hb, hml, hown, hts⟩ (r_testX0 l G a_r a_tk a_kd a_nm a_rc a_rh a_rs a_pl H.size z16 z17 z38 e_fp f_kd f_nm z19 g_x g_n g_T ⟨by omega, by omega⟩ i_11 i_35 (e_tk) (i_12) (e_by) (e_kr) (by omega) (by omega) (hv31)) (cwV 1 hts gV_X4_76 rfl rfl rfl hv_X4_readTest ⟨Nat.le_of_ble_eq_true rfl, Nat.le_of_ble_eq_true rfl⟩) (g5_preV hPc hK hDc hN hT hS hFc (ci := 4) (q0 := 0) rfl rfl) rfl rfl hl.1 rfl (lv_room (Nat.le_of_ble_eq_true rfl)) dX4_readClause_87 ⟨Nat.le_of_ble_eq_true rfl, Nat.le_of_ble_eq_true rfl⟩) hS (fun q _ h => hFc q h) hFc (fun r u t H locs ht hvm hw hB hz1 hk1 hS => ?_)
                obtain ⟨hP1, hD1⟩ := hB
                have hP1 := g5_ht ht hP1
                rcases hw with ⟨z52, z53, z54, z55, (i_45 : z16.toInt ≤ z52.toInt ∧ z52.toInt ≤ 400), (i_46 : 0 ≤ z54.toInt ∧ z54.toInt ≤ 401), (i_47 : 0 ≤ z53.toInt ∧ z53.toInt ≤ 50), (i_48 : CDI z55 z52.toInt), (i_49 : OPK z19 z55 z16.toInt), (i_50 : ∃ d : DS, (tsF (KDT g_x g_n) (NMT g_x g_n) (0 : Int32)) z38.toInt.toNat z17.toInt.toNat = (z54.toInt.toNat, z53.toInt.toNat, some d) ∧ is01 d ∧ KCC z19 z55 z16.toInt ∧ MCC z55 z16.toInt.toNat z52.toInt.toNat d ∧ lvC z55 z52.toInt.toNat = z53.toInt.toNat), (i_51 : z54.toInt ≤ (g_T : Int) ∧ z38.toInt < z54.toInt ∧ z52.toInt + z38.toInt ≤ z16.toInt + z54.toInt), rfl, rfl⟩ | ⟨z63, z64, z65, z66, (i_56 : z16.toInt ≤ z63.toInt ∧ z63.toInt ≤ 400), (i_57 : 0 ≤ z65.toInt ∧ z65.toInt ≤ 401), (i_58 : 0 ≤ z64.toInt ∧ z64.toInt ≤ 50), (i_59 : CDI z66 z63.toInt), (i_60 : OPK z19 z66 z16.toInt), (i_61 : ∃ q : Nat, (tsF (KDT g_x g_n) (NMT g_x g_n) (0 : Int32)) z38.toInt.toNat z17.toInt.toNat = (z65.toInt.toNat, q, none)), (i_62 : z65.toInt ≤ (g_T : Int)), rfl, rfl⟩
                ·
                  have hJ9 := va_join (wr := [(a_rh, (arI G 12 (upd f_rh p_c.toNatClampNeg (z2 - 256)))), (a_rs, (arI G 13 (upd f_rs p_c.toNatClampNeg e_ln)))]) hP hD [4, 5, 6, 2, 3] [0, 1] rfl rfl (by decide +kernel) (by decide +kernel) hk1 hFc hP1 hD1
                  clear hP hD hPc hDc hFc ht hvm hz1 hk1 hP1 hD1
                  obtain ⟨hP, hD⟩ := hJ9
                  refine g5_rs [(a_rh, (arI G 12 (upd f_rh p_c.toNatClampNeg (z2 - 256)))), (a_rs, (arI G 13 (upd f_rs p_c.toNatClampNeg e_ln))), (a_r, (oc4 a_tk a_rh a_rs a_rc z52 z53 z54 e_fp)), (a_tk, (oc8 a_kd a_nm a_pl)), (a_kd, (arI G 401 f_kd)), (a_nm, (arI G 401 f_nm)), (a_rc, (arI G 400 z55))] hP hD ?_
                  clear hP hD
                  intro hP hD
                  obtain ⟨dd67, hd67, hz67, hc67, hm67, hv67⟩ := i_50
                  have hK_68 : (f_kd z54.toNatClampNeg).toInt = KDT g_x g_n z54.toInt.toNat := tkr_at e_kr (by omega) (by omega)
                  refine lv_if_ne (tgt := 95) hx hb dX4_readClause_90 (by decide +kernel) (fun c_69 => ?_) (fun c_69 => ?_)
                  ·
                    refine lv_aload_n hx hb dX4_readClause_95 rfl (lv_at hl 1 rfl) ?_
                    refine lv_bipush (v := 10) hx hb dX4_readClause_96 (by decide +kernel) ?_
                    refine lv_iconst (v := 0) hx hb dX4_readClause_98 (by decide +kernel) ?_
                    obtain ⟨hPc, hDc, hFc⟩ := g5_sub3 (wc := [(a_r, (oc4 a_tk a_rh a_rs a_rc z52 z53 z54 e_fp)), (a_rc, (arI G 400 z55))]) hP hD hS hA [2, 6] (by decide +kernel) rfl
                    refine va_calli (va_runV (As := [.int 10, .int 0]) (rest := []) ⟨hx, hb, hml, hown, hts⟩ (r_emitX l G a_r a_rc a_tk a_rh a_rs H.size z52 z53 z54 e_fp 10 0 z55 ⟨by omega, by omega⟩ i_47 i_46 (i_48) (by unfold wOK; decide) (by omega)) (cwV 2 hts gV_X4_79 rfl rfl rfl hv_X4_emit ⟨Nat.le_of_ble_eq_true rfl, Nat.le_of_ble_eq_true rfl⟩) (g5_preV hPc hK hDc hN hT hS hFc (ci := 4) (q0 := 0) rfl rfl) rfl rfl hl.1 rfl (lv_room (Nat.le_of_ble_eq_true rfl)) dX4_readClause_99 ⟨Nat.le_of_ble_eq_true rfl, Nat.le_of_ble_eq_true rfl⟩) hS (fun q _ h => hFc q h) hFc (fun r u t H locs ht hvm hw hB hz1 hk1 hS => ?_)
                    obtain ⟨hP1, hD1⟩ := hB
                    have hP1 := g5_ht ht hP1
                    obtain ⟨z78, z79, z80, (i_70 : 0 ≤ z78.toInt ∧ z78.toInt ≤ 399), (i_71 : z78.toInt = z52.toInt), (i_72 : z79.toInt = z52.toInt + 1), (i_73 : z52.toInt ≤ z79.toInt ∧ z79.toInt ≤ 400), (i_74 : CDI z80 z79.toInt), (i_75 : OPK z55 z80 z52.toInt), (i_76 : 0 ≤ z78.toInt → z78.toInt < z79.toInt ∧ z80 z78.toNatClampNeg = (((10 : Int32) <<< (12 &&& 31)) ||| (0 : Int32))), (i_77 : z80 = upd z55 z52.toNatClampNeg (((10 : Int32) <<< (12 &&& 31)) ||| (0 : Int32))), y81, rfl⟩ := hw
                    have hJ9 := va_join (wr := [(a_rh, (arI G 12 (upd f_rh p_c.toNatClampNeg (z2 - 256)))), (a_rs, (arI G 13 (upd f_rs p_c.toNatClampNeg e_ln))), (a_tk, (oc8 a_kd a_nm a_pl)), (a_kd, (arI G 401 f_kd)), (a_nm, (arI G 401 f_nm))]) hP hD [2, 6] [0, 1, 3, 4, 5] rfl rfl (by decide +kernel) (by decide +kernel) hk1 hFc hP1 hD1
                    clear hP hD hPc hDc hFc ht hvm hz1 hk1 hP1 hD1
                    obtain ⟨hP, hD⟩ := hJ9
                    refine g5_rs [(a_rh, (arI G 12 (upd f_rh p_c.toNatClampNeg (z2 - 256)))), (a_rs, (arI G 13 (upd f_rs p_c.toNatClampNeg e_ln))), (a_tk, (oc8 a_kd a_nm a_pl)), (a_kd, (arI G 401 f_kd)), (a_nm, (arI G 401 f_nm)), (a_r, (oc4 a_tk a_rh a_rs a_rc z79 z53 z54 e_fp)), (a_rc, (arI G 400 z80))] hP hD ?_
                    clear hP hD
                    intro hP hD
                    refine g5_ti (v := z78) y81 ?_
                    have hE_82 : lvC z80 z79.toInt.toNat = z53.toInt.toNat := by rw [i_77, lvC_em0 (by omega) (by omega) (opT_20 (by decide +kernel) (by decide +kernel))]; exact hv67
                    refine W.eq (g2 := F0 m 102 ls [.int z78]) rfl ?_
                    refine lv_pop hx hb dX4_readClause_102 rfl ?_
                    refine lv_iconst (v := 1) hx hb dX4_readClause_103 (by decide +kernel) ?_
                    exact W.zret (v := 1) hx hb hr rfl (fun t ht hW => ⟨⟨1, [(a_r, (oc4 a_tk a_rh a_rs a_rc z79 z53 z54 e_fp)), (a_tk, (oc8 a_kd a_nm a_pl)), (a_kd, (arI G 401 f_kd)), (a_nm, (arI G 401 f_nm)), (a_rc, (arI G 400 z80)), (a_rh, (arI G 12 (upd f_rh p_c.toNatClampNeg (z2 - 256)))), (a_rs, (arI G 13 (upd f_rs p_c.toNatClampNeg e_ln)))], rfl, Or.inl (⟨z79, z53, z54, z80, (upd f_rh p_c.toNatClampNeg (z2 - 256)), (upd f_rs p_c.toNatClampNeg e_ln), ⟨by omega, by omega⟩, i_46, i_47, i_74, sti_set e_si (by omega) (by omega) (by omega), ⟨_, cl_1t hH9 (hK_34.symm.trans i_37) (by omega) (by omega) hd67, (by rw [i_77]; exact kcc_tr (kcc_tr hc31 hc67 (by omega)) (kcc_em (by omega)) (by omega)), (by show (upd f_rh p_c.toNatClampNeg _ p_c.toNatClampNeg).toInt = _; rw [upd_eq]; show _ = KDT g_x g_n e_at.toInt.toNat - 256; omega), (by show upd f_rs p_c.toNatClampNeg _ p_c.toNatClampNeg = _; rw [upd_eq]), clc_t hCL hc67 (by omega) hm67 hz67 (by omega) i_77 (by omega), hE_82⟩, fun j hj => ⟨upd_ne hj, upd_ne hj⟩, by omega, rfl, rfl⟩), by rw [ht]; exact hP.sub [5, 2, 3, 4, 6, 0, 1] rfl, hD.sub [5, 2, 3, 4, 6, 0, 1] (by decide +kernel) rfl⟩, hS.F ht⟩) hS.2.2 dX4_readClause_104
                  ·
                    exact absurd c_69 (by decide +kernel)
                ·
                  have hJ9 := va_join (wr := [(a_rh, (arI G 12 (upd f_rh p_c.toNatClampNeg (z2 - 256)))), (a_rs, (arI G 13 (upd f_rs p_c.toNatClampNeg e_ln)))]) hP hD [4, 5, 6, 2, 3] [0, 1] rfl rfl (by decide +kernel) (by decide +kernel) hk1 hFc hP1 hD1
                  clear hP hD hPc hDc hFc ht hvm hz1 hk1 hP1 hD1
                  obtain ⟨hP, hD⟩ := hJ9
                  refine g5_rs [(a_rh, (arI G 12 (upd f_rh p_c.toNatClampNeg (z2 - 256)))), (a_rs, (arI G 13 (upd f_rs p_c.toNatClampNeg e_ln))), (a_r, (oc4 a_tk a_rh a_rs a_rc z63 z64 z65 e_fp)), (a_tk, (oc8 a_kd a_nm a_pl)), (a_kd, (arI G 401 f_kd)), (a_nm, (arI G 401 f_nm)), (a_rc, (arI G 400 z66))] hP hD ?_
                  clear hP hD
                  intro hP hD
                  obtain ⟨qq83, hq83⟩ := i_61
                  refine lv_if_ne (tgt := 95) hx hb dX4_readClause_90 (by decide +kernel) (fun c_84 => ?_) (fun c_84 => ?_)
                  ·
                    exact absurd c_84 (by decide +kernel)
                  ·
                    refine lv_iconst (v := 0) hx hb dX4_readClause_93 (by decide +kernel) ?_
                    exact W.zret (v := 0) hx hb hr rfl (fun t ht hW => ⟨⟨0, [(a_r, (oc4 a_tk a_rh a_rs a_rc z63 z64 z65 e_fp)), (a_tk, (oc8 a_kd a_nm a_pl)), (a_kd, (arI G 401 f_kd)), (a_nm, (arI G 401 f_nm)), (a_rc, (arI G 400 z66)), (a_rh, (arI G 12 (upd f_rh p_c.toNatClampNeg (z2 - 256)))), (a_rs, (arI G 13 (upd f_rs p_c.toNatClampNeg e_ln)))], rfl, Or.inr (⟨z63, z64, z65, z66, (upd f_rh p_c.toNatClampNeg (z2 - 256)), (upd f_rs p_c.toNatClampNeg e_ln), ⟨by omega, by omega⟩, i_57, i_58, i_59, ⟨qq83, cl_t0 hH9 (hK_34.symm.trans i_37) (by omega) (by omega) hq83⟩, by omega, rfl, rfl⟩), by rw [ht]; exact hP.sub [2, 3, 4, 5, 6, 0, 1] rfl, hD.sub [2, 3, 4, 5, 6, 0, 1] (by decide +kernel) rfl⟩, hS.F ht⟩) hS.2.2 dX4_readClause_94
              ·
                exact absurd c_44 (by decide +kernel)
            ·
              have hJ9 := va_join (wr := [(a_rh, (arI G 12 (upd f_rh p_c.toNatClampNeg (z2 - 256)))), (a_rs, (arI G 13 (upd f_rs p_c.toNatClampNeg e_ln))), (a_nm, (arI G 401 f_nm)), (a_rc, (arI G 400 z19))]) hP hD [2, 3, 4] [0, 1, 5, 6] rfl rfl (by decide +kernel) (by decide +kernel) hk1 hFc hP1 hD1
              clear hP hD hPc hDc hFc ht hvm hz1 hk1 hP1 hD1
              obtain ⟨hP, hD⟩ := hJ9
              refine g5_rs [(a_rh, (arI G 12 (upd f_rh p_c.toNatClampNeg (z2 - 256)))), (a_rs, (arI G 13 (upd f_rs p_c.toNatClampNeg e_ln))), (a_nm, (arI G 401 f_nm)), (a_rc, (arI G 400 z19)), (a_r, (oc4 a_tk a_rh a_rs a_rc z16 z17 z42 e_fp)), (a_tk, (oc8 a_kd a_nm a_pl)), (a_kd, (arI G 401 f_kd))] hP hD ?_
              clear hP hD
              intro hP hD
              refine lv_if_ne (tgt := 85) hx hb dX4_readClause_80 (by decide +kernel) (fun c_85 => ?_) (fun c_85 => ?_)
              ·
                exact absurd c_85 (by decide +kernel)
              ·
                refine lv_iconst (v := 1) hx hb dX4_readClause_83 (by decide +kernel) ?_
                exact W.zret (v := 1) hx hb hr rfl (fun t ht hW => ⟨⟨1, [(a_r, (oc4 a_tk a_rh a_rs a_rc z16 z17 z42 e_fp)), (a_tk, (oc8 a_kd a_nm a_pl)), (a_kd, (arI G 401 f_kd)), (a_nm, (arI G 401 f_nm)), (a_rc, (arI G 400 z19)), (a_rh, (arI G 12 (upd f_rh p_c.toNatClampNeg (z2 - 256)))), (a_rs, (arI G 13 (upd f_rs p_c.toNatClampNeg e_ln)))], rfl, Or.inl (⟨z16, z17, z42, z19, (upd f_rh p_c.toNatClampNeg (z2 - 256)), (upd f_rs p_c.toNatClampNeg e_ln), ⟨by omega, by omega⟩, i_39, i_11, i_12, sti_set e_si (by omega) (by omega) (by omega), ⟨_, cl_1n hH9 (fun q9 => i_41 (hK_34.trans q9)) (by omega), hc31, (by show (upd f_rh p_c.toNatClampNeg _ p_c.toNatClampNeg).toInt = _; rw [upd_eq]; show _ = KDT g_x g_n e_at.toInt.toNat - 256; omega), (by show upd f_rs p_c.toNatClampNeg _ p_c.toNatClampNeg = _; rw [upd_eq]), hCL, hv31⟩, fun j hj => ⟨upd_ne hj, upd_ne hj⟩, by omega, rfl, rfl⟩), by rw [ht]; exact hP.sub [4, 5, 6, 2, 3, 0, 1] rfl, hD.sub [4, 5, 6, 2, 3, 0, 1] (by decide +kernel) rfl⟩, hS.F ht⟩) hS.2.2 dX4_readClause_84
          ·
            exact absurd c_33 (by decide +kernel)
        ·
          have hJ9 := va_join (wr := [(a_rh, (arI G 12 (upd f_rh p_c.toNatClampNeg (z2 - 256)))), (a_rs, (arI G 13 (upd f_rs p_c.toNatClampNeg e_ln)))]) hP hD [0, 5, 6, 1, 2] [3, 4] rfl rfl (by decide +kernel) (by decide +kernel) hk1 hFc hP1 hD1
          clear hP hD hPc hDc hFc ht hvm hz1 hk1 hP1 hD1
          obtain ⟨hP, hD⟩ := hJ9
          refine g5_rs [(a_rh, (arI G 12 (upd f_rh p_c.toNatClampNeg (z2 - 256)))), (a_rs, (arI G 13 (upd f_rs p_c.toNatClampNeg e_ln))), (a_r, (oc4 a_tk a_rh a_rs a_rc z27 z28 z29 e_fp)), (a_tk, (oc8 a_kd a_nm a_pl)), (a_kd, (arI G 401 f_kd)), (a_nm, (arI G 401 f_nm)), (a_rc, (arI G 400 z30))] hP hD ?_
          clear hP hD
          intro hP hD
          obtain ⟨qq86, hq86⟩ := i_25
          refine lv_if_ne (tgt := 73) hx hb dX4_readClause_68 (by decide +kernel) (fun c_87 => ?_) (fun c_87 => ?_)
          ·
            exact absurd c_87 (by decide +kernel)
          ·
            refine lv_iconst (v := 0) hx hb dX4_readClause_71 (by decide +kernel) ?_
            exact W.zret (v := 0) hx hb hr rfl (fun t ht hW => ⟨⟨0, [(a_r, (oc4 a_tk a_rh a_rs a_rc z27 z28 z29 e_fp)), (a_tk, (oc8 a_kd a_nm a_pl)), (a_kd, (arI G 401 f_kd)), (a_nm, (arI G 401 f_nm)), (a_rc, (arI G 400 z30)), (a_rh, (arI G 12 (upd f_rh p_c.toNatClampNeg (z2 - 256)))), (a_rs, (arI G 13 (upd f_rs p_c.toNatClampNeg e_ln)))], rfl, Or.inr (⟨z27, z28, z29, z30, (upd f_rh p_c.toNatClampNeg (z2 - 256)), (upd f_rs p_c.toNatClampNeg e_ln), ⟨by omega, by omega⟩, i_21, i_22, i_23, ⟨qq86, cl_s0 (a' := (e_at + 1)) ⟨by omega, by omega⟩ (by omega) (by omega) hq86⟩, by omega, rfl, rfl⟩), by rw [ht]; exact hP.sub [2, 3, 4, 5, 6, 0, 1] rfl, hD.sub [2, 3, 4, 5, 6, 0, 1] (by decide +kernel) rfl⟩, hS.F ht⟩) hS.2.2 dX4_readClause_72
      ·
        have n_8 : gNe ((z2.toInt - 256)) (0) := by have z := g5_eqN (a := (z2 - 256).toInt) (b := 0) (by rfl) (by decide +kernel) c_8; unfold gNe; omega
        have i_8 : (z2.toInt - 256) ≥ 1 := by have z := g5_eqN (a := (z2 - 256).toInt) (b := 0) (by rfl) (by decide +kernel) c_8; omega
        refine lv_iload_n hx hb dX4_readClause_58 rfl (lv_at hl 0 rfl) ?_
        refine lv_iconst (v := 1) hx hb dX4_readClause_59 (by decide +kernel) ?_
        refine lv_icmp_ne (tgt := 73) hx hb dX4_readClause_60 (by decide +kernel) (fun c_88 => ?_) (fun c_88 => ?_)
        ·
          have n_88 : gNe ((z2.toInt - 256)) (1) := by have z := g5_ne (a := (z2 - 256).toInt) (b := 1) (by rfl) (by decide +kernel) c_88; unfold gNe; omega
          have i_88 : (z2.toInt - 256) ≥ 2 := by have z := g5_ne (a := (z2 - 256).toInt) (b := 1) (by rfl) (by decide +kernel) c_88; omega
          have hH9 : HDR (KDT g_x g_n) (NMT g_x g_n) e_at (e_at + 1) e_pa.toInt.toNat e_pa.toInt.toNat none := hdr_n ⟨by omega, by omega⟩ (by omega) (by omega)
          have hCL : CLC f_rc e_ln.toInt.toNat e_ln.toInt.toNat (KDT g_x g_n e_at.toInt.toNat - 256, none, none) := clc_n (by omega)
          have hK_89 : (f_kd (e_at + 1).toNatClampNeg).toInt = KDT g_x g_n (e_at + 1).toInt.toNat := tkr_at e_kr (by omega) (by omega)
          refine lv_aload_n hx hb dX4_readClause_73 rfl (lv_at hl 1 rfl) ?_
          refine lv_sipush (v := 260) hx hb dX4_readClause_74 (by decide +kernel) ?_
          obtain ⟨hPc, hDc, hFc⟩ := g5_sub3 (wc := [(a_r, (oc4 a_tk a_rh a_rs a_rc e_ln e_pa (e_at + 1) e_fp)), (a_tk, (oc8 a_kd a_nm a_pl)), (a_kd, (arI G 401 f_kd))]) hP hD hS hA [0, 5, 6] (by decide +kernel) rfl
          refine va_calli (va_runV (As := [.int 260]) (rest := []) ⟨hx, hb, hml, hown, hts⟩ (r_passedX260 l G a_r a_tk a_kd a_rh a_rs a_rc a_nm a_pl H.size e_ln e_pa (e_at + 1) e_fp f_kd h_e_ln h_e_pa ⟨by omega, by omega⟩ (by omega)) (cwV 1 hts gV_X4_63 rfl rfl rfl hv_X4_passed ⟨Nat.le_of_ble_eq_true rfl, Nat.le_of_ble_eq_true rfl⟩) (g5_preV hPc hK hDc hN hT hS hFc (ci := 4) (q0 := 0) rfl rfl) rfl rfl hl.1 rfl (lv_room (Nat.le_of_ble_eq_true rfl)) dX4_readClause_77 ⟨Nat.le_of_ble_eq_true rfl, Nat.le_of_ble_eq_true rfl⟩) hS (fun q _ h => hFc q h) hFc (fun r u t H locs ht hvm hw hB hz1 hk1 hS => ?_)
          obtain ⟨hP1, hD1⟩ := hB
          have hP1 := g5_ht ht hP1
          rcases hw with ⟨z93, (i_90 : 0 ≤ z93.toInt ∧ z93.toInt ≤ 401), (i_91 : z93.toInt = (e_at + 1).toInt + 1), (i_92 : (f_kd (e_at + 1).toNatClampNeg).toInt = 260), rfl, rfl⟩ | ⟨z97, (i_94 : 0 ≤ z97.toInt ∧ z97.toInt ≤ 401), (i_95 : z97.toInt = (e_at + 1).toInt), (i_96 : gNe (f_kd (e_at + 1).toNatClampNeg).toInt 260), rfl, rfl⟩
          ·
            have hJ9 := va_join (wr := [(a_nm, (arI G 401 f_nm)), (a_rc, (arI G 400 f_rc)), (a_rh, (arI G 12 (upd f_rh p_c.toNatClampNeg (z2 - 256)))), (a_rs, (arI G 13 (upd f_rs p_c.toNatClampNeg e_ln)))]) hP hD [0, 5, 6] [1, 2, 3, 4] rfl rfl (by decide +kernel) (by decide +kernel) hk1 hFc hP1 hD1
            clear hP hD hPc hDc hFc ht hvm hz1 hk1 hP1 hD1
            obtain ⟨hP, hD⟩ := hJ9
            refine g5_rs [(a_nm, (arI G 401 f_nm)), (a_rc, (arI G 400 f_rc)), (a_rh, (arI G 12 (upd f_rh p_c.toNatClampNeg (z2 - 256)))), (a_rs, (arI G 13 (upd f_rs p_c.toNatClampNeg e_ln))), (a_r, (oc4 a_tk a_rh a_rs a_rc e_ln e_pa z93 e_fp)), (a_tk, (oc8 a_kd a_nm a_pl)), (a_kd, (arI G 401 f_kd))] hP hD ?_
            clear hP hD
            intro hP hD
            have hL_98 : (e_at + 1).toInt < (g_T : Int) := tkr_ltI e_kr (by omega) (by omega) i_92 (by decide +kernel)
            refine lv_if_ne (tgt := 85) hx hb dX4_readClause_80 (by decide +kernel) (fun c_99 => ?_) (fun c_99 => ?_)
            ·
              refine lv_aload_n hx hb dX4_readClause_85 rfl (lv_at hl 1 rfl) ?_
              refine lv_iconst (v := 0) hx hb dX4_readClause_86 (by decide +kernel) ?_
              obtain ⟨hPc, hDc, hFc⟩ := g5_sub3 (wc := [(a_r, (oc4 a_tk a_rh a_rs a_rc e_ln e_pa z93 e_fp)), (a_tk, (oc8 a_kd a_nm a_pl)), (a_kd, (arI G 401 f_kd)), (a_nm, (arI G 401 f_nm)), (a_rc, (arI G 400 f_rc))]) hP hD hS hA [4, 5, 6, 0, 1] (by decide +kernel) rfl
              refine va_calli (va_runV (As := [.int 0]) (rest := []) ⟨hx, hb, hml, hown, hts⟩ (r_testX0 l G a_r a_tk a_kd a_nm a_rc a_rh a_rs a_pl H.size e_ln e_pa z93 e_fp f_kd f_nm f_rc g_x g_n g_T h_e_ln h_e_pa i_90 (e_tk) (e_cd) (e_by) (e_kr) (by omega) (by omega) (e_lv)) (cwV 1 hts gV_X4_76 rfl rfl rfl hv_X4_readTest ⟨Nat.le_of_ble_eq_true rfl, Nat.le_of_ble_eq_true rfl⟩) (g5_preV hPc hK hDc hN hT hS hFc (ci := 4) (q0 := 0) rfl rfl) rfl rfl hl.1 rfl (lv_room (Nat.le_of_ble_eq_true rfl)) dX4_readClause_87 ⟨Nat.le_of_ble_eq_true rfl, Nat.le_of_ble_eq_true rfl⟩) hS (fun q _ h => hFc q h) hFc (fun r u t H locs ht hvm hw hB hz1 hk1 hS => ?_)
              obtain ⟨hP1, hD1⟩ := hB
              have hP1 := g5_ht ht hP1
              rcases hw with ⟨z107, z108, z109, z110, (i_100 : e_ln.toInt ≤ z107.toInt ∧ z107.toInt ≤ 400), (i_101 : 0 ≤ z109.toInt ∧ z109.toInt ≤ 401), (i_102 : 0 ≤ z108.toInt ∧ z108.toInt ≤ 50), (i_103 : CDI z110 z107.toInt), (i_104 : OPK f_rc z110 e_ln.toInt), (i_105 : ∃ d : DS, (tsF (KDT g_x g_n) (NMT g_x g_n) (0 : Int32)) z93.toInt.toNat e_pa.toInt.toNat = (z109.toInt.toNat, z108.toInt.toNat, some d) ∧ is01 d ∧ KCC f_rc z110 e_ln.toInt ∧ MCC z110 e_ln.toInt.toNat z107.toInt.toNat d ∧ lvC z110 z107.toInt.toNat = z108.toInt.toNat), (i_106 : z109.toInt ≤ (g_T : Int) ∧ z93.toInt < z109.toInt ∧ z107.toInt + z93.toInt ≤ e_ln.toInt + z109.toInt), rfl, rfl⟩ | ⟨z118, z119, z120, z121, (i_111 : e_ln.toInt ≤ z118.toInt ∧ z118.toInt ≤ 400), (i_112 : 0 ≤ z120.toInt ∧ z120.toInt ≤ 401), (i_113 : 0 ≤ z119.toInt ∧ z119.toInt ≤ 50), (i_114 : CDI z121 z118.toInt), (i_115 : OPK f_rc z121 e_ln.toInt), (i_116 : ∃ q : Nat, (tsF (KDT g_x g_n) (NMT g_x g_n) (0 : Int32)) z93.toInt.toNat e_pa.toInt.toNat = (z120.toInt.toNat, q, none)), (i_117 : z120.toInt ≤ (g_T : Int)), rfl, rfl⟩
              ·
                have hJ9 := va_join (wr := [(a_rh, (arI G 12 (upd f_rh p_c.toNatClampNeg (z2 - 256)))), (a_rs, (arI G 13 (upd f_rs p_c.toNatClampNeg e_ln)))]) hP hD [4, 5, 6, 0, 1] [2, 3] rfl rfl (by decide +kernel) (by decide +kernel) hk1 hFc hP1 hD1
                clear hP hD hPc hDc hFc ht hvm hz1 hk1 hP1 hD1
                obtain ⟨hP, hD⟩ := hJ9
                refine g5_rs [(a_rh, (arI G 12 (upd f_rh p_c.toNatClampNeg (z2 - 256)))), (a_rs, (arI G 13 (upd f_rs p_c.toNatClampNeg e_ln))), (a_r, (oc4 a_tk a_rh a_rs a_rc z107 z108 z109 e_fp)), (a_tk, (oc8 a_kd a_nm a_pl)), (a_kd, (arI G 401 f_kd)), (a_nm, (arI G 401 f_nm)), (a_rc, (arI G 400 z110))] hP hD ?_
                clear hP hD
                intro hP hD
                obtain ⟨dd122, hd122, hz122, hc122, hm122, hv122⟩ := i_105
                have hK_123 : (f_kd z109.toNatClampNeg).toInt = KDT g_x g_n z109.toInt.toNat := tkr_at e_kr (by omega) (by omega)
                refine lv_if_ne (tgt := 95) hx hb dX4_readClause_90 (by decide +kernel) (fun c_124 => ?_) (fun c_124 => ?_)
                ·
                  refine lv_aload_n hx hb dX4_readClause_95 rfl (lv_at hl 1 rfl) ?_
                  refine lv_bipush (v := 10) hx hb dX4_readClause_96 (by decide +kernel) ?_
                  refine lv_iconst (v := 0) hx hb dX4_readClause_98 (by decide +kernel) ?_
                  obtain ⟨hPc, hDc, hFc⟩ := g5_sub3 (wc := [(a_r, (oc4 a_tk a_rh a_rs a_rc z107 z108 z109 e_fp)), (a_rc, (arI G 400 z110))]) hP hD hS hA [2, 6] (by decide +kernel) rfl
                  refine va_calli (va_runV (As := [.int 10, .int 0]) (rest := []) ⟨hx, hb, hml, hown, hts⟩ (r_emitX l G a_r a_rc a_tk a_rh a_rs H.size z107 z108 z109 e_fp 10 0 z110 ⟨by omega, by omega⟩ i_102 i_101 (i_103) (by unfold wOK; decide) (by omega)) (cwV 2 hts gV_X4_79 rfl rfl rfl hv_X4_emit ⟨Nat.le_of_ble_eq_true rfl, Nat.le_of_ble_eq_true rfl⟩) (g5_preV hPc hK hDc hN hT hS hFc (ci := 4) (q0 := 0) rfl rfl) rfl rfl hl.1 rfl (lv_room (Nat.le_of_ble_eq_true rfl)) dX4_readClause_99 ⟨Nat.le_of_ble_eq_true rfl, Nat.le_of_ble_eq_true rfl⟩) hS (fun q _ h => hFc q h) hFc (fun r u t H locs ht hvm hw hB hz1 hk1 hS => ?_)
                  obtain ⟨hP1, hD1⟩ := hB
                  have hP1 := g5_ht ht hP1
                  obtain ⟨z133, z134, z135, (i_125 : 0 ≤ z133.toInt ∧ z133.toInt ≤ 399), (i_126 : z133.toInt = z107.toInt), (i_127 : z134.toInt = z107.toInt + 1), (i_128 : z107.toInt ≤ z134.toInt ∧ z134.toInt ≤ 400), (i_129 : CDI z135 z134.toInt), (i_130 : OPK z110 z135 z107.toInt), (i_131 : 0 ≤ z133.toInt → z133.toInt < z134.toInt ∧ z135 z133.toNatClampNeg = (((10 : Int32) <<< (12 &&& 31)) ||| (0 : Int32))), (i_132 : z135 = upd z110 z107.toNatClampNeg (((10 : Int32) <<< (12 &&& 31)) ||| (0 : Int32))), y136, rfl⟩ := hw
                  have hJ9 := va_join (wr := [(a_rh, (arI G 12 (upd f_rh p_c.toNatClampNeg (z2 - 256)))), (a_rs, (arI G 13 (upd f_rs p_c.toNatClampNeg e_ln))), (a_tk, (oc8 a_kd a_nm a_pl)), (a_kd, (arI G 401 f_kd)), (a_nm, (arI G 401 f_nm))]) hP hD [2, 6] [0, 1, 3, 4, 5] rfl rfl (by decide +kernel) (by decide +kernel) hk1 hFc hP1 hD1
                  clear hP hD hPc hDc hFc ht hvm hz1 hk1 hP1 hD1
                  obtain ⟨hP, hD⟩ := hJ9
                  refine g5_rs [(a_rh, (arI G 12 (upd f_rh p_c.toNatClampNeg (z2 - 256)))), (a_rs, (arI G 13 (upd f_rs p_c.toNatClampNeg e_ln))), (a_tk, (oc8 a_kd a_nm a_pl)), (a_kd, (arI G 401 f_kd)), (a_nm, (arI G 401 f_nm)), (a_r, (oc4 a_tk a_rh a_rs a_rc z134 z108 z109 e_fp)), (a_rc, (arI G 400 z135))] hP hD ?_
                  clear hP hD
                  intro hP hD
                  refine g5_ti (v := z133) y136 ?_
                  have hE_137 : lvC z135 z134.toInt.toNat = z108.toInt.toNat := by rw [i_132, lvC_em0 (by omega) (by omega) (opT_20 (by decide +kernel) (by decide +kernel))]; exact hv122
                  refine W.eq (g2 := F0 m 102 ls [.int z133]) rfl ?_
                  refine lv_pop hx hb dX4_readClause_102 rfl ?_
                  refine lv_iconst (v := 1) hx hb dX4_readClause_103 (by decide +kernel) ?_
                  exact W.zret (v := 1) hx hb hr rfl (fun t ht hW => ⟨⟨1, [(a_r, (oc4 a_tk a_rh a_rs a_rc z134 z108 z109 e_fp)), (a_tk, (oc8 a_kd a_nm a_pl)), (a_kd, (arI G 401 f_kd)), (a_nm, (arI G 401 f_nm)), (a_rc, (arI G 400 z135)), (a_rh, (arI G 12 (upd f_rh p_c.toNatClampNeg (z2 - 256)))), (a_rs, (arI G 13 (upd f_rs p_c.toNatClampNeg e_ln)))], rfl, Or.inl (⟨z134, z108, z109, z135, (upd f_rh p_c.toNatClampNeg (z2 - 256)), (upd f_rs p_c.toNatClampNeg e_ln), ⟨by omega, by omega⟩, i_101, i_102, i_129, sti_set e_si (by omega) (by omega) (by omega), ⟨_, cl_1t hH9 (hK_89.symm.trans i_92) (by omega) (by omega) hd122, (by rw [i_132]; exact kcc_tr (kcc_tr kcc_rf hc122 (by omega)) (kcc_em (by omega)) (by omega)), (by show (upd f_rh p_c.toNatClampNeg _ p_c.toNatClampNeg).toInt = _; rw [upd_eq]; show _ = KDT g_x g_n e_at.toInt.toNat - 256; omega), (by show upd f_rs p_c.toNatClampNeg _ p_c.toNatClampNeg = _; rw [upd_eq]), clc_t hCL hc122 (by omega) hm122 hz122 (by omega) i_132 (by omega), hE_137⟩, fun j hj => ⟨upd_ne hj, upd_ne hj⟩, by omega, rfl, rfl⟩), by rw [ht]; exact hP.sub [5, 2, 3, 4, 6, 0, 1] rfl, hD.sub [5, 2, 3, 4, 6, 0, 1] (by decide +kernel) rfl⟩, hS.F ht⟩) hS.2.2 dX4_readClause_104
                ·
                  exact absurd c_124 (by decide +kernel)
              ·
                have hJ9 := va_join (wr := [(a_rh, (arI G 12 (upd f_rh p_c.toNatClampNeg (z2 - 256)))), (a_rs, (arI G 13 (upd f_rs p_c.toNatClampNeg e_ln)))]) hP hD [4, 5, 6, 0, 1] [2, 3] rfl rfl (by decide +kernel) (by decide +kernel) hk1 hFc hP1 hD1
                clear hP hD hPc hDc hFc ht hvm hz1 hk1 hP1 hD1
                obtain ⟨hP, hD⟩ := hJ9
                refine g5_rs [(a_rh, (arI G 12 (upd f_rh p_c.toNatClampNeg (z2 - 256)))), (a_rs, (arI G 13 (upd f_rs p_c.toNatClampNeg e_ln))), (a_r, (oc4 a_tk a_rh a_rs a_rc z118 z119 z120 e_fp)), (a_tk, (oc8 a_kd a_nm a_pl)), (a_kd, (arI G 401 f_kd)), (a_nm, (arI G 401 f_nm)), (a_rc, (arI G 400 z121))] hP hD ?_
                clear hP hD
                intro hP hD
                obtain ⟨qq138, hq138⟩ := i_116
                refine lv_if_ne (tgt := 95) hx hb dX4_readClause_90 (by decide +kernel) (fun c_139 => ?_) (fun c_139 => ?_)
                ·
                  exact absurd c_139 (by decide +kernel)
                ·
                  refine lv_iconst (v := 0) hx hb dX4_readClause_93 (by decide +kernel) ?_
                  exact W.zret (v := 0) hx hb hr rfl (fun t ht hW => ⟨⟨0, [(a_r, (oc4 a_tk a_rh a_rs a_rc z118 z119 z120 e_fp)), (a_tk, (oc8 a_kd a_nm a_pl)), (a_kd, (arI G 401 f_kd)), (a_nm, (arI G 401 f_nm)), (a_rc, (arI G 400 z121)), (a_rh, (arI G 12 (upd f_rh p_c.toNatClampNeg (z2 - 256)))), (a_rs, (arI G 13 (upd f_rs p_c.toNatClampNeg e_ln)))], rfl, Or.inr (⟨z118, z119, z120, z121, (upd f_rh p_c.toNatClampNeg (z2 - 256)), (upd f_rs p_c.toNatClampNeg e_ln), ⟨by omega, by omega⟩, i_112, i_113, i_114, ⟨qq138, cl_t0 hH9 (hK_89.symm.trans i_92) (by omega) (by omega) hq138⟩, by omega, rfl, rfl⟩), by rw [ht]; exact hP.sub [2, 3, 4, 5, 6, 0, 1] rfl, hD.sub [2, 3, 4, 5, 6, 0, 1] (by decide +kernel) rfl⟩, hS.F ht⟩) hS.2.2 dX4_readClause_94
            ·
              exact absurd c_99 (by decide +kernel)
          ·
            have hJ9 := va_join (wr := [(a_nm, (arI G 401 f_nm)), (a_rc, (arI G 400 f_rc)), (a_rh, (arI G 12 (upd f_rh p_c.toNatClampNeg (z2 - 256)))), (a_rs, (arI G 13 (upd f_rs p_c.toNatClampNeg e_ln)))]) hP hD [0, 5, 6] [1, 2, 3, 4] rfl rfl (by decide +kernel) (by decide +kernel) hk1 hFc hP1 hD1
            clear hP hD hPc hDc hFc ht hvm hz1 hk1 hP1 hD1
            obtain ⟨hP, hD⟩ := hJ9
            refine g5_rs [(a_nm, (arI G 401 f_nm)), (a_rc, (arI G 400 f_rc)), (a_rh, (arI G 12 (upd f_rh p_c.toNatClampNeg (z2 - 256)))), (a_rs, (arI G 13 (upd f_rs p_c.toNatClampNeg e_ln))), (a_r, (oc4 a_tk a_rh a_rs a_rc e_ln e_pa z97 e_fp)), (a_tk, (oc8 a_kd a_nm a_pl)), (a_kd, (arI G 401 f_kd))] hP hD ?_
            clear hP hD
            intro hP hD
            refine lv_if_ne (tgt := 85) hx hb dX4_readClause_80 (by decide +kernel) (fun c_140 => ?_) (fun c_140 => ?_)
            ·
              exact absurd c_140 (by decide +kernel)
            ·
              refine lv_iconst (v := 1) hx hb dX4_readClause_83 (by decide +kernel) ?_
              exact W.zret (v := 1) hx hb hr rfl (fun t ht hW => ⟨⟨1, [(a_r, (oc4 a_tk a_rh a_rs a_rc e_ln e_pa z97 e_fp)), (a_tk, (oc8 a_kd a_nm a_pl)), (a_kd, (arI G 401 f_kd)), (a_nm, (arI G 401 f_nm)), (a_rc, (arI G 400 f_rc)), (a_rh, (arI G 12 (upd f_rh p_c.toNatClampNeg (z2 - 256)))), (a_rs, (arI G 13 (upd f_rs p_c.toNatClampNeg e_ln)))], rfl, Or.inl (⟨e_ln, e_pa, z97, f_rc, (upd f_rh p_c.toNatClampNeg (z2 - 256)), (upd f_rs p_c.toNatClampNeg e_ln), ⟨by omega, by omega⟩, i_94, h_e_pa, e_cd, sti_set e_si (by omega) (by omega) (by omega), ⟨_, cl_1n hH9 (fun q9 => i_96 (hK_89.trans q9)) (by omega), kcc_rf, (by show (upd f_rh p_c.toNatClampNeg _ p_c.toNatClampNeg).toInt = _; rw [upd_eq]; show _ = KDT g_x g_n e_at.toInt.toNat - 256; omega), (by show upd f_rs p_c.toNatClampNeg _ p_c.toNatClampNeg = _; rw [upd_eq]), hCL, e_lv⟩, fun j hj => ⟨upd_ne hj, upd_ne hj⟩, by omega, rfl, rfl⟩), by rw [ht]; exact hP.sub [4, 5, 6, 0, 1, 2, 3] rfl, hD.sub [4, 5, 6, 0, 1, 2, 3] (by decide +kernel) rfl⟩, hS.F ht⟩) hS.2.2 dX4_readClause_84
        ·
          have i_88 : (z2.toInt - 256) = 1 := by have z := g5_neN (a := (z2 - 256).toInt) (b := 1) (by rfl) (by decide +kernel) c_88; omega
          refine lv_aload_n hx hb dX4_readClause_63 rfl (lv_at hl 1 rfl) ?_
          refine lv_iconst (v := 0) hx hb dX4_readClause_64 (by decide +kernel) ?_
          obtain ⟨hPc, hDc, hFc⟩ := g5_sub3 (wc := [(a_r, (oc4 a_tk a_rh a_rs a_rc e_ln e_pa (e_at + 1) e_fp)), (a_tk, (oc8 a_kd a_nm a_pl)), (a_kd, (arI G 401 f_kd)), (a_nm, (arI G 401 f_nm)), (a_rc, (arI G 400 f_rc))]) hP hD hS hA [0, 5, 6, 1, 2] (by decide +kernel) rfl
          refine va_calli (va_runV (As := [.int 0]) (rest := []) ⟨hx, hb, hml, hown, hts⟩ (r_sumX0 l G a_r a_tk a_kd a_nm a_rc a_rh a_rs a_pl H.size e_ln e_pa (e_at + 1) e_fp f_kd f_nm f_rc g_x g_n g_T h_e_ln h_e_pa ⟨by omega, by omega⟩ (e_tk) (e_cd) (e_by) (e_kr) (by omega) (by omega) (e_lv)) (cwV 1 hts gV_X4_73 rfl rfl rfl hv_X4_readSum ⟨Nat.le_of_ble_eq_true rfl, Nat.le_of_ble_eq_true rfl⟩) (g5_preV hPc hK hDc hN hT hS hFc (ci := 4) (q0 := 0) rfl rfl) rfl rfl hl.1 rfl (lv_room (Nat.le_of_ble_eq_true rfl)) dX4_readClause_65 ⟨Nat.le_of_ble_eq_true rfl, Nat.le_of_ble_eq_true rfl⟩) hS (fun q _ h => hFc q h) hFc (fun r u t H locs ht hvm hw hB hz1 hk1 hS => ?_)
          obtain ⟨hP1, hD1⟩ := hB
          have hP1 := g5_ht ht hP1
          rcases hw with ⟨z148, z149, z150, z151, (i_141 : e_ln.toInt ≤ z148.toInt ∧ z148.toInt ≤ 400), (i_142 : 0 ≤ z150.toInt ∧ z150.toInt ≤ 401), (i_143 : 0 ≤ z149.toInt ∧ z149.toInt ≤ 50), (i_144 : CDI z151 z148.toInt), (i_145 : OPK f_rc z151 e_ln.toInt), (i_146 : ∃ d : DS, (smF (KDT g_x g_n) (NMT g_x g_n) (0 : Int32)) (e_at + 1).toInt.toNat e_pa.toInt.toNat = (z150.toInt.toNat, z149.toInt.toNat, some d) ∧ KCC f_rc z151 e_ln.toInt ∧ MCC z151 e_ln.toInt.toNat z148.toInt.toNat d ∧ lvC z151 z148.toInt.toNat = z149.toInt.toNat), (i_147 : z150.toInt ≤ (g_T : Int) ∧ (e_at + 1).toInt < z150.toInt ∧ z148.toInt + (e_at + 1).toInt ≤ e_ln.toInt + z150.toInt), rfl, rfl⟩ | ⟨z159, z160, z161, z162, (i_152 : e_ln.toInt ≤ z159.toInt ∧ z159.toInt ≤ 400), (i_153 : 0 ≤ z161.toInt ∧ z161.toInt ≤ 401), (i_154 : 0 ≤ z160.toInt ∧ z160.toInt ≤ 50), (i_155 : CDI z162 z159.toInt), (i_156 : OPK f_rc z162 e_ln.toInt), (i_157 : ∃ q : Nat, (smF (KDT g_x g_n) (NMT g_x g_n) (0 : Int32)) (e_at + 1).toInt.toNat e_pa.toInt.toNat = (z161.toInt.toNat, q, none)), (i_158 : z161.toInt ≤ (g_T : Int)), rfl, rfl⟩
          ·
            have hJ9 := va_join (wr := [(a_rh, (arI G 12 (upd f_rh p_c.toNatClampNeg (z2 - 256)))), (a_rs, (arI G 13 (upd f_rs p_c.toNatClampNeg e_ln)))]) hP hD [0, 5, 6, 1, 2] [3, 4] rfl rfl (by decide +kernel) (by decide +kernel) hk1 hFc hP1 hD1
            clear hP hD hPc hDc hFc ht hvm hz1 hk1 hP1 hD1
            obtain ⟨hP, hD⟩ := hJ9
            refine g5_rs [(a_rh, (arI G 12 (upd f_rh p_c.toNatClampNeg (z2 - 256)))), (a_rs, (arI G 13 (upd f_rs p_c.toNatClampNeg e_ln))), (a_r, (oc4 a_tk a_rh a_rs a_rc z148 z149 z150 e_fp)), (a_tk, (oc8 a_kd a_nm a_pl)), (a_kd, (arI G 401 f_kd)), (a_nm, (arI G 401 f_nm)), (a_rc, (arI G 400 z151))] hP hD ?_
            clear hP hD
            intro hP hD
            obtain ⟨dd163, hd163, hc163, hm163, hv163⟩ := i_146
            have hK_164 : (f_kd z150.toNatClampNeg).toInt = KDT g_x g_n z150.toInt.toNat := tkr_at e_kr (by omega) (by omega)
            refine lv_if_ne (tgt := 73) hx hb dX4_readClause_68 (by decide +kernel) (fun c_165 => ?_) (fun c_165 => ?_)
            ·
              have hH9 := hdr_s (a := e_at) (a' := (e_at + 1)) ⟨by omega, by omega⟩ (by omega) (by omega) hd163
              have hCL : CLC z151 e_ln.toInt.toNat z148.toInt.toNat (KDT g_x g_n e_at.toInt.toNat - 256, some dd163, none) := clc_s (by omega) hm163
              have hK_166 : (f_kd z150.toNatClampNeg).toInt = KDT g_x g_n z150.toInt.toNat := tkr_at e_kr (by omega) (by omega)
              refine lv_aload_n hx hb dX4_readClause_73 rfl (lv_at hl 1 rfl) ?_
              refine lv_sipush (v := 260) hx hb dX4_readClause_74 (by decide +kernel) ?_
              obtain ⟨hPc, hDc, hFc⟩ := g5_sub3 (wc := [(a_r, (oc4 a_tk a_rh a_rs a_rc z148 z149 z150 e_fp)), (a_tk, (oc8 a_kd a_nm a_pl)), (a_kd, (arI G 401 f_kd))]) hP hD hS hA [2, 3, 4] (by decide +kernel) rfl
              refine va_calli (va_runV (As := [.int 260]) (rest := []) ⟨hx, hb, hml, hown, hts⟩ (r_passedX260 l G a_r a_tk a_kd a_rh a_rs a_rc a_nm a_pl H.size z148 z149 z150 e_fp f_kd ⟨by omega, by omega⟩ i_143 i_142 (by omega)) (cwV 1 hts gV_X4_63 rfl rfl rfl hv_X4_passed ⟨Nat.le_of_ble_eq_true rfl, Nat.le_of_ble_eq_true rfl⟩) (g5_preV hPc hK hDc hN hT hS hFc (ci := 4) (q0 := 0) rfl rfl) rfl rfl hl.1 rfl (lv_room (Nat.le_of_ble_eq_true rfl)) dX4_readClause_77 ⟨Nat.le_of_ble_eq_true rfl, Nat.le_of_ble_eq_true rfl⟩) hS (fun q _ h => hFc q h) hFc (fun r u t H locs ht hvm hw hB hz1 hk1 hS => ?_)
              obtain ⟨hP1, hD1⟩ := hB
              have hP1 := g5_ht ht hP1
              rcases hw with ⟨z170, (i_167 : 0 ≤ z170.toInt ∧ z170.toInt ≤ 401), (i_168 : z170.toInt = z150.toInt + 1), (i_169 : (f_kd z150.toNatClampNeg).toInt = 260), rfl, rfl⟩ | ⟨z174, (i_171 : 0 ≤ z174.toInt ∧ z174.toInt ≤ 401), (i_172 : z174.toInt = z150.toInt), (i_173 : gNe (f_kd z150.toNatClampNeg).toInt 260), rfl, rfl⟩
              ·
                have hJ9 := va_join (wr := [(a_rh, (arI G 12 (upd f_rh p_c.toNatClampNeg (z2 - 256)))), (a_rs, (arI G 13 (upd f_rs p_c.toNatClampNeg e_ln))), (a_nm, (arI G 401 f_nm)), (a_rc, (arI G 400 z151))]) hP hD [2, 3, 4] [0, 1, 5, 6] rfl rfl (by decide +kernel) (by decide +kernel) hk1 hFc hP1 hD1
                clear hP hD hPc hDc hFc ht hvm hz1 hk1 hP1 hD1
                obtain ⟨hP, hD⟩ := hJ9
                refine g5_rs [(a_rh, (arI G 12 (upd f_rh p_c.toNatClampNeg (z2 - 256)))), (a_rs, (arI G 13 (upd f_rs p_c.toNatClampNeg e_ln))), (a_nm, (arI G 401 f_nm)), (a_rc, (arI G 400 z151)), (a_r, (oc4 a_tk a_rh a_rs a_rc z148 z149 z170 e_fp)), (a_tk, (oc8 a_kd a_nm a_pl)), (a_kd, (arI G 401 f_kd))] hP hD ?_
                clear hP hD
                intro hP hD
                have hL_175 : z150.toInt < (g_T : Int) := tkr_ltI e_kr (by omega) (by omega) i_169 (by decide +kernel)
                refine lv_if_ne (tgt := 85) hx hb dX4_readClause_80 (by decide +kernel) (fun c_176 => ?_) (fun c_176 => ?_)
                ·
                  refine lv_aload_n hx hb dX4_readClause_85 rfl (lv_at hl 1 rfl) ?_
                  refine lv_iconst (v := 0) hx hb dX4_readClause_86 (by decide +kernel) ?_
                  obtain ⟨hPc, hDc, hFc⟩ := g5_sub3 (wc := [(a_r, (oc4 a_tk a_rh a_rs a_rc z148 z149 z170 e_fp)), (a_tk, (oc8 a_kd a_nm a_pl)), (a_kd, (arI G 401 f_kd)), (a_nm, (arI G 401 f_nm)), (a_rc, (arI G 400 z151))]) hP hD hS hA [4, 5, 6, 2, 3] (by decide +kernel) rfl
                  refine va_calli (va_runV (As := [.int 0]) (rest := []) ⟨hx, hb, hml, hown, hts⟩ (r_testX0 l G a_r a_tk a_kd a_nm a_rc a_rh a_rs a_pl H.size z148 z149 z170 e_fp f_kd f_nm z151 g_x g_n g_T ⟨by omega, by omega⟩ i_143 i_167 (e_tk) (i_144) (e_by) (e_kr) (by omega) (by omega) (hv163)) (cwV 1 hts gV_X4_76 rfl rfl rfl hv_X4_readTest ⟨Nat.le_of_ble_eq_true rfl, Nat.le_of_ble_eq_true rfl⟩) (g5_preV hPc hK hDc hN hT hS hFc (ci := 4) (q0 := 0) rfl rfl) rfl rfl hl.1 rfl (lv_room (Nat.le_of_ble_eq_true rfl)) dX4_readClause_87 ⟨Nat.le_of_ble_eq_true rfl, Nat.le_of_ble_eq_true rfl⟩) hS (fun q _ h => hFc q h) hFc (fun r u t H locs ht hvm hw hB hz1 hk1 hS => ?_)
                  obtain ⟨hP1, hD1⟩ := hB
                  have hP1 := g5_ht ht hP1
                  rcases hw with ⟨z184, z185, z186, z187, (i_177 : z148.toInt ≤ z184.toInt ∧ z184.toInt ≤ 400), (i_178 : 0 ≤ z186.toInt ∧ z186.toInt ≤ 401), (i_179 : 0 ≤ z185.toInt ∧ z185.toInt ≤ 50), (i_180 : CDI z187 z184.toInt), (i_181 : OPK z151 z187 z148.toInt), (i_182 : ∃ d : DS, (tsF (KDT g_x g_n) (NMT g_x g_n) (0 : Int32)) z170.toInt.toNat z149.toInt.toNat = (z186.toInt.toNat, z185.toInt.toNat, some d) ∧ is01 d ∧ KCC z151 z187 z148.toInt ∧ MCC z187 z148.toInt.toNat z184.toInt.toNat d ∧ lvC z187 z184.toInt.toNat = z185.toInt.toNat), (i_183 : z186.toInt ≤ (g_T : Int) ∧ z170.toInt < z186.toInt ∧ z184.toInt + z170.toInt ≤ z148.toInt + z186.toInt), rfl, rfl⟩ | ⟨z195, z196, z197, z198, (i_188 : z148.toInt ≤ z195.toInt ∧ z195.toInt ≤ 400), (i_189 : 0 ≤ z197.toInt ∧ z197.toInt ≤ 401), (i_190 : 0 ≤ z196.toInt ∧ z196.toInt ≤ 50), (i_191 : CDI z198 z195.toInt), (i_192 : OPK z151 z198 z148.toInt), (i_193 : ∃ q : Nat, (tsF (KDT g_x g_n) (NMT g_x g_n) (0 : Int32)) z170.toInt.toNat z149.toInt.toNat = (z197.toInt.toNat, q, none)), (i_194 : z197.toInt ≤ (g_T : Int)), rfl, rfl⟩
                  ·
                    have hJ9 := va_join (wr := [(a_rh, (arI G 12 (upd f_rh p_c.toNatClampNeg (z2 - 256)))), (a_rs, (arI G 13 (upd f_rs p_c.toNatClampNeg e_ln)))]) hP hD [4, 5, 6, 2, 3] [0, 1] rfl rfl (by decide +kernel) (by decide +kernel) hk1 hFc hP1 hD1
                    clear hP hD hPc hDc hFc ht hvm hz1 hk1 hP1 hD1
                    obtain ⟨hP, hD⟩ := hJ9
                    refine g5_rs [(a_rh, (arI G 12 (upd f_rh p_c.toNatClampNeg (z2 - 256)))), (a_rs, (arI G 13 (upd f_rs p_c.toNatClampNeg e_ln))), (a_r, (oc4 a_tk a_rh a_rs a_rc z184 z185 z186 e_fp)), (a_tk, (oc8 a_kd a_nm a_pl)), (a_kd, (arI G 401 f_kd)), (a_nm, (arI G 401 f_nm)), (a_rc, (arI G 400 z187))] hP hD ?_
                    clear hP hD
                    intro hP hD
                    obtain ⟨dd199, hd199, hz199, hc199, hm199, hv199⟩ := i_182
                    have hK_200 : (f_kd z186.toNatClampNeg).toInt = KDT g_x g_n z186.toInt.toNat := tkr_at e_kr (by omega) (by omega)
                    refine lv_if_ne (tgt := 95) hx hb dX4_readClause_90 (by decide +kernel) (fun c_201 => ?_) (fun c_201 => ?_)
                    ·
                      refine lv_aload_n hx hb dX4_readClause_95 rfl (lv_at hl 1 rfl) ?_
                      refine lv_bipush (v := 10) hx hb dX4_readClause_96 (by decide +kernel) ?_
                      refine lv_iconst (v := 0) hx hb dX4_readClause_98 (by decide +kernel) ?_
                      obtain ⟨hPc, hDc, hFc⟩ := g5_sub3 (wc := [(a_r, (oc4 a_tk a_rh a_rs a_rc z184 z185 z186 e_fp)), (a_rc, (arI G 400 z187))]) hP hD hS hA [2, 6] (by decide +kernel) rfl
                      refine va_calli (va_runV (As := [.int 10, .int 0]) (rest := []) ⟨hx, hb, hml, hown, hts⟩ (r_emitX l G a_r a_rc a_tk a_rh a_rs H.size z184 z185 z186 e_fp 10 0 z187 ⟨by omega, by omega⟩ i_179 i_178 (i_180) (by unfold wOK; decide) (by omega)) (cwV 2 hts gV_X4_79 rfl rfl rfl hv_X4_emit ⟨Nat.le_of_ble_eq_true rfl, Nat.le_of_ble_eq_true rfl⟩) (g5_preV hPc hK hDc hN hT hS hFc (ci := 4) (q0 := 0) rfl rfl) rfl rfl hl.1 rfl (lv_room (Nat.le_of_ble_eq_true rfl)) dX4_readClause_99 ⟨Nat.le_of_ble_eq_true rfl, Nat.le_of_ble_eq_true rfl⟩) hS (fun q _ h => hFc q h) hFc (fun r u t H locs ht hvm hw hB hz1 hk1 hS => ?_)
                      obtain ⟨hP1, hD1⟩ := hB
                      have hP1 := g5_ht ht hP1
                      obtain ⟨z210, z211, z212, (i_202 : 0 ≤ z210.toInt ∧ z210.toInt ≤ 399), (i_203 : z210.toInt = z184.toInt), (i_204 : z211.toInt = z184.toInt + 1), (i_205 : z184.toInt ≤ z211.toInt ∧ z211.toInt ≤ 400), (i_206 : CDI z212 z211.toInt), (i_207 : OPK z187 z212 z184.toInt), (i_208 : 0 ≤ z210.toInt → z210.toInt < z211.toInt ∧ z212 z210.toNatClampNeg = (((10 : Int32) <<< (12 &&& 31)) ||| (0 : Int32))), (i_209 : z212 = upd z187 z184.toNatClampNeg (((10 : Int32) <<< (12 &&& 31)) ||| (0 : Int32))), y213, rfl⟩ := hw
                      have hJ9 := va_join (wr := [(a_rh, (arI G 12 (upd f_rh p_c.toNatClampNeg (z2 - 256)))), (a_rs, (arI G 13 (upd f_rs p_c.toNatClampNeg e_ln))), (a_tk, (oc8 a_kd a_nm a_pl)), (a_kd, (arI G 401 f_kd)), (a_nm, (arI G 401 f_nm))]) hP hD [2, 6] [0, 1, 3, 4, 5] rfl rfl (by decide +kernel) (by decide +kernel) hk1 hFc hP1 hD1
                      clear hP hD hPc hDc hFc ht hvm hz1 hk1 hP1 hD1
                      obtain ⟨hP, hD⟩ := hJ9
                      refine g5_rs [(a_rh, (arI G 12 (upd f_rh p_c.toNatClampNeg (z2 - 256)))), (a_rs, (arI G 13 (upd f_rs p_c.toNatClampNeg e_ln))), (a_tk, (oc8 a_kd a_nm a_pl)), (a_kd, (arI G 401 f_kd)), (a_nm, (arI G 401 f_nm)), (a_r, (oc4 a_tk a_rh a_rs a_rc z211 z185 z186 e_fp)), (a_rc, (arI G 400 z212))] hP hD ?_
                      clear hP hD
                      intro hP hD
                      refine g5_ti (v := z210) y213 ?_
                      have hE_214 : lvC z212 z211.toInt.toNat = z185.toInt.toNat := by rw [i_209, lvC_em0 (by omega) (by omega) (opT_20 (by decide +kernel) (by decide +kernel))]; exact hv199
                      refine W.eq (g2 := F0 m 102 ls [.int z210]) rfl ?_
                      refine lv_pop hx hb dX4_readClause_102 rfl ?_
                      refine lv_iconst (v := 1) hx hb dX4_readClause_103 (by decide +kernel) ?_
                      exact W.zret (v := 1) hx hb hr rfl (fun t ht hW => ⟨⟨1, [(a_r, (oc4 a_tk a_rh a_rs a_rc z211 z185 z186 e_fp)), (a_tk, (oc8 a_kd a_nm a_pl)), (a_kd, (arI G 401 f_kd)), (a_nm, (arI G 401 f_nm)), (a_rc, (arI G 400 z212)), (a_rh, (arI G 12 (upd f_rh p_c.toNatClampNeg (z2 - 256)))), (a_rs, (arI G 13 (upd f_rs p_c.toNatClampNeg e_ln)))], rfl, Or.inl (⟨z211, z185, z186, z212, (upd f_rh p_c.toNatClampNeg (z2 - 256)), (upd f_rs p_c.toNatClampNeg e_ln), ⟨by omega, by omega⟩, i_178, i_179, i_206, sti_set e_si (by omega) (by omega) (by omega), ⟨_, cl_1t hH9 (hK_166.symm.trans i_169) (by omega) (by omega) hd199, (by rw [i_209]; exact kcc_tr (kcc_tr hc163 hc199 (by omega)) (kcc_em (by omega)) (by omega)), (by show (upd f_rh p_c.toNatClampNeg _ p_c.toNatClampNeg).toInt = _; rw [upd_eq]; show _ = KDT g_x g_n e_at.toInt.toNat - 256; omega), (by show upd f_rs p_c.toNatClampNeg _ p_c.toNatClampNeg = _; rw [upd_eq]), clc_t hCL hc199 (by omega) hm199 hz199 (by omega) i_209 (by omega), hE_214⟩, fun j hj => ⟨upd_ne hj, upd_ne hj⟩, by omega, rfl, rfl⟩), by rw [ht]; exact hP.sub [5, 2, 3, 4, 6, 0, 1] rfl, hD.sub [5, 2, 3, 4, 6, 0, 1] (by decide +kernel) rfl⟩, hS.F ht⟩) hS.2.2 dX4_readClause_104
                    ·
                      exact absurd c_201 (by decide +kernel)
                  ·
                    have hJ9 := va_join (wr := [(a_rh, (arI G 12 (upd f_rh p_c.toNatClampNeg (z2 - 256)))), (a_rs, (arI G 13 (upd f_rs p_c.toNatClampNeg e_ln)))]) hP hD [4, 5, 6, 2, 3] [0, 1] rfl rfl (by decide +kernel) (by decide +kernel) hk1 hFc hP1 hD1
                    clear hP hD hPc hDc hFc ht hvm hz1 hk1 hP1 hD1
                    obtain ⟨hP, hD⟩ := hJ9
                    refine g5_rs [(a_rh, (arI G 12 (upd f_rh p_c.toNatClampNeg (z2 - 256)))), (a_rs, (arI G 13 (upd f_rs p_c.toNatClampNeg e_ln))), (a_r, (oc4 a_tk a_rh a_rs a_rc z195 z196 z197 e_fp)), (a_tk, (oc8 a_kd a_nm a_pl)), (a_kd, (arI G 401 f_kd)), (a_nm, (arI G 401 f_nm)), (a_rc, (arI G 400 z198))] hP hD ?_
                    clear hP hD
                    intro hP hD
                    obtain ⟨qq215, hq215⟩ := i_193
                    refine lv_if_ne (tgt := 95) hx hb dX4_readClause_90 (by decide +kernel) (fun c_216 => ?_) (fun c_216 => ?_)
                    ·
                      exact absurd c_216 (by decide +kernel)
                    ·
                      refine lv_iconst (v := 0) hx hb dX4_readClause_93 (by decide +kernel) ?_
                      exact W.zret (v := 0) hx hb hr rfl (fun t ht hW => ⟨⟨0, [(a_r, (oc4 a_tk a_rh a_rs a_rc z195 z196 z197 e_fp)), (a_tk, (oc8 a_kd a_nm a_pl)), (a_kd, (arI G 401 f_kd)), (a_nm, (arI G 401 f_nm)), (a_rc, (arI G 400 z198)), (a_rh, (arI G 12 (upd f_rh p_c.toNatClampNeg (z2 - 256)))), (a_rs, (arI G 13 (upd f_rs p_c.toNatClampNeg e_ln)))], rfl, Or.inr (⟨z195, z196, z197, z198, (upd f_rh p_c.toNatClampNeg (z2 - 256)), (upd f_rs p_c.toNatClampNeg e_ln), ⟨by omega, by omega⟩, i_189, i_190, i_191, ⟨qq215, cl_t0 hH9 (hK_166.symm.trans i_169) (by omega) (by omega) hq215⟩, by omega, rfl, rfl⟩), by rw [ht]; exact hP.sub [2, 3, 4, 5, 6, 0, 1] rfl, hD.sub [2, 3, 4, 5, 6, 0, 1] (by decide +kernel) rfl⟩, hS.F ht⟩) hS.2.2 dX4_readClause_94
                ·
                  exact absurd c_176 (by decide +kernel)
              ·
                have hJ9 := va_join (wr := [(a_rh, (arI G 12 (upd f_rh p_c.toNatClampNeg (z2 - 256)))), (a_rs, (arI G 13 (upd f_rs p_c.toNatClampNeg e_ln))), (a_nm, (arI G 401 f_nm)), (a_rc, (arI G 400 z151))]) hP hD [2, 3, 4] [0, 1, 5, 6] rfl rfl (by decide +kernel) (by decide +kernel) hk1 hFc hP1 hD1
                clear hP hD hPc hDc hFc ht hvm hz1 hk1 hP1 hD1
                obtain ⟨hP, hD⟩ := hJ9
                refine g5_rs [(a_rh, (arI G 12 (upd f_rh p_c.toNatClampNeg (z2 - 256)))), (a_rs, (arI G 13 (upd f_rs p_c.toNatClampNeg e_ln))), (a_nm, (arI G 401 f_nm)), (a_rc, (arI G 400 z151)), (a_r, (oc4 a_tk a_rh a_rs a_rc z148 z149 z174 e_fp)), (a_tk, (oc8 a_kd a_nm a_pl)), (a_kd, (arI G 401 f_kd))] hP hD ?_
                clear hP hD
                intro hP hD
                refine lv_if_ne (tgt := 85) hx hb dX4_readClause_80 (by decide +kernel) (fun c_217 => ?_) (fun c_217 => ?_)
                ·
                  exact absurd c_217 (by decide +kernel)
                ·
                  refine lv_iconst (v := 1) hx hb dX4_readClause_83 (by decide +kernel) ?_
                  exact W.zret (v := 1) hx hb hr rfl (fun t ht hW => ⟨⟨1, [(a_r, (oc4 a_tk a_rh a_rs a_rc z148 z149 z174 e_fp)), (a_tk, (oc8 a_kd a_nm a_pl)), (a_kd, (arI G 401 f_kd)), (a_nm, (arI G 401 f_nm)), (a_rc, (arI G 400 z151)), (a_rh, (arI G 12 (upd f_rh p_c.toNatClampNeg (z2 - 256)))), (a_rs, (arI G 13 (upd f_rs p_c.toNatClampNeg e_ln)))], rfl, Or.inl (⟨z148, z149, z174, z151, (upd f_rh p_c.toNatClampNeg (z2 - 256)), (upd f_rs p_c.toNatClampNeg e_ln), ⟨by omega, by omega⟩, i_171, i_143, i_144, sti_set e_si (by omega) (by omega) (by omega), ⟨_, cl_1n hH9 (fun q9 => i_173 (hK_166.trans q9)) (by omega), hc163, (by show (upd f_rh p_c.toNatClampNeg _ p_c.toNatClampNeg).toInt = _; rw [upd_eq]; show _ = KDT g_x g_n e_at.toInt.toNat - 256; omega), (by show upd f_rs p_c.toNatClampNeg _ p_c.toNatClampNeg = _; rw [upd_eq]), hCL, hv163⟩, fun j hj => ⟨upd_ne hj, upd_ne hj⟩, by omega, rfl, rfl⟩), by rw [ht]; exact hP.sub [4, 5, 6, 2, 3, 0, 1] rfl, hD.sub [4, 5, 6, 2, 3, 0, 1] (by decide +kernel) rfl⟩, hS.F ht⟩) hS.2.2 dX4_readClause_84
            ·
              exact absurd c_165 (by decide +kernel)
          ·
            have hJ9 := va_join (wr := [(a_rh, (arI G 12 (upd f_rh p_c.toNatClampNeg (z2 - 256)))), (a_rs, (arI G 13 (upd f_rs p_c.toNatClampNeg e_ln)))]) hP hD [0, 5, 6, 1, 2] [3, 4] rfl rfl (by decide +kernel) (by decide +kernel) hk1 hFc hP1 hD1
            clear hP hD hPc hDc hFc ht hvm hz1 hk1 hP1 hD1
            obtain ⟨hP, hD⟩ := hJ9
            refine g5_rs [(a_rh, (arI G 12 (upd f_rh p_c.toNatClampNeg (z2 - 256)))), (a_rs, (arI G 13 (upd f_rs p_c.toNatClampNeg e_ln))), (a_r, (oc4 a_tk a_rh a_rs a_rc z159 z160 z161 e_fp)), (a_tk, (oc8 a_kd a_nm a_pl)), (a_kd, (arI G 401 f_kd)), (a_nm, (arI G 401 f_nm)), (a_rc, (arI G 400 z162))] hP hD ?_
            clear hP hD
            intro hP hD
            obtain ⟨qq218, hq218⟩ := i_157
            refine lv_if_ne (tgt := 73) hx hb dX4_readClause_68 (by decide +kernel) (fun c_219 => ?_) (fun c_219 => ?_)
            ·
              exact absurd c_219 (by decide +kernel)
            ·
              refine lv_iconst (v := 0) hx hb dX4_readClause_71 (by decide +kernel) ?_
              exact W.zret (v := 0) hx hb hr rfl (fun t ht hW => ⟨⟨0, [(a_r, (oc4 a_tk a_rh a_rs a_rc z159 z160 z161 e_fp)), (a_tk, (oc8 a_kd a_nm a_pl)), (a_kd, (arI G 401 f_kd)), (a_nm, (arI G 401 f_nm)), (a_rc, (arI G 400 z162)), (a_rh, (arI G 12 (upd f_rh p_c.toNatClampNeg (z2 - 256)))), (a_rs, (arI G 13 (upd f_rs p_c.toNatClampNeg e_ln)))], rfl, Or.inr (⟨z159, z160, z161, z162, (upd f_rh p_c.toNatClampNeg (z2 - 256)), (upd f_rs p_c.toNatClampNeg e_ln), ⟨by omega, by omega⟩, i_153, i_154, i_155, ⟨qq218, cl_s0 (a' := (e_at + 1)) ⟨by omega, by omega⟩ (by omega) (by omega) hq218⟩, by omega, rfl, rfl⟩), by rw [ht]; exact hP.sub [2, 3, 4, 5, 6, 0, 1] rfl, hD.sub [2, 3, 4, 5, 6, 0, 1] (by decide +kernel) rfl⟩, hS.F ht⟩) hS.2.2 dX4_readClause_72
    ·
      have i_6 : (z2.toInt - 256) ≥ 4 := by have z := g5_ltN (a := (z2 - 256).toInt) (b := 4) (by rfl) (by decide +kernel) c_6; omega
      refine lv_iconst (v := 0) hx hb dX4_readClause_25 (by decide +kernel) ?_
      exact W.zret (v := 0) hx hb hr rfl (fun t ht hW => ⟨⟨0, [(a_r, (oc4 a_tk a_rh a_rs a_rc e_ln e_pa e_at e_fp)), (a_tk, (oc8 a_kd a_nm a_pl)), (a_kd, (arI G 401 f_kd)), (a_nm, (arI G 401 f_nm)), (a_rc, (arI G 400 f_rc)), (a_rh, (arI G 12 f_rh)), (a_rs, (arI G 13 f_rs))], rfl, Or.inr (⟨e_ln, e_pa, e_at, f_rc, f_rh, f_rs, ⟨by omega, by omega⟩, h_e_at, h_e_pa, e_cd, ⟨_, cl_no (by omega)⟩, by omega, rfl, rfl⟩), by rw [ht]; exact hP.sub [0, 5, 6, 1, 2, 3, 4] rfl, hD.sub [0, 5, 6, 1, 2, 3, 4] (by decide +kernel) rfl⟩, hS.F ht⟩) hS.2.2 dX4_readClause_26
theorem llc_lw {x hd' st' rc' fh fs fc : Nat → Int32} {n nh ns nc : Nat} {a b p q l' k k' : Int32} {c : CLT} (h : ∃ L : List CLT, lawP (KDT x n) (NMT x n) = lawL (KDT x n) (NMT x n) (12 - k.toInt).toNat a.toInt.toNat p.toInt.toNat L ∧ LWE hd' st' rc' (L ++ [c]) k'.toInt.toNat l'.toInt.toNat) (h0 : 0 ≤ k.toInt) (hk : k.toInt < 12) (e : clsP (KDT x n) (NMT x n) a.toInt.toNat p.toInt.toNat = (b.toInt.toNat, q.toInt.toNat, some c)) (n1 : (KDT x n) b.toInt.toNat = 302) (hk' : 0 ≤ k'.toInt) (hl : 0 ≤ l'.toInt) (eh : ∀ j : Nat, j < nh → fh j = hd' j) (nh1 : (nh : Int) = k'.toInt) (es : ∀ j : Nat, j < ns → fs j = upd st' k'.toNatClampNeg l' j) (ns1 : (ns : Int) = k'.toInt + 1) (ec : ∀ j : Nat, j < nc → fc j = rc' j) (nc1 : (nc : Int) = l'.toInt) (sti : ∀ j : Nat, j < k'.toInt.toNat → (st' j).toInt.toNat ≤ l'.toInt.toNat) : ∃ L : List CLT, (LAWX x n).2.2 = some L ∧ LWC fh fs fc L k'.toInt.toNat := by
  obtain ⟨L9, g1, g2⟩ := llc_end h h0 hk e n1
  exact ⟨L9, g1, lwc_of (l9 := l') g2 hk' hl eh nh1 es ns1 ec nc1 sti⟩
set_option maxHeartbeats 4000000 in
set_option maxRecDepth 100000 in
theorem r_readX (l : Launch) (G : g5_G) (a_r a_tk a_kd a_nm a_pl a_rc a_rh a_rs a_x : Nat) (sz : Nat) (e_ln : Int32) (e_pa : Int32) (e_at : Int32) (e_fp : Int32) (p_n : Int32) (f_kd : Nat → Int32) (f_nm : Nat → Int32) (f_pl : Nat → Int32) (f_rc : Nat → Int32) (f_rh : Nat → Int32) (f_rs : Nat → Int32) (f_x : Nat → Int32) (h_e_ln : 0 ≤ e_ln.toInt ∧ e_ln.toInt ≤ 400) (h_e_pa : 0 ≤ e_pa.toInt ∧ e_pa.toInt ≤ 50) (h_e_at : 0 ≤ e_at.toInt ∧ e_at.toInt ≤ 401) (h_p_n : 0 ≤ p_n.toInt ∧ p_n.toInt ≤ 400) (e_tk : TOKI f_kd f_nm) (e_tx : byOK f_x) : Met l yX4_read (wsG yX4_read cX4_read 4 (some (.object "LateGlass$Law"))) ({ frames := 110, cells := 4, slots := 429, locals := 2639 }) (va_Pc [.ref a_r, .ref a_x, .int p_n] (g5_P G [(a_r, (oc4 a_tk a_rh a_rs a_rc e_ln e_pa e_at e_fp)), (a_tk, (oc8 a_kd a_nm a_pl)), (a_kd, (arI G 401 f_kd)), (a_nm, (arI G 401 f_nm)), (a_pl, (arI G 401 f_pl)), (a_rc, (arI G 400 f_rc)), (a_rh, (arI G 12 f_rh)), (a_rs, (arI G 13 f_rs)), (a_x, (arI G 400 f_x))] sz)) (va_Qq (fun (r : Option Nat) (u : va_W) => (∃ (o_ln : Int32) (o_pa : Int32) (o_at : Int32) (o_rc : Nat → Int32) (o_fp : Int32) (o_rh : Nat → Int32) (o_rs : Nat → Int32) (o_kd : Nat → Int32) (o_nm : Nat → Int32) (o_pl : Nat → Int32), (0 ≤ o_ln.toInt ∧ o_ln.toInt ≤ 400) ∧ (0 ≤ o_at.toInt ∧ o_at.toInt ≤ 401) ∧ (0 ≤ o_pa.toInt ∧ o_pa.toInt ≤ 50) ∧ (TOKI o_kd o_nm) ∧ ((LAWX f_x p_n.toInt.toNat).2.2 = none ∧ o_fp.toInt = (pT f_x p_n.toInt.toNat (LAWX f_x p_n.toInt.toNat).1 : Int)) ∧ (r = none) ∧ (u = [(a_r, (oc4 a_tk a_rh a_rs a_rc o_ln o_pa o_at o_fp)), (a_tk, (oc8 a_kd a_nm a_pl)), (a_kd, (arI G 401 o_kd)), (a_nm, (arI G 401 o_nm)), (a_pl, (arI G 401 o_pl)), (a_rc, (arI G 400 o_rc)), (a_rh, (arI G 12 o_rh)), (a_rs, (arI G 13 o_rs)), (a_x, (arI G 400 f_x))])) ∨ (∃ (o_ln : Int32) (o_pa : Int32) (o_at : Int32) (o_rc : Nat → Int32) (o_fp : Int32) (o_rh : Nat → Int32) (o_rs : Nat → Int32) (o_kd : Nat → Int32) (o_nm : Nat → Int32) (o_pl : Nat → Int32) (o_q : Nat) (o_qh : Nat) (o_qs : Nat) (o_qc : Nat) (o_cl : Int32) (o_nh : Nat) (o_ns : Nat) (o_nc : Nat) (o_fh : Nat → Int32) (o_fs : Nat → Int32) (o_fc : Nat → Int32), (0 ≤ o_ln.toInt ∧ o_ln.toInt ≤ 400) ∧ (0 ≤ o_at.toInt ∧ o_at.toInt ≤ 401) ∧ (0 ≤ o_pa.toInt ∧ o_pa.toInt ≤ 50) ∧ (TOKI o_kd o_nm) ∧ (1 ≤ o_cl.toInt ∧ o_cl.toInt ≤ 12) ∧ (o_nc ≤ 400) ∧ (∀ j : Nat, j < o_ns → 0 ≤ (o_fs j).toInt ∧ (o_fs j).toInt ≤ (o_nc : Int)) ∧ (∀ j : Nat, j < o_nc → (o_fc j >>> (12 &&& 31)).toInt = 1 → (o_fc j &&& 4095).toInt < 8) ∧ ((o_cl.toInt : Int) ≤ (o_nh : Int) ∧ (o_cl.toInt + 1 : Int) ≤ (o_ns : Int)) ∧ (∃ L : List CLT, (LAWX f_x p_n.toInt.toNat).2.2 = some L ∧ LWC o_fh o_fs o_fc L o_cl.toInt.toNat) ∧ (o_fp.toInt = -1) ∧ (lvC o_fc o_nc ≤ 50) ∧ (r = some o_q) ∧ (u = [(a_r, (oc4 a_tk a_rh a_rs a_rc o_ln o_pa o_at o_fp)), (a_tk, (oc8 a_kd a_nm a_pl)), (a_kd, (arI G 401 o_kd)), (a_nm, (arI G 401 o_nm)), (a_pl, (arI G 401 o_pl)), (a_rc, (arI G 400 o_rc)), (a_rh, (arI G 12 o_rh)), (a_rs, (arI G 13 o_rs)), (a_x, (arI G 400 f_x)), (o_q, (oc3 o_cl o_qh o_qs o_qc)), (o_qh, (arI G o_nh o_fh)), (o_qs, (arI G o_ns o_fs)), (o_qc, (arI G o_nc o_fc))]))) (g5_B G (va_A [(a_r, (oc4 a_tk a_rh a_rs a_rc e_ln e_pa e_at e_fp)), (a_tk, (oc8 a_kd a_nm a_pl)), (a_kd, (arI G 401 f_kd)), (a_nm, (arI G 401 f_nm)), (a_pl, (arI G 401 f_pl)), (a_rc, (arI G 400 f_rc)), (a_rh, (arI G 12 f_rh)), (a_rs, (arI G 13 f_rs)), (a_x, (arI G 400 f_x))] sz)) (va_A [(a_r, (oc4 a_tk a_rh a_rs a_rc e_ln e_pa e_at e_fp)), (a_tk, (oc8 a_kd a_nm a_pl)), (a_kd, (arI G 401 f_kd)), (a_nm, (arI G 401 f_nm)), (a_pl, (arI G 401 f_pl)), (a_rc, (arI G 400 f_rc)), (a_rh, (arI G 12 f_rh)), (a_rs, (arI G 13 f_rs)), (a_x, (arI G 400 f_x))] sz)) 4 429 (va_A [(a_r, (oc4 a_tk a_rh a_rs a_rc e_ln e_pa e_at e_fp)), (a_tk, (oc8 a_kd a_nm a_pl)), (a_kd, (arI G 401 f_kd)), (a_nm, (arI G 401 f_nm)), (a_pl, (arI G 401 f_pl)), (a_rc, (arI G 400 f_rc)), (a_rh, (arI G 12 f_rh)), (a_rs, (arI G 13 f_rs)), (a_x, (arI G 400 f_x))] sz) := by
  refine Met.ofW (cc := cX4_read) (maxL := 4) (ret := (some (.object "LateGlass$Law"))) (by decide +kernel) rfl ?_
  intro p e s m args below meth c s₁ B hml hv
  obtain ⟨rfl, hsz, hP, hK, hD0, hN, hT⟩ := hv
  have hx := B.exec
  have hb := B.bytes
  have hr := B.returns
  have hts : ∀ w ∈ tblG, w.before _ s = true := fun w h => atoms_spec (ws := (wsG yX4_read cX4_read 4 (some (.object "LateGlass$Law")))) B.pre w (List.mem_cons_of_mem _ h)
  have hown : s.vm.findClass RX4 = some m.cls := findClass_of_methodNamed B.named
  have hlocks := B.notSynchronized
  subst hsz
  have hD := hD0.self (sz := s.heap.size)
  generalize hAe : va_A [(a_r, (oc4 a_tk a_rh a_rs a_rc e_ln e_pa e_at e_fp)), (a_tk, (oc8 a_kd a_nm a_pl)), (a_kd, (arI G 401 f_kd)), (a_nm, (arI G 401 f_nm)), (a_pl, (arI G 401 f_pl)), (a_rc, (arI G 400 f_rc)), (a_rh, (arI G 12 f_rh)), (a_rs, (arI G 13 f_rs)), (a_x, (arI G 400 f_x))] s.heap.size = A at hD hT ⊢
  have hA : ∀ q : Nat, s.heap.size ≤ q → A q := fun q h => by rw [← hAe]; exact Or.inr h
  have hS : va_S A s.heap s.heap [] := va_S.rf
  replace hP : va_P G.1 vwCl [(a_r, (oc4 a_tk a_rh a_rs a_rc e_ln e_pa e_at e_fp)), (a_tk, (oc8 a_kd a_nm a_pl)), (a_kd, (arI G 401 f_kd)), (a_nm, (arI G 401 f_nm)), (a_pl, (arI G 401 f_pl)), (a_rc, (arI G 400 f_rc)), (a_rh, (arI G 12 f_rh)), (a_rs, (arI G 13 f_rs)), (a_x, (arI G 400 f_x))] s.heap := hP
  have hl := lv_entry ([.ref a_r, .ref a_x, .int p_n]) (n := 4) (Nat.le_of_ble_eq_true rfl)
  rw [lg_entry_eq]
  generalize (lg_sl ([.ref a_r, .ref a_x, .int p_n]) ++ List.replicate (4 - (lg_sl ([.ref a_r, .ref a_x, .int p_n])).length) Slot.unset).toArray = ls at hl ⊢
  replace hl : lv_has ls 4 [(0, .ref a_r), (1, .ref a_x), (2, .int p_n)] := hl
  refine lv_aload_n hx hb dX4_read_0 rfl (lv_at hl 0 rfl) ?_
  refine va_get (D := G.1) (ci := 4) (v := .ref a_tk) (C := RX4) (T := TX4) (N := 8) hx hb hts inG_X4 hown hK hP 0 rfl rfl 0 (by decide +kernel) (hts _ fl_X4_12) (fun _ h9 => h9) rfl dX4_read_1 ?_
  refine lv_aload_n hx hb dX4_read_4 rfl (lv_at hl 1 rfl) ?_
  refine lv_iload_n hx hb dX4_read_5 rfl (lv_at hl 2 rfl) ?_
  refine W.eq (g2 := F0 m 6 ls [.int p_n, .ref a_x, .ref a_tk]) rfl ?_
  obtain ⟨hPc, hDc, hFc⟩ := g5_sub3 (wc := [(a_tk, (oc8 a_kd a_nm a_pl)), (a_kd, (arI G 401 f_kd)), (a_nm, (arI G 401 f_nm)), (a_pl, (arI G 401 f_pl)), (a_x, (arI G 400 f_x))]) hP hD hS hA [1, 2, 3, 4, 8] (by decide +kernel) rfl
  refine va_callv (va_runV (As := [.ref a_x, .int p_n]) (rest := []) ⟨hx, hb, hml, hown, hts⟩ (k_cutX l G a_tk a_kd a_nm a_pl a_x s.heap.size p_n f_kd f_nm f_pl f_x h_p_n (e_tk)) (cwV 2 hts gV_X4_32 rfl rfl rfl hv_X8_cut ⟨Nat.le_of_ble_eq_true rfl, Nat.le_of_ble_eq_true rfl⟩) (g5_preV hPc hK hDc hN hT hS hFc (ci := 8) (q0 := 0) rfl rfl) rfl rfl hl.1 rfl (lv_room (Nat.le_of_ble_eq_true rfl)) dX4_read_6 ⟨Nat.le_of_ble_eq_true rfl, Nat.le_of_ble_eq_true rfl⟩) hS (fun q _ h => hFc q h) hFc (fun u t H locs ht hvm hw hB hz1 hk1 hS => ?_)
  obtain ⟨hP1, hD1⟩ := hB
  have hP1 := g5_ht ht hP1
  obtain ⟨z3, z4, z5, (i_1 : TOKI z3 z4), (i_2 : ∃ T : Nat, TKA z3 z4 z5 f_x p_n.toInt.toNat T ∧ TKE z3 z5 f_x p_n.toInt.toNat T), rfl⟩ := hw
  have hJ9 := va_join (wr := [(a_r, (oc4 a_tk a_rh a_rs a_rc e_ln e_pa e_at e_fp)), (a_rc, (arI G 400 f_rc)), (a_rh, (arI G 12 f_rh)), (a_rs, (arI G 13 f_rs))]) hP hD [1, 2, 3, 4, 8] [0, 5, 6, 7] rfl rfl (by decide +kernel) (by decide +kernel) hk1 hFc hP1 hD1
  clear hP hD hPc hDc hFc ht hvm hz1 hk1 hP1 hD1
  obtain ⟨hP, hD⟩ := hJ9
  refine g5_rs [(a_r, (oc4 a_tk a_rh a_rs a_rc e_ln e_pa e_at e_fp)), (a_rc, (arI G 400 f_rc)), (a_rh, (arI G 12 f_rh)), (a_rs, (arI G 13 f_rs)), (a_tk, (oc8 a_kd a_nm a_pl)), (a_kd, (arI G 401 z3)), (a_nm, (arI G 401 z4)), (a_pl, (arI G 401 z5)), (a_x, (arI G 400 f_x))] hP hD ?_
  clear hP hD
  intro hP hD
  obtain ⟨TT, hT1, hT2⟩ := i_2
  have e_kr : TKR z3 z4 f_x p_n.toInt.toNat TT := tkr_of (by omega) hT1 hT2
  have hT4 : (TT : Int) ≤ 400 := by have z9 := e_kr.2.2.2; omega
  refine lv_aload_n hx hb dX4_read_9 rfl (lv_at hl 0 rfl) ?_
  refine lv_iconst (v := 0) hx hb dX4_read_10 (by decide +kernel) ?_
  refine va_put (D := G.1) (ci := 4) (v := .int 0) (ty := .int) (C := RX4) (T := TX4) (N := 8) hx hb hts inG_X4 tyX4 tyX4_ok nmX4 hown hK hP hD hS 0 rfl rfl 4 (by decide +kernel) (hts _ fl_X4_36) (fun _ h9 => h9) rfl (by decide +kernel) rfl rfl (Nat.le_of_ble_eq_true rfl) dX4_read_11 ?_
  clear hP hD hS
  intro H locs hP hD hS
  refine g5_rs [(a_r, (oc4 a_tk a_rh a_rs a_rc 0 e_pa e_at e_fp)), (a_rc, (arI G 400 f_rc)), (a_rh, (arI G 12 f_rh)), (a_rs, (arI G 13 f_rs)), (a_tk, (oc8 a_kd a_nm a_pl)), (a_kd, (arI G 401 z3)), (a_nm, (arI G 401 z4)), (a_pl, (arI G 401 z5)), (a_x, (arI G 400 f_x))] hP hD ?_
  clear hP hD
  intro hP hD
  refine lv_aload_n hx hb dX4_read_14 rfl (lv_at hl 0 rfl) ?_
  refine W.eq (g2 := F0 m 15 ls [.ref a_r]) rfl ?_
  refine lv_iconst (v := 0) hx hb dX4_read_15 (by decide +kernel) ?_
  refine va_put (D := G.1) (ci := 4) (v := .int 0) (ty := .int) (C := RX4) (T := TX4) (N := 8) hx hb hts inG_X4 tyX4 tyX4_ok nmX4 hown hK hP hD hS 0 rfl rfl 5 (by decide +kernel) (hts _ fl_X4_39) (fun _ h9 => h9) rfl (by decide +kernel) rfl rfl (Nat.le_of_ble_eq_true rfl) dX4_read_16 ?_
  clear hP hD hS
  intro H locs hP hD hS
  refine g5_rs [(a_r, (oc4 a_tk a_rh a_rs a_rc 0 0 e_at e_fp)), (a_rc, (arI G 400 f_rc)), (a_rh, (arI G 12 f_rh)), (a_rs, (arI G 13 f_rs)), (a_tk, (oc8 a_kd a_nm a_pl)), (a_kd, (arI G 401 z3)), (a_nm, (arI G 401 z4)), (a_pl, (arI G 401 z5)), (a_x, (arI G 400 f_x))] hP hD ?_
  clear hP hD
  intro hP hD
  refine lv_aload_n hx hb dX4_read_19 rfl (lv_at hl 0 rfl) ?_
  refine lv_iconst (v := 0) hx hb dX4_read_20 (by decide +kernel) ?_
  refine va_put (D := G.1) (ci := 4) (v := .int 0) (ty := .int) (C := RX4) (T := TX4) (N := 8) hx hb hts inG_X4 tyX4 tyX4_ok nmX4 hown hK hP hD hS 0 rfl rfl 6 (by decide +kernel) (hts _ fl_X4_42) (fun _ h9 => h9) rfl (by decide +kernel) rfl rfl (Nat.le_of_ble_eq_true rfl) dX4_read_21 ?_
  clear hP hD hS
  intro H locs hP hD hS
  refine g5_rs [(a_r, (oc4 a_tk a_rh a_rs a_rc 0 0 0 e_fp)), (a_rc, (arI G 400 f_rc)), (a_rh, (arI G 12 f_rh)), (a_rs, (arI G 13 f_rs)), (a_tk, (oc8 a_kd a_nm a_pl)), (a_kd, (arI G 401 z3)), (a_nm, (arI G 401 z4)), (a_pl, (arI G 401 z5)), (a_x, (arI G 400 f_x))] hP hD ?_
  clear hP hD
  intro hP hD
  refine W.eq (g2 := F0 m 24 ls []) rfl ?_
  refine lv_iconst (v := 0) hx hb dX4_read_24 (by decide +kernel) ?_
  refine lv_istore_n (lv' := [(3, .int 0), (0, .ref a_r), (1, .ref a_x), (2, .int p_n)]) hx hb dX4_read_25 rfl hl (by decide +kernel) rfl ?_
  clear hl
  intro ls hl
  refine g5_loop (α := (Int32) × (Int32) × (Int32) × (Int32) × (Nat → Int32) × (Nat → Int32) × (Nat → Int32)) (fun (q : (Int32) × (Int32) × (Int32) × (Int32) × (Nat → Int32) × (Nat → Int32) × (Nat → Int32)) (ls : Array Slot) (H : Heap) (locs : List Loc) => match q with | (k_c, k_ln, k_pa, k_at, k_rc, k_rh, k_rs) => lv_has ls 4 [(3, .int k_c), (0, .ref a_r), (1, .ref a_x), (2, .int p_n)] ∧ va_P G.1 vwCl [(a_r, (oc4 a_tk a_rh a_rs a_rc k_ln k_pa k_at e_fp)), (a_rc, (arI G 400 k_rc)), (a_rh, (arI G 12 k_rh)), (a_rs, (arI G 13 k_rs)), (a_tk, (oc8 a_kd a_nm a_pl)), (a_kd, (arI G 401 z3)), (a_nm, (arI G 401 z4)), (a_pl, (arI G 401 z5)), (a_x, (arI G 400 f_x))] H ∧ va_D A [(a_r, (oc4 a_tk a_rh a_rs a_rc k_ln k_pa k_at e_fp)), (a_rc, (arI G 400 k_rc)), (a_rh, (arI G 12 k_rh)), (a_rs, (arI G 13 k_rs)), (a_tk, (oc8 a_kd a_nm a_pl)), (a_kd, (arI G 401 z3)), (a_nm, (arI G 401 z4)), (a_pl, (arI G 401 z5)), (a_x, (arI G 400 f_x))] ∧ va_S A s.heap H locs ∧ (0 ≤ k_c.toInt ∧ k_c.toInt ≤ 12) ∧ (0 ≤ k_ln.toInt ∧ k_ln.toInt ≤ 400) ∧ (0 ≤ k_pa.toInt ∧ k_pa.toInt ≤ 50) ∧ (0 ≤ k_at.toInt ∧ k_at.toInt ≤ 401) ∧ (CDI k_rc k_ln.toInt) ∧ (STI k_rs k_c.toInt k_ln.toInt) ∧ (LLC (KDT f_x p_n.toInt.toNat) (NMT f_x p_n.toInt.toNat) k_rh k_rs k_rc k_at k_pa k_ln k_c) ∧ (lvC k_rc k_ln.toInt.toNat = k_pa.toInt.toNat) ∧ (k_at.toInt ≤ (TT : Int) ∧ k_ln.toInt ≤ k_at.toInt)) (fun (q : (Int32) × (Int32) × (Int32) × (Int32) × (Nat → Int32) × (Nat → Int32) × (Nat → Int32)) => match q with | (k_c, k_ln, k_pa, k_at, k_rc, k_rh, k_rs) => Int.toNat (12 - k_c.toInt)) (0, 0, 0, 0, f_rc, f_rh, f_rs) ⟨lv_sub hl [0, 1, 2, 3] rfl, hP, hD, hS, ⟨by decide, by decide⟩, ⟨by decide, by decide⟩, ⟨by decide, by decide⟩, ⟨by decide, by decide⟩, cdi_0 (by decide +kernel), sti_0, llc_0 (by decide +kernel) (by decide +kernel) (by decide +kernel), by rw [show (0 : Int32).toInt.toNat = 0 from by decide]; rfl, by have z0 : (0 : Int32).toInt = 0 := (by decide +kernel); omega⟩ ?_
  rintro ⟨k_c, k_ln, k_pa, k_at, k_rc, k_rh, k_rs⟩ ls H locs ⟨hl, hP, hD, hS, (i_6 : 0 ≤ k_c.toInt ∧ k_c.toInt ≤ 12), (i_7 : 0 ≤ k_ln.toInt ∧ k_ln.toInt ≤ 400), (i_8 : 0 ≤ k_pa.toInt ∧ k_pa.toInt ≤ 50), (i_9 : 0 ≤ k_at.toInt ∧ k_at.toInt ≤ 401), (i_10 : CDI k_rc k_ln.toInt), (i_11 : STI k_rs k_c.toInt k_ln.toInt), (i_12 : LLC (KDT f_x p_n.toInt.toNat) (NMT f_x p_n.toInt.toNat) k_rh k_rs k_rc k_at k_pa k_ln k_c), (i_13 : lvC k_rc k_ln.toInt.toNat = k_pa.toInt.toNat), (i_14 : k_at.toInt ≤ (TT : Int) ∧ k_ln.toInt ≤ k_at.toInt)⟩ ih_26_15
  replace hl : lv_has ls 4 [(3, .int k_c), (0, .ref a_r), (1, .ref a_x), (2, .int p_n)] := hl
  refine g5_rs [(a_r, (oc4 a_tk a_rh a_rs a_rc k_ln k_pa k_at e_fp)), (a_rc, (arI G 400 k_rc)), (a_rh, (arI G 12 k_rh)), (a_rs, (arI G 13 k_rs)), (a_tk, (oc8 a_kd a_nm a_pl)), (a_kd, (arI G 401 z3)), (a_nm, (arI G 401 z4)), (a_pl, (arI G 401 z5)), (a_x, (arI G 400 f_x))] hP hD ?_
  clear hP hD
  intro hP hD
  refine lv_iload_n hx hb dX4_read_26 rfl (lv_at hl 0 rfl) ?_
  refine lv_bipush (v := 12) hx hb dX4_read_27 (by decide +kernel) ?_
  refine lv_icmp_ge (tgt := 127) hx hb dX4_read_29 (by decide +kernel) (fun c_16 => ?_) (fun c_16 => ?_)
  ·
    have i_16 : k_c.toInt ≥ 12 := g5_ge (a := k_c.toInt) (b := 12) rfl (by decide +kernel) c_16
    have hpl9 : (z5 k_at.toNatClampNeg).toInt = (pT f_x p_n.toInt.toNat k_at.toInt.toNat : Int) := pl_at hT1 hT2 (by omega) (by omega)
    refine lv_aload_n hx hb dX4_read_127 rfl (lv_at hl 1 rfl) ?_
    refine lv_aload_n hx hb dX4_read_128 rfl (lv_at hl 1 rfl) ?_
    refine va_get (D := G.1) (ci := 4) (v := .int k_at) (C := RX4) (T := TX4) (N := 8) hx hb hts inG_X4 hown hK hP 0 rfl rfl 6 (by decide +kernel) (hts _ fl_X4_42) (fun _ h9 => h9) rfl dX4_read_129 ?_
    refine lv_aload_n hx hb dX4_read_132 rfl (lv_at hl 1 rfl) ?_
    refine W.eq (g2 := F0 m 133 ls [.ref a_r, .int k_at, .ref a_r]) rfl ?_
    refine va_get (D := G.1) (ci := 4) (v := .ref a_tk) (C := RX4) (T := TX4) (N := 8) hx hb hts inG_X4 hown hK hP 0 rfl rfl 0 (by decide +kernel) (hts _ fl_X4_12) (fun _ h9 => h9) rfl dX4_read_133 ?_
    refine va_get (D := G.1) (ci := 8) (v := .ref a_pl) (C := RX8) (T := TX8) (N := 3) hx hb hts inG_X8 hown hK hP 4 rfl rfl 2 (by decide +kernel) (hts _ fl_X4_66) (fun _ h9 => h9) rfl dX4_read_136 ?_
    refine va_alen hx hb hK hP 7 0 rfl rfl (v := 401) (by show Int32.ofNat 401 = 401; decide) dX4_read_139 ?_
    refine lv_icmp_ge (tgt := 158) hx hb dX4_read_140 (by decide +kernel) (fun c_17 => ?_) (fun c_17 => ?_)
    ·
      have i_17 : k_at.toInt ≥ 401 := g5_ge (a := k_at.toInt) (b := 401) rfl (by decide +kernel) c_17
      omega
    ·
      have i_17 : k_at.toInt < 401 := g5_geN (a := k_at.toInt) (b := 401) rfl (by decide +kernel) c_17
      refine lv_aload_n hx hb dX4_read_143 rfl (lv_at hl 1 rfl) ?_
      refine va_get (D := G.1) (ci := 4) (v := .ref a_tk) (C := RX4) (T := TX4) (N := 8) hx hb hts inG_X4 hown hK hP 0 rfl rfl 0 (by decide +kernel) (hts _ fl_X4_12) (fun _ h9 => h9) rfl dX4_read_144 ?_
      refine va_get (D := G.1) (ci := 8) (v := .ref a_pl) (C := RX8) (T := TX8) (N := 3) hx hb hts inG_X8 hown hK hP 4 rfl rfl 2 (by decide +kernel) (hts _ fl_X4_66) (fun _ h9 => h9) rfl dX4_read_147 ?_
      refine lv_aload_n hx hb dX4_read_150 rfl (lv_at hl 1 rfl) ?_
      refine W.eq (g2 := F0 m 151 ls [.ref a_r, .ref a_pl, .ref a_r]) rfl ?_
      refine va_get (D := G.1) (ci := 4) (v := .int k_at) (C := RX4) (T := TX4) (N := 8) hx hb hts inG_X4 hown hK hP 0 rfl rfl 6 (by decide +kernel) (hts _ fl_X4_42) (fun _ h9 => h9) rfl dX4_read_151 ?_
      refine va_iald hx hb hK hP 7 0 rfl rfl (i := k_at) (vp_in_iff.mpr ⟨by omega, by omega⟩) dX4_read_154 ?_
      refine lv_goto (tgt := 159) hx hb dX4_read_155 (by decide +kernel) ?_
      refine va_put (D := G.1) (ci := 4) (v := .int (z5 k_at.toNatClampNeg)) (ty := .int) (C := RX4) (T := TX4) (N := 8) hx hb hts inG_X4 tyX4 tyX4_ok nmX4 hown hK hP hD hS 0 rfl rfl 7 (by decide +kernel) (hts _ fl_X4_28) (fun _ h9 => h9) rfl (by decide +kernel) rfl rfl (Nat.le_of_ble_eq_true rfl) dX4_read_159 ?_
      clear hP hD hS
      intro H locs hP hD hS
      refine g5_rs [(a_r, (oc4 a_tk a_rh a_rs a_rc k_ln k_pa k_at (z5 k_at.toNatClampNeg))), (a_rc, (arI G 400 k_rc)), (a_rh, (arI G 12 k_rh)), (a_rs, (arI G 13 k_rs)), (a_tk, (oc8 a_kd a_nm a_pl)), (a_kd, (arI G 401 z3)), (a_nm, (arI G 401 z4)), (a_pl, (arI G 401 z5)), (a_x, (arI G 400 f_x))] hP hD ?_
      clear hP hD
      intro hP hD
      refine lv_null hx hb dX4_read_162 ?_
      refine W.eq (g2 := F0 m 163 ls [.null]) rfl ?_
      refine W.widen (k := 4) (n := 429) (by decide +kernel) (by decide +kernel) ?_
      exact W.aret (v := .null) hx hb hr (Or.inl ⟨_, rfl⟩) (Or.inl rfl) (fun t ht hW => ⟨⟨none, [(a_r, (oc4 a_tk a_rh a_rs a_rc k_ln k_pa k_at (z5 k_at.toNatClampNeg))), (a_tk, (oc8 a_kd a_nm a_pl)), (a_kd, (arI G 401 z3)), (a_nm, (arI G 401 z4)), (a_pl, (arI G 401 z5)), (a_rc, (arI G 400 k_rc)), (a_rh, (arI G 12 k_rh)), (a_rs, (arI G 13 k_rs)), (a_x, (arI G 400 f_x))], rfl, Or.inl (⟨k_ln, k_pa, k_at, k_rc, (z5 k_at.toNatClampNeg), k_rh, k_rs, z3, z4, z5, i_7, i_9, i_8, i_1, by have e9 : LAWX f_x p_n.toInt.toNat = _ := llc_out i_12 (by omega); rw [e9]; exact ⟨rfl, hpl9⟩, rfl, rfl⟩), by rw [ht]; exact hP.sub [0, 4, 5, 6, 7, 1, 2, 3, 8] rfl, hD.sub [0, 4, 5, 6, 7, 1, 2, 3, 8] (by decide +kernel) rfl⟩, hS.F ht⟩) hS.2.2 dX4_read_163
  ·
    have i_16 : k_c.toInt < 12 := g5_geN (a := k_c.toInt) (b := 12) rfl (by decide +kernel) c_16
    refine lv_aload_n hx hb dX4_read_32 rfl (lv_at hl 1 rfl) ?_
    refine lv_iload_n hx hb dX4_read_33 rfl (lv_at hl 0 rfl) ?_
    obtain ⟨hPc, hDc, hFc⟩ := g5_sub3 (wc := [(a_r, (oc4 a_tk a_rh a_rs a_rc k_ln k_pa k_at e_fp)), (a_tk, (oc8 a_kd a_nm a_pl)), (a_kd, (arI G 401 z3)), (a_nm, (arI G 401 z4)), (a_rc, (arI G 400 k_rc)), (a_rh, (arI G 12 k_rh)), (a_rs, (arI G 13 k_rs))]) hP hD hS hA [0, 4, 5, 6, 1, 2, 3] (by decide +kernel) rfl
    refine va_calli (va_runV (As := [.int k_c]) (rest := []) ⟨hx, hb, hml, hown, hts⟩ (r_clauseX l G a_r a_tk a_kd a_nm a_rc a_rh a_rs a_pl H.size k_ln k_pa k_at e_fp k_c z3 z4 k_rc k_rh k_rs f_x p_n.toInt.toNat TT i_7 i_8 i_9 ⟨by omega, by omega⟩ (i_1) (i_10) (e_tx) (e_kr) (by omega) (by omega) (i_13) (i_11)) (cwV 1 hts gV_X4_45 rfl rfl rfl hv_X4_readClause ⟨Nat.le_of_ble_eq_true rfl, Nat.le_of_ble_eq_true rfl⟩) (g5_preV hPc hK hDc hN hT hS hFc (ci := 4) (q0 := 0) rfl rfl) rfl rfl hl.1 rfl (lv_room (Nat.le_of_ble_eq_true rfl)) dX4_read_34 ⟨Nat.le_of_ble_eq_true rfl, Nat.le_of_ble_eq_true rfl⟩) hS (fun q _ h => hFc q h) hFc (fun r u t H locs ht hvm hw hB hz1 hk1 hS => ?_)
    obtain ⟨hP1, hD1⟩ := hB
    have hP1 := g5_ht ht hP1
    rcases hw with ⟨z26, z27, z28, z29, z30, z31, (i_18 : k_ln.toInt ≤ z26.toInt ∧ z26.toInt ≤ 400), (i_19 : 0 ≤ z28.toInt ∧ z28.toInt ≤ 401), (i_20 : 0 ≤ z27.toInt ∧ z27.toInt ≤ 50), (i_21 : CDI z29 z26.toInt), (i_22 : STI z31 (k_c.toInt + 1) z26.toInt), (i_23 : ∃ c : CLT, clsP (KDT f_x p_n.toInt.toNat) (NMT f_x p_n.toInt.toNat) k_at.toInt.toNat k_pa.toInt.toNat = (z28.toInt.toNat, z27.toInt.toNat, some c) ∧ KCC k_rc z29 k_ln.toInt ∧ (z30 k_c.toNatClampNeg).toInt = c.1 ∧ z31 k_c.toNatClampNeg = k_ln ∧ CLC z29 k_ln.toInt.toNat z26.toInt.toNat c ∧ lvC z29 z26.toInt.toNat = z27.toInt.toNat), (i_24 : ∀ j : Nat, j ≠ k_c.toNatClampNeg → z30 j = k_rh j ∧ z31 j = k_rs j), (i_25 : z28.toInt ≤ (TT : Int) ∧ k_at.toInt < z28.toInt ∧ z26.toInt + k_at.toInt ≤ k_ln.toInt + z28.toInt), rfl, rfl⟩ | ⟨z38, z39, z40, z41, z42, z43, (i_32 : k_ln.toInt ≤ z38.toInt ∧ z38.toInt ≤ 400), (i_33 : 0 ≤ z40.toInt ∧ z40.toInt ≤ 401), (i_34 : 0 ≤ z39.toInt ∧ z39.toInt ≤ 50), (i_35 : CDI z41 z38.toInt), (i_36 : ∃ q : Nat, clsP (KDT f_x p_n.toInt.toNat) (NMT f_x p_n.toInt.toNat) k_at.toInt.toNat k_pa.toInt.toNat = (z40.toInt.toNat, q, none)), (i_37 : z40.toInt ≤ (TT : Int)), rfl, rfl⟩
    ·
      have hJ9 := va_join (wr := [(a_pl, (arI G 401 z5)), (a_x, (arI G 400 f_x))]) hP hD [0, 4, 5, 6, 1, 2, 3] [7, 8] rfl rfl (by decide +kernel) (by decide +kernel) hk1 hFc hP1 hD1
      clear hP hD hPc hDc hFc ht hvm hz1 hk1 hP1 hD1
      obtain ⟨hP, hD⟩ := hJ9
      refine g5_rs [(a_pl, (arI G 401 z5)), (a_x, (arI G 400 f_x)), (a_r, (oc4 a_tk a_rh a_rs a_rc z26 z27 z28 e_fp)), (a_tk, (oc8 a_kd a_nm a_pl)), (a_kd, (arI G 401 z3)), (a_nm, (arI G 401 z4)), (a_rc, (arI G 400 z29)), (a_rh, (arI G 12 z30)), (a_rs, (arI G 13 z31))] hP hD ?_
      clear hP hD
      intro hP hD
      obtain ⟨cc9, hx1, hx2, hx3, hx4, hx5, hx7⟩ := i_23
      have hNX := llc_nx (k' := (k_c + 1)) i_12 ⟨by omega, by omega⟩ (g_incC k_c (by omega)) i_24 hx2 hx3 hx4 hx5 i_11
      have hK_44 : (z3 z28.toNatClampNeg).toInt = KDT f_x p_n.toInt.toNat z28.toInt.toNat := tkr_at e_kr (by omega) (by omega)
      refine lv_if_eq (tgt := 127) hx hb dX4_read_37 (by decide +kernel) (fun c_45 => ?_) (fun c_45 => ?_)
      ·
        exact absurd c_45 (by decide +kernel)
      ·
        refine lv_aload_n hx hb dX4_read_40 rfl (lv_at hl 1 rfl) ?_
        refine lv_sipush (v := 302) hx hb dX4_read_41 (by decide +kernel) ?_
        obtain ⟨hPc, hDc, hFc⟩ := g5_sub3 (wc := [(a_r, (oc4 a_tk a_rh a_rs a_rc z26 z27 z28 e_fp)), (a_tk, (oc8 a_kd a_nm a_pl)), (a_kd, (arI G 401 z3))]) hP hD hS hA [2, 3, 4] (by decide +kernel) rfl
        refine va_calli (va_runV (As := [.int 302]) (rest := []) ⟨hx, hb, hml, hown, hts⟩ (r_isNextX302 l G a_r a_tk a_kd a_rh a_rs a_rc a_nm a_pl H.size z26 z27 z28 e_fp z3 ⟨by omega, by omega⟩ i_20 i_19 (by omega)) (cwV 1 hts gV_X4_49 rfl rfl rfl hv_X4_isNext ⟨Nat.le_of_ble_eq_true rfl, Nat.le_of_ble_eq_true rfl⟩) (g5_preV hPc hK hDc hN hT hS hFc (ci := 4) (q0 := 0) rfl rfl) rfl rfl hl.1 rfl (lv_room (Nat.le_of_ble_eq_true rfl)) dX4_read_44 ⟨Nat.le_of_ble_eq_true rfl, Nat.le_of_ble_eq_true rfl⟩) hS (fun q _ h => hFc q h) hFc (fun r u t H locs ht hvm hw hB hz1 hk1 hS => ?_)
        obtain ⟨hP1, hD1⟩ := hB
        have hP1 := g5_ht ht hP1
        rcases hw with ⟨(i_46 : (z3 z28.toNatClampNeg).toInt = 302), rfl, rfl⟩ | ⟨(i_47 : gNe (z3 z28.toNatClampNeg).toInt 302), rfl, rfl⟩
        ·
          have hJ9 := va_join (wr := [(a_pl, (arI G 401 z5)), (a_x, (arI G 400 f_x)), (a_nm, (arI G 401 z4)), (a_rc, (arI G 400 z29)), (a_rh, (arI G 12 z30)), (a_rs, (arI G 13 z31))]) hP hD [2, 3, 4] [0, 1, 5, 6, 7, 8] rfl rfl (by decide +kernel) (by decide +kernel) hk1 hFc hP1 hD1
          clear hP hD hPc hDc hFc ht hvm hz1 hk1 hP1 hD1
          obtain ⟨hP, hD⟩ := hJ9
          refine g5_rs [(a_pl, (arI G 401 z5)), (a_x, (arI G 400 f_x)), (a_nm, (arI G 401 z4)), (a_rc, (arI G 400 z29)), (a_rh, (arI G 12 z30)), (a_rs, (arI G 13 z31)), (a_r, (oc4 a_tk a_rh a_rs a_rc z26 z27 z28 e_fp)), (a_tk, (oc8 a_kd a_nm a_pl)), (a_kd, (arI G 401 z3))] hP hD ?_
          clear hP hD
          intro hP hD
          refine lv_if_eq (tgt := 109) hx hb dX4_read_47 (by decide +kernel) (fun c_48 => ?_) (fun c_48 => ?_)
          ·
            exact absurd c_48 (by decide +kernel)
          ·
            refine lv_aload_n hx hb dX4_read_50 rfl (lv_at hl 1 rfl) ?_
            refine lv_iconst (v := (-1)) hx hb dX4_read_51 (by decide +kernel) ?_
            refine va_put (D := G.1) (ci := 4) (v := .int (-1)) (ty := .int) (C := RX4) (T := TX4) (N := 8) hx hb hts inG_X4 tyX4 tyX4_ok nmX4 hown hK hP hD hS 6 rfl rfl 7 (by decide +kernel) (hts _ fl_X4_28) (fun _ h9 => h9) rfl (by decide +kernel) rfl rfl (Nat.le_of_ble_eq_true rfl) dX4_read_52 ?_
            clear hP hD hS
            intro H locs hP hD hS
            refine g5_rs [(a_pl, (arI G 401 z5)), (a_x, (arI G 400 f_x)), (a_nm, (arI G 401 z4)), (a_rc, (arI G 400 z29)), (a_rh, (arI G 12 z30)), (a_rs, (arI G 13 z31)), (a_r, (oc4 a_tk a_rh a_rs a_rc z26 z27 z28 (-1))), (a_tk, (oc8 a_kd a_nm a_pl)), (a_kd, (arI G 401 z3))] hP hD ?_
            clear hP hD
            intro hP hD
            refine lv_aload_n hx hb dX4_read_55 rfl (lv_at hl 1 rfl) ?_
            refine W.eq (g2 := F0 m 56 ls [.ref a_r]) rfl ?_
            refine va_get (D := G.1) (ci := 4) (v := .ref a_rs) (C := RX4) (T := TX4) (N := 8) hx hb hts inG_X4 hown hK hP 6 rfl rfl 2 (by decide +kernel) (hts _ fl_X4_22) (fun _ h9 => h9) rfl dX4_read_56 ?_
            refine lv_iload_n hx hb dX4_read_59 rfl (lv_at hl 0 rfl) ?_
            refine lv_iconst (v := 1) hx hb dX4_read_60 (by decide +kernel) ?_
            refine lv_iadd hx hb dX4_read_61 ?_
            have t_49 : (k_c + 1).toInt = k_c.toInt + 1 := g5_iadd (a := k_c.toInt) (b := 1) (by rfl) (by decide +kernel) (by omega) (by omega)
            refine lv_aload_n hx hb dX4_read_62 rfl (lv_at hl 1 rfl) ?_
            refine W.eq (g2 := F0 m 63 ls [.ref a_r, .int (k_c + 1), .ref a_rs]) rfl ?_
            refine va_get (D := G.1) (ci := 4) (v := .int z26) (C := RX4) (T := TX4) (N := 8) hx hb hts inG_X4 hown hK hP 6 rfl rfl 4 (by decide +kernel) (hts _ fl_X4_36) (fun _ h9 => h9) rfl dX4_read_63 ?_
            refine va_iast hx hb hK hP hD hS 5 0 rfl rfl (i := (k_c + 1)) (x := z26) (vp_in_iff.mpr ⟨by omega, by omega⟩) dX4_read_66 ?_
            clear hP hD hS
            intro H locs hP hD hS
            refine g5_rs [(a_pl, (arI G 401 z5)), (a_x, (arI G 400 f_x)), (a_nm, (arI G 401 z4)), (a_rc, (arI G 400 z29)), (a_rh, (arI G 12 z30)), (a_rs, (arI G 13 (upd z31 (k_c + 1).toNatClampNeg z26))), (a_r, (oc4 a_tk a_rh a_rs a_rc z26 z27 z28 (-1))), (a_tk, (oc8 a_kd a_nm a_pl)), (a_kd, (arI G 401 z3))] hP hD ?_
            clear hP hD
            intro hP hD
            refine va_new (D := G.1) (ci := 3) (fs := [.int 0, .null, .null, .null]) (C := RX3) (T := TX3) (N := 4) hx hb hts inG_X3 tyX3 tyX3_ok hown (hts _ cl_X4_52) (hts _ isn_X3) (hts _ ini_X3) hK hP hD hS hA rfl (fun j hj => by rcases (show j = 0 ∨ j = 1 ∨ j = 2 ∨ j = 3 by omega) with rfl | rfl | rfl | rfl <;> rfl) (Nat.le_of_ble_eq_true rfl) (Nat.le_of_ble_eq_true rfl) dX4_read_67 (fun q50 H hP hD hS => ?_)
            refine g5_rs [(a_pl, (arI G 401 z5)), (a_x, (arI G 400 f_x)), (a_nm, (arI G 401 z4)), (a_rc, (arI G 400 z29)), (a_rh, (arI G 12 z30)), (a_rs, (arI G 13 (upd z31 (k_c + 1).toNatClampNeg z26))), (a_r, (oc4 a_tk a_rh a_rs a_rc z26 z27 z28 (-1))), (a_tk, (oc8 a_kd a_nm a_pl)), (a_kd, (arI G 401 z3)), (q50, .inr (3, [.int 0, .null, .null, .null]))] hP hD ?_
            clear hP hD
            intro hP hD
            refine W.widen (k := 1) (n := 4) (Nat.le_of_ble_eq_true rfl) (Nat.le_of_ble_eq_true rfl) ?_
            refine lv_dup hx hb dX4_read_70 rfl ?_
            refine lv_iload_n hx hb dX4_read_71 rfl (lv_at hl 0 rfl) ?_
            refine W.eq (g2 := F0 m 72 ls [.int k_c, .ref q50, .ref q50]) rfl ?_
            refine lv_iconst (v := 1) hx hb dX4_read_72 (by decide +kernel) ?_
            refine lv_iadd hx hb dX4_read_73 ?_
            have t_51 : (k_c + 1).toInt = k_c.toInt + 1 := g5_iadd (a := k_c.toInt) (b := 1) (by rfl) (by decide +kernel) (by omega) (by omega)
            refine lv_aload_n hx hb dX4_read_74 rfl (lv_at hl 1 rfl) ?_
            refine va_get (D := G.1) (ci := 4) (v := .ref a_rh) (C := RX4) (T := TX4) (N := 8) hx hb hts inG_X4 hown hK hP 6 rfl rfl 1 (by decide +kernel) (hts _ fl_X4_18) (fun _ h9 => h9) rfl dX4_read_75 ?_
            refine lv_iload_n hx hb dX4_read_78 rfl (lv_at hl 0 rfl) ?_
            refine W.eq (g2 := F0 m 79 ls [.int k_c, .ref a_rh, .int (k_c + 1), .ref q50, .ref q50]) rfl ?_
            refine lv_iconst (v := 1) hx hb dX4_read_79 (by decide +kernel) ?_
            refine lv_iadd hx hb dX4_read_80 ?_
            have t_52 : (k_c + 1).toInt = k_c.toInt + 1 := g5_iadd (a := k_c.toInt) (b := 1) (by rfl) (by decide +kernel) (by omega) (by omega)
            obtain ⟨hPc, hDc, hFc⟩ := g5_sub3 (wc := [(a_rh, (arI G 12 z30))]) hP hD hS hA [4] (by decide +kernel) rfl
            refine va_callq (va_runS (As := [.ref a_rh, .int (k_c + 1)]) (rest := [.int (k_c + 1), .ref q50, .ref q50]) ⟨hx, hb, hml, hown, hts⟩ (k_copyOf12 l G a_rh H.size (k_c + 1) z30 ⟨by omega, by omega⟩) (va_cwS 2 hts gS_X4_54 rfl rfl rfl hs_J7_copyOf_59c91 ⟨Nat.le_of_ble_eq_true rfl, Nat.le_of_ble_eq_true rfl⟩) (g5_preS hPc hK hDc hN hT hS hFc) rfl rfl hl.1 rfl (lv_room (Nat.le_of_ble_eq_true rfl)) dX4_read_81 ⟨Nat.le_of_ble_eq_true rfl, Nat.le_of_ble_eq_true rfl⟩) hS (fun q _ h => hFc q h) hFc (fun r u t H locs ht hvm hw hB hz1 hk1 hS => ?_)
            obtain ⟨hP1, hD1⟩ := hB
            have hP1 := g5_ht ht hP1
            refine W.widen (k := 2) (n := 16) (Nat.le_of_ble_eq_true rfl) (Nat.le_of_ble_eq_true rfl) ?_
            obtain ⟨z55, z56, z57, (i_53 : (z56 : Int) = (k_c + 1).toInt), (i_54 : ∀ j : Nat, j < z56 → z57 j = z30 j), rfl, rfl⟩ := hw
            have hJ9 := va_join (wr := [(a_pl, (arI G 401 z5)), (a_x, (arI G 400 f_x)), (a_nm, (arI G 401 z4)), (a_rc, (arI G 400 z29)), (a_rs, (arI G 13 (upd z31 (k_c + 1).toNatClampNeg z26))), (a_r, (oc4 a_tk a_rh a_rs a_rc z26 z27 z28 (-1))), (a_tk, (oc8 a_kd a_nm a_pl)), (a_kd, (arI G 401 z3)), (q50, .inr (3, [.int 0, .null, .null, .null]))]) hP hD [4] [0, 1, 2, 3, 5, 6, 7, 8, 9] rfl rfl (by decide +kernel) (by decide +kernel) hk1 hFc hP1 hD1
            clear hP hD hPc hDc hFc ht hvm hz1 hk1 hP1 hD1
            obtain ⟨hP, hD⟩ := hJ9
            refine g5_rs [(a_pl, (arI G 401 z5)), (a_x, (arI G 400 f_x)), (a_nm, (arI G 401 z4)), (a_rc, (arI G 400 z29)), (a_rs, (arI G 13 (upd z31 (k_c + 1).toNatClampNeg z26))), (a_r, (oc4 a_tk a_rh a_rs a_rc z26 z27 z28 (-1))), (a_tk, (oc8 a_kd a_nm a_pl)), (a_kd, (arI G 401 z3)), (q50, .inr (3, [.int 0, .null, .null, .null])), (a_rh, (arI G 12 z30)), (z55, (arI G z56 z57))] hP hD ?_
            clear hP hD
            intro hP hD
            refine g5_tv (v := .ref z55) rfl ?_
            refine lv_aload_n hx hb dX4_read_84 rfl (lv_at hl 1 rfl) ?_
            refine va_get (D := G.1) (ci := 4) (v := .ref a_rs) (C := RX4) (T := TX4) (N := 8) hx hb hts inG_X4 hown hK hP 5 rfl rfl 2 (by decide +kernel) (hts _ fl_X4_22) (fun _ h9 => h9) rfl dX4_read_85 ?_
            refine W.eq (g2 := F0 m 88 ls [.ref a_rs, .ref z55, .int (k_c + 1), .ref q50, .ref q50]) rfl ?_
            refine lv_iload_n hx hb dX4_read_88 rfl (lv_at hl 0 rfl) ?_
            refine lv_iconst (v := 2) hx hb dX4_read_89 (by decide +kernel) ?_
            refine lv_iadd hx hb dX4_read_90 ?_
            have t_58 : (k_c + 2).toInt = k_c.toInt + 2 := g5_iadd (a := k_c.toInt) (b := 2) (by rfl) (by decide +kernel) (by omega) (by omega)
            obtain ⟨hPc, hDc, hFc⟩ := g5_sub3 (wc := [(a_rs, (arI G 13 (upd z31 (k_c + 1).toNatClampNeg z26)))]) hP hD hS hA [4] (by decide +kernel) rfl
            refine va_callq (va_runS (As := [.ref a_rs, .int (k_c + 2)]) (rest := [.ref z55, .int (k_c + 1), .ref q50, .ref q50]) ⟨hx, hb, hml, hown, hts⟩ (k_copyOf13 l G a_rs H.size (k_c + 2) (upd z31 (k_c + 1).toNatClampNeg z26) ⟨by omega, by omega⟩) (va_cwS 2 hts gS_X4_54 rfl rfl rfl hs_J7_copyOf_59c91 ⟨Nat.le_of_ble_eq_true rfl, Nat.le_of_ble_eq_true rfl⟩) (g5_preS hPc hK hDc hN hT hS hFc) rfl rfl hl.1 rfl (lv_room (Nat.le_of_ble_eq_true rfl)) dX4_read_91 ⟨Nat.le_of_ble_eq_true rfl, Nat.le_of_ble_eq_true rfl⟩) hS (fun q _ h => hFc q h) hFc (fun r u t H locs ht hvm hw hB hz1 hk1 hS => ?_)
            obtain ⟨hP1, hD1⟩ := hB
            have hP1 := g5_ht ht hP1
            refine W.widen (k := 3) (n := 29) (Nat.le_of_ble_eq_true rfl) (Nat.le_of_ble_eq_true rfl) ?_
            obtain ⟨z61, z62, z63, (i_59 : (z62 : Int) = (k_c + 2).toInt), (i_60 : ∀ j : Nat, j < z62 → z63 j = (upd z31 (k_c + 1).toNatClampNeg z26) j), rfl, rfl⟩ := hw
            have hJ9 := va_join (wr := [(a_pl, (arI G 401 z5)), (a_x, (arI G 400 f_x)), (a_nm, (arI G 401 z4)), (a_rc, (arI G 400 z29)), (a_r, (oc4 a_tk a_rh a_rs a_rc z26 z27 z28 (-1))), (a_tk, (oc8 a_kd a_nm a_pl)), (a_kd, (arI G 401 z3)), (q50, .inr (3, [.int 0, .null, .null, .null])), (a_rh, (arI G 12 z30)), (z55, (arI G z56 z57))]) hP hD [4] [0, 1, 2, 3, 5, 6, 7, 8, 9, 10] rfl rfl (by decide +kernel) (by decide +kernel) hk1 hFc hP1 hD1
            clear hP hD hPc hDc hFc ht hvm hz1 hk1 hP1 hD1
            obtain ⟨hP, hD⟩ := hJ9
            refine g5_rs [(a_pl, (arI G 401 z5)), (a_x, (arI G 400 f_x)), (a_nm, (arI G 401 z4)), (a_rc, (arI G 400 z29)), (a_r, (oc4 a_tk a_rh a_rs a_rc z26 z27 z28 (-1))), (a_tk, (oc8 a_kd a_nm a_pl)), (a_kd, (arI G 401 z3)), (q50, .inr (3, [.int 0, .null, .null, .null])), (a_rh, (arI G 12 z30)), (z55, (arI G z56 z57)), (a_rs, (arI G 13 (upd z31 (k_c + 1).toNatClampNeg z26))), (z61, (arI G z62 z63))] hP hD ?_
            clear hP hD
            intro hP hD
            refine g5_tv (v := .ref z61) rfl ?_
            refine lv_aload_n hx hb dX4_read_94 rfl (lv_at hl 1 rfl) ?_
            refine W.eq (g2 := F0 m 95 ls [.ref a_r, .ref z61, .ref z55, .int (k_c + 1), .ref q50, .ref q50]) rfl ?_
            refine va_get (D := G.1) (ci := 4) (v := .ref a_rc) (C := RX4) (T := TX4) (N := 8) hx hb hts inG_X4 hown hK hP 4 rfl rfl 3 (by decide +kernel) (hts _ fl_X4_25) (fun _ h9 => h9) rfl dX4_read_95 ?_
            refine lv_aload_n hx hb dX4_read_98 rfl (lv_at hl 1 rfl) ?_
            refine va_get (D := G.1) (ci := 4) (v := .int z26) (C := RX4) (T := TX4) (N := 8) hx hb hts inG_X4 hown hK hP 4 rfl rfl 4 (by decide +kernel) (hts _ fl_X4_36) (fun _ h9 => h9) rfl dX4_read_99 ?_
            obtain ⟨hPc, hDc, hFc⟩ := g5_sub3 (wc := [(a_rc, (arI G 400 z29))]) hP hD hS hA [3] (by decide +kernel) rfl
            refine va_callq (va_runS (As := [.ref a_rc, .int z26]) (rest := [.ref z61, .ref z55, .int (k_c + 1), .ref q50, .ref q50]) ⟨hx, hb, hml, hown, hts⟩ (k_copyOf400 l G a_rc H.size z26 z29 ⟨by omega, by omega⟩) (va_cwS 2 hts gS_X4_54 rfl rfl rfl hs_J7_copyOf_59c91 ⟨Nat.le_of_ble_eq_true rfl, Nat.le_of_ble_eq_true rfl⟩) (g5_preS hPc hK hDc hN hT hS hFc) rfl rfl hl.1 rfl (lv_room (Nat.le_of_ble_eq_true rfl)) dX4_read_102 ⟨Nat.le_of_ble_eq_true rfl, Nat.le_of_ble_eq_true rfl⟩) hS (fun q _ h => hFc q h) hFc (fun r u t H locs ht hvm hw hB hz1 hk1 hS => ?_)
            obtain ⟨hP1, hD1⟩ := hB
            have hP1 := g5_ht ht hP1
            refine W.widen (k := 4) (n := 429) (Nat.le_of_ble_eq_true rfl) (Nat.le_of_ble_eq_true rfl) ?_
            obtain ⟨z66, z67, z68, (i_64 : (z67 : Int) = z26.toInt), (i_65 : ∀ j : Nat, j < z67 → z68 j = z29 j), rfl, rfl⟩ := hw
            have hJ9 := va_join (wr := [(a_pl, (arI G 401 z5)), (a_x, (arI G 400 f_x)), (a_nm, (arI G 401 z4)), (a_r, (oc4 a_tk a_rh a_rs a_rc z26 z27 z28 (-1))), (a_tk, (oc8 a_kd a_nm a_pl)), (a_kd, (arI G 401 z3)), (q50, .inr (3, [.int 0, .null, .null, .null])), (a_rh, (arI G 12 z30)), (z55, (arI G z56 z57)), (a_rs, (arI G 13 (upd z31 (k_c + 1).toNatClampNeg z26))), (z61, (arI G z62 z63))]) hP hD [3] [0, 1, 2, 4, 5, 6, 7, 8, 9, 10, 11] rfl rfl (by decide +kernel) (by decide +kernel) hk1 hFc hP1 hD1
            clear hP hD hPc hDc hFc ht hvm hz1 hk1 hP1 hD1
            obtain ⟨hP, hD⟩ := hJ9
            refine g5_rs [(a_pl, (arI G 401 z5)), (a_x, (arI G 400 f_x)), (a_nm, (arI G 401 z4)), (a_r, (oc4 a_tk a_rh a_rs a_rc z26 z27 z28 (-1))), (a_tk, (oc8 a_kd a_nm a_pl)), (a_kd, (arI G 401 z3)), (q50, .inr (3, [.int 0, .null, .null, .null])), (a_rh, (arI G 12 z30)), (z55, (arI G z56 z57)), (a_rs, (arI G 13 (upd z31 (k_c + 1).toNatClampNeg z26))), (z61, (arI G z62 z63)), (a_rc, (arI G 400 z29)), (z66, (arI G z67 z68))] hP hD ?_
            clear hP hD
            intro hP hD
            refine g5_tv (v := .ref z66) rfl ?_
            obtain ⟨hPc, hDc, hFc⟩ := g5_sub3 (wc := [(q50, .inr (3, [.int 0, .null, .null, .null]))]) hP hD hS hA [6] (by decide +kernel) rfl
            refine va_callv (va_runI (As := [.int (k_c + 1), .ref z55, .ref z61, .ref z66]) (rest := [.ref q50]) ⟨hx, hb, hml, hown, hts⟩ (kX3_init l G q50 z55 z61 z66 H.size (k_c + 1) ⟨by omega, by omega⟩) (cwI 4 hts gW_X3_init rfl rfl rfl (hts _ ini_X3) (hts _ ml_X4_60) (hts _ im_X3_init) rfl hs_X3_init ⟨Nat.le_of_ble_eq_true rfl, Nat.le_of_ble_eq_true rfl⟩) (g5_preS hPc hK hDc hN hT hS hFc) rfl rfl hl.1 rfl (lv_room (Nat.le_of_ble_eq_true rfl)) dX4_read_105 ⟨Nat.le_of_ble_eq_true rfl, Nat.le_of_ble_eq_true rfl⟩) hS (fun q _ h => hFc q h) hFc (fun u t H locs ht hvm hw hB hz1 hk1 hS => ?_)
            obtain ⟨hP1, hD1⟩ := hB
            have hP1 := g5_ht ht hP1
            obtain rfl := hw
            have hJ9 := va_join (wr := [(a_pl, (arI G 401 z5)), (a_x, (arI G 400 f_x)), (a_nm, (arI G 401 z4)), (a_r, (oc4 a_tk a_rh a_rs a_rc z26 z27 z28 (-1))), (a_tk, (oc8 a_kd a_nm a_pl)), (a_kd, (arI G 401 z3)), (a_rh, (arI G 12 z30)), (z55, (arI G z56 z57)), (a_rs, (arI G 13 (upd z31 (k_c + 1).toNatClampNeg z26))), (z61, (arI G z62 z63)), (a_rc, (arI G 400 z29)), (z66, (arI G z67 z68))]) hP hD [6] [0, 1, 2, 3, 4, 5, 7, 8, 9, 10, 11, 12] rfl rfl (by decide +kernel) (by decide +kernel) hk1 hFc hP1 hD1
            clear hP hD hPc hDc hFc ht hvm hz1 hk1 hP1 hD1
            obtain ⟨hP, hD⟩ := hJ9
            refine g5_rs [(a_pl, (arI G 401 z5)), (a_x, (arI G 400 f_x)), (a_nm, (arI G 401 z4)), (a_r, (oc4 a_tk a_rh a_rs a_rc z26 z27 z28 (-1))), (a_tk, (oc8 a_kd a_nm a_pl)), (a_kd, (arI G 401 z3)), (a_rh, (arI G 12 z30)), (z55, (arI G z56 z57)), (a_rs, (arI G 13 (upd z31 (k_c + 1).toNatClampNeg z26))), (z61, (arI G z62 z63)), (a_rc, (arI G 400 z29)), (z66, (arI G z67 z68)), (q50, (oc3 (k_c + 1) z55 z61 z66))] hP hD ?_
            clear hP hD
            intro hP hD
            refine W.eq (g2 := F0 m 108 ls [.ref q50]) rfl ?_
            exact W.aret (v := .ref q50) hx hb hr (Or.inl ⟨_, rfl⟩) (Or.inr ⟨_, rfl⟩) (fun t ht hW => ⟨⟨some q50, [(a_r, (oc4 a_tk a_rh a_rs a_rc z26 z27 z28 (-1))), (a_tk, (oc8 a_kd a_nm a_pl)), (a_kd, (arI G 401 z3)), (a_nm, (arI G 401 z4)), (a_pl, (arI G 401 z5)), (a_rc, (arI G 400 z29)), (a_rh, (arI G 12 z30)), (a_rs, (arI G 13 (upd z31 (k_c + 1).toNatClampNeg z26))), (a_x, (arI G 400 f_x)), (q50, (oc3 (k_c + 1) z55 z61 z66)), (z55, (arI G z56 z57)), (z61, (arI G z62 z63)), (z66, (arI G z67 z68))], rfl, Or.inr (⟨z26, z27, z28, z29, (-1), z30, (upd z31 (k_c + 1).toNatClampNeg z26), z3, z4, z5, q50, z55, z61, z66, (k_c + 1), z56, z62, z67, z57, z63, z68, ⟨by omega, by omega⟩, i_19, i_20, i_1, ⟨by omega, by omega⟩, by omega, g_sti i_22 (by omega) (by omega) (by omega) (by omega) (by omega) i_60, cdi_at i_21 (by omega) i_65, ⟨by omega, by omega⟩, llc_lw hNX (by omega) (by omega) hx1 (hK_44.symm.trans i_46) (by omega) (by omega) i_54 (by omega) i_60 (by omega) i_65 (by omega) (fun j hj => by have q9 := i_22 j (by omega); omega), by decide, lvc_cp i_65 (by omega) hx7 (by omega), rfl, rfl⟩), by rw [ht]; exact hP.sub [3, 4, 5, 2, 0, 10, 6, 8, 1, 12, 7, 9, 11] rfl, hD.sub [3, 4, 5, 2, 0, 10, 6, 8, 1, 12, 7, 9, 11] (by decide +kernel) rfl⟩, hS.F ht⟩) hS.2.2 dX4_read_108
        ·
          have hJ9 := va_join (wr := [(a_pl, (arI G 401 z5)), (a_x, (arI G 400 f_x)), (a_nm, (arI G 401 z4)), (a_rc, (arI G 400 z29)), (a_rh, (arI G 12 z30)), (a_rs, (arI G 13 z31))]) hP hD [2, 3, 4] [0, 1, 5, 6, 7, 8] rfl rfl (by decide +kernel) (by decide +kernel) hk1 hFc hP1 hD1
          clear hP hD hPc hDc hFc ht hvm hz1 hk1 hP1 hD1
          obtain ⟨hP, hD⟩ := hJ9
          refine g5_rs [(a_pl, (arI G 401 z5)), (a_x, (arI G 400 f_x)), (a_nm, (arI G 401 z4)), (a_rc, (arI G 400 z29)), (a_rh, (arI G 12 z30)), (a_rs, (arI G 13 z31)), (a_r, (oc4 a_tk a_rh a_rs a_rc z26 z27 z28 e_fp)), (a_tk, (oc8 a_kd a_nm a_pl)), (a_kd, (arI G 401 z3))] hP hD ?_
          clear hP hD
          intro hP hD
          refine lv_if_eq (tgt := 109) hx hb dX4_read_47 (by decide +kernel) (fun c_69 => ?_) (fun c_69 => ?_)
          ·
            refine lv_aload_n hx hb dX4_read_109 rfl (lv_at hl 1 rfl) ?_
            refine lv_bipush (v := 59) hx hb dX4_read_110 (by decide +kernel) ?_
            obtain ⟨hPc, hDc, hFc⟩ := g5_sub3 (wc := [(a_r, (oc4 a_tk a_rh a_rs a_rc z26 z27 z28 e_fp)), (a_tk, (oc8 a_kd a_nm a_pl)), (a_kd, (arI G 401 z3))]) hP hD hS hA [6, 7, 8] (by decide +kernel) rfl
            refine va_calli (va_runV (As := [.int 59]) (rest := []) ⟨hx, hb, hml, hown, hts⟩ (r_passedX59 l G a_r a_tk a_kd a_rh a_rs a_rc a_nm a_pl H.size z26 z27 z28 e_fp z3 ⟨by omega, by omega⟩ i_20 i_19 (by omega)) (cwV 1 hts gV_X4_63 rfl rfl rfl hv_X4_passed ⟨Nat.le_of_ble_eq_true rfl, Nat.le_of_ble_eq_true rfl⟩) (g5_preV hPc hK hDc hN hT hS hFc (ci := 4) (q0 := 0) rfl rfl) rfl rfl hl.1 rfl (lv_room (Nat.le_of_ble_eq_true rfl)) dX4_read_112 ⟨Nat.le_of_ble_eq_true rfl, Nat.le_of_ble_eq_true rfl⟩) hS (fun q _ h => hFc q h) hFc (fun r u t H locs ht hvm hw hB hz1 hk1 hS => ?_)
            obtain ⟨hP1, hD1⟩ := hB
            have hP1 := g5_ht ht hP1
            rcases hw with ⟨z73, (i_70 : 0 ≤ z73.toInt ∧ z73.toInt ≤ 401), (i_71 : z73.toInt = z28.toInt + 1), (i_72 : (z3 z28.toNatClampNeg).toInt = 59), rfl, rfl⟩ | ⟨z77, (i_74 : 0 ≤ z77.toInt ∧ z77.toInt ≤ 401), (i_75 : z77.toInt = z28.toInt), (i_76 : gNe (z3 z28.toNatClampNeg).toInt 59), rfl, rfl⟩
            ·
              have hJ9 := va_join (wr := [(a_pl, (arI G 401 z5)), (a_x, (arI G 400 f_x)), (a_nm, (arI G 401 z4)), (a_rc, (arI G 400 z29)), (a_rh, (arI G 12 z30)), (a_rs, (arI G 13 z31))]) hP hD [6, 7, 8] [0, 1, 2, 3, 4, 5] rfl rfl (by decide +kernel) (by decide +kernel) hk1 hFc hP1 hD1
              clear hP hD hPc hDc hFc ht hvm hz1 hk1 hP1 hD1
              obtain ⟨hP, hD⟩ := hJ9
              refine g5_rs [(a_pl, (arI G 401 z5)), (a_x, (arI G 400 f_x)), (a_nm, (arI G 401 z4)), (a_rc, (arI G 400 z29)), (a_rh, (arI G 12 z30)), (a_rs, (arI G 13 z31)), (a_r, (oc4 a_tk a_rh a_rs a_rc z26 z27 z73 e_fp)), (a_tk, (oc8 a_kd a_nm a_pl)), (a_kd, (arI G 401 z3))] hP hD ?_
              clear hP hD
              intro hP hD
              have hL_78 : z28.toInt < (TT : Int) := tkr_ltI e_kr (by omega) (by omega) i_72 (by decide +kernel)
              refine lv_if_ne (tgt := 121) hx hb dX4_read_115 (by decide +kernel) (fun c_79 => ?_) (fun c_79 => ?_)
              ·
                refine lv_iinc (v := (k_c + 1)) (lv' := [(3, .int (k_c + 1)), (0, .ref a_r), (1, .ref a_x), (2, .int p_n)]) hx hb dX4_read_121 hl (k := 0) rfl rfl (by decide +kernel) rfl ?_
                clear hl
                intro ls hl
                have t_80 : (k_c + 1).toInt = k_c.toInt + 1 := g5_iadd (a := k_c.toInt) (b := 1) rfl (by decide +kernel) (by omega) (by omega)
                refine lv_goto (tgt := 26) hx hb dX4_read_124 (by decide +kernel) ?_
                exact ih_26_15 ((k_c + 1), z26, z27, z73, z29, z30, z31) ls H locs (show Int.toNat (12 - (k_c + 1).toInt) < Int.toNat (12 - k_c.toInt) from g_up (show k_c.toInt < (k_c + 1).toInt by omega) (show k_c.toInt < 12 by omega)) ⟨lv_sub hl [0, 1, 2, 3] rfl, hP.sub [6, 3, 4, 5, 7, 8, 2, 0, 1] rfl, hD.sub [6, 3, 4, 5, 7, 8, 2, 0, 1] (by decide +kernel) rfl, hS, ⟨by omega, by omega⟩, ⟨by omega, by omega⟩, i_20, i_70, i_21, g_stiN i_22 (by omega), llc_S hNX (by omega) (by omega) (by omega) hx1 (hK_44.symm.trans i_72) (by omega) (by omega), hx7, by omega⟩
              ·
                exact absurd c_79 (by decide +kernel)
            ·
              have hJ9 := va_join (wr := [(a_pl, (arI G 401 z5)), (a_x, (arI G 400 f_x)), (a_nm, (arI G 401 z4)), (a_rc, (arI G 400 z29)), (a_rh, (arI G 12 z30)), (a_rs, (arI G 13 z31))]) hP hD [6, 7, 8] [0, 1, 2, 3, 4, 5] rfl rfl (by decide +kernel) (by decide +kernel) hk1 hFc hP1 hD1
              clear hP hD hPc hDc hFc ht hvm hz1 hk1 hP1 hD1
              obtain ⟨hP, hD⟩ := hJ9
              refine g5_rs [(a_pl, (arI G 401 z5)), (a_x, (arI G 400 f_x)), (a_nm, (arI G 401 z4)), (a_rc, (arI G 400 z29)), (a_rh, (arI G 12 z30)), (a_rs, (arI G 13 z31)), (a_r, (oc4 a_tk a_rh a_rs a_rc z26 z27 z77 e_fp)), (a_tk, (oc8 a_kd a_nm a_pl)), (a_kd, (arI G 401 z3))] hP hD ?_
              clear hP hD
              intro hP hD
              refine lv_if_ne (tgt := 121) hx hb dX4_read_115 (by decide +kernel) (fun c_81 => ?_) (fun c_81 => ?_)
              ·
                exact absurd c_81 (by decide +kernel)
              ·
                refine lv_goto (tgt := 127) hx hb dX4_read_118 (by decide +kernel) ?_
                have hpl9 : (z5 z77.toNatClampNeg).toInt = (pT f_x p_n.toInt.toNat z77.toInt.toNat : Int) := pl_at hT1 hT2 (by omega) (by omega)
                refine lv_aload_n hx hb dX4_read_127 rfl (lv_at hl 1 rfl) ?_
                refine lv_aload_n hx hb dX4_read_128 rfl (lv_at hl 1 rfl) ?_
                refine va_get (D := G.1) (ci := 4) (v := .int z77) (C := RX4) (T := TX4) (N := 8) hx hb hts inG_X4 hown hK hP 6 rfl rfl 6 (by decide +kernel) (hts _ fl_X4_42) (fun _ h9 => h9) rfl dX4_read_129 ?_
                refine W.eq (g2 := F0 m 132 ls [.int z77, .ref a_r]) rfl ?_
                refine lv_aload_n hx hb dX4_read_132 rfl (lv_at hl 1 rfl) ?_
                refine va_get (D := G.1) (ci := 4) (v := .ref a_tk) (C := RX4) (T := TX4) (N := 8) hx hb hts inG_X4 hown hK hP 6 rfl rfl 0 (by decide +kernel) (hts _ fl_X4_12) (fun _ h9 => h9) rfl dX4_read_133 ?_
                refine va_get (D := G.1) (ci := 8) (v := .ref a_pl) (C := RX8) (T := TX8) (N := 3) hx hb hts inG_X8 hown hK hP 7 rfl rfl 2 (by decide +kernel) (hts _ fl_X4_66) (fun _ h9 => h9) rfl dX4_read_136 ?_
                refine va_alen hx hb hK hP 0 0 rfl rfl (v := 401) (by show Int32.ofNat 401 = 401; decide) dX4_read_139 ?_
                refine lv_icmp_ge (tgt := 158) hx hb dX4_read_140 (by decide +kernel) (fun c_82 => ?_) (fun c_82 => ?_)
                ·
                  have i_82 : z77.toInt ≥ 401 := g5_ge (a := z77.toInt) (b := 401) rfl (by decide +kernel) c_82
                  omega
                ·
                  have i_82 : z77.toInt < 401 := g5_geN (a := z77.toInt) (b := 401) rfl (by decide +kernel) c_82
                  refine lv_aload_n hx hb dX4_read_143 rfl (lv_at hl 1 rfl) ?_
                  refine va_get (D := G.1) (ci := 4) (v := .ref a_tk) (C := RX4) (T := TX4) (N := 8) hx hb hts inG_X4 hown hK hP 6 rfl rfl 0 (by decide +kernel) (hts _ fl_X4_12) (fun _ h9 => h9) rfl dX4_read_144 ?_
                  refine va_get (D := G.1) (ci := 8) (v := .ref a_pl) (C := RX8) (T := TX8) (N := 3) hx hb hts inG_X8 hown hK hP 7 rfl rfl 2 (by decide +kernel) (hts _ fl_X4_66) (fun _ h9 => h9) rfl dX4_read_147 ?_
                  refine lv_aload_n hx hb dX4_read_150 rfl (lv_at hl 1 rfl) ?_
                  refine W.eq (g2 := F0 m 151 ls [.ref a_r, .ref a_pl, .ref a_r]) rfl ?_
                  refine va_get (D := G.1) (ci := 4) (v := .int z77) (C := RX4) (T := TX4) (N := 8) hx hb hts inG_X4 hown hK hP 6 rfl rfl 6 (by decide +kernel) (hts _ fl_X4_42) (fun _ h9 => h9) rfl dX4_read_151 ?_
                  refine va_iald hx hb hK hP 0 0 rfl rfl (i := z77) (vp_in_iff.mpr ⟨by omega, by omega⟩) dX4_read_154 ?_
                  refine lv_goto (tgt := 159) hx hb dX4_read_155 (by decide +kernel) ?_
                  refine va_put (D := G.1) (ci := 4) (v := .int (z5 z77.toNatClampNeg)) (ty := .int) (C := RX4) (T := TX4) (N := 8) hx hb hts inG_X4 tyX4 tyX4_ok nmX4 hown hK hP hD hS 6 rfl rfl 7 (by decide +kernel) (hts _ fl_X4_28) (fun _ h9 => h9) rfl (by decide +kernel) rfl rfl (Nat.le_of_ble_eq_true rfl) dX4_read_159 ?_
                  clear hP hD hS
                  intro H locs hP hD hS
                  refine g5_rs [(a_pl, (arI G 401 z5)), (a_x, (arI G 400 f_x)), (a_nm, (arI G 401 z4)), (a_rc, (arI G 400 z29)), (a_rh, (arI G 12 z30)), (a_rs, (arI G 13 z31)), (a_r, (oc4 a_tk a_rh a_rs a_rc z26 z27 z77 (z5 z77.toNatClampNeg))), (a_tk, (oc8 a_kd a_nm a_pl)), (a_kd, (arI G 401 z3))] hP hD ?_
                  clear hP hD
                  intro hP hD
                  refine lv_null hx hb dX4_read_162 ?_
                  refine W.eq (g2 := F0 m 163 ls [.null]) rfl ?_
                  refine W.widen (k := 4) (n := 429) (by decide +kernel) (by decide +kernel) ?_
                  exact W.aret (v := .null) hx hb hr (Or.inl ⟨_, rfl⟩) (Or.inl rfl) (fun t ht hW => ⟨⟨none, [(a_r, (oc4 a_tk a_rh a_rs a_rc z26 z27 z77 (z5 z77.toNatClampNeg))), (a_tk, (oc8 a_kd a_nm a_pl)), (a_kd, (arI G 401 z3)), (a_nm, (arI G 401 z4)), (a_pl, (arI G 401 z5)), (a_rc, (arI G 400 z29)), (a_rh, (arI G 12 z30)), (a_rs, (arI G 13 z31)), (a_x, (arI G 400 f_x))], rfl, Or.inl (⟨z26, z27, z77, z29, (z5 z77.toNatClampNeg), z30, z31, z3, z4, z5, ⟨by omega, by omega⟩, i_74, i_20, i_1, by have e9 : LAWX f_x p_n.toInt.toNat = _ := llc_no i_12 (by omega) (by omega) hx1 (fun q9 => i_47 (hK_44.trans q9)) (fun q9 => i_76 (hK_44.trans q9)) (by omega); rw [e9]; exact ⟨rfl, hpl9⟩, rfl, rfl⟩), by rw [ht]; exact hP.sub [6, 7, 8, 2, 0, 3, 4, 5, 1] rfl, hD.sub [6, 7, 8, 2, 0, 3, 4, 5, 1] (by decide +kernel) rfl⟩, hS.F ht⟩) hS.2.2 dX4_read_163
          ·
            exact absurd c_69 (by decide +kernel)
    ·
      have hJ9 := va_join (wr := [(a_pl, (arI G 401 z5)), (a_x, (arI G 400 f_x))]) hP hD [0, 4, 5, 6, 1, 2, 3] [7, 8] rfl rfl (by decide +kernel) (by decide +kernel) hk1 hFc hP1 hD1
      clear hP hD hPc hDc hFc ht hvm hz1 hk1 hP1 hD1
      obtain ⟨hP, hD⟩ := hJ9
      refine g5_rs [(a_pl, (arI G 401 z5)), (a_x, (arI G 400 f_x)), (a_r, (oc4 a_tk a_rh a_rs a_rc z38 z39 z40 e_fp)), (a_tk, (oc8 a_kd a_nm a_pl)), (a_kd, (arI G 401 z3)), (a_nm, (arI G 401 z4)), (a_rc, (arI G 400 z41)), (a_rh, (arI G 12 z42)), (a_rs, (arI G 13 z43))] hP hD ?_
      clear hP hD
      intro hP hD
      obtain ⟨qq83, hq83⟩ := i_36
      refine lv_if_eq (tgt := 127) hx hb dX4_read_37 (by decide +kernel) (fun c_84 => ?_) (fun c_84 => ?_)
      ·
        have hpl9 : (z5 z40.toNatClampNeg).toInt = (pT f_x p_n.toInt.toNat z40.toInt.toNat : Int) := pl_at hT1 hT2 (by omega) (by omega)
        refine lv_aload_n hx hb dX4_read_127 rfl (lv_at hl 1 rfl) ?_
        refine lv_aload_n hx hb dX4_read_128 rfl (lv_at hl 1 rfl) ?_
        refine va_get (D := G.1) (ci := 4) (v := .int z40) (C := RX4) (T := TX4) (N := 8) hx hb hts inG_X4 hown hK hP 2 rfl rfl 6 (by decide +kernel) (hts _ fl_X4_42) (fun _ h9 => h9) rfl dX4_read_129 ?_
        refine lv_aload_n hx hb dX4_read_132 rfl (lv_at hl 1 rfl) ?_
        refine W.eq (g2 := F0 m 133 ls [.ref a_r, .int z40, .ref a_r]) rfl ?_
        refine va_get (D := G.1) (ci := 4) (v := .ref a_tk) (C := RX4) (T := TX4) (N := 8) hx hb hts inG_X4 hown hK hP 2 rfl rfl 0 (by decide +kernel) (hts _ fl_X4_12) (fun _ h9 => h9) rfl dX4_read_133 ?_
        refine va_get (D := G.1) (ci := 8) (v := .ref a_pl) (C := RX8) (T := TX8) (N := 3) hx hb hts inG_X8 hown hK hP 3 rfl rfl 2 (by decide +kernel) (hts _ fl_X4_66) (fun _ h9 => h9) rfl dX4_read_136 ?_
        refine va_alen hx hb hK hP 0 0 rfl rfl (v := 401) (by show Int32.ofNat 401 = 401; decide) dX4_read_139 ?_
        refine lv_icmp_ge (tgt := 158) hx hb dX4_read_140 (by decide +kernel) (fun c_85 => ?_) (fun c_85 => ?_)
        ·
          have i_85 : z40.toInt ≥ 401 := g5_ge (a := z40.toInt) (b := 401) rfl (by decide +kernel) c_85
          omega
        ·
          have i_85 : z40.toInt < 401 := g5_geN (a := z40.toInt) (b := 401) rfl (by decide +kernel) c_85
          refine lv_aload_n hx hb dX4_read_143 rfl (lv_at hl 1 rfl) ?_
          refine va_get (D := G.1) (ci := 4) (v := .ref a_tk) (C := RX4) (T := TX4) (N := 8) hx hb hts inG_X4 hown hK hP 2 rfl rfl 0 (by decide +kernel) (hts _ fl_X4_12) (fun _ h9 => h9) rfl dX4_read_144 ?_
          refine va_get (D := G.1) (ci := 8) (v := .ref a_pl) (C := RX8) (T := TX8) (N := 3) hx hb hts inG_X8 hown hK hP 3 rfl rfl 2 (by decide +kernel) (hts _ fl_X4_66) (fun _ h9 => h9) rfl dX4_read_147 ?_
          refine lv_aload_n hx hb dX4_read_150 rfl (lv_at hl 1 rfl) ?_
          refine W.eq (g2 := F0 m 151 ls [.ref a_r, .ref a_pl, .ref a_r]) rfl ?_
          refine va_get (D := G.1) (ci := 4) (v := .int z40) (C := RX4) (T := TX4) (N := 8) hx hb hts inG_X4 hown hK hP 2 rfl rfl 6 (by decide +kernel) (hts _ fl_X4_42) (fun _ h9 => h9) rfl dX4_read_151 ?_
          refine va_iald hx hb hK hP 0 0 rfl rfl (i := z40) (vp_in_iff.mpr ⟨by omega, by omega⟩) dX4_read_154 ?_
          refine lv_goto (tgt := 159) hx hb dX4_read_155 (by decide +kernel) ?_
          refine va_put (D := G.1) (ci := 4) (v := .int (z5 z40.toNatClampNeg)) (ty := .int) (C := RX4) (T := TX4) (N := 8) hx hb hts inG_X4 tyX4 tyX4_ok nmX4 hown hK hP hD hS 2 rfl rfl 7 (by decide +kernel) (hts _ fl_X4_28) (fun _ h9 => h9) rfl (by decide +kernel) rfl rfl (Nat.le_of_ble_eq_true rfl) dX4_read_159 ?_
          clear hP hD hS
          intro H locs hP hD hS
          refine g5_rs [(a_pl, (arI G 401 z5)), (a_x, (arI G 400 f_x)), (a_r, (oc4 a_tk a_rh a_rs a_rc z38 z39 z40 (z5 z40.toNatClampNeg))), (a_tk, (oc8 a_kd a_nm a_pl)), (a_kd, (arI G 401 z3)), (a_nm, (arI G 401 z4)), (a_rc, (arI G 400 z41)), (a_rh, (arI G 12 z42)), (a_rs, (arI G 13 z43))] hP hD ?_
          clear hP hD
          intro hP hD
          refine lv_null hx hb dX4_read_162 ?_
          refine W.eq (g2 := F0 m 163 ls [.null]) rfl ?_
          refine W.widen (k := 4) (n := 429) (by decide +kernel) (by decide +kernel) ?_
          exact W.aret (v := .null) hx hb hr (Or.inl ⟨_, rfl⟩) (Or.inl rfl) (fun t ht hW => ⟨⟨none, [(a_r, (oc4 a_tk a_rh a_rs a_rc z38 z39 z40 (z5 z40.toNatClampNeg))), (a_tk, (oc8 a_kd a_nm a_pl)), (a_kd, (arI G 401 z3)), (a_nm, (arI G 401 z4)), (a_pl, (arI G 401 z5)), (a_rc, (arI G 400 z41)), (a_rh, (arI G 12 z42)), (a_rs, (arI G 13 z43)), (a_x, (arI G 400 f_x))], rfl, Or.inl (⟨z38, z39, z40, z41, (z5 z40.toNatClampNeg), z42, z43, z3, z4, z5, ⟨by omega, by omega⟩, i_33, i_34, i_1, by have e9 : LAWX f_x p_n.toInt.toNat = _ := llc_bad i_12 (by omega) (by omega) hq83; rw [e9]; exact ⟨rfl, hpl9⟩, rfl, rfl⟩), by rw [ht]; exact hP.sub [2, 3, 4, 5, 0, 6, 7, 8, 1] rfl, hD.sub [2, 3, 4, 5, 0, 6, 7, 8, 1] (by decide +kernel) rfl⟩, hS.F ht⟩) hS.2.2 dX4_read_163
      ·
        exact absurd c_84 (by decide +kernel)
set_option maxHeartbeats 4000000 in
set_option maxRecDepth 100000 in
theorem n_readClauseX (l : Launch) (G : g5_G) (b_o b_tp b_nl b_op b_ar b_pi b_pa b_ws b_hw b_rf b_ro b_im b_ke b_se b_re b_pt b_ip b_ah b_be b_me b_tr b_ld b_wn : Nat) (sz : Nat) (u_th : Int32) (u_sa : Int32) (u_fd : Int32) (u_td : Int32) (u_fr : Int32) (u_to : Int32) (u_so : Int32) (u_fa : Int32) (u_bd : Int32) (u_nc : Int32) (u_co : Int32) (u_le : Int32) (u_pd : Int32) (u_od : Int32) (u_la : Int32) (u_bk : Int32) (u_ce : Int32) (u_ho : Int32) (u_wy : Int32) (u_bt : Int32) (u_ps : Int32) (u_tg : Int32) (u_sn : Int32) (u_ic : Int32) (u_wd : Int32) (u_id : Int32) (u_wo : Int64) (u_va : Int64) (u_su : Int64) (u_st : Int64) (v_tp : Nat → Int32) (v_nl : Nat → Int32) (v_op : Nat → Int32) (v_ar : Nat → Int32) (v_pi : Nat → Int32) (v_pa : Nat → Int32) (v_ws : Nat → Int64) (v_hw : Nat → Int64) (g_i : Nat) (h_u_td : 0 ≤ u_td.toInt ∧ u_td.toInt ≤ 400) (h_u_fr : 0 ≤ u_fr.toInt ∧ u_fr.toInt ≤ 400) (h_u_to : 0 ≤ u_to.toInt ∧ u_to.toInt ≤ 400) (h_u_bd : 0 ≤ u_bd.toInt ∧ u_bd.toInt ≤ 0) (h_u_nc : 0 ≤ u_nc.toInt ∧ u_nc.toInt ≤ 12) (h_u_co : 0 ≤ u_co.toInt ∧ u_co.toInt ≤ 400) (h_u_pd : 0 ≤ u_pd.toInt ∧ u_pd.toInt ≤ 400) (h_u_la : 0 ≤ u_la.toInt ∧ u_la.toInt ≤ 4840) (h_u_bk : 0 ≤ u_bk.toInt ∧ u_bk.toInt ≤ 1) (h_u_ce : 0 ≤ u_ce.toInt ∧ u_ce.toInt ≤ 63) (h_u_ho : 0 ≤ u_ho.toInt ∧ u_ho.toInt ≤ 23) (h_u_wy : 0 ≤ u_wy.toInt ∧ u_wy.toInt ≤ 3) (h_u_bt : 0 ≤ u_bt.toInt ∧ u_bt.toInt ≤ 1000000) (h_u_ps : 0 ≤ u_ps.toInt ∧ u_ps.toInt ≤ 200) (h_u_ic : 0 ≤ u_ic.toInt ∧ u_ic.toInt ≤ 1) (h_u_id : 0 ≤ u_id.toInt ∧ u_id.toInt ≤ 1) (e_t : u_fr.toInt ≤ u_to.toInt ∧ u_to.toInt ≤ u_td.toInt) (e_s : TKs u_so.toInt u_fr.toInt u_to.toInt) (e_c : u_co.toInt ≤ u_fr.toInt) (e_l : LWJ v_nl v_op v_ar u_nc.toInt u_co.toInt) (e_tp : TPI v_tp) (e_ws : WSI v_ws v_hw) (e_tk : TOKA v_tp u_td.toInt.toNat (pT v_tp u_td.toInt.toNat g_i) u_fr u_to u_so u_wo) (e_le : 0 ≤ u_le.toInt ∧ u_le.toInt ≤ 50) (e_kn : g_i ≤ u_td.toInt.toNat) (e_kc : u_co.toInt ≤ (g_i : Int)) (e_c0 : 0 ≤ u_co.toInt) : Met l yX12_readClause (wsG yX12_readClause cX12_readClause 4 none) ({ frames := 7, cells := 0, slots := 0, locals := 148 }) (va_Pc [.ref b_o] (g5_P G [(b_o, (oc12 u_th u_sa b_rf b_ro b_im b_ke u_fd b_tp u_td u_fr u_to u_so u_wo u_fa u_bd u_nc b_nl u_co b_op b_ar u_le b_pi b_pa u_pd u_od b_ws b_hw u_la b_se b_re u_bk u_va u_su u_ce u_ho u_wy u_bt u_ps b_pt u_tg u_sn b_ip u_ic b_ah b_be b_me u_wd b_tr b_ld u_st b_wn u_id)), (b_tp, (arI G 400 v_tp)), (b_nl, (arI G 96 v_nl)), (b_op, (arI G 400 v_op)), (b_ar, (arI G 400 v_ar)), (b_pi, (arI G 400 v_pi)), (b_pa, (arI G 400 v_pa)), (b_ws, (arJ G 8 v_ws)), (b_hw, (arJ G 4 v_hw))] sz)) (va_Qv (fun (u : va_W) => ((CLX v_tp u_td u_nc u_co u_le g_i (1 : Int32) u_fr u_to u_so u_wo v_op v_ar v_nl u_co u_le) ∧ (u = [(b_o, (oc12 u_th u_sa b_rf b_ro b_im b_ke u_fd b_tp u_td u_fr u_to u_so u_wo u_fr 1 u_nc b_nl u_co b_op b_ar u_le b_pi b_pa u_pd u_od b_ws b_hw u_la b_se b_re u_bk u_va u_su u_ce u_ho u_wy u_bt u_ps b_pt u_tg u_sn b_ip u_ic b_ah b_be b_me u_wd b_tr b_ld u_st b_wn u_id)), (b_tp, (arI G 400 v_tp)), (b_nl, (arI G 96 v_nl)), (b_op, (arI G 400 v_op)), (b_ar, (arI G 400 v_ar)), (b_pi, (arI G 400 v_pi)), (b_pa, (arI G 400 v_pa)), (b_ws, (arJ G 8 v_ws)), (b_hw, (arJ G 4 v_hw))])) ∨ (∃ (o_fr : Int32) (o_to : Int32) (o_so : Int32) (o_wo : Int64) (o_fa : Int32) (o_bd : Int32) (o_nc : Int32) (o_co : Int32) (o_le : Int32) (o_pd : Int32) (o_od : Int32) (o_nl : Nat → Int32) (o_op : Nat → Int32) (o_ar : Nat → Int32) (o_pi : Nat → Int32) (o_pa : Nat → Int32), (0 ≤ o_fr.toInt ∧ o_fr.toInt ≤ 400) ∧ (0 ≤ o_to.toInt ∧ o_to.toInt ≤ 400) ∧ (0 ≤ o_bd.toInt ∧ o_bd.toInt ≤ 1) ∧ (0 ≤ o_nc.toInt ∧ o_nc.toInt ≤ 12) ∧ (0 ≤ o_co.toInt ∧ o_co.toInt ≤ 400) ∧ (0 ≤ o_pd.toInt ∧ o_pd.toInt ≤ 400) ∧ (u_fr.toInt ≤ o_fr.toInt ∧ o_fr.toInt ≤ o_to.toInt ∧ o_to.toInt ≤ u_td.toInt) ∧ (TKs o_so.toInt o_fr.toInt o_to.toInt) ∧ (o_co.toInt ≤ o_fr.toInt) ∧ (o_bd.toInt = 0 → LWJ o_nl o_op o_ar o_nc.toInt o_co.toInt) ∧ (CLX v_tp u_td u_nc u_co u_le g_i o_bd o_fr o_to o_so o_wo o_op o_ar o_nl o_co o_le) ∧ (o_bd.toInt = 1 → o_fa = o_fr) ∧ (o_bd.toInt = 0 → o_fa = u_fa) ∧ (0 ≤ o_le.toInt ∧ o_le.toInt ≤ 50) ∧ (o_nc.toInt = u_nc.toInt + 1) ∧ (KP v_op v_ar o_op o_ar u_co.toInt) ∧ (∀ j : Nat, (j : Int) < 8 * u_nc.toInt → o_nl j = v_nl j) ∧ (u = [(b_o, (oc12 u_th u_sa b_rf b_ro b_im b_ke u_fd b_tp u_td o_fr o_to o_so o_wo o_fa o_bd o_nc b_nl o_co b_op b_ar o_le b_pi b_pa o_pd o_od b_ws b_hw u_la b_se b_re u_bk u_va u_su u_ce u_ho u_wy u_bt u_ps b_pt u_tg u_sn b_ip u_ic b_ah b_be b_me u_wd b_tr b_ld u_st b_wn u_id)), (b_tp, (arI G 400 v_tp)), (b_nl, (arI G 96 o_nl)), (b_op, (arI G 400 o_op)), (b_ar, (arI G 400 o_ar)), (b_pi, (arI G 400 o_pi)), (b_pa, (arI G 400 o_pa)), (b_ws, (arJ G 8 v_ws)), (b_hw, (arJ G 4 v_hw))]))) (g5_B G (va_A [(b_o, (oc12 u_th u_sa b_rf b_ro b_im b_ke u_fd b_tp u_td u_fr u_to u_so u_wo u_fa u_bd u_nc b_nl u_co b_op b_ar u_le b_pi b_pa u_pd u_od b_ws b_hw u_la b_se b_re u_bk u_va u_su u_ce u_ho u_wy u_bt u_ps b_pt u_tg u_sn b_ip u_ic b_ah b_be b_me u_wd b_tr b_ld u_st b_wn u_id)), (b_tp, (arI G 400 v_tp)), (b_nl, (arI G 96 v_nl)), (b_op, (arI G 400 v_op)), (b_ar, (arI G 400 v_ar)), (b_pi, (arI G 400 v_pi)), (b_pa, (arI G 400 v_pa)), (b_ws, (arJ G 8 v_ws)), (b_hw, (arJ G 4 v_hw))] sz)) (va_A [(b_o, (oc12 u_th u_sa b_rf b_ro b_im b_ke u_fd b_tp u_td u_fr u_to u_so u_wo u_fa u_bd u_nc b_nl u_co b_op b_ar u_le b_pi b_pa u_pd u_od b_ws b_hw u_la b_se b_re u_bk u_va u_su u_ce u_ho u_wy u_bt u_ps b_pt u_tg u_sn b_ip u_ic b_ah b_be b_me u_wd b_tr b_ld u_st b_wn u_id)), (b_tp, (arI G 400 v_tp)), (b_nl, (arI G 96 v_nl)), (b_op, (arI G 400 v_op)), (b_ar, (arI G 400 v_ar)), (b_pi, (arI G 400 v_pi)), (b_pa, (arI G 400 v_pa)), (b_ws, (arJ G 8 v_ws)), (b_hw, (arJ G 4 v_hw))] sz)) 0 0 (va_A [(b_o, (oc12 u_th u_sa b_rf b_ro b_im b_ke u_fd b_tp u_td u_fr u_to u_so u_wo u_fa u_bd u_nc b_nl u_co b_op b_ar u_le b_pi b_pa u_pd u_od b_ws b_hw u_la b_se b_re u_bk u_va u_su u_ce u_ho u_wy u_bt u_ps b_pt u_tg u_sn b_ip u_ic b_ah b_be b_me u_wd b_tr b_ld u_st b_wn u_id)), (b_tp, (arI G 400 v_tp)), (b_nl, (arI G 96 v_nl)), (b_op, (arI G 400 v_op)), (b_ar, (arI G 400 v_ar)), (b_pi, (arI G 400 v_pi)), (b_pa, (arI G 400 v_pa)), (b_ws, (arJ G 8 v_ws)), (b_hw, (arJ G 4 v_hw))] sz) := by
  refine Met.ofW (cc := cX12_readClause) (maxL := 4) (ret := none) (by decide +kernel) rfl ?_
  intro p e s m args below meth c s₁ B hml hv
  obtain ⟨rfl, hsz, hP, hK, hD0, hN, hT⟩ := hv
  have hx := B.exec
  have hb := B.bytes
  have hr := B.returns
  have hts : ∀ w ∈ tblG, w.before _ s = true := fun w h => atoms_spec (ws := (wsG yX12_readClause cX12_readClause 4 none)) B.pre w (List.mem_cons_of_mem _ h)
  have hown : s.vm.findClass RX12 = some m.cls := findClass_of_methodNamed B.named
  have hlocks := B.notSynchronized
  subst hsz
  have hD := hD0.self (sz := s.heap.size)
  generalize hAe : va_A [(b_o, (oc12 u_th u_sa b_rf b_ro b_im b_ke u_fd b_tp u_td u_fr u_to u_so u_wo u_fa u_bd u_nc b_nl u_co b_op b_ar u_le b_pi b_pa u_pd u_od b_ws b_hw u_la b_se b_re u_bk u_va u_su u_ce u_ho u_wy u_bt u_ps b_pt u_tg u_sn b_ip u_ic b_ah b_be b_me u_wd b_tr b_ld u_st b_wn u_id)), (b_tp, (arI G 400 v_tp)), (b_nl, (arI G 96 v_nl)), (b_op, (arI G 400 v_op)), (b_ar, (arI G 400 v_ar)), (b_pi, (arI G 400 v_pi)), (b_pa, (arI G 400 v_pa)), (b_ws, (arJ G 8 v_ws)), (b_hw, (arJ G 4 v_hw))] s.heap.size = A at hD hT ⊢
  have hA : ∀ q : Nat, s.heap.size ≤ q → A q := fun q h => by rw [← hAe]; exact Or.inr h
  have hS : va_S A s.heap s.heap [] := va_S.rf
  replace hP : va_P G.1 vwCl [(b_o, (oc12 u_th u_sa b_rf b_ro b_im b_ke u_fd b_tp u_td u_fr u_to u_so u_wo u_fa u_bd u_nc b_nl u_co b_op b_ar u_le b_pi b_pa u_pd u_od b_ws b_hw u_la b_se b_re u_bk u_va u_su u_ce u_ho u_wy u_bt u_ps b_pt u_tg u_sn b_ip u_ic b_ah b_be b_me u_wd b_tr b_ld u_st b_wn u_id)), (b_tp, (arI G 400 v_tp)), (b_nl, (arI G 96 v_nl)), (b_op, (arI G 400 v_op)), (b_ar, (arI G 400 v_ar)), (b_pi, (arI G 400 v_pi)), (b_pa, (arI G 400 v_pa)), (b_ws, (arJ G 8 v_ws)), (b_hw, (arJ G 4 v_hw))] s.heap := hP
  have hl := lv_entry ([.ref b_o]) (n := 4) (Nat.le_of_ble_eq_true rfl)
  rw [lg_entry_eq]
  generalize (lg_sl ([.ref b_o]) ++ List.replicate (4 - (lg_sl ([.ref b_o])).length) Slot.unset).toArray = ls at hl ⊢
  replace hl : lv_has ls 4 [(0, .ref b_o)] := hl
  refine lv_iconst (v := (-1)) hx hb dX12_readClause_0 (by decide +kernel) ?_
  refine lv_istore_n (lv' := [(1, .int (-1)), (0, .ref b_o)]) hx hb dX12_readClause_1 rfl hl (by decide +kernel) rfl ?_
  clear hl
  intro ls hl
  refine lv_iconst (v := 0) hx hb dX12_readClause_2 (by decide +kernel) ?_
  refine lv_istore_n (lv' := [(2, .int 0), (1, .int (-1)), (0, .ref b_o)]) hx hb dX12_readClause_3 rfl hl (by decide +kernel) rfl ?_
  clear hl
  intro ls hl
  refine g5_loop (α := (Int32) × (Int32)) (fun (q : (Int32) × (Int32)) (ls : Array Slot) (H : Heap) (locs : List Loc) => match q with | (k4_2, k4_1) => lv_has ls 4 [(1, .int k4_1), (2, .int k4_2), (0, .ref b_o)] ∧ va_P G.1 vwCl [(b_o, (oc12 u_th u_sa b_rf b_ro b_im b_ke u_fd b_tp u_td u_fr u_to u_so u_wo u_fa u_bd u_nc b_nl u_co b_op b_ar u_le b_pi b_pa u_pd u_od b_ws b_hw u_la b_se b_re u_bk u_va u_su u_ce u_ho u_wy u_bt u_ps b_pt u_tg u_sn b_ip u_ic b_ah b_be b_me u_wd b_tr b_ld u_st b_wn u_id)), (b_tp, (arI G 400 v_tp)), (b_nl, (arI G 96 v_nl)), (b_op, (arI G 400 v_op)), (b_ar, (arI G 400 v_ar)), (b_pi, (arI G 400 v_pi)), (b_pa, (arI G 400 v_pa)), (b_ws, (arJ G 8 v_ws)), (b_hw, (arJ G 4 v_hw))] H ∧ va_D A [(b_o, (oc12 u_th u_sa b_rf b_ro b_im b_ke u_fd b_tp u_td u_fr u_to u_so u_wo u_fa u_bd u_nc b_nl u_co b_op b_ar u_le b_pi b_pa u_pd u_od b_ws b_hw u_la b_se b_re u_bk u_va u_su u_ce u_ho u_wy u_bt u_ps b_pt u_tg u_sn b_ip u_ic b_ah b_be b_me u_wd b_tr b_ld u_st b_wn u_id)), (b_tp, (arI G 400 v_tp)), (b_nl, (arI G 96 v_nl)), (b_op, (arI G 400 v_op)), (b_ar, (arI G 400 v_ar)), (b_pi, (arI G 400 v_pi)), (b_pa, (arI G 400 v_pa)), (b_ws, (arJ G 8 v_ws)), (b_hw, (arJ G 4 v_hw))] ∧ va_S A s.heap H locs ∧ (0 ≤ k4_2.toInt ∧ k4_2.toInt ≤ 4) ∧ ((-1) ≤ k4_1.toInt ∧ k4_1.toInt ≤ 3) ∧ (k4_1.toInt = -1 ∨ u_so.toInt = 1) ∧ (PTW 256 0 (KDT v_tp u_td.toInt.toNat g_i) k4_1.toInt k4_2.toInt)) (fun (q : (Int32) × (Int32)) => match q with | (k4_2, k4_1) => Int.toNat (4 - k4_2.toInt)) (0, (-1)) ⟨lv_sub hl [1, 0, 2] rfl, hP, hD, hS, ⟨by decide, by decide⟩, ⟨by decide, by decide⟩, Or.inl (by decide +kernel), ptw_0 (by decide +kernel) (by decide +kernel)⟩ ?_
  rintro ⟨k4_2, k4_1⟩ ls H locs ⟨hl, hP, hD, hS, (i_1 : 0 ≤ k4_2.toInt ∧ k4_2.toInt ≤ 4), (i_2 : (-1) ≤ k4_1.toInt ∧ k4_1.toInt ≤ 3), (i_3 : k4_1.toInt = -1 ∨ u_so.toInt = 1), (i_4 : PTW 256 0 (KDT v_tp u_td.toInt.toNat g_i) k4_1.toInt k4_2.toInt)⟩ ih_4_5
  replace hl : lv_has ls 4 [(1, .int k4_1), (2, .int k4_2), (0, .ref b_o)] := hl
  refine g5_rs [(b_o, (oc12 u_th u_sa b_rf b_ro b_im b_ke u_fd b_tp u_td u_fr u_to u_so u_wo u_fa u_bd u_nc b_nl u_co b_op b_ar u_le b_pi b_pa u_pd u_od b_ws b_hw u_la b_se b_re u_bk u_va u_su u_ce u_ho u_wy u_bt u_ps b_pt u_tg u_sn b_ip u_ic b_ah b_be b_me u_wd b_tr b_ld u_st b_wn u_id)), (b_tp, (arI G 400 v_tp)), (b_nl, (arI G 96 v_nl)), (b_op, (arI G 400 v_op)), (b_ar, (arI G 400 v_ar)), (b_pi, (arI G 400 v_pi)), (b_pa, (arI G 400 v_pa)), (b_ws, (arJ G 8 v_ws)), (b_hw, (arJ G 4 v_hw))] hP hD ?_
  clear hP hD
  intro hP hD
  refine lv_iload_n hx hb dX12_readClause_4 rfl (lv_at hl 1 rfl) ?_
  refine lv_iconst (v := 4) hx hb dX12_readClause_5 (by decide +kernel) ?_
  refine lv_icmp_ge (tgt := 34) hx hb dX12_readClause_6 (by decide +kernel) (fun c_6 => ?_) (fun c_6 => ?_)
  ·
    have i_6 : k4_2.toInt ≥ 4 := g5_ge (a := k4_2.toInt) (b := 4) rfl (by decide +kernel) c_6
    refine lv_aload_n hx hb dX12_readClause_34 rfl (lv_at hl 2 rfl) ?_
    refine lv_iload_n hx hb dX12_readClause_35 rfl (lv_at hl 0 rfl) ?_
    refine lv_iconst (v := (-1)) hx hb dX12_readClause_36 (by decide +kernel) ?_
    refine lv_icmp_eq (tgt := 53) hx hb dX12_readClause_37 (by decide +kernel) (fun c_7 => ?_) (fun c_7 => ?_)
    ·
      have i_7 : k4_1.toInt = (-1) := g5_eq (a := k4_1.toInt) (b := (-1)) rfl (by decide +kernel) c_7
      refine lv_iconst (v := 0) hx hb dX12_readClause_53 (by decide +kernel) ?_
      obtain ⟨hPc, hDc, hFc⟩ := g5_sub3 (wc := [(b_o, (oc12 u_th u_sa b_rf b_ro b_im b_ke u_fd b_tp u_td u_fr u_to u_so u_wo u_fa u_bd u_nc b_nl u_co b_op b_ar u_le b_pi b_pa u_pd u_od b_ws b_hw u_la b_se b_re u_bk u_va u_su u_ce u_ho u_wy u_bt u_ps b_pt u_tg u_sn b_ip u_ic b_ah b_be b_me u_wd b_tr b_ld u_st b_wn u_id)), (b_tp, (arI G 400 v_tp))]) hP hD hS hA [0, 1] (by decide +kernel) rfl
      refine va_callv (va_runV (As := [.int 0]) (rest := []) ⟨hx, hb, hml, hown, hts⟩ (n_must0 l G b_o b_tp b_rf b_ro b_im b_ke b_nl b_op b_ar b_pi b_pa b_ws b_hw b_se b_re b_pt b_ip b_ah b_be b_me b_tr b_ld b_wn H.size u_th u_sa u_fd u_td u_fr u_to u_so u_fa u_bd u_nc u_co u_le u_pd u_od u_la u_bk u_ce u_ho u_wy u_bt u_ps u_tg u_sn u_ic u_wd u_id u_wo u_va u_su u_st v_tp h_u_td h_u_fr h_u_to h_u_bd h_u_nc h_u_co h_u_pd h_u_la h_u_bk h_u_ce h_u_ho h_u_wy h_u_bt h_u_ps h_u_ic h_u_id) (cwV 1 hts gV_X12_233 rfl rfl rfl hv_X12_must ⟨Nat.le_of_ble_eq_true rfl, Nat.le_of_ble_eq_true rfl⟩) (g5_preV hPc hK hDc hN hT hS hFc (ci := 12) (q0 := 0) rfl rfl) rfl rfl hl.1 rfl (lv_room (Nat.le_of_ble_eq_true rfl)) dX12_readClause_54 ⟨Nat.le_of_ble_eq_true rfl, Nat.le_of_ble_eq_true rfl⟩) hS (fun q _ h => hFc q h) hFc (fun u t H locs ht hvm hw hB hz1 hk1 hS => ?_)
      obtain ⟨hP1, hD1⟩ := hB
      have hP1 := g5_ht ht hP1
      obtain rfl := hw
      have hJ9 := va_join (wr := [(b_nl, (arI G 96 v_nl)), (b_op, (arI G 400 v_op)), (b_ar, (arI G 400 v_ar)), (b_pi, (arI G 400 v_pi)), (b_pa, (arI G 400 v_pa)), (b_ws, (arJ G 8 v_ws)), (b_hw, (arJ G 4 v_hw))]) hP hD [0, 1] [2, 3, 4, 5, 6, 7, 8] rfl rfl (by decide +kernel) (by decide +kernel) hk1 hFc hP1 hD1
      clear hP hD hPc hDc hFc ht hvm hz1 hk1 hP1 hD1
      obtain ⟨hP, hD⟩ := hJ9
      refine g5_rs [(b_nl, (arI G 96 v_nl)), (b_op, (arI G 400 v_op)), (b_ar, (arI G 400 v_ar)), (b_pi, (arI G 400 v_pi)), (b_pa, (arI G 400 v_pa)), (b_ws, (arJ G 8 v_ws)), (b_hw, (arJ G 4 v_hw)), (b_o, (oc12 u_th u_sa b_rf b_ro b_im b_ke u_fd b_tp u_td u_fr u_to u_so u_wo u_fr 1 u_nc b_nl u_co b_op b_ar u_le b_pi b_pa u_pd u_od b_ws b_hw u_la b_se b_re u_bk u_va u_su u_ce u_ho u_wy u_bt u_ps b_pt u_tg u_sn b_ip u_ic b_ah b_be b_me u_wd b_tr b_ld u_st b_wn u_id)), (b_tp, (arI G 400 v_tp))] hP hD ?_
      clear hP hD
      intro hP hD
      refine lv_aload_n hx hb dX12_readClause_57 rfl (lv_at hl 2 rfl) ?_
      refine va_get (D := G.1) (ci := 12) (v := .int 1) (C := RX12) (T := TX12) (N := 52) hx hb hts inG_X12 hown hK hP 7 rfl rfl 14 (by decide +kernel) (hts _ fl_X12_205) (fun _ h9 => h9) rfl dX12_readClause_58 ?_
      refine W.eq (g2 := F0 m 61 ls [.int 1]) rfl ?_
      refine lv_if_eq (tgt := 65) hx hb dX12_readClause_61 (by decide +kernel) (fun c_8 => ?_) (fun c_8 => ?_)
      ·
        exact absurd c_8 (by decide +kernel)
      ·
        exact W.vret hx hb hr (fun t ht hW => ⟨⟨[(b_o, (oc12 u_th u_sa b_rf b_ro b_im b_ke u_fd b_tp u_td u_fr u_to u_so u_wo u_fr 1 u_nc b_nl u_co b_op b_ar u_le b_pi b_pa u_pd u_od b_ws b_hw u_la b_se b_re u_bk u_va u_su u_ce u_ho u_wy u_bt u_ps b_pt u_tg u_sn b_ip u_ic b_ah b_be b_me u_wd b_tr b_ld u_st b_wn u_id)), (b_tp, (arI G 400 v_tp)), (b_nl, (arI G 96 v_nl)), (b_op, (arI G 400 v_op)), (b_ar, (arI G 400 v_ar)), (b_pi, (arI G 400 v_pi)), (b_pa, (arI G 400 v_pa)), (b_ws, (arJ G 8 v_ws)), (b_hw, (arJ G 4 v_hw))], rfl, Or.inl (⟨clx_no e_tk (by first | exact Or.inl (by omega) | exact Or.inr (hd_no (its := k4_1.toInt) (by have q9 : k4_2.toInt = 4 := (by omega); rw [← q9]; exact i_4) (by omega))) (by decide +kernel), rfl⟩), by rw [ht]; exact hP.sub [7, 8, 0, 1, 2, 3, 4, 5, 6] rfl, hD.sub [7, 8, 0, 1, 2, 3, 4, 5, 6] (by decide +kernel) rfl⟩, hS.F ht⟩) hS.2.2 dX12_readClause_64
    ·
      have n_7 : gNe (k4_1.toInt) ((-1)) := g5_eqN (a := k4_1.toInt) (b := (-1)) rfl (by decide +kernel) c_7
      have i_7 : k4_1.toInt ≥ 0 := by have z := g5_eqN (a := k4_1.toInt) (b := (-1)) (by rfl) (by decide +kernel) c_7; omega
      refine lv_aload_n hx hb dX12_readClause_40 rfl (lv_at hl 2 rfl) ?_
      refine va_get (D := G.1) (ci := 12) (v := .int u_nc) (C := RX12) (T := TX12) (N := 52) hx hb hts inG_X12 hown hK hP 0 rfl rfl 15 (by decide +kernel) (hts _ fl_X12_312) (fun _ h9 => h9) rfl dX12_readClause_41 ?_
      refine lv_bipush (v := 12) hx hb dX12_readClause_44 (by decide +kernel) ?_
      refine lv_icmp_ge (tgt := 53) hx hb dX12_readClause_46 (by decide +kernel) (fun c_9 => ?_) (fun c_9 => ?_)
      ·
        have i_9 : u_nc.toInt ≥ 12 := g5_ge (a := u_nc.toInt) (b := 12) rfl (by decide +kernel) c_9
        refine lv_iconst (v := 0) hx hb dX12_readClause_53 (by decide +kernel) ?_
        obtain ⟨hPc, hDc, hFc⟩ := g5_sub3 (wc := [(b_o, (oc12 u_th u_sa b_rf b_ro b_im b_ke u_fd b_tp u_td u_fr u_to u_so u_wo u_fa u_bd u_nc b_nl u_co b_op b_ar u_le b_pi b_pa u_pd u_od b_ws b_hw u_la b_se b_re u_bk u_va u_su u_ce u_ho u_wy u_bt u_ps b_pt u_tg u_sn b_ip u_ic b_ah b_be b_me u_wd b_tr b_ld u_st b_wn u_id)), (b_tp, (arI G 400 v_tp))]) hP hD hS hA [0, 1] (by decide +kernel) rfl
        refine va_callv (va_runV (As := [.int 0]) (rest := []) ⟨hx, hb, hml, hown, hts⟩ (n_must0 l G b_o b_tp b_rf b_ro b_im b_ke b_nl b_op b_ar b_pi b_pa b_ws b_hw b_se b_re b_pt b_ip b_ah b_be b_me b_tr b_ld b_wn H.size u_th u_sa u_fd u_td u_fr u_to u_so u_fa u_bd u_nc u_co u_le u_pd u_od u_la u_bk u_ce u_ho u_wy u_bt u_ps u_tg u_sn u_ic u_wd u_id u_wo u_va u_su u_st v_tp h_u_td h_u_fr h_u_to h_u_bd h_u_nc h_u_co h_u_pd h_u_la h_u_bk h_u_ce h_u_ho h_u_wy h_u_bt h_u_ps h_u_ic h_u_id) (cwV 1 hts gV_X12_233 rfl rfl rfl hv_X12_must ⟨Nat.le_of_ble_eq_true rfl, Nat.le_of_ble_eq_true rfl⟩) (g5_preV hPc hK hDc hN hT hS hFc (ci := 12) (q0 := 0) rfl rfl) rfl rfl hl.1 rfl (lv_room (Nat.le_of_ble_eq_true rfl)) dX12_readClause_54 ⟨Nat.le_of_ble_eq_true rfl, Nat.le_of_ble_eq_true rfl⟩) hS (fun q _ h => hFc q h) hFc (fun u t H locs ht hvm hw hB hz1 hk1 hS => ?_)
        obtain ⟨hP1, hD1⟩ := hB
        have hP1 := g5_ht ht hP1
        obtain rfl := hw
        have hJ9 := va_join (wr := [(b_nl, (arI G 96 v_nl)), (b_op, (arI G 400 v_op)), (b_ar, (arI G 400 v_ar)), (b_pi, (arI G 400 v_pi)), (b_pa, (arI G 400 v_pa)), (b_ws, (arJ G 8 v_ws)), (b_hw, (arJ G 4 v_hw))]) hP hD [0, 1] [2, 3, 4, 5, 6, 7, 8] rfl rfl (by decide +kernel) (by decide +kernel) hk1 hFc hP1 hD1
        clear hP hD hPc hDc hFc ht hvm hz1 hk1 hP1 hD1
        obtain ⟨hP, hD⟩ := hJ9
        refine g5_rs [(b_nl, (arI G 96 v_nl)), (b_op, (arI G 400 v_op)), (b_ar, (arI G 400 v_ar)), (b_pi, (arI G 400 v_pi)), (b_pa, (arI G 400 v_pa)), (b_ws, (arJ G 8 v_ws)), (b_hw, (arJ G 4 v_hw)), (b_o, (oc12 u_th u_sa b_rf b_ro b_im b_ke u_fd b_tp u_td u_fr u_to u_so u_wo u_fr 1 u_nc b_nl u_co b_op b_ar u_le b_pi b_pa u_pd u_od b_ws b_hw u_la b_se b_re u_bk u_va u_su u_ce u_ho u_wy u_bt u_ps b_pt u_tg u_sn b_ip u_ic b_ah b_be b_me u_wd b_tr b_ld u_st b_wn u_id)), (b_tp, (arI G 400 v_tp))] hP hD ?_
        clear hP hD
        intro hP hD
        refine lv_aload_n hx hb dX12_readClause_57 rfl (lv_at hl 2 rfl) ?_
        refine va_get (D := G.1) (ci := 12) (v := .int 1) (C := RX12) (T := TX12) (N := 52) hx hb hts inG_X12 hown hK hP 7 rfl rfl 14 (by decide +kernel) (hts _ fl_X12_205) (fun _ h9 => h9) rfl dX12_readClause_58 ?_
        refine W.eq (g2 := F0 m 61 ls [.int 1]) rfl ?_
        refine lv_if_eq (tgt := 65) hx hb dX12_readClause_61 (by decide +kernel) (fun c_10 => ?_) (fun c_10 => ?_)
        ·
          exact absurd c_10 (by decide +kernel)
        ·
          exact W.vret hx hb hr (fun t ht hW => ⟨⟨[(b_o, (oc12 u_th u_sa b_rf b_ro b_im b_ke u_fd b_tp u_td u_fr u_to u_so u_wo u_fr 1 u_nc b_nl u_co b_op b_ar u_le b_pi b_pa u_pd u_od b_ws b_hw u_la b_se b_re u_bk u_va u_su u_ce u_ho u_wy u_bt u_ps b_pt u_tg u_sn b_ip u_ic b_ah b_be b_me u_wd b_tr b_ld u_st b_wn u_id)), (b_tp, (arI G 400 v_tp)), (b_nl, (arI G 96 v_nl)), (b_op, (arI G 400 v_op)), (b_ar, (arI G 400 v_ar)), (b_pi, (arI G 400 v_pi)), (b_pa, (arI G 400 v_pa)), (b_ws, (arJ G 8 v_ws)), (b_hw, (arJ G 4 v_hw))], rfl, Or.inl (⟨clx_no e_tk (by first | exact Or.inl (by omega) | exact Or.inr (hd_no (its := k4_1.toInt) (by have q9 : k4_2.toInt = 4 := (by omega); rw [← q9]; exact i_4) (by omega))) (by decide +kernel), rfl⟩), by rw [ht]; exact hP.sub [7, 8, 0, 1, 2, 3, 4, 5, 6] rfl, hD.sub [7, 8, 0, 1, 2, 3, 4, 5, 6] (by decide +kernel) rfl⟩, hS.F ht⟩) hS.2.2 dX12_readClause_64
      ·
        have i_9 : u_nc.toInt < 12 := g5_geN (a := u_nc.toInt) (b := 12) rfl (by decide +kernel) c_9
        refine lv_iconst (v := 1) hx hb dX12_readClause_49 (by decide +kernel) ?_
        refine lv_goto (tgt := 54) hx hb dX12_readClause_50 (by decide +kernel) ?_
        have hlt9 : u_fr.toInt < u_to.toInt := tks_lt e_s (by omega)
        obtain ⟨hPc, hDc, hFc⟩ := g5_sub3 (wc := [(b_o, (oc12 u_th u_sa b_rf b_ro b_im b_ke u_fd b_tp u_td u_fr u_to u_so u_wo u_fa u_bd u_nc b_nl u_co b_op b_ar u_le b_pi b_pa u_pd u_od b_ws b_hw u_la b_se b_re u_bk u_va u_su u_ce u_ho u_wy u_bt u_ps b_pt u_tg u_sn b_ip u_ic b_ah b_be b_me u_wd b_tr b_ld u_st b_wn u_id)), (b_tp, (arI G 400 v_tp))]) hP hD hS hA [0, 1] (by decide +kernel) rfl
        refine va_callv (va_runV (As := [.int 1]) (rest := []) ⟨hx, hb, hml, hown, hts⟩ (n_must1X l G b_o b_tp b_rf b_ro b_im b_ke b_nl b_op b_ar b_pi b_pa b_ws b_hw b_se b_re b_pt b_ip b_ah b_be b_me b_tr b_ld b_wn H.size u_th u_sa u_fd u_td u_fr u_to u_so u_fa u_bd u_nc u_co u_le u_pd u_od u_la u_bk u_ce u_ho u_wy u_bt u_ps u_tg u_sn u_ic u_wd u_id u_wo u_va u_su u_st v_tp h_u_td h_u_fr h_u_to h_u_bd h_u_nc h_u_co h_u_pd h_u_la h_u_bk h_u_ce h_u_ho h_u_wy h_u_bt h_u_ps h_u_ic h_u_id (by omega)) (cwV 1 hts gV_X12_233 rfl rfl rfl hv_X12_must ⟨Nat.le_of_ble_eq_true rfl, Nat.le_of_ble_eq_true rfl⟩) (g5_preV hPc hK hDc hN hT hS hFc (ci := 12) (q0 := 0) rfl rfl) rfl rfl hl.1 rfl (lv_room (Nat.le_of_ble_eq_true rfl)) dX12_readClause_54 ⟨Nat.le_of_ble_eq_true rfl, Nat.le_of_ble_eq_true rfl⟩) hS (fun q _ h => hFc q h) hFc (fun u t H locs ht hvm hw hB hz1 hk1 hS => ?_)
        obtain ⟨hP1, hD1⟩ := hB
        have hP1 := g5_ht ht hP1
        obtain ⟨z16, z17, z18, z19, (i_11 : 0 ≤ z16.toInt ∧ z16.toInt ≤ 400), (i_12 : 0 ≤ z17.toInt ∧ z17.toInt ≤ 400), (i_13 : u_to.toInt ≤ z16.toInt ∧ z16.toInt ≤ z17.toInt ∧ z17.toInt ≤ u_td.toInt), (i_14 : TKs z18.toInt z16.toInt z17.toInt), (i_15 : TOKA v_tp u_td.toInt.toNat (skT v_tp u_td.toInt.toNat u_to.toInt.toNat) z16 z17 z18 z19), rfl⟩ := hw
        have hJ9 := va_join (wr := [(b_nl, (arI G 96 v_nl)), (b_op, (arI G 400 v_op)), (b_ar, (arI G 400 v_ar)), (b_pi, (arI G 400 v_pi)), (b_pa, (arI G 400 v_pa)), (b_ws, (arJ G 8 v_ws)), (b_hw, (arJ G 4 v_hw))]) hP hD [0, 1] [2, 3, 4, 5, 6, 7, 8] rfl rfl (by decide +kernel) (by decide +kernel) hk1 hFc hP1 hD1
        clear hP hD hPc hDc hFc ht hvm hz1 hk1 hP1 hD1
        obtain ⟨hP, hD⟩ := hJ9
        refine g5_rs [(b_nl, (arI G 96 v_nl)), (b_op, (arI G 400 v_op)), (b_ar, (arI G 400 v_ar)), (b_pi, (arI G 400 v_pi)), (b_pa, (arI G 400 v_pa)), (b_ws, (arJ G 8 v_ws)), (b_hw, (arJ G 4 v_hw)), (b_o, (oc12 u_th u_sa b_rf b_ro b_im b_ke u_fd b_tp u_td z16 z17 z18 z19 u_fa u_bd u_nc b_nl u_co b_op b_ar u_le b_pi b_pa u_pd u_od b_ws b_hw u_la b_se b_re u_bk u_va u_su u_ce u_ho u_wy u_bt u_ps b_pt u_tg u_sn b_ip u_ic b_ah b_be b_me u_wd b_tr b_ld u_st b_wn u_id)), (b_tp, (arI G 400 v_tp))] hP hD ?_
        clear hP hD
        intro hP hD
        refine lv_aload_n hx hb dX12_readClause_57 rfl (lv_at hl 2 rfl) ?_
        refine W.eq (g2 := F0 m 58 ls [.ref b_o]) rfl ?_
        refine va_get (D := G.1) (ci := 12) (v := .int u_bd) (C := RX12) (T := TX12) (N := 52) hx hb hts inG_X12 hown hK hP 7 rfl rfl 14 (by decide +kernel) (hts _ fl_X12_205) (fun _ h9 => h9) rfl dX12_readClause_58 ?_
        refine lv_if_eq (tgt := 65) hx hb dX12_readClause_61 (by decide +kernel) (fun c_20 => ?_) (fun c_20 => ?_)
        ·
          have i_20 : u_bd.toInt = 0 := g5_eq (a := u_bd.toInt) (b := 0) rfl (by decide +kernel) c_20
          have hP4 : PTW 256 0 (KDT v_tp u_td.toInt.toNat g_i) k4_1.toInt 4 := by have q9 : k4_2.toInt = 4 := (by omega); rw [← q9]; exact i_4
          have hH4 := hd_yes hP4 (by omega)
          have hkn : g_i < u_td.toInt.toNat := k_lt (by omega) (by rw [hH4.1]; omega)
          have hE_21 : TOKA v_tp u_td.toInt.toNat (pT v_tp u_td.toInt.toNat (g_i + 1)) z16 z17 z18 z19 := toka_nx e_tk i_15
          refine lv_bipush (v := 8) hx hb dX12_readClause_65 (by decide +kernel) ?_
          refine lv_aload_n hx hb dX12_readClause_67 rfl (lv_at hl 2 rfl) ?_
          refine va_get (D := G.1) (ci := 12) (v := .int u_nc) (C := RX12) (T := TX12) (N := 52) hx hb hts inG_X12 hown hK hP 7 rfl rfl 15 (by decide +kernel) (hts _ fl_X12_312) (fun _ h9 => h9) rfl dX12_readClause_68 ?_
          refine lv_imul hx hb dX12_readClause_71 ?_
          have t_22 : (8 * u_nc).toInt = 8 * u_nc.toInt := g5_imul (a := 8) (b := u_nc.toInt) (by decide +kernel) (by rfl) (by omega) (by omega)
          refine W.eq (g2 := F0 m 72 ls [.int (8 * u_nc)]) rfl ?_
          refine lv_istore_n (lv' := [(2, .int (8 * u_nc)), (1, .int k4_1), (0, .ref b_o)]) hx hb dX12_readClause_72 rfl hl (by decide +kernel) rfl ?_
          clear hl
          intro ls hl
          refine lv_iconst (v := 0) hx hb dX12_readClause_73 (by decide +kernel) ?_
          refine lv_istore_n (lv' := [(3, .int 0), (2, .int (8 * u_nc)), (1, .int k4_1), (0, .ref b_o)]) hx hb dX12_readClause_74 rfl hl (by decide +kernel) rfl ?_
          clear hl
          intro ls hl
          refine g5_loop (α := (Int32) × (Nat → Int32)) (fun (q : (Int32) × (Nat → Int32)) (ls : Array Slot) (H : Heap) (locs : List Loc) => match q with | (k75_3, k75_nl) => lv_has ls 4 [(3, .int k75_3), (2, .int (8 * u_nc)), (1, .int k4_1), (0, .ref b_o)] ∧ va_P G.1 vwCl [(b_nl, (arI G 96 k75_nl)), (b_op, (arI G 400 v_op)), (b_ar, (arI G 400 v_ar)), (b_pi, (arI G 400 v_pi)), (b_pa, (arI G 400 v_pa)), (b_ws, (arJ G 8 v_ws)), (b_hw, (arJ G 4 v_hw)), (b_o, (oc12 u_th u_sa b_rf b_ro b_im b_ke u_fd b_tp u_td z16 z17 z18 z19 u_fa u_bd u_nc b_nl u_co b_op b_ar u_le b_pi b_pa u_pd u_od b_ws b_hw u_la b_se b_re u_bk u_va u_su u_ce u_ho u_wy u_bt u_ps b_pt u_tg u_sn b_ip u_ic b_ah b_be b_me u_wd b_tr b_ld u_st b_wn u_id)), (b_tp, (arI G 400 v_tp))] H ∧ va_D A [(b_nl, (arI G 96 k75_nl)), (b_op, (arI G 400 v_op)), (b_ar, (arI G 400 v_ar)), (b_pi, (arI G 400 v_pi)), (b_pa, (arI G 400 v_pa)), (b_ws, (arJ G 8 v_ws)), (b_hw, (arJ G 4 v_hw)), (b_o, (oc12 u_th u_sa b_rf b_ro b_im b_ke u_fd b_tp u_td z16 z17 z18 z19 u_fa u_bd u_nc b_nl u_co b_op b_ar u_le b_pi b_pa u_pd u_od b_ws b_hw u_la b_se b_re u_bk u_va u_su u_ce u_ho u_wy u_bt u_ps b_pt u_tg u_sn b_ip u_ic b_ah b_be b_me u_wd b_tr b_ld u_st b_wn u_id)), (b_tp, (arI G 400 v_tp))] ∧ va_S A s.heap H locs ∧ (0 ≤ k75_3.toInt ∧ k75_3.toInt ≤ 8) ∧ (∀ j : Nat, (j : Int) < 8 * u_nc.toInt → k75_nl j = v_nl j)) (fun (q : (Int32) × (Nat → Int32)) => match q with | (k75_3, k75_nl) => Int.toNat (8 - k75_3.toInt)) (0, v_nl) ⟨lv_sub hl [0, 1, 2, 3] rfl, hP, hD, hS, ⟨by decide, by decide⟩, fun _ _ => rfl⟩ ?_
          rintro ⟨k75_3, k75_nl⟩ ls H locs ⟨hl, hP, hD, hS, (i_23 : 0 ≤ k75_3.toInt ∧ k75_3.toInt ≤ 8), (i_24 : ∀ j : Nat, (j : Int) < 8 * u_nc.toInt → k75_nl j = v_nl j)⟩ ih_75_25
          replace hl : lv_has ls 4 [(3, .int k75_3), (2, .int (8 * u_nc)), (1, .int k4_1), (0, .ref b_o)] := hl
          refine g5_rs [(b_nl, (arI G 96 k75_nl)), (b_op, (arI G 400 v_op)), (b_ar, (arI G 400 v_ar)), (b_pi, (arI G 400 v_pi)), (b_pa, (arI G 400 v_pa)), (b_ws, (arJ G 8 v_ws)), (b_hw, (arJ G 4 v_hw)), (b_o, (oc12 u_th u_sa b_rf b_ro b_im b_ke u_fd b_tp u_td z16 z17 z18 z19 u_fa u_bd u_nc b_nl u_co b_op b_ar u_le b_pi b_pa u_pd u_od b_ws b_hw u_la b_se b_re u_bk u_va u_su u_ce u_ho u_wy u_bt u_ps b_pt u_tg u_sn b_ip u_ic b_ah b_be b_me u_wd b_tr b_ld u_st b_wn u_id)), (b_tp, (arI G 400 v_tp))] hP hD ?_
          clear hP hD
          intro hP hD
          refine lv_iload_n hx hb dX12_readClause_75 rfl (lv_at hl 0 rfl) ?_
          refine lv_bipush (v := 8) hx hb dX12_readClause_76 (by decide +kernel) ?_
          refine lv_icmp_ge (tgt := 96) hx hb dX12_readClause_78 (by decide +kernel) (fun c_26 => ?_) (fun c_26 => ?_)
          ·
            have i_26 : k75_3.toInt ≥ 8 := g5_ge (a := k75_3.toInt) (b := 8) rfl (by decide +kernel) c_26
            refine lv_aload_n hx hb dX12_readClause_96 rfl (lv_at hl 3 rfl) ?_
            refine va_get (D := G.1) (ci := 12) (v := .ref b_nl) (C := RX12) (T := TX12) (N := 52) hx hb hts inG_X12 hown hK hP 7 rfl rfl 16 (by decide +kernel) (hts _ fl_X12_30) (fun _ h9 => h9) rfl dX12_readClause_97 ?_
            refine lv_iload_n hx hb dX12_readClause_100 rfl (lv_at hl 1 rfl) ?_
            refine lv_iload_n hx hb dX12_readClause_101 rfl (lv_at hl 2 rfl) ?_
            refine W.eq (g2 := F0 m 102 ls [.int k4_1, .int (8 * u_nc), .ref b_nl]) rfl ?_
            refine va_iast hx hb hK hP hD hS 0 0 rfl rfl (i := (8 * u_nc)) (x := k4_1) (vp_in_iff.mpr ⟨by omega, by omega⟩) dX12_readClause_102 ?_
            clear hP hD hS
            intro H locs hP hD hS
            refine g5_rs [(b_nl, (arI G 96 (upd k75_nl (8 * u_nc).toNatClampNeg k4_1))), (b_op, (arI G 400 v_op)), (b_ar, (arI G 400 v_ar)), (b_pi, (arI G 400 v_pi)), (b_pa, (arI G 400 v_pa)), (b_ws, (arJ G 8 v_ws)), (b_hw, (arJ G 4 v_hw)), (b_o, (oc12 u_th u_sa b_rf b_ro b_im b_ke u_fd b_tp u_td z16 z17 z18 z19 u_fa u_bd u_nc b_nl u_co b_op b_ar u_le b_pi b_pa u_pd u_od b_ws b_hw u_la b_se b_re u_bk u_va u_su u_ce u_ho u_wy u_bt u_ps b_pt u_tg u_sn b_ip u_ic b_ah b_be b_me u_wd b_tr b_ld u_st b_wn u_id)), (b_tp, (arI G 400 v_tp))] hP hD ?_
            clear hP hD
            intro hP hD
            refine lv_aload_n hx hb dX12_readClause_103 rfl (lv_at hl 3 rfl) ?_
            refine lv_dup hx hb dX12_readClause_104 rfl ?_
            refine va_get (D := G.1) (ci := 12) (v := .int u_nc) (C := RX12) (T := TX12) (N := 52) hx hb hts inG_X12 hown hK hP 7 rfl rfl 15 (by decide +kernel) (hts _ fl_X12_312) (fun _ h9 => h9) rfl dX12_readClause_105 ?_
            refine lv_iconst (v := 1) hx hb dX12_readClause_108 (by decide +kernel) ?_
            refine W.eq (g2 := F0 m 109 ls [.int 1, .int u_nc, .ref b_o]) rfl ?_
            refine lv_iadd hx hb dX12_readClause_109 ?_
            have t_27 : (u_nc + 1).toInt = u_nc.toInt + 1 := g5_iadd (a := u_nc.toInt) (b := 1) (by rfl) (by decide +kernel) (by omega) (by omega)
            refine va_put (D := G.1) (ci := 12) (v := .int (u_nc + 1)) (ty := .int) (C := RX12) (T := TX12) (N := 52) hx hb hts inG_X12 tyX12 tyX12_ok nmX12 hown hK hP hD hS 7 rfl rfl 15 (by decide +kernel) (hts _ fl_X12_312) (fun _ h9 => h9) rfl (by decide +kernel) rfl rfl (Nat.le_of_ble_eq_true rfl) dX12_readClause_110 ?_
            clear hP hD hS
            intro H locs hP hD hS
            refine g5_rs [(b_nl, (arI G 96 (upd k75_nl (8 * u_nc).toNatClampNeg k4_1))), (b_op, (arI G 400 v_op)), (b_ar, (arI G 400 v_ar)), (b_pi, (arI G 400 v_pi)), (b_pa, (arI G 400 v_pa)), (b_ws, (arJ G 8 v_ws)), (b_hw, (arJ G 4 v_hw)), (b_o, (oc12 u_th u_sa b_rf b_ro b_im b_ke u_fd b_tp u_td z16 z17 z18 z19 u_fa u_bd (u_nc + 1) b_nl u_co b_op b_ar u_le b_pi b_pa u_pd u_od b_ws b_hw u_la b_se b_re u_bk u_va u_su u_ce u_ho u_wy u_bt u_ps b_pt u_tg u_sn b_ip u_ic b_ah b_be b_me u_wd b_tr b_ld u_st b_wn u_id)), (b_tp, (arI G 400 v_tp))] hP hD ?_
            clear hP hD
            intro hP hD
            refine lv_aload_n hx hb dX12_readClause_113 rfl (lv_at hl 3 rfl) ?_
            refine va_get (D := G.1) (ci := 12) (v := .ref b_nl) (C := RX12) (T := TX12) (N := 52) hx hb hts inG_X12 hown hK hP 7 rfl rfl 16 (by decide +kernel) (hts _ fl_X12_30) (fun _ h9 => h9) rfl dX12_readClause_114 ?_
            refine lv_iload_n hx hb dX12_readClause_117 rfl (lv_at hl 1 rfl) ?_
            refine W.eq (g2 := F0 m 118 ls [.int (8 * u_nc), .ref b_nl]) rfl ?_
            refine lv_iconst (v := 3) hx hb dX12_readClause_118 (by decide +kernel) ?_
            refine lv_iadd hx hb dX12_readClause_119 ?_
            have t_28 : ((8 * u_nc) + 3).toInt = (8 * u_nc).toInt + 3 := g5_iadd (a := (8 * u_nc).toInt) (b := 3) (by rfl) (by decide +kernel) (by omega) (by omega)
            refine lv_aload_n hx hb dX12_readClause_120 rfl (lv_at hl 3 rfl) ?_
            refine va_get (D := G.1) (ci := 12) (v := .int u_co) (C := RX12) (T := TX12) (N := 52) hx hb hts inG_X12 hown hK hP 7 rfl rfl 17 (by decide +kernel) (hts _ fl_X12_237) (fun _ h9 => h9) rfl dX12_readClause_121 ?_
            refine va_iast hx hb hK hP hD hS 0 0 rfl rfl (i := ((8 * u_nc) + 3)) (x := u_co) (vp_in_iff.mpr ⟨by omega, by omega⟩) dX12_readClause_124 ?_
            clear hP hD hS
            intro H locs hP hD hS
            refine g5_rs [(b_nl, (arI G 96 (upd (upd k75_nl (8 * u_nc).toNatClampNeg k4_1) ((8 * u_nc) + 3).toNatClampNeg u_co))), (b_op, (arI G 400 v_op)), (b_ar, (arI G 400 v_ar)), (b_pi, (arI G 400 v_pi)), (b_pa, (arI G 400 v_pa)), (b_ws, (arJ G 8 v_ws)), (b_hw, (arJ G 4 v_hw)), (b_o, (oc12 u_th u_sa b_rf b_ro b_im b_ke u_fd b_tp u_td z16 z17 z18 z19 u_fa u_bd (u_nc + 1) b_nl u_co b_op b_ar u_le b_pi b_pa u_pd u_od b_ws b_hw u_la b_se b_re u_bk u_va u_su u_ce u_ho u_wy u_bt u_ps b_pt u_tg u_sn b_ip u_ic b_ah b_be b_me u_wd b_tr b_ld u_st b_wn u_id)), (b_tp, (arI G 400 v_tp))] hP hD ?_
            clear hP hD
            intro hP hD
            refine W.eq (g2 := F0 m 125 ls []) rfl ?_
            refine lv_iload_n hx hb dX12_readClause_125 rfl (lv_at hl 2 rfl) ?_
            refine lv_iconst (v := 2) hx hb dX12_readClause_126 (by decide +kernel) ?_
            refine lv_icmp_ge (tgt := 135) hx hb dX12_readClause_127 (by decide +kernel) (fun c_29 => ?_) (fun c_29 => ?_)
            ·
              have i_29 : k4_1.toInt ≥ 2 := g5_ge (a := k4_1.toInt) (b := 2) rfl (by decide +kernel) c_29
              have hE_30 : HDX v_tp u_td u_co u_le g_i k4_1.toInt u_bd z16 z17 z18 z19 v_op v_ar u_co u_le := hdx_n hH4 (by omega) (by first | decide | omega) hE_21 (by omega) hkn (by omega)
              refine lv_aload_n hx hb dX12_readClause_135 rfl (lv_at hl 3 rfl) ?_
              refine va_get (D := G.1) (ci := 12) (v := .ref b_nl) (C := RX12) (T := TX12) (N := 52) hx hb hts inG_X12 hown hK hP 7 rfl rfl 16 (by decide +kernel) (hts _ fl_X12_30) (fun _ h9 => h9) rfl dX12_readClause_136 ?_
              refine lv_iload_n hx hb dX12_readClause_139 rfl (lv_at hl 1 rfl) ?_
              refine lv_iconst (v := 4) hx hb dX12_readClause_140 (by decide +kernel) ?_
              refine W.eq (g2 := F0 m 141 ls [.int 4, .int (8 * u_nc), .ref b_nl]) rfl ?_
              refine lv_iadd hx hb dX12_readClause_141 ?_
              have t_31 : ((8 * u_nc) + 4).toInt = (8 * u_nc).toInt + 4 := g5_iadd (a := (8 * u_nc).toInt) (b := 4) (by rfl) (by decide +kernel) (by omega) (by omega)
              refine lv_aload_n hx hb dX12_readClause_142 rfl (lv_at hl 3 rfl) ?_
              refine va_get (D := G.1) (ci := 12) (v := .int u_co) (C := RX12) (T := TX12) (N := 52) hx hb hts inG_X12 hown hK hP 7 rfl rfl 17 (by decide +kernel) (hts _ fl_X12_237) (fun _ h9 => h9) rfl dX12_readClause_143 ?_
              refine va_iast hx hb hK hP hD hS 0 0 rfl rfl (i := ((8 * u_nc) + 4)) (x := u_co) (vp_in_iff.mpr ⟨by omega, by omega⟩) dX12_readClause_146 ?_
              clear hP hD hS
              intro H locs hP hD hS
              refine g5_rs [(b_nl, (arI G 96 (upd (upd (upd k75_nl (8 * u_nc).toNatClampNeg k4_1) ((8 * u_nc) + 3).toNatClampNeg u_co) ((8 * u_nc) + 4).toNatClampNeg u_co))), (b_op, (arI G 400 v_op)), (b_ar, (arI G 400 v_ar)), (b_pi, (arI G 400 v_pi)), (b_pa, (arI G 400 v_pa)), (b_ws, (arJ G 8 v_ws)), (b_hw, (arJ G 4 v_hw)), (b_o, (oc12 u_th u_sa b_rf b_ro b_im b_ke u_fd b_tp u_td z16 z17 z18 z19 u_fa u_bd (u_nc + 1) b_nl u_co b_op b_ar u_le b_pi b_pa u_pd u_od b_ws b_hw u_la b_se b_re u_bk u_va u_su u_ce u_ho u_wy u_bt u_ps b_pt u_tg u_sn b_ip u_ic b_ah b_be b_me u_wd b_tr b_ld u_st b_wn u_id)), (b_tp, (arI G 400 v_tp))] hP hD ?_
              clear hP hD
              intro hP hD
              refine lv_aload_n hx hb dX12_readClause_147 rfl (lv_at hl 3 rfl) ?_
              refine W.eq (g2 := F0 m 148 ls [.ref b_o]) rfl ?_
              refine va_get (D := G.1) (ci := 12) (v := .ref b_nl) (C := RX12) (T := TX12) (N := 52) hx hb hts inG_X12 hown hK hP 7 rfl rfl 16 (by decide +kernel) (hts _ fl_X12_30) (fun _ h9 => h9) rfl dX12_readClause_148 ?_
              refine lv_iload_n hx hb dX12_readClause_151 rfl (lv_at hl 1 rfl) ?_
              refine lv_iconst (v := 5) hx hb dX12_readClause_152 (by decide +kernel) ?_
              refine lv_iadd hx hb dX12_readClause_153 ?_
              have t_32 : ((8 * u_nc) + 5).toInt = (8 * u_nc).toInt + 5 := g5_iadd (a := (8 * u_nc).toInt) (b := 5) (by rfl) (by decide +kernel) (by omega) (by omega)
              refine lv_aload_n hx hb dX12_readClause_154 rfl (lv_at hl 3 rfl) ?_
              refine W.eq (g2 := F0 m 155 ls [.ref b_o, .int ((8 * u_nc) + 5), .ref b_nl]) rfl ?_
              refine va_get (D := G.1) (ci := 12) (v := .int u_co) (C := RX12) (T := TX12) (N := 52) hx hb hts inG_X12 hown hK hP 7 rfl rfl 17 (by decide +kernel) (hts _ fl_X12_237) (fun _ h9 => h9) rfl dX12_readClause_155 ?_
              refine va_iast hx hb hK hP hD hS 0 0 rfl rfl (i := ((8 * u_nc) + 5)) (x := u_co) (vp_in_iff.mpr ⟨by omega, by omega⟩) dX12_readClause_158 ?_
              clear hP hD hS
              intro H locs hP hD hS
              refine g5_rs [(b_nl, (arI G 96 (upd (upd (upd (upd k75_nl (8 * u_nc).toNatClampNeg k4_1) ((8 * u_nc) + 3).toNatClampNeg u_co) ((8 * u_nc) + 4).toNatClampNeg u_co) ((8 * u_nc) + 5).toNatClampNeg u_co))), (b_op, (arI G 400 v_op)), (b_ar, (arI G 400 v_ar)), (b_pi, (arI G 400 v_pi)), (b_pa, (arI G 400 v_pa)), (b_ws, (arJ G 8 v_ws)), (b_hw, (arJ G 4 v_hw)), (b_o, (oc12 u_th u_sa b_rf b_ro b_im b_ke u_fd b_tp u_td z16 z17 z18 z19 u_fa u_bd (u_nc + 1) b_nl u_co b_op b_ar u_le b_pi b_pa u_pd u_od b_ws b_hw u_la b_se b_re u_bk u_va u_su u_ce u_ho u_wy u_bt u_ps b_pt u_tg u_sn b_ip u_ic b_ah b_be b_me u_wd b_tr b_ld u_st b_wn u_id)), (b_tp, (arI G 400 v_tp))] hP hD ?_
              clear hP hD
              intro hP hD
              refine lv_aload_n hx hb dX12_readClause_159 rfl (lv_at hl 3 rfl) ?_
              refine va_get (D := G.1) (ci := 12) (v := .int u_bd) (C := RX12) (T := TX12) (N := 52) hx hb hts inG_X12 hown hK hP 7 rfl rfl 14 (by decide +kernel) (hts _ fl_X12_205) (fun _ h9 => h9) rfl dX12_readClause_160 ?_
              refine lv_if_ne (tgt := 185) hx hb dX12_readClause_163 (by decide +kernel) (fun c_33 => ?_) (fun c_33 => ?_)
              ·
                have i_33 : u_bd.toInt ≠ 0 := g5_ne (a := u_bd.toInt) (b := 0) rfl (by decide +kernel) c_33
                omega
              ·
                have i_33 : u_bd.toInt = 0 := g5_neN (a := u_bd.toInt) (b := 0) rfl (by decide +kernel) c_33
                obtain ⟨kk2, hHB, hT2, hk21, hk22, hk23⟩ := hdx_k hE_30 (by first | decide | omega)
                refine lv_aload_n hx hb dX12_readClause_166 rfl (lv_at hl 3 rfl) ?_
                refine lv_ldc2 (v := 294) hx hb hown (hts _ kl_X12_318) dX12_readClause_167 ?_
                obtain ⟨hPc, hDc, hFc⟩ := g5_sub3 (wc := [(b_o, (oc12 u_th u_sa b_rf b_ro b_im b_ke u_fd b_tp u_td z16 z17 z18 z19 u_fa u_bd (u_nc + 1) b_nl u_co b_op b_ar u_le b_pi b_pa u_pd u_od b_ws b_hw u_la b_se b_re u_bk u_va u_su u_ce u_ho u_wy u_bt u_ps b_pt u_tg u_sn b_ip u_ic b_ah b_be b_me u_wd b_tr b_ld u_st b_wn u_id))]) hP hD hS hA [7] (by decide +kernel) rfl
                refine va_calli (va_runV (As := [.long 294]) (rest := []) ⟨hx, hb, hml, hown, hts⟩ (n_isWordX294 l G b_o b_rf b_ro b_im b_ke b_tp b_nl b_op b_ar b_pi b_pa b_ws b_hw b_se b_re b_pt b_ip b_ah b_be b_me b_tr b_ld b_wn H.size u_th u_sa u_fd u_td z16 z17 z18 u_fa u_bd (u_nc + 1) u_co u_le u_pd u_od u_la u_bk u_ce u_ho u_wy u_bt u_ps u_tg u_sn u_ic u_wd u_id z19 u_va u_su u_st h_u_td i_11 i_12 ⟨by omega, by omega⟩ ⟨by omega, by omega⟩ h_u_co h_u_pd h_u_la h_u_bk h_u_ce h_u_ho h_u_wy h_u_bt h_u_ps h_u_ic h_u_id) (cwV 1 hts gV_X12_254 rfl rfl rfl hv_X12_isWord ⟨Nat.le_of_ble_eq_true rfl, Nat.le_of_ble_eq_true rfl⟩) (g5_preV hPc hK hDc hN hT hS hFc (ci := 12) (q0 := 0) rfl rfl) rfl rfl hl.1 rfl (lv_room (Nat.le_of_ble_eq_true rfl)) dX12_readClause_170 ⟨Nat.le_of_ble_eq_true rfl, Nat.le_of_ble_eq_true rfl⟩) hS (fun q _ h => hFc q h) hFc (fun r u t H locs ht hvm hw hB hz1 hk1 hS => ?_)
                obtain ⟨hP1, hD1⟩ := hB
                have hP1 := g5_ht ht hP1
                rcases hw with ⟨(i_34 : z18.toInt = 1 ∧ z19.toInt = 294), rfl, rfl⟩ | ⟨(i_35 : ¬ (z18.toInt = 1 ∧ z19.toInt = 294)), rfl, rfl⟩
                ·
                  have hJ9 := va_join (wr := [(b_nl, (arI G 96 (upd (upd (upd (upd k75_nl (8 * u_nc).toNatClampNeg k4_1) ((8 * u_nc) + 3).toNatClampNeg u_co) ((8 * u_nc) + 4).toNatClampNeg u_co) ((8 * u_nc) + 5).toNatClampNeg u_co))), (b_op, (arI G 400 v_op)), (b_ar, (arI G 400 v_ar)), (b_pi, (arI G 400 v_pi)), (b_pa, (arI G 400 v_pa)), (b_ws, (arJ G 8 v_ws)), (b_hw, (arJ G 4 v_hw)), (b_tp, (arI G 400 v_tp))]) hP hD [7] [0, 1, 2, 3, 4, 5, 6, 8] rfl rfl (by decide +kernel) (by decide +kernel) hk1 hFc hP1 hD1
                  clear hP hD hPc hDc hFc ht hvm hz1 hk1 hP1 hD1
                  obtain ⟨hP, hD⟩ := hJ9
                  refine g5_rs [(b_nl, (arI G 96 (upd (upd (upd (upd k75_nl (8 * u_nc).toNatClampNeg k4_1) ((8 * u_nc) + 3).toNatClampNeg u_co) ((8 * u_nc) + 4).toNatClampNeg u_co) ((8 * u_nc) + 5).toNatClampNeg u_co))), (b_op, (arI G 400 v_op)), (b_ar, (arI G 400 v_ar)), (b_pi, (arI G 400 v_pi)), (b_pa, (arI G 400 v_pa)), (b_ws, (arJ G 8 v_ws)), (b_hw, (arJ G 4 v_hw)), (b_tp, (arI G 400 v_tp)), (b_o, (oc12 u_th u_sa b_rf b_ro b_im b_ke u_fd b_tp u_td z16 z17 z18 z19 u_fa u_bd (u_nc + 1) b_nl u_co b_op b_ar u_le b_pi b_pa u_pd u_od b_ws b_hw u_la b_se b_re u_bk u_va u_su u_ce u_ho u_wy u_bt u_ps b_pt u_tg u_sn b_ip u_ic b_ah b_be b_me u_wd b_tr b_ld u_st b_wn u_id))] hP hD ?_
                  clear hP hD
                  intro hP hD
                  refine lv_if_eq (tgt := 185) hx hb dX12_readClause_173 (by decide +kernel) (fun c_36 => ?_) (fun c_36 => ?_)
                  ·
                    exact absurd c_36 (by decide +kernel)
                  ·
                    have hlt8 : z16.toInt < z17.toInt := tks_lt i_14 (by omega)
                    have hK26 := (tw_if e_tp hT2).mpr i_34
                    have hkn2 : kk2 < u_td.toInt.toNat := k_lt (by omega) (by rw [hK26]; decide)
                    refine lv_aload_n hx hb dX12_readClause_176 rfl (lv_at hl 3 rfl) ?_
                    obtain ⟨hPc, hDc, hFc⟩ := g5_sub3 (wc := [(b_o, (oc12 u_th u_sa b_rf b_ro b_im b_ke u_fd b_tp u_td z16 z17 z18 z19 u_fa u_bd (u_nc + 1) b_nl u_co b_op b_ar u_le b_pi b_pa u_pd u_od b_ws b_hw u_la b_se b_re u_bk u_va u_su u_ce u_ho u_wy u_bt u_ps b_pt u_tg u_sn b_ip u_ic b_ah b_be b_me u_wd b_tr b_ld u_st b_wn u_id)), (b_tp, (arI G 400 v_tp))]) hP hD hS hA [8, 7] (by decide +kernel) rfl
                    refine va_callv (va_runV (As := []) (rest := []) ⟨hx, hb, hml, hown, hts⟩ (n_nextX l G b_o b_tp b_rf b_ro b_im b_ke b_nl b_op b_ar b_pi b_pa b_ws b_hw b_se b_re b_pt b_ip b_ah b_be b_me b_tr b_ld b_wn H.size u_th u_sa u_fd u_td z16 z17 z18 u_fa u_bd (u_nc + 1) u_co u_le u_pd u_od u_la u_bk u_ce u_ho u_wy u_bt u_ps u_tg u_sn u_ic u_wd u_id z19 u_va u_su u_st v_tp h_u_td i_11 i_12 ⟨by omega, by omega⟩ ⟨by omega, by omega⟩ h_u_co h_u_pd h_u_la h_u_bk h_u_ce h_u_ho h_u_wy h_u_bt h_u_ps h_u_ic h_u_id (by omega)) (cwV 0 hts gV_X12_208 rfl rfl rfl hv_X12_next ⟨Nat.le_of_ble_eq_true rfl, Nat.le_of_ble_eq_true rfl⟩) (g5_preV hPc hK hDc hN hT hS hFc (ci := 12) (q0 := 0) rfl rfl) rfl rfl hl.1 rfl (lv_room (Nat.le_of_ble_eq_true rfl)) dX12_readClause_177 ⟨Nat.le_of_ble_eq_true rfl, Nat.le_of_ble_eq_true rfl⟩) hS (fun q _ h => hFc q h) hFc (fun u t H locs ht hvm hw hB hz1 hk1 hS => ?_)
                    obtain ⟨hP1, hD1⟩ := hB
                    have hP1 := g5_ht ht hP1
                    obtain ⟨z42, z43, z44, z45, (i_37 : 0 ≤ z42.toInt ∧ z42.toInt ≤ 400), (i_38 : 0 ≤ z43.toInt ∧ z43.toInt ≤ 400), (i_39 : z17.toInt ≤ z42.toInt ∧ z42.toInt ≤ z43.toInt ∧ z43.toInt ≤ u_td.toInt), (i_40 : TKs z44.toInt z42.toInt z43.toInt), (i_41 : TOKA v_tp u_td.toInt.toNat (skT v_tp u_td.toInt.toNat z17.toInt.toNat) z42 z43 z44 z45), rfl⟩ := hw
                    have hJ9 := va_join (wr := [(b_nl, (arI G 96 (upd (upd (upd (upd k75_nl (8 * u_nc).toNatClampNeg k4_1) ((8 * u_nc) + 3).toNatClampNeg u_co) ((8 * u_nc) + 4).toNatClampNeg u_co) ((8 * u_nc) + 5).toNatClampNeg u_co))), (b_op, (arI G 400 v_op)), (b_ar, (arI G 400 v_ar)), (b_pi, (arI G 400 v_pi)), (b_pa, (arI G 400 v_pa)), (b_ws, (arJ G 8 v_ws)), (b_hw, (arJ G 4 v_hw))]) hP hD [8, 7] [0, 1, 2, 3, 4, 5, 6] rfl rfl (by decide +kernel) (by decide +kernel) hk1 hFc hP1 hD1
                    clear hP hD hPc hDc hFc ht hvm hz1 hk1 hP1 hD1
                    obtain ⟨hP, hD⟩ := hJ9
                    refine g5_rs [(b_nl, (arI G 96 (upd (upd (upd (upd k75_nl (8 * u_nc).toNatClampNeg k4_1) ((8 * u_nc) + 3).toNatClampNeg u_co) ((8 * u_nc) + 4).toNatClampNeg u_co) ((8 * u_nc) + 5).toNatClampNeg u_co))), (b_op, (arI G 400 v_op)), (b_ar, (arI G 400 v_ar)), (b_pi, (arI G 400 v_pi)), (b_pa, (arI G 400 v_pa)), (b_ws, (arJ G 8 v_ws)), (b_hw, (arJ G 4 v_hw)), (b_o, (oc12 u_th u_sa b_rf b_ro b_im b_ke u_fd b_tp u_td z42 z43 z44 z45 u_fa u_bd (u_nc + 1) b_nl u_co b_op b_ar u_le b_pi b_pa u_pd u_od b_ws b_hw u_la b_se b_re u_bk u_va u_su u_ce u_ho u_wy u_bt u_ps b_pt u_tg u_sn b_ip u_ic b_ah b_be b_me u_wd b_tr b_ld u_st b_wn u_id)), (b_tp, (arI G 400 v_tp))] hP hD ?_
                    clear hP hD
                    intro hP hD
                    have hE_46 : TOKA v_tp u_td.toInt.toNat (pT v_tp u_td.toInt.toNat (kk2 + 1)) z42 z43 z44 z45 := toka_nx hT2 i_41
                    refine lv_aload_n hx hb dX12_readClause_180 rfl (lv_at hl 3 rfl) ?_
                    refine lv_iconst (v := 1) hx hb dX12_readClause_181 (by decide +kernel) ?_
                    refine W.eq (g2 := F0 m 182 ls [.int 1, .ref b_o]) rfl ?_
                    obtain ⟨hPc, hDc, hFc⟩ := g5_sub3 (wc := [(b_o, (oc12 u_th u_sa b_rf b_ro b_im b_ke u_fd b_tp u_td z42 z43 z44 z45 u_fa u_bd (u_nc + 1) b_nl u_co b_op b_ar u_le b_pi b_pa u_pd u_od b_ws b_hw u_la b_se b_re u_bk u_va u_su u_ce u_ho u_wy u_bt u_ps b_pt u_tg u_sn b_ip u_ic b_ah b_be b_me u_wd b_tr b_ld u_st b_wn u_id)), (b_tp, (arI G 400 v_tp)), (b_op, (arI G 400 v_op)), (b_ar, (arI G 400 v_ar)), (b_pi, (arI G 400 v_pi)), (b_pa, (arI G 400 v_pa)), (b_ws, (arJ G 8 v_ws)), (b_hw, (arJ G 4 v_hw))]) hP hD hS hA [7, 8, 1, 2, 3, 4, 5, 6] (by decide +kernel) rfl
                    refine va_callv (va_runV (As := [.int 1]) (rest := []) ⟨hx, hb, hml, hown, hts⟩ (n_readExpressionX l G b_o b_tp b_op b_ar b_pi b_pa b_ws b_hw b_rf b_ro b_im b_ke b_nl b_se b_re b_pt b_ip b_ah b_be b_me b_tr b_ld b_wn H.size u_th u_sa u_fd u_td z42 z43 z44 u_fa u_bd (u_nc + 1) u_co u_le u_pd u_od u_la u_bk u_ce u_ho u_wy u_bt u_ps u_tg u_sn u_ic u_wd u_id 1 z45 u_va u_su u_st v_tp v_op v_ar v_pi v_pa v_ws v_hw (kk2 + 1) h_u_td i_37 i_38 h_u_bd ⟨by omega, by omega⟩ h_u_co h_u_pd h_u_la h_u_bk h_u_ce h_u_ho h_u_wy h_u_bt h_u_ps h_u_ic h_u_id ⟨by decide, by decide⟩ (by omega) (i_40) (by omega) (e_tp) (e_ws) (hE_46) (e_le) (by omega) (by omega) (by omega)) (cwV 1 hts gV_X12_315 rfl rfl rfl hv_X12_readExpression ⟨Nat.le_of_ble_eq_true rfl, Nat.le_of_ble_eq_true rfl⟩) (g5_preV hPc hK hDc hN hT hS hFc (ci := 12) (q0 := 0) rfl rfl) rfl rfl hl.1 rfl (lv_room (Nat.le_of_ble_eq_true rfl)) dX12_readClause_182 ⟨Nat.le_of_ble_eq_true rfl, Nat.le_of_ble_eq_true rfl⟩) hS (fun q _ h => hFc q h) hFc (fun u t H locs ht hvm hw hB hz1 hk1 hS => ?_)
                    obtain ⟨hP1, hD1⟩ := hB
                    have hP1 := g5_ht ht hP1
                    obtain ⟨z61, z62, z63, z64, z65, z66, z67, z68, z69, z70, z71, z72, z73, z74, (i_47 : 0 ≤ z61.toInt ∧ z61.toInt ≤ 400), (i_48 : 0 ≤ z62.toInt ∧ z62.toInt ≤ 400), (i_49 : 0 ≤ z66.toInt ∧ z66.toInt ≤ 1), (i_50 : 0 ≤ z67.toInt ∧ z67.toInt ≤ 400), (i_51 : 0 ≤ z69.toInt ∧ z69.toInt ≤ 400), (i_52 : z42.toInt ≤ z61.toInt ∧ z61.toInt ≤ z62.toInt ∧ z62.toInt ≤ u_td.toInt), (i_53 : TKs z63.toInt z61.toInt z62.toInt), (i_54 : KP v_op v_ar z71 z72 u_co.toInt), (i_55 : u_co.toInt ≤ z67.toInt ∧ z67.toInt ≤ z61.toInt), (i_56 : z66.toInt = 0 → cdN z71 z72 u_co.toInt z67.toInt), (i_57 : EXR v_tp u_td (1 : Int32) (kk2 + 1) v_op v_ar u_co u_le z66 z61 z62 z63 z64 z71 z72 z67 z68), (i_58 : z66.toInt = 1 → z65 = z61), (i_59 : z66.toInt = 0 → z65 = u_fa), (i_60 : 0 ≤ z68.toInt ∧ z68.toInt ≤ 50), rfl⟩ := hw
                    have hJ9 := va_join (wr := [(b_nl, (arI G 96 (upd (upd (upd (upd k75_nl (8 * u_nc).toNatClampNeg k4_1) ((8 * u_nc) + 3).toNatClampNeg u_co) ((8 * u_nc) + 4).toNatClampNeg u_co) ((8 * u_nc) + 5).toNatClampNeg u_co)))]) hP hD [7, 8, 1, 2, 3, 4, 5, 6] [0] rfl rfl (by decide +kernel) (by decide +kernel) hk1 hFc hP1 hD1
                    clear hP hD hPc hDc hFc ht hvm hz1 hk1 hP1 hD1
                    obtain ⟨hP, hD⟩ := hJ9
                    refine g5_rs [(b_nl, (arI G 96 (upd (upd (upd (upd k75_nl (8 * u_nc).toNatClampNeg k4_1) ((8 * u_nc) + 3).toNatClampNeg u_co) ((8 * u_nc) + 4).toNatClampNeg u_co) ((8 * u_nc) + 5).toNatClampNeg u_co))), (b_o, (oc12 u_th u_sa b_rf b_ro b_im b_ke u_fd b_tp u_td z61 z62 z63 z64 z65 z66 (u_nc + 1) b_nl z67 b_op b_ar z68 b_pi b_pa z69 z70 b_ws b_hw u_la b_se b_re u_bk u_va u_su u_ce u_ho u_wy u_bt u_ps b_pt u_tg u_sn b_ip u_ic b_ah b_be b_me u_wd b_tr b_ld u_st b_wn u_id)), (b_tp, (arI G 400 v_tp)), (b_op, (arI G 400 z71)), (b_ar, (arI G 400 z72)), (b_pi, (arI G 400 z73)), (b_pa, (arI G 400 z74)), (b_ws, (arJ G 8 v_ws)), (b_hw, (arJ G 4 v_hw))] hP hD ?_
                    clear hP hD
                    intro hP hD
                    refine lv_aload_n hx hb dX12_readClause_185 rfl (lv_at hl 3 rfl) ?_
                    refine va_get (D := G.1) (ci := 12) (v := .ref b_nl) (C := RX12) (T := TX12) (N := 52) hx hb hts inG_X12 hown hK hP 1 rfl rfl 16 (by decide +kernel) (hts _ fl_X12_30) (fun _ h9 => h9) rfl dX12_readClause_186 ?_
                    refine lv_iload_n hx hb dX12_readClause_189 rfl (lv_at hl 1 rfl) ?_
                    refine lv_bipush (v := 6) hx hb dX12_readClause_190 (by decide +kernel) ?_
                    refine W.eq (g2 := F0 m 192 ls [.int 6, .int (8 * u_nc), .ref b_nl]) rfl ?_
                    refine lv_iadd hx hb dX12_readClause_192 ?_
                    have t_75 : ((8 * u_nc) + 6).toInt = (8 * u_nc).toInt + 6 := g5_iadd (a := (8 * u_nc).toInt) (b := 6) (by rfl) (by decide +kernel) (by omega) (by omega)
                    refine lv_aload_n hx hb dX12_readClause_193 rfl (lv_at hl 3 rfl) ?_
                    refine va_get (D := G.1) (ci := 12) (v := .int z67) (C := RX12) (T := TX12) (N := 52) hx hb hts inG_X12 hown hK hP 1 rfl rfl 17 (by decide +kernel) (hts _ fl_X12_237) (fun _ h9 => h9) rfl dX12_readClause_194 ?_
                    refine va_iast hx hb hK hP hD hS 0 0 rfl rfl (i := ((8 * u_nc) + 6)) (x := z67) (vp_in_iff.mpr ⟨by omega, by omega⟩) dX12_readClause_197 ?_
                    clear hP hD hS
                    intro H locs hP hD hS
                    refine g5_rs [(b_nl, (arI G 96 (upd (upd (upd (upd (upd k75_nl (8 * u_nc).toNatClampNeg k4_1) ((8 * u_nc) + 3).toNatClampNeg u_co) ((8 * u_nc) + 4).toNatClampNeg u_co) ((8 * u_nc) + 5).toNatClampNeg u_co) ((8 * u_nc) + 6).toNatClampNeg z67))), (b_o, (oc12 u_th u_sa b_rf b_ro b_im b_ke u_fd b_tp u_td z61 z62 z63 z64 z65 z66 (u_nc + 1) b_nl z67 b_op b_ar z68 b_pi b_pa z69 z70 b_ws b_hw u_la b_se b_re u_bk u_va u_su u_ce u_ho u_wy u_bt u_ps b_pt u_tg u_sn b_ip u_ic b_ah b_be b_me u_wd b_tr b_ld u_st b_wn u_id)), (b_tp, (arI G 400 v_tp)), (b_op, (arI G 400 z71)), (b_ar, (arI G 400 z72)), (b_pi, (arI G 400 z73)), (b_pa, (arI G 400 z74)), (b_ws, (arJ G 8 v_ws)), (b_hw, (arJ G 4 v_hw))] hP hD ?_
                    clear hP hD
                    intro hP hD
                    exact W.vret hx hb hr (fun t ht hW => ⟨⟨[(b_o, (oc12 u_th u_sa b_rf b_ro b_im b_ke u_fd b_tp u_td z61 z62 z63 z64 z65 z66 (u_nc + 1) b_nl z67 b_op b_ar z68 b_pi b_pa z69 z70 b_ws b_hw u_la b_se b_re u_bk u_va u_su u_ce u_ho u_wy u_bt u_ps b_pt u_tg u_sn b_ip u_ic b_ah b_be b_me u_wd b_tr b_ld u_st b_wn u_id)), (b_tp, (arI G 400 v_tp)), (b_nl, (arI G 96 (upd (upd (upd (upd (upd k75_nl (8 * u_nc).toNatClampNeg k4_1) ((8 * u_nc) + 3).toNatClampNeg u_co) ((8 * u_nc) + 4).toNatClampNeg u_co) ((8 * u_nc) + 5).toNatClampNeg u_co) ((8 * u_nc) + 6).toNatClampNeg z67))), (b_op, (arI G 400 z71)), (b_ar, (arI G 400 z72)), (b_pi, (arI G 400 z73)), (b_pa, (arI G 400 z74)), (b_ws, (arJ G 8 v_ws)), (b_hw, (arJ G 4 v_hw))], rfl, Or.inr (⟨z61, z62, z63, z64, z65, z66, (u_nc + 1), z67, z68, z69, z70, (upd (upd (upd (upd (upd k75_nl (8 * u_nc).toNatClampNeg k4_1) ((8 * u_nc) + 3).toNatClampNeg u_co) ((8 * u_nc) + 4).toNatClampNeg u_co) ((8 * u_nc) + 5).toNatClampNeg u_co) ((8 * u_nc) + 6).toNatClampNeg z67), z71, z72, z73, z74, i_47, i_48, i_49, ⟨by omega, by omega⟩, i_50, i_51, by omega, i_53, by omega, fun q9 => lwj_new e_l i_24 i_54 (by omega) (by omega) (by omega) (by omega) (by omega) (by omega) (by omega) (by omega) (by omega) (by omega) ⟨by omega, by omega⟩ (fun q8 => absurd q8 (by omega)) (i_56 q9), clx_1t (by omega) hE_30 hHB (by decide +kernel) (by omega) hK26 i_57 (nl_at (by omega) (by omega) (by omega) (by omega) (by omega) (by omega) rfl) rfl, i_58, i_59, i_60, by omega, i_54, cl_keep (cl_keep (cl_keep (cl_keep (cl_keep i_24 (by omega)) (by omega)) (by omega)) (by omega)) (by omega), rfl⟩), by rw [ht]; exact hP.sub [1, 2, 0, 3, 4, 5, 6, 7, 8] rfl, hD.sub [1, 2, 0, 3, 4, 5, 6, 7, 8] (by decide +kernel) rfl⟩, hS.F ht⟩) hS.2.2 dX12_readClause_198
                ·
                  have hJ9 := va_join (wr := [(b_nl, (arI G 96 (upd (upd (upd (upd k75_nl (8 * u_nc).toNatClampNeg k4_1) ((8 * u_nc) + 3).toNatClampNeg u_co) ((8 * u_nc) + 4).toNatClampNeg u_co) ((8 * u_nc) + 5).toNatClampNeg u_co))), (b_op, (arI G 400 v_op)), (b_ar, (arI G 400 v_ar)), (b_pi, (arI G 400 v_pi)), (b_pa, (arI G 400 v_pa)), (b_ws, (arJ G 8 v_ws)), (b_hw, (arJ G 4 v_hw)), (b_tp, (arI G 400 v_tp))]) hP hD [7] [0, 1, 2, 3, 4, 5, 6, 8] rfl rfl (by decide +kernel) (by decide +kernel) hk1 hFc hP1 hD1
                  clear hP hD hPc hDc hFc ht hvm hz1 hk1 hP1 hD1
                  obtain ⟨hP, hD⟩ := hJ9
                  refine g5_rs [(b_nl, (arI G 96 (upd (upd (upd (upd k75_nl (8 * u_nc).toNatClampNeg k4_1) ((8 * u_nc) + 3).toNatClampNeg u_co) ((8 * u_nc) + 4).toNatClampNeg u_co) ((8 * u_nc) + 5).toNatClampNeg u_co))), (b_op, (arI G 400 v_op)), (b_ar, (arI G 400 v_ar)), (b_pi, (arI G 400 v_pi)), (b_pa, (arI G 400 v_pa)), (b_ws, (arJ G 8 v_ws)), (b_hw, (arJ G 4 v_hw)), (b_tp, (arI G 400 v_tp)), (b_o, (oc12 u_th u_sa b_rf b_ro b_im b_ke u_fd b_tp u_td z16 z17 z18 z19 u_fa u_bd (u_nc + 1) b_nl u_co b_op b_ar u_le b_pi b_pa u_pd u_od b_ws b_hw u_la b_se b_re u_bk u_va u_su u_ce u_ho u_wy u_bt u_ps b_pt u_tg u_sn b_ip u_ic b_ah b_be b_me u_wd b_tr b_ld u_st b_wn u_id))] hP hD ?_
                  clear hP hD
                  intro hP hD
                  refine lv_if_eq (tgt := 185) hx hb dX12_readClause_173 (by decide +kernel) (fun c_76 => ?_) (fun c_76 => ?_)
                  ·
                    refine lv_aload_n hx hb dX12_readClause_185 rfl (lv_at hl 3 rfl) ?_
                    refine va_get (D := G.1) (ci := 12) (v := .ref b_nl) (C := RX12) (T := TX12) (N := 52) hx hb hts inG_X12 hown hK hP 8 rfl rfl 16 (by decide +kernel) (hts _ fl_X12_30) (fun _ h9 => h9) rfl dX12_readClause_186 ?_
                    refine lv_iload_n hx hb dX12_readClause_189 rfl (lv_at hl 1 rfl) ?_
                    refine lv_bipush (v := 6) hx hb dX12_readClause_190 (by decide +kernel) ?_
                    refine W.eq (g2 := F0 m 192 ls [.int 6, .int (8 * u_nc), .ref b_nl]) rfl ?_
                    refine lv_iadd hx hb dX12_readClause_192 ?_
                    have t_77 : ((8 * u_nc) + 6).toInt = (8 * u_nc).toInt + 6 := g5_iadd (a := (8 * u_nc).toInt) (b := 6) (by rfl) (by decide +kernel) (by omega) (by omega)
                    refine lv_aload_n hx hb dX12_readClause_193 rfl (lv_at hl 3 rfl) ?_
                    refine va_get (D := G.1) (ci := 12) (v := .int u_co) (C := RX12) (T := TX12) (N := 52) hx hb hts inG_X12 hown hK hP 8 rfl rfl 17 (by decide +kernel) (hts _ fl_X12_237) (fun _ h9 => h9) rfl dX12_readClause_194 ?_
                    refine va_iast hx hb hK hP hD hS 0 0 rfl rfl (i := ((8 * u_nc) + 6)) (x := u_co) (vp_in_iff.mpr ⟨by omega, by omega⟩) dX12_readClause_197 ?_
                    clear hP hD hS
                    intro H locs hP hD hS
                    refine g5_rs [(b_nl, (arI G 96 (upd (upd (upd (upd (upd k75_nl (8 * u_nc).toNatClampNeg k4_1) ((8 * u_nc) + 3).toNatClampNeg u_co) ((8 * u_nc) + 4).toNatClampNeg u_co) ((8 * u_nc) + 5).toNatClampNeg u_co) ((8 * u_nc) + 6).toNatClampNeg u_co))), (b_op, (arI G 400 v_op)), (b_ar, (arI G 400 v_ar)), (b_pi, (arI G 400 v_pi)), (b_pa, (arI G 400 v_pa)), (b_ws, (arJ G 8 v_ws)), (b_hw, (arJ G 4 v_hw)), (b_tp, (arI G 400 v_tp)), (b_o, (oc12 u_th u_sa b_rf b_ro b_im b_ke u_fd b_tp u_td z16 z17 z18 z19 u_fa u_bd (u_nc + 1) b_nl u_co b_op b_ar u_le b_pi b_pa u_pd u_od b_ws b_hw u_la b_se b_re u_bk u_va u_su u_ce u_ho u_wy u_bt u_ps b_pt u_tg u_sn b_ip u_ic b_ah b_be b_me u_wd b_tr b_ld u_st b_wn u_id))] hP hD ?_
                    clear hP hD
                    intro hP hD
                    exact W.vret hx hb hr (fun t ht hW => ⟨⟨[(b_o, (oc12 u_th u_sa b_rf b_ro b_im b_ke u_fd b_tp u_td z16 z17 z18 z19 u_fa u_bd (u_nc + 1) b_nl u_co b_op b_ar u_le b_pi b_pa u_pd u_od b_ws b_hw u_la b_se b_re u_bk u_va u_su u_ce u_ho u_wy u_bt u_ps b_pt u_tg u_sn b_ip u_ic b_ah b_be b_me u_wd b_tr b_ld u_st b_wn u_id)), (b_tp, (arI G 400 v_tp)), (b_nl, (arI G 96 (upd (upd (upd (upd (upd k75_nl (8 * u_nc).toNatClampNeg k4_1) ((8 * u_nc) + 3).toNatClampNeg u_co) ((8 * u_nc) + 4).toNatClampNeg u_co) ((8 * u_nc) + 5).toNatClampNeg u_co) ((8 * u_nc) + 6).toNatClampNeg u_co))), (b_op, (arI G 400 v_op)), (b_ar, (arI G 400 v_ar)), (b_pi, (arI G 400 v_pi)), (b_pa, (arI G 400 v_pa)), (b_ws, (arJ G 8 v_ws)), (b_hw, (arJ G 4 v_hw))], rfl, Or.inr (⟨z16, z17, z18, z19, u_fa, u_bd, (u_nc + 1), u_co, u_le, u_pd, u_od, (upd (upd (upd (upd (upd k75_nl (8 * u_nc).toNatClampNeg k4_1) ((8 * u_nc) + 3).toNatClampNeg u_co) ((8 * u_nc) + 4).toNatClampNeg u_co) ((8 * u_nc) + 5).toNatClampNeg u_co) ((8 * u_nc) + 6).toNatClampNeg u_co), v_op, v_ar, v_pi, v_pa, i_11, i_12, ⟨by omega, by omega⟩, ⟨by omega, by omega⟩, h_u_co, h_u_pd, by omega, i_14, by omega, fun q9 => lwj_new e_l i_24 kp_rf (by omega) (by omega) (by omega) (by omega) (by omega) (by omega) (by omega) (by omega) (by omega) (by omega) ⟨by omega, by omega⟩ (fun q8 => absurd q8 (by omega)) cdN_empty, clx_1n (by omega) hE_30 (by first | decide | omega) (fun b9 T9 q9 => i_35 ((tw_if e_tp T9).mp q9)) (nl_at (by omega) (by omega) (by omega) (by omega) (by omega) (by omega) rfl) rfl, fun q9 => absurd q9 (by omega), fun _ => rfl, e_le, by omega, kp_rf, cl_keep (cl_keep (cl_keep (cl_keep (cl_keep i_24 (by omega)) (by omega)) (by omega)) (by omega)) (by omega), rfl⟩), by rw [ht]; exact hP.sub [8, 7, 0, 1, 2, 3, 4, 5, 6] rfl, hD.sub [8, 7, 0, 1, 2, 3, 4, 5, 6] (by decide +kernel) rfl⟩, hS.F ht⟩) hS.2.2 dX12_readClause_198
                  ·
                    exact absurd c_76 (by decide +kernel)
            ·
              have i_29 : k4_1.toInt < 2 := g5_geN (a := k4_1.toInt) (b := 2) rfl (by decide +kernel) c_29
              refine lv_aload_n hx hb dX12_readClause_130 rfl (lv_at hl 3 rfl) ?_
              refine lv_iconst (v := 0) hx hb dX12_readClause_131 (by decide +kernel) ?_
              obtain ⟨hPc, hDc, hFc⟩ := g5_sub3 (wc := [(b_o, (oc12 u_th u_sa b_rf b_ro b_im b_ke u_fd b_tp u_td z16 z17 z18 z19 u_fa u_bd (u_nc + 1) b_nl u_co b_op b_ar u_le b_pi b_pa u_pd u_od b_ws b_hw u_la b_se b_re u_bk u_va u_su u_ce u_ho u_wy u_bt u_ps b_pt u_tg u_sn b_ip u_ic b_ah b_be b_me u_wd b_tr b_ld u_st b_wn u_id)), (b_tp, (arI G 400 v_tp)), (b_op, (arI G 400 v_op)), (b_ar, (arI G 400 v_ar)), (b_pi, (arI G 400 v_pi)), (b_pa, (arI G 400 v_pa)), (b_ws, (arJ G 8 v_ws)), (b_hw, (arJ G 4 v_hw))]) hP hD hS hA [7, 8, 1, 2, 3, 4, 5, 6] (by decide +kernel) rfl
              refine va_callv (va_runV (As := [.int 0]) (rest := []) ⟨hx, hb, hml, hown, hts⟩ (n_readExpressionX l G b_o b_tp b_op b_ar b_pi b_pa b_ws b_hw b_rf b_ro b_im b_ke b_nl b_se b_re b_pt b_ip b_ah b_be b_me b_tr b_ld b_wn H.size u_th u_sa u_fd u_td z16 z17 z18 u_fa u_bd (u_nc + 1) u_co u_le u_pd u_od u_la u_bk u_ce u_ho u_wy u_bt u_ps u_tg u_sn u_ic u_wd u_id 0 z19 u_va u_su u_st v_tp v_op v_ar v_pi v_pa v_ws v_hw (g_i + 1) h_u_td i_11 i_12 h_u_bd ⟨by omega, by omega⟩ h_u_co h_u_pd h_u_la h_u_bk h_u_ce h_u_ho h_u_wy h_u_bt h_u_ps h_u_ic h_u_id ⟨by decide, by decide⟩ (by omega) (i_14) (by omega) (e_tp) (e_ws) (hE_21) (e_le) (by omega) (by omega) (by omega)) (cwV 1 hts gV_X12_315 rfl rfl rfl hv_X12_readExpression ⟨Nat.le_of_ble_eq_true rfl, Nat.le_of_ble_eq_true rfl⟩) (g5_preV hPc hK hDc hN hT hS hFc (ci := 12) (q0 := 0) rfl rfl) rfl rfl hl.1 rfl (lv_room (Nat.le_of_ble_eq_true rfl)) dX12_readClause_132 ⟨Nat.le_of_ble_eq_true rfl, Nat.le_of_ble_eq_true rfl⟩) hS (fun q _ h => hFc q h) hFc (fun u t H locs ht hvm hw hB hz1 hk1 hS => ?_)
              obtain ⟨hP1, hD1⟩ := hB
              have hP1 := g5_ht ht hP1
              obtain ⟨z92, z93, z94, z95, z96, z97, z98, z99, z100, z101, z102, z103, z104, z105, (i_78 : 0 ≤ z92.toInt ∧ z92.toInt ≤ 400), (i_79 : 0 ≤ z93.toInt ∧ z93.toInt ≤ 400), (i_80 : 0 ≤ z97.toInt ∧ z97.toInt ≤ 1), (i_81 : 0 ≤ z98.toInt ∧ z98.toInt ≤ 400), (i_82 : 0 ≤ z100.toInt ∧ z100.toInt ≤ 400), (i_83 : z16.toInt ≤ z92.toInt ∧ z92.toInt ≤ z93.toInt ∧ z93.toInt ≤ u_td.toInt), (i_84 : TKs z94.toInt z92.toInt z93.toInt), (i_85 : KP v_op v_ar z102 z103 u_co.toInt), (i_86 : u_co.toInt ≤ z98.toInt ∧ z98.toInt ≤ z92.toInt), (i_87 : z97.toInt = 0 → cdN z102 z103 u_co.toInt z98.toInt), (i_88 : EXR v_tp u_td (0 : Int32) (g_i + 1) v_op v_ar u_co u_le z97 z92 z93 z94 z95 z102 z103 z98 z99), (i_89 : z97.toInt = 1 → z96 = z92), (i_90 : z97.toInt = 0 → z96 = u_fa), (i_91 : 0 ≤ z99.toInt ∧ z99.toInt ≤ 50), rfl⟩ := hw
              have hJ9 := va_join (wr := [(b_nl, (arI G 96 (upd (upd k75_nl (8 * u_nc).toNatClampNeg k4_1) ((8 * u_nc) + 3).toNatClampNeg u_co)))]) hP hD [7, 8, 1, 2, 3, 4, 5, 6] [0] rfl rfl (by decide +kernel) (by decide +kernel) hk1 hFc hP1 hD1
              clear hP hD hPc hDc hFc ht hvm hz1 hk1 hP1 hD1
              obtain ⟨hP, hD⟩ := hJ9
              refine g5_rs [(b_nl, (arI G 96 (upd (upd k75_nl (8 * u_nc).toNatClampNeg k4_1) ((8 * u_nc) + 3).toNatClampNeg u_co))), (b_o, (oc12 u_th u_sa b_rf b_ro b_im b_ke u_fd b_tp u_td z92 z93 z94 z95 z96 z97 (u_nc + 1) b_nl z98 b_op b_ar z99 b_pi b_pa z100 z101 b_ws b_hw u_la b_se b_re u_bk u_va u_su u_ce u_ho u_wy u_bt u_ps b_pt u_tg u_sn b_ip u_ic b_ah b_be b_me u_wd b_tr b_ld u_st b_wn u_id)), (b_tp, (arI G 400 v_tp)), (b_op, (arI G 400 z102)), (b_ar, (arI G 400 z103)), (b_pi, (arI G 400 z104)), (b_pa, (arI G 400 z105)), (b_ws, (arJ G 8 v_ws)), (b_hw, (arJ G 4 v_hw))] hP hD ?_
              clear hP hD
              intro hP hD
              have hE_106 : HDX v_tp u_td u_co u_le g_i k4_1.toInt z97 z92 z93 z94 z95 z102 z103 z98 z99 := hdx_s hH4 (by omega) (by decide +kernel) i_88
              refine lv_aload_n hx hb dX12_readClause_135 rfl (lv_at hl 3 rfl) ?_
              refine W.eq (g2 := F0 m 136 ls [.ref b_o]) rfl ?_
              refine va_get (D := G.1) (ci := 12) (v := .ref b_nl) (C := RX12) (T := TX12) (N := 52) hx hb hts inG_X12 hown hK hP 1 rfl rfl 16 (by decide +kernel) (hts _ fl_X12_30) (fun _ h9 => h9) rfl dX12_readClause_136 ?_
              refine lv_iload_n hx hb dX12_readClause_139 rfl (lv_at hl 1 rfl) ?_
              refine lv_iconst (v := 4) hx hb dX12_readClause_140 (by decide +kernel) ?_
              refine lv_iadd hx hb dX12_readClause_141 ?_
              have t_107 : ((8 * u_nc) + 4).toInt = (8 * u_nc).toInt + 4 := g5_iadd (a := (8 * u_nc).toInt) (b := 4) (by rfl) (by decide +kernel) (by omega) (by omega)
              refine lv_aload_n hx hb dX12_readClause_142 rfl (lv_at hl 3 rfl) ?_
              refine W.eq (g2 := F0 m 143 ls [.ref b_o, .int ((8 * u_nc) + 4), .ref b_nl]) rfl ?_
              refine va_get (D := G.1) (ci := 12) (v := .int z98) (C := RX12) (T := TX12) (N := 52) hx hb hts inG_X12 hown hK hP 1 rfl rfl 17 (by decide +kernel) (hts _ fl_X12_237) (fun _ h9 => h9) rfl dX12_readClause_143 ?_
              refine va_iast hx hb hK hP hD hS 0 0 rfl rfl (i := ((8 * u_nc) + 4)) (x := z98) (vp_in_iff.mpr ⟨by omega, by omega⟩) dX12_readClause_146 ?_
              clear hP hD hS
              intro H locs hP hD hS
              refine g5_rs [(b_nl, (arI G 96 (upd (upd (upd k75_nl (8 * u_nc).toNatClampNeg k4_1) ((8 * u_nc) + 3).toNatClampNeg u_co) ((8 * u_nc) + 4).toNatClampNeg z98))), (b_o, (oc12 u_th u_sa b_rf b_ro b_im b_ke u_fd b_tp u_td z92 z93 z94 z95 z96 z97 (u_nc + 1) b_nl z98 b_op b_ar z99 b_pi b_pa z100 z101 b_ws b_hw u_la b_se b_re u_bk u_va u_su u_ce u_ho u_wy u_bt u_ps b_pt u_tg u_sn b_ip u_ic b_ah b_be b_me u_wd b_tr b_ld u_st b_wn u_id)), (b_tp, (arI G 400 v_tp)), (b_op, (arI G 400 z102)), (b_ar, (arI G 400 z103)), (b_pi, (arI G 400 z104)), (b_pa, (arI G 400 z105)), (b_ws, (arJ G 8 v_ws)), (b_hw, (arJ G 4 v_hw))] hP hD ?_
              clear hP hD
              intro hP hD
              refine lv_aload_n hx hb dX12_readClause_147 rfl (lv_at hl 3 rfl) ?_
              refine va_get (D := G.1) (ci := 12) (v := .ref b_nl) (C := RX12) (T := TX12) (N := 52) hx hb hts inG_X12 hown hK hP 1 rfl rfl 16 (by decide +kernel) (hts _ fl_X12_30) (fun _ h9 => h9) rfl dX12_readClause_148 ?_
              refine lv_iload_n hx hb dX12_readClause_151 rfl (lv_at hl 1 rfl) ?_
              refine W.eq (g2 := F0 m 152 ls [.int (8 * u_nc), .ref b_nl]) rfl ?_
              refine lv_iconst (v := 5) hx hb dX12_readClause_152 (by decide +kernel) ?_
              refine lv_iadd hx hb dX12_readClause_153 ?_
              have t_108 : ((8 * u_nc) + 5).toInt = (8 * u_nc).toInt + 5 := g5_iadd (a := (8 * u_nc).toInt) (b := 5) (by rfl) (by decide +kernel) (by omega) (by omega)
              refine lv_aload_n hx hb dX12_readClause_154 rfl (lv_at hl 3 rfl) ?_
              refine va_get (D := G.1) (ci := 12) (v := .int z98) (C := RX12) (T := TX12) (N := 52) hx hb hts inG_X12 hown hK hP 1 rfl rfl 17 (by decide +kernel) (hts _ fl_X12_237) (fun _ h9 => h9) rfl dX12_readClause_155 ?_
              refine va_iast hx hb hK hP hD hS 0 0 rfl rfl (i := ((8 * u_nc) + 5)) (x := z98) (vp_in_iff.mpr ⟨by omega, by omega⟩) dX12_readClause_158 ?_
              clear hP hD hS
              intro H locs hP hD hS
              refine g5_rs [(b_nl, (arI G 96 (upd (upd (upd (upd k75_nl (8 * u_nc).toNatClampNeg k4_1) ((8 * u_nc) + 3).toNatClampNeg u_co) ((8 * u_nc) + 4).toNatClampNeg z98) ((8 * u_nc) + 5).toNatClampNeg z98))), (b_o, (oc12 u_th u_sa b_rf b_ro b_im b_ke u_fd b_tp u_td z92 z93 z94 z95 z96 z97 (u_nc + 1) b_nl z98 b_op b_ar z99 b_pi b_pa z100 z101 b_ws b_hw u_la b_se b_re u_bk u_va u_su u_ce u_ho u_wy u_bt u_ps b_pt u_tg u_sn b_ip u_ic b_ah b_be b_me u_wd b_tr b_ld u_st b_wn u_id)), (b_tp, (arI G 400 v_tp)), (b_op, (arI G 400 z102)), (b_ar, (arI G 400 z103)), (b_pi, (arI G 400 z104)), (b_pa, (arI G 400 z105)), (b_ws, (arJ G 8 v_ws)), (b_hw, (arJ G 4 v_hw))] hP hD ?_
              clear hP hD
              intro hP hD
              refine W.eq (g2 := F0 m 159 ls []) rfl ?_
              refine lv_aload_n hx hb dX12_readClause_159 rfl (lv_at hl 3 rfl) ?_
              refine va_get (D := G.1) (ci := 12) (v := .int z97) (C := RX12) (T := TX12) (N := 52) hx hb hts inG_X12 hown hK hP 1 rfl rfl 14 (by decide +kernel) (hts _ fl_X12_205) (fun _ h9 => h9) rfl dX12_readClause_160 ?_
              refine lv_if_ne (tgt := 185) hx hb dX12_readClause_163 (by decide +kernel) (fun c_109 => ?_) (fun c_109 => ?_)
              ·
                have n_109 : gNe (z97.toInt) (0) := g5_ne (a := z97.toInt) (b := 0) rfl (by decide +kernel) c_109
                have i_109 : z97.toInt ≥ 1 := by have z := g5_ne (a := z97.toInt) (b := 0) (by rfl) (by decide +kernel) c_109; omega
                refine lv_aload_n hx hb dX12_readClause_185 rfl (lv_at hl 3 rfl) ?_
                refine va_get (D := G.1) (ci := 12) (v := .ref b_nl) (C := RX12) (T := TX12) (N := 52) hx hb hts inG_X12 hown hK hP 1 rfl rfl 16 (by decide +kernel) (hts _ fl_X12_30) (fun _ h9 => h9) rfl dX12_readClause_186 ?_
                refine lv_iload_n hx hb dX12_readClause_189 rfl (lv_at hl 1 rfl) ?_
                refine lv_bipush (v := 6) hx hb dX12_readClause_190 (by decide +kernel) ?_
                refine W.eq (g2 := F0 m 192 ls [.int 6, .int (8 * u_nc), .ref b_nl]) rfl ?_
                refine lv_iadd hx hb dX12_readClause_192 ?_
                have t_110 : ((8 * u_nc) + 6).toInt = (8 * u_nc).toInt + 6 := g5_iadd (a := (8 * u_nc).toInt) (b := 6) (by rfl) (by decide +kernel) (by omega) (by omega)
                refine lv_aload_n hx hb dX12_readClause_193 rfl (lv_at hl 3 rfl) ?_
                refine va_get (D := G.1) (ci := 12) (v := .int z98) (C := RX12) (T := TX12) (N := 52) hx hb hts inG_X12 hown hK hP 1 rfl rfl 17 (by decide +kernel) (hts _ fl_X12_237) (fun _ h9 => h9) rfl dX12_readClause_194 ?_
                refine va_iast hx hb hK hP hD hS 0 0 rfl rfl (i := ((8 * u_nc) + 6)) (x := z98) (vp_in_iff.mpr ⟨by omega, by omega⟩) dX12_readClause_197 ?_
                clear hP hD hS
                intro H locs hP hD hS
                refine g5_rs [(b_nl, (arI G 96 (upd (upd (upd (upd (upd k75_nl (8 * u_nc).toNatClampNeg k4_1) ((8 * u_nc) + 3).toNatClampNeg u_co) ((8 * u_nc) + 4).toNatClampNeg z98) ((8 * u_nc) + 5).toNatClampNeg z98) ((8 * u_nc) + 6).toNatClampNeg z98))), (b_o, (oc12 u_th u_sa b_rf b_ro b_im b_ke u_fd b_tp u_td z92 z93 z94 z95 z96 z97 (u_nc + 1) b_nl z98 b_op b_ar z99 b_pi b_pa z100 z101 b_ws b_hw u_la b_se b_re u_bk u_va u_su u_ce u_ho u_wy u_bt u_ps b_pt u_tg u_sn b_ip u_ic b_ah b_be b_me u_wd b_tr b_ld u_st b_wn u_id)), (b_tp, (arI G 400 v_tp)), (b_op, (arI G 400 z102)), (b_ar, (arI G 400 z103)), (b_pi, (arI G 400 z104)), (b_pa, (arI G 400 z105)), (b_ws, (arJ G 8 v_ws)), (b_hw, (arJ G 4 v_hw))] hP hD ?_
                clear hP hD
                intro hP hD
                exact W.vret hx hb hr (fun t ht hW => ⟨⟨[(b_o, (oc12 u_th u_sa b_rf b_ro b_im b_ke u_fd b_tp u_td z92 z93 z94 z95 z96 z97 (u_nc + 1) b_nl z98 b_op b_ar z99 b_pi b_pa z100 z101 b_ws b_hw u_la b_se b_re u_bk u_va u_su u_ce u_ho u_wy u_bt u_ps b_pt u_tg u_sn b_ip u_ic b_ah b_be b_me u_wd b_tr b_ld u_st b_wn u_id)), (b_tp, (arI G 400 v_tp)), (b_nl, (arI G 96 (upd (upd (upd (upd (upd k75_nl (8 * u_nc).toNatClampNeg k4_1) ((8 * u_nc) + 3).toNatClampNeg u_co) ((8 * u_nc) + 4).toNatClampNeg z98) ((8 * u_nc) + 5).toNatClampNeg z98) ((8 * u_nc) + 6).toNatClampNeg z98))), (b_op, (arI G 400 z102)), (b_ar, (arI G 400 z103)), (b_pi, (arI G 400 z104)), (b_pa, (arI G 400 z105)), (b_ws, (arJ G 8 v_ws)), (b_hw, (arJ G 4 v_hw))], rfl, Or.inr (⟨z92, z93, z94, z95, z96, z97, (u_nc + 1), z98, z99, z100, z101, (upd (upd (upd (upd (upd k75_nl (8 * u_nc).toNatClampNeg k4_1) ((8 * u_nc) + 3).toNatClampNeg u_co) ((8 * u_nc) + 4).toNatClampNeg z98) ((8 * u_nc) + 5).toNatClampNeg z98) ((8 * u_nc) + 6).toNatClampNeg z98), z102, z103, z104, z105, i_78, i_79, i_80, ⟨by omega, by omega⟩, i_81, i_82, by omega, i_84, by omega, fun q9 => absurd q9 (by omega), clx_sB (by omega) hE_106 (by omega), i_89, i_90, i_91, by omega, i_85, cl_keep (cl_keep (cl_keep (cl_keep (cl_keep i_24 (by omega)) (by omega)) (by omega)) (by omega)) (by omega), rfl⟩), by rw [ht]; exact hP.sub [1, 2, 0, 3, 4, 5, 6, 7, 8] rfl, hD.sub [1, 2, 0, 3, 4, 5, 6, 7, 8] (by decide +kernel) rfl⟩, hS.F ht⟩) hS.2.2 dX12_readClause_198
              ·
                have i_109 : z97.toInt = 0 := g5_neN (a := z97.toInt) (b := 0) rfl (by decide +kernel) c_109
                obtain ⟨kk2, hHB, hT2, hk21, hk22, hk23⟩ := hdx_k hE_106 (by first | decide | omega)
                refine lv_aload_n hx hb dX12_readClause_166 rfl (lv_at hl 3 rfl) ?_
                refine lv_ldc2 (v := 294) hx hb hown (hts _ kl_X12_318) dX12_readClause_167 ?_
                obtain ⟨hPc, hDc, hFc⟩ := g5_sub3 (wc := [(b_o, (oc12 u_th u_sa b_rf b_ro b_im b_ke u_fd b_tp u_td z92 z93 z94 z95 z96 z97 (u_nc + 1) b_nl z98 b_op b_ar z99 b_pi b_pa z100 z101 b_ws b_hw u_la b_se b_re u_bk u_va u_su u_ce u_ho u_wy u_bt u_ps b_pt u_tg u_sn b_ip u_ic b_ah b_be b_me u_wd b_tr b_ld u_st b_wn u_id))]) hP hD hS hA [1] (by decide +kernel) rfl
                refine va_calli (va_runV (As := [.long 294]) (rest := []) ⟨hx, hb, hml, hown, hts⟩ (n_isWordX294 l G b_o b_rf b_ro b_im b_ke b_tp b_nl b_op b_ar b_pi b_pa b_ws b_hw b_se b_re b_pt b_ip b_ah b_be b_me b_tr b_ld b_wn H.size u_th u_sa u_fd u_td z92 z93 z94 z96 z97 (u_nc + 1) z98 z99 z100 z101 u_la u_bk u_ce u_ho u_wy u_bt u_ps u_tg u_sn u_ic u_wd u_id z95 u_va u_su u_st h_u_td i_78 i_79 i_80 ⟨by omega, by omega⟩ i_81 i_82 h_u_la h_u_bk h_u_ce h_u_ho h_u_wy h_u_bt h_u_ps h_u_ic h_u_id) (cwV 1 hts gV_X12_254 rfl rfl rfl hv_X12_isWord ⟨Nat.le_of_ble_eq_true rfl, Nat.le_of_ble_eq_true rfl⟩) (g5_preV hPc hK hDc hN hT hS hFc (ci := 12) (q0 := 0) rfl rfl) rfl rfl hl.1 rfl (lv_room (Nat.le_of_ble_eq_true rfl)) dX12_readClause_170 ⟨Nat.le_of_ble_eq_true rfl, Nat.le_of_ble_eq_true rfl⟩) hS (fun q _ h => hFc q h) hFc (fun r u t H locs ht hvm hw hB hz1 hk1 hS => ?_)
                obtain ⟨hP1, hD1⟩ := hB
                have hP1 := g5_ht ht hP1
                rcases hw with ⟨(i_111 : z94.toInt = 1 ∧ z95.toInt = 294), rfl, rfl⟩ | ⟨(i_112 : ¬ (z94.toInt = 1 ∧ z95.toInt = 294)), rfl, rfl⟩
                ·
                  have hJ9 := va_join (wr := [(b_nl, (arI G 96 (upd (upd (upd (upd k75_nl (8 * u_nc).toNatClampNeg k4_1) ((8 * u_nc) + 3).toNatClampNeg u_co) ((8 * u_nc) + 4).toNatClampNeg z98) ((8 * u_nc) + 5).toNatClampNeg z98))), (b_tp, (arI G 400 v_tp)), (b_op, (arI G 400 z102)), (b_ar, (arI G 400 z103)), (b_pi, (arI G 400 z104)), (b_pa, (arI G 400 z105)), (b_ws, (arJ G 8 v_ws)), (b_hw, (arJ G 4 v_hw))]) hP hD [1] [0, 2, 3, 4, 5, 6, 7, 8] rfl rfl (by decide +kernel) (by decide +kernel) hk1 hFc hP1 hD1
                  clear hP hD hPc hDc hFc ht hvm hz1 hk1 hP1 hD1
                  obtain ⟨hP, hD⟩ := hJ9
                  refine g5_rs [(b_nl, (arI G 96 (upd (upd (upd (upd k75_nl (8 * u_nc).toNatClampNeg k4_1) ((8 * u_nc) + 3).toNatClampNeg u_co) ((8 * u_nc) + 4).toNatClampNeg z98) ((8 * u_nc) + 5).toNatClampNeg z98))), (b_tp, (arI G 400 v_tp)), (b_op, (arI G 400 z102)), (b_ar, (arI G 400 z103)), (b_pi, (arI G 400 z104)), (b_pa, (arI G 400 z105)), (b_ws, (arJ G 8 v_ws)), (b_hw, (arJ G 4 v_hw)), (b_o, (oc12 u_th u_sa b_rf b_ro b_im b_ke u_fd b_tp u_td z92 z93 z94 z95 z96 z97 (u_nc + 1) b_nl z98 b_op b_ar z99 b_pi b_pa z100 z101 b_ws b_hw u_la b_se b_re u_bk u_va u_su u_ce u_ho u_wy u_bt u_ps b_pt u_tg u_sn b_ip u_ic b_ah b_be b_me u_wd b_tr b_ld u_st b_wn u_id))] hP hD ?_
                  clear hP hD
                  intro hP hD
                  refine lv_if_eq (tgt := 185) hx hb dX12_readClause_173 (by decide +kernel) (fun c_113 => ?_) (fun c_113 => ?_)
                  ·
                    exact absurd c_113 (by decide +kernel)
                  ·
                    have hlt8 : z92.toInt < z93.toInt := tks_lt i_84 (by omega)
                    have hK26 := (tw_if e_tp hT2).mpr i_111
                    have hkn2 : kk2 < u_td.toInt.toNat := k_lt (by omega) (by rw [hK26]; decide)
                    refine lv_aload_n hx hb dX12_readClause_176 rfl (lv_at hl 3 rfl) ?_
                    obtain ⟨hPc, hDc, hFc⟩ := g5_sub3 (wc := [(b_o, (oc12 u_th u_sa b_rf b_ro b_im b_ke u_fd b_tp u_td z92 z93 z94 z95 z96 z97 (u_nc + 1) b_nl z98 b_op b_ar z99 b_pi b_pa z100 z101 b_ws b_hw u_la b_se b_re u_bk u_va u_su u_ce u_ho u_wy u_bt u_ps b_pt u_tg u_sn b_ip u_ic b_ah b_be b_me u_wd b_tr b_ld u_st b_wn u_id)), (b_tp, (arI G 400 v_tp))]) hP hD hS hA [8, 1] (by decide +kernel) rfl
                    refine va_callv (va_runV (As := []) (rest := []) ⟨hx, hb, hml, hown, hts⟩ (n_nextX l G b_o b_tp b_rf b_ro b_im b_ke b_nl b_op b_ar b_pi b_pa b_ws b_hw b_se b_re b_pt b_ip b_ah b_be b_me b_tr b_ld b_wn H.size u_th u_sa u_fd u_td z92 z93 z94 z96 z97 (u_nc + 1) z98 z99 z100 z101 u_la u_bk u_ce u_ho u_wy u_bt u_ps u_tg u_sn u_ic u_wd u_id z95 u_va u_su u_st v_tp h_u_td i_78 i_79 i_80 ⟨by omega, by omega⟩ i_81 i_82 h_u_la h_u_bk h_u_ce h_u_ho h_u_wy h_u_bt h_u_ps h_u_ic h_u_id (by omega)) (cwV 0 hts gV_X12_208 rfl rfl rfl hv_X12_next ⟨Nat.le_of_ble_eq_true rfl, Nat.le_of_ble_eq_true rfl⟩) (g5_preV hPc hK hDc hN hT hS hFc (ci := 12) (q0 := 0) rfl rfl) rfl rfl hl.1 rfl (lv_room (Nat.le_of_ble_eq_true rfl)) dX12_readClause_177 ⟨Nat.le_of_ble_eq_true rfl, Nat.le_of_ble_eq_true rfl⟩) hS (fun q _ h => hFc q h) hFc (fun u t H locs ht hvm hw hB hz1 hk1 hS => ?_)
                    obtain ⟨hP1, hD1⟩ := hB
                    have hP1 := g5_ht ht hP1
                    obtain ⟨z119, z120, z121, z122, (i_114 : 0 ≤ z119.toInt ∧ z119.toInt ≤ 400), (i_115 : 0 ≤ z120.toInt ∧ z120.toInt ≤ 400), (i_116 : z93.toInt ≤ z119.toInt ∧ z119.toInt ≤ z120.toInt ∧ z120.toInt ≤ u_td.toInt), (i_117 : TKs z121.toInt z119.toInt z120.toInt), (i_118 : TOKA v_tp u_td.toInt.toNat (skT v_tp u_td.toInt.toNat z93.toInt.toNat) z119 z120 z121 z122), rfl⟩ := hw
                    have hJ9 := va_join (wr := [(b_nl, (arI G 96 (upd (upd (upd (upd k75_nl (8 * u_nc).toNatClampNeg k4_1) ((8 * u_nc) + 3).toNatClampNeg u_co) ((8 * u_nc) + 4).toNatClampNeg z98) ((8 * u_nc) + 5).toNatClampNeg z98))), (b_op, (arI G 400 z102)), (b_ar, (arI G 400 z103)), (b_pi, (arI G 400 z104)), (b_pa, (arI G 400 z105)), (b_ws, (arJ G 8 v_ws)), (b_hw, (arJ G 4 v_hw))]) hP hD [8, 1] [0, 2, 3, 4, 5, 6, 7] rfl rfl (by decide +kernel) (by decide +kernel) hk1 hFc hP1 hD1
                    clear hP hD hPc hDc hFc ht hvm hz1 hk1 hP1 hD1
                    obtain ⟨hP, hD⟩ := hJ9
                    refine g5_rs [(b_nl, (arI G 96 (upd (upd (upd (upd k75_nl (8 * u_nc).toNatClampNeg k4_1) ((8 * u_nc) + 3).toNatClampNeg u_co) ((8 * u_nc) + 4).toNatClampNeg z98) ((8 * u_nc) + 5).toNatClampNeg z98))), (b_op, (arI G 400 z102)), (b_ar, (arI G 400 z103)), (b_pi, (arI G 400 z104)), (b_pa, (arI G 400 z105)), (b_ws, (arJ G 8 v_ws)), (b_hw, (arJ G 4 v_hw)), (b_o, (oc12 u_th u_sa b_rf b_ro b_im b_ke u_fd b_tp u_td z119 z120 z121 z122 z96 z97 (u_nc + 1) b_nl z98 b_op b_ar z99 b_pi b_pa z100 z101 b_ws b_hw u_la b_se b_re u_bk u_va u_su u_ce u_ho u_wy u_bt u_ps b_pt u_tg u_sn b_ip u_ic b_ah b_be b_me u_wd b_tr b_ld u_st b_wn u_id)), (b_tp, (arI G 400 v_tp))] hP hD ?_
                    clear hP hD
                    intro hP hD
                    have hE_123 : TOKA v_tp u_td.toInt.toNat (pT v_tp u_td.toInt.toNat (kk2 + 1)) z119 z120 z121 z122 := toka_nx hT2 i_118
                    refine lv_aload_n hx hb dX12_readClause_180 rfl (lv_at hl 3 rfl) ?_
                    refine lv_iconst (v := 1) hx hb dX12_readClause_181 (by decide +kernel) ?_
                    refine W.eq (g2 := F0 m 182 ls [.int 1, .ref b_o]) rfl ?_
                    obtain ⟨hPc, hDc, hFc⟩ := g5_sub3 (wc := [(b_o, (oc12 u_th u_sa b_rf b_ro b_im b_ke u_fd b_tp u_td z119 z120 z121 z122 z96 z97 (u_nc + 1) b_nl z98 b_op b_ar z99 b_pi b_pa z100 z101 b_ws b_hw u_la b_se b_re u_bk u_va u_su u_ce u_ho u_wy u_bt u_ps b_pt u_tg u_sn b_ip u_ic b_ah b_be b_me u_wd b_tr b_ld u_st b_wn u_id)), (b_tp, (arI G 400 v_tp)), (b_op, (arI G 400 z102)), (b_ar, (arI G 400 z103)), (b_pi, (arI G 400 z104)), (b_pa, (arI G 400 z105)), (b_ws, (arJ G 8 v_ws)), (b_hw, (arJ G 4 v_hw))]) hP hD hS hA [7, 8, 1, 2, 3, 4, 5, 6] (by decide +kernel) rfl
                    refine va_callv (va_runV (As := [.int 1]) (rest := []) ⟨hx, hb, hml, hown, hts⟩ (n_readExpressionX l G b_o b_tp b_op b_ar b_pi b_pa b_ws b_hw b_rf b_ro b_im b_ke b_nl b_se b_re b_pt b_ip b_ah b_be b_me b_tr b_ld b_wn H.size u_th u_sa u_fd u_td z119 z120 z121 z96 z97 (u_nc + 1) z98 z99 z100 z101 u_la u_bk u_ce u_ho u_wy u_bt u_ps u_tg u_sn u_ic u_wd u_id 1 z122 u_va u_su u_st v_tp z102 z103 z104 z105 v_ws v_hw (kk2 + 1) h_u_td i_114 i_115 ⟨by omega, by omega⟩ ⟨by omega, by omega⟩ i_81 i_82 h_u_la h_u_bk h_u_ce h_u_ho h_u_wy h_u_bt h_u_ps h_u_ic h_u_id ⟨by decide, by decide⟩ (by omega) (i_117) (by omega) (e_tp) (e_ws) (hE_123) (i_91) (by omega) (by omega) (by omega)) (cwV 1 hts gV_X12_315 rfl rfl rfl hv_X12_readExpression ⟨Nat.le_of_ble_eq_true rfl, Nat.le_of_ble_eq_true rfl⟩) (g5_preV hPc hK hDc hN hT hS hFc (ci := 12) (q0 := 0) rfl rfl) rfl rfl hl.1 rfl (lv_room (Nat.le_of_ble_eq_true rfl)) dX12_readClause_182 ⟨Nat.le_of_ble_eq_true rfl, Nat.le_of_ble_eq_true rfl⟩) hS (fun q _ h => hFc q h) hFc (fun u t H locs ht hvm hw hB hz1 hk1 hS => ?_)
                    obtain ⟨hP1, hD1⟩ := hB
                    have hP1 := g5_ht ht hP1
                    obtain ⟨z138, z139, z140, z141, z142, z143, z144, z145, z146, z147, z148, z149, z150, z151, (i_124 : 0 ≤ z138.toInt ∧ z138.toInt ≤ 400), (i_125 : 0 ≤ z139.toInt ∧ z139.toInt ≤ 400), (i_126 : 0 ≤ z143.toInt ∧ z143.toInt ≤ 1), (i_127 : 0 ≤ z144.toInt ∧ z144.toInt ≤ 400), (i_128 : 0 ≤ z146.toInt ∧ z146.toInt ≤ 400), (i_129 : z119.toInt ≤ z138.toInt ∧ z138.toInt ≤ z139.toInt ∧ z139.toInt ≤ u_td.toInt), (i_130 : TKs z140.toInt z138.toInt z139.toInt), (i_131 : KP z102 z103 z148 z149 z98.toInt), (i_132 : z98.toInt ≤ z144.toInt ∧ z144.toInt ≤ z138.toInt), (i_133 : z143.toInt = 0 → cdN z148 z149 z98.toInt z144.toInt), (i_134 : EXR v_tp u_td (1 : Int32) (kk2 + 1) z102 z103 z98 z99 z143 z138 z139 z140 z141 z148 z149 z144 z145), (i_135 : z143.toInt = 1 → z142 = z138), (i_136 : z143.toInt = 0 → z142 = z96), (i_137 : 0 ≤ z145.toInt ∧ z145.toInt ≤ 50), rfl⟩ := hw
                    have hJ9 := va_join (wr := [(b_nl, (arI G 96 (upd (upd (upd (upd k75_nl (8 * u_nc).toNatClampNeg k4_1) ((8 * u_nc) + 3).toNatClampNeg u_co) ((8 * u_nc) + 4).toNatClampNeg z98) ((8 * u_nc) + 5).toNatClampNeg z98)))]) hP hD [7, 8, 1, 2, 3, 4, 5, 6] [0] rfl rfl (by decide +kernel) (by decide +kernel) hk1 hFc hP1 hD1
                    clear hP hD hPc hDc hFc ht hvm hz1 hk1 hP1 hD1
                    obtain ⟨hP, hD⟩ := hJ9
                    refine g5_rs [(b_nl, (arI G 96 (upd (upd (upd (upd k75_nl (8 * u_nc).toNatClampNeg k4_1) ((8 * u_nc) + 3).toNatClampNeg u_co) ((8 * u_nc) + 4).toNatClampNeg z98) ((8 * u_nc) + 5).toNatClampNeg z98))), (b_o, (oc12 u_th u_sa b_rf b_ro b_im b_ke u_fd b_tp u_td z138 z139 z140 z141 z142 z143 (u_nc + 1) b_nl z144 b_op b_ar z145 b_pi b_pa z146 z147 b_ws b_hw u_la b_se b_re u_bk u_va u_su u_ce u_ho u_wy u_bt u_ps b_pt u_tg u_sn b_ip u_ic b_ah b_be b_me u_wd b_tr b_ld u_st b_wn u_id)), (b_tp, (arI G 400 v_tp)), (b_op, (arI G 400 z148)), (b_ar, (arI G 400 z149)), (b_pi, (arI G 400 z150)), (b_pa, (arI G 400 z151)), (b_ws, (arJ G 8 v_ws)), (b_hw, (arJ G 4 v_hw))] hP hD ?_
                    clear hP hD
                    intro hP hD
                    refine lv_aload_n hx hb dX12_readClause_185 rfl (lv_at hl 3 rfl) ?_
                    refine va_get (D := G.1) (ci := 12) (v := .ref b_nl) (C := RX12) (T := TX12) (N := 52) hx hb hts inG_X12 hown hK hP 1 rfl rfl 16 (by decide +kernel) (hts _ fl_X12_30) (fun _ h9 => h9) rfl dX12_readClause_186 ?_
                    refine lv_iload_n hx hb dX12_readClause_189 rfl (lv_at hl 1 rfl) ?_
                    refine lv_bipush (v := 6) hx hb dX12_readClause_190 (by decide +kernel) ?_
                    refine W.eq (g2 := F0 m 192 ls [.int 6, .int (8 * u_nc), .ref b_nl]) rfl ?_
                    refine lv_iadd hx hb dX12_readClause_192 ?_
                    have t_152 : ((8 * u_nc) + 6).toInt = (8 * u_nc).toInt + 6 := g5_iadd (a := (8 * u_nc).toInt) (b := 6) (by rfl) (by decide +kernel) (by omega) (by omega)
                    refine lv_aload_n hx hb dX12_readClause_193 rfl (lv_at hl 3 rfl) ?_
                    refine va_get (D := G.1) (ci := 12) (v := .int z144) (C := RX12) (T := TX12) (N := 52) hx hb hts inG_X12 hown hK hP 1 rfl rfl 17 (by decide +kernel) (hts _ fl_X12_237) (fun _ h9 => h9) rfl dX12_readClause_194 ?_
                    refine va_iast hx hb hK hP hD hS 0 0 rfl rfl (i := ((8 * u_nc) + 6)) (x := z144) (vp_in_iff.mpr ⟨by omega, by omega⟩) dX12_readClause_197 ?_
                    clear hP hD hS
                    intro H locs hP hD hS
                    refine g5_rs [(b_nl, (arI G 96 (upd (upd (upd (upd (upd k75_nl (8 * u_nc).toNatClampNeg k4_1) ((8 * u_nc) + 3).toNatClampNeg u_co) ((8 * u_nc) + 4).toNatClampNeg z98) ((8 * u_nc) + 5).toNatClampNeg z98) ((8 * u_nc) + 6).toNatClampNeg z144))), (b_o, (oc12 u_th u_sa b_rf b_ro b_im b_ke u_fd b_tp u_td z138 z139 z140 z141 z142 z143 (u_nc + 1) b_nl z144 b_op b_ar z145 b_pi b_pa z146 z147 b_ws b_hw u_la b_se b_re u_bk u_va u_su u_ce u_ho u_wy u_bt u_ps b_pt u_tg u_sn b_ip u_ic b_ah b_be b_me u_wd b_tr b_ld u_st b_wn u_id)), (b_tp, (arI G 400 v_tp)), (b_op, (arI G 400 z148)), (b_ar, (arI G 400 z149)), (b_pi, (arI G 400 z150)), (b_pa, (arI G 400 z151)), (b_ws, (arJ G 8 v_ws)), (b_hw, (arJ G 4 v_hw))] hP hD ?_
                    clear hP hD
                    intro hP hD
                    exact W.vret hx hb hr (fun t ht hW => ⟨⟨[(b_o, (oc12 u_th u_sa b_rf b_ro b_im b_ke u_fd b_tp u_td z138 z139 z140 z141 z142 z143 (u_nc + 1) b_nl z144 b_op b_ar z145 b_pi b_pa z146 z147 b_ws b_hw u_la b_se b_re u_bk u_va u_su u_ce u_ho u_wy u_bt u_ps b_pt u_tg u_sn b_ip u_ic b_ah b_be b_me u_wd b_tr b_ld u_st b_wn u_id)), (b_tp, (arI G 400 v_tp)), (b_nl, (arI G 96 (upd (upd (upd (upd (upd k75_nl (8 * u_nc).toNatClampNeg k4_1) ((8 * u_nc) + 3).toNatClampNeg u_co) ((8 * u_nc) + 4).toNatClampNeg z98) ((8 * u_nc) + 5).toNatClampNeg z98) ((8 * u_nc) + 6).toNatClampNeg z144))), (b_op, (arI G 400 z148)), (b_ar, (arI G 400 z149)), (b_pi, (arI G 400 z150)), (b_pa, (arI G 400 z151)), (b_ws, (arJ G 8 v_ws)), (b_hw, (arJ G 4 v_hw))], rfl, Or.inr (⟨z138, z139, z140, z141, z142, z143, (u_nc + 1), z144, z145, z146, z147, (upd (upd (upd (upd (upd k75_nl (8 * u_nc).toNatClampNeg k4_1) ((8 * u_nc) + 3).toNatClampNeg u_co) ((8 * u_nc) + 4).toNatClampNeg z98) ((8 * u_nc) + 5).toNatClampNeg z98) ((8 * u_nc) + 6).toNatClampNeg z144), z148, z149, z150, z151, i_124, i_125, i_126, ⟨by omega, by omega⟩, i_127, i_128, by omega, i_130, by omega, fun q9 => lwj_new e_l i_24 (kp_tr i_85 i_131 (by omega)) (by omega) (by omega) (by omega) (by omega) (by omega) (by omega) (by omega) (by omega) (by omega) (by omega) ⟨by omega, by omega⟩ (fun _ => cdN_congr (i_87 (by omega)) i_131) (i_133 q9), clx_1t (by omega) hE_106 hHB (by decide +kernel) (by omega) hK26 i_134 (nl_at (by omega) (by omega) (by omega) (by omega) (by omega) (by omega) rfl) rfl, i_135, fun q9 => (i_136 q9).trans (i_90 (by omega)), i_137, by omega, (kp_tr i_85 i_131 (by omega)), cl_keep (cl_keep (cl_keep (cl_keep (cl_keep i_24 (by omega)) (by omega)) (by omega)) (by omega)) (by omega), rfl⟩), by rw [ht]; exact hP.sub [1, 2, 0, 3, 4, 5, 6, 7, 8] rfl, hD.sub [1, 2, 0, 3, 4, 5, 6, 7, 8] (by decide +kernel) rfl⟩, hS.F ht⟩) hS.2.2 dX12_readClause_198
                ·
                  have hJ9 := va_join (wr := [(b_nl, (arI G 96 (upd (upd (upd (upd k75_nl (8 * u_nc).toNatClampNeg k4_1) ((8 * u_nc) + 3).toNatClampNeg u_co) ((8 * u_nc) + 4).toNatClampNeg z98) ((8 * u_nc) + 5).toNatClampNeg z98))), (b_tp, (arI G 400 v_tp)), (b_op, (arI G 400 z102)), (b_ar, (arI G 400 z103)), (b_pi, (arI G 400 z104)), (b_pa, (arI G 400 z105)), (b_ws, (arJ G 8 v_ws)), (b_hw, (arJ G 4 v_hw))]) hP hD [1] [0, 2, 3, 4, 5, 6, 7, 8] rfl rfl (by decide +kernel) (by decide +kernel) hk1 hFc hP1 hD1
                  clear hP hD hPc hDc hFc ht hvm hz1 hk1 hP1 hD1
                  obtain ⟨hP, hD⟩ := hJ9
                  refine g5_rs [(b_nl, (arI G 96 (upd (upd (upd (upd k75_nl (8 * u_nc).toNatClampNeg k4_1) ((8 * u_nc) + 3).toNatClampNeg u_co) ((8 * u_nc) + 4).toNatClampNeg z98) ((8 * u_nc) + 5).toNatClampNeg z98))), (b_tp, (arI G 400 v_tp)), (b_op, (arI G 400 z102)), (b_ar, (arI G 400 z103)), (b_pi, (arI G 400 z104)), (b_pa, (arI G 400 z105)), (b_ws, (arJ G 8 v_ws)), (b_hw, (arJ G 4 v_hw)), (b_o, (oc12 u_th u_sa b_rf b_ro b_im b_ke u_fd b_tp u_td z92 z93 z94 z95 z96 z97 (u_nc + 1) b_nl z98 b_op b_ar z99 b_pi b_pa z100 z101 b_ws b_hw u_la b_se b_re u_bk u_va u_su u_ce u_ho u_wy u_bt u_ps b_pt u_tg u_sn b_ip u_ic b_ah b_be b_me u_wd b_tr b_ld u_st b_wn u_id))] hP hD ?_
                  clear hP hD
                  intro hP hD
                  refine lv_if_eq (tgt := 185) hx hb dX12_readClause_173 (by decide +kernel) (fun c_153 => ?_) (fun c_153 => ?_)
                  ·
                    refine lv_aload_n hx hb dX12_readClause_185 rfl (lv_at hl 3 rfl) ?_
                    refine va_get (D := G.1) (ci := 12) (v := .ref b_nl) (C := RX12) (T := TX12) (N := 52) hx hb hts inG_X12 hown hK hP 8 rfl rfl 16 (by decide +kernel) (hts _ fl_X12_30) (fun _ h9 => h9) rfl dX12_readClause_186 ?_
                    refine lv_iload_n hx hb dX12_readClause_189 rfl (lv_at hl 1 rfl) ?_
                    refine lv_bipush (v := 6) hx hb dX12_readClause_190 (by decide +kernel) ?_
                    refine W.eq (g2 := F0 m 192 ls [.int 6, .int (8 * u_nc), .ref b_nl]) rfl ?_
                    refine lv_iadd hx hb dX12_readClause_192 ?_
                    have t_154 : ((8 * u_nc) + 6).toInt = (8 * u_nc).toInt + 6 := g5_iadd (a := (8 * u_nc).toInt) (b := 6) (by rfl) (by decide +kernel) (by omega) (by omega)
                    refine lv_aload_n hx hb dX12_readClause_193 rfl (lv_at hl 3 rfl) ?_
                    refine va_get (D := G.1) (ci := 12) (v := .int z98) (C := RX12) (T := TX12) (N := 52) hx hb hts inG_X12 hown hK hP 8 rfl rfl 17 (by decide +kernel) (hts _ fl_X12_237) (fun _ h9 => h9) rfl dX12_readClause_194 ?_
                    refine va_iast hx hb hK hP hD hS 0 0 rfl rfl (i := ((8 * u_nc) + 6)) (x := z98) (vp_in_iff.mpr ⟨by omega, by omega⟩) dX12_readClause_197 ?_
                    clear hP hD hS
                    intro H locs hP hD hS
                    refine g5_rs [(b_nl, (arI G 96 (upd (upd (upd (upd (upd k75_nl (8 * u_nc).toNatClampNeg k4_1) ((8 * u_nc) + 3).toNatClampNeg u_co) ((8 * u_nc) + 4).toNatClampNeg z98) ((8 * u_nc) + 5).toNatClampNeg z98) ((8 * u_nc) + 6).toNatClampNeg z98))), (b_tp, (arI G 400 v_tp)), (b_op, (arI G 400 z102)), (b_ar, (arI G 400 z103)), (b_pi, (arI G 400 z104)), (b_pa, (arI G 400 z105)), (b_ws, (arJ G 8 v_ws)), (b_hw, (arJ G 4 v_hw)), (b_o, (oc12 u_th u_sa b_rf b_ro b_im b_ke u_fd b_tp u_td z92 z93 z94 z95 z96 z97 (u_nc + 1) b_nl z98 b_op b_ar z99 b_pi b_pa z100 z101 b_ws b_hw u_la b_se b_re u_bk u_va u_su u_ce u_ho u_wy u_bt u_ps b_pt u_tg u_sn b_ip u_ic b_ah b_be b_me u_wd b_tr b_ld u_st b_wn u_id))] hP hD ?_
                    clear hP hD
                    intro hP hD
                    exact W.vret hx hb hr (fun t ht hW => ⟨⟨[(b_o, (oc12 u_th u_sa b_rf b_ro b_im b_ke u_fd b_tp u_td z92 z93 z94 z95 z96 z97 (u_nc + 1) b_nl z98 b_op b_ar z99 b_pi b_pa z100 z101 b_ws b_hw u_la b_se b_re u_bk u_va u_su u_ce u_ho u_wy u_bt u_ps b_pt u_tg u_sn b_ip u_ic b_ah b_be b_me u_wd b_tr b_ld u_st b_wn u_id)), (b_tp, (arI G 400 v_tp)), (b_nl, (arI G 96 (upd (upd (upd (upd (upd k75_nl (8 * u_nc).toNatClampNeg k4_1) ((8 * u_nc) + 3).toNatClampNeg u_co) ((8 * u_nc) + 4).toNatClampNeg z98) ((8 * u_nc) + 5).toNatClampNeg z98) ((8 * u_nc) + 6).toNatClampNeg z98))), (b_op, (arI G 400 z102)), (b_ar, (arI G 400 z103)), (b_pi, (arI G 400 z104)), (b_pa, (arI G 400 z105)), (b_ws, (arJ G 8 v_ws)), (b_hw, (arJ G 4 v_hw))], rfl, Or.inr (⟨z92, z93, z94, z95, z96, z97, (u_nc + 1), z98, z99, z100, z101, (upd (upd (upd (upd (upd k75_nl (8 * u_nc).toNatClampNeg k4_1) ((8 * u_nc) + 3).toNatClampNeg u_co) ((8 * u_nc) + 4).toNatClampNeg z98) ((8 * u_nc) + 5).toNatClampNeg z98) ((8 * u_nc) + 6).toNatClampNeg z98), z102, z103, z104, z105, i_78, i_79, i_80, ⟨by omega, by omega⟩, i_81, i_82, by omega, i_84, by omega, fun q9 => lwj_new e_l i_24 i_85 (by omega) (by omega) (by omega) (by omega) (by omega) (by omega) (by omega) (by omega) (by omega) (by omega) ⟨by omega, by omega⟩ (fun _ => (i_87 (by omega))) cdN_empty, clx_1n (by omega) hE_106 (by first | decide | omega) (fun b9 T9 q9 => i_112 ((tw_if e_tp T9).mp q9)) (nl_at (by omega) (by omega) (by omega) (by omega) (by omega) (by omega) rfl) rfl, i_89, i_90, i_91, by omega, i_85, cl_keep (cl_keep (cl_keep (cl_keep (cl_keep i_24 (by omega)) (by omega)) (by omega)) (by omega)) (by omega), rfl⟩), by rw [ht]; exact hP.sub [8, 1, 0, 2, 3, 4, 5, 6, 7] rfl, hD.sub [8, 1, 0, 2, 3, 4, 5, 6, 7] (by decide +kernel) rfl⟩, hS.F ht⟩) hS.2.2 dX12_readClause_198
                  ·
                    exact absurd c_153 (by decide +kernel)
          ·
            have i_26 : k75_3.toInt < 8 := g5_geN (a := k75_3.toInt) (b := 8) rfl (by decide +kernel) c_26
            refine lv_aload_n hx hb dX12_readClause_81 rfl (lv_at hl 3 rfl) ?_
            refine va_get (D := G.1) (ci := 12) (v := .ref b_nl) (C := RX12) (T := TX12) (N := 52) hx hb hts inG_X12 hown hK hP 7 rfl rfl 16 (by decide +kernel) (hts _ fl_X12_30) (fun _ h9 => h9) rfl dX12_readClause_82 ?_
            refine lv_iload_n hx hb dX12_readClause_85 rfl (lv_at hl 1 rfl) ?_
            refine lv_iload_n hx hb dX12_readClause_86 rfl (lv_at hl 0 rfl) ?_
            refine W.eq (g2 := F0 m 87 ls [.int k75_3, .int (8 * u_nc), .ref b_nl]) rfl ?_
            refine lv_iadd hx hb dX12_readClause_87 ?_
            have t_155 : ((8 * u_nc) + k75_3).toInt = (8 * u_nc).toInt + k75_3.toInt := g5_iadd (a := (8 * u_nc).toInt) (b := k75_3.toInt) (by rfl) (by rfl) (by omega) (by omega)
            refine lv_iconst (v := 0) hx hb dX12_readClause_88 (by decide +kernel) ?_
            refine va_iast hx hb hK hP hD hS 0 0 rfl rfl (i := ((8 * u_nc) + k75_3)) (x := 0) (vp_in_iff.mpr ⟨by omega, by omega⟩) dX12_readClause_89 ?_
            clear hP hD hS
            intro H locs hP hD hS
            refine g5_rs [(b_nl, (arI G 96 (upd k75_nl ((8 * u_nc) + k75_3).toNatClampNeg 0))), (b_op, (arI G 400 v_op)), (b_ar, (arI G 400 v_ar)), (b_pi, (arI G 400 v_pi)), (b_pa, (arI G 400 v_pa)), (b_ws, (arJ G 8 v_ws)), (b_hw, (arJ G 4 v_hw)), (b_o, (oc12 u_th u_sa b_rf b_ro b_im b_ke u_fd b_tp u_td z16 z17 z18 z19 u_fa u_bd u_nc b_nl u_co b_op b_ar u_le b_pi b_pa u_pd u_od b_ws b_hw u_la b_se b_re u_bk u_va u_su u_ce u_ho u_wy u_bt u_ps b_pt u_tg u_sn b_ip u_ic b_ah b_be b_me u_wd b_tr b_ld u_st b_wn u_id)), (b_tp, (arI G 400 v_tp))] hP hD ?_
            clear hP hD
            intro hP hD
            refine lv_iinc (v := (k75_3 + 1)) (lv' := [(3, .int (k75_3 + 1)), (2, .int (8 * u_nc)), (1, .int k4_1), (0, .ref b_o)]) hx hb dX12_readClause_90 hl (k := 0) rfl rfl (by decide +kernel) rfl ?_
            clear hl
            intro ls hl
            have t_156 : (k75_3 + 1).toInt = k75_3.toInt + 1 := g5_iadd (a := k75_3.toInt) (b := 1) rfl (by decide +kernel) (by omega) (by omega)
            refine lv_goto (tgt := 75) hx hb dX12_readClause_93 (by decide +kernel) ?_
            exact ih_75_25 ((k75_3 + 1), (upd k75_nl ((8 * u_nc) + k75_3).toNatClampNeg 0)) ls H locs (show Int.toNat (8 - (k75_3 + 1).toInt) < Int.toNat (8 - k75_3.toInt) from g_up (show k75_3.toInt < (k75_3 + 1).toInt by omega) (show k75_3.toInt < 8 by omega)) ⟨lv_sub hl [0, 1, 2, 3] rfl, hP, hD, hS, ⟨by omega, by omega⟩, cl_keep i_24 (by omega)⟩
        ·
          have i_20 : u_bd.toInt ≠ 0 := g5_eqN (a := u_bd.toInt) (b := 0) rfl (by decide +kernel) c_20
          omega
  ·
    have i_6 : k4_2.toInt < 4 := g5_geN (a := k4_2.toInt) (b := 4) rfl (by decide +kernel) c_6
    refine lv_aload_n hx hb dX12_readClause_9 rfl (lv_at hl 2 rfl) ?_
    refine lv_aload_n hx hb dX12_readClause_10 rfl (lv_at hl 2 rfl) ?_
    refine va_get (D := G.1) (ci := 12) (v := .ref b_hw) (C := RX12) (T := TX12) (N := 52) hx hb hts inG_X12 hown hK hP 0 rfl rfl 26 (by decide +kernel) (hts _ fl_X12_73) (fun _ h9 => h9) rfl dX12_readClause_11 ?_
    refine lv_iload_n hx hb dX12_readClause_14 rfl (lv_at hl 1 rfl) ?_
    refine W.eq (g2 := F0 m 15 ls [.int k4_2, .ref b_hw, .ref b_o]) rfl ?_
    refine va_lald hx hb hK hP 8 1 rfl rfl (i := k4_2) (vp_in_iff.mpr ⟨by omega, by omega⟩) dX12_readClause_15 ?_
    obtain ⟨hPc, hDc, hFc⟩ := g5_sub3 (wc := [(b_o, (oc12 u_th u_sa b_rf b_ro b_im b_ke u_fd b_tp u_td u_fr u_to u_so u_wo u_fa u_bd u_nc b_nl u_co b_op b_ar u_le b_pi b_pa u_pd u_od b_ws b_hw u_la b_se b_re u_bk u_va u_su u_ce u_ho u_wy u_bt u_ps b_pt u_tg u_sn b_ip u_ic b_ah b_be b_me u_wd b_tr b_ld u_st b_wn u_id))]) hP hD hS hA [0] (by decide +kernel) rfl
    refine va_calli (va_runV (As := [.long (v_hw k4_2.toNatClampNeg)]) (rest := []) ⟨hx, hb, hml, hown, hts⟩ (n_isWordX l G b_o b_rf b_ro b_im b_ke b_tp b_nl b_op b_ar b_pi b_pa b_ws b_hw b_se b_re b_pt b_ip b_ah b_be b_me b_tr b_ld b_wn H.size u_th u_sa u_fd u_td u_fr u_to u_so u_fa u_bd u_nc u_co u_le u_pd u_od u_la u_bk u_ce u_ho u_wy u_bt u_ps u_tg u_sn u_ic u_wd u_id u_wo u_va u_su u_st (v_hw k4_2.toNatClampNeg) h_u_td h_u_fr h_u_to ⟨by omega, by omega⟩ h_u_nc h_u_co h_u_pd h_u_la h_u_bk h_u_ce h_u_ho h_u_wy h_u_bt h_u_ps h_u_ic h_u_id) (cwV 1 hts gV_X12_254 rfl rfl rfl hv_X12_isWord ⟨Nat.le_of_ble_eq_true rfl, Nat.le_of_ble_eq_true rfl⟩) (g5_preV hPc hK hDc hN hT hS hFc (ci := 12) (q0 := 0) rfl rfl) rfl rfl hl.1 rfl (lv_room (Nat.le_of_ble_eq_true rfl)) dX12_readClause_16 ⟨Nat.le_of_ble_eq_true rfl, Nat.le_of_ble_eq_true rfl⟩) hS (fun q _ h => hFc q h) hFc (fun r u t H locs ht hvm hw hB hz1 hk1 hS => ?_)
    obtain ⟨hP1, hD1⟩ := hB
    have hP1 := g5_ht ht hP1
    rcases hw with ⟨(i_157 : u_so.toInt = 1 ∧ u_wo.toInt = (v_hw k4_2.toNatClampNeg).toInt), rfl, rfl⟩ | ⟨(i_158 : ¬ (u_so.toInt = 1 ∧ u_wo.toInt = (v_hw k4_2.toNatClampNeg).toInt)), rfl, rfl⟩
    ·
      have hJ9 := va_join (wr := [(b_tp, (arI G 400 v_tp)), (b_nl, (arI G 96 v_nl)), (b_op, (arI G 400 v_op)), (b_ar, (arI G 400 v_ar)), (b_pi, (arI G 400 v_pi)), (b_pa, (arI G 400 v_pa)), (b_ws, (arJ G 8 v_ws)), (b_hw, (arJ G 4 v_hw))]) hP hD [0] [1, 2, 3, 4, 5, 6, 7, 8] rfl rfl (by decide +kernel) (by decide +kernel) hk1 hFc hP1 hD1
      clear hP hD hPc hDc hFc ht hvm hz1 hk1 hP1 hD1
      obtain ⟨hP, hD⟩ := hJ9
      refine g5_rs [(b_tp, (arI G 400 v_tp)), (b_nl, (arI G 96 v_nl)), (b_op, (arI G 400 v_op)), (b_ar, (arI G 400 v_ar)), (b_pi, (arI G 400 v_pi)), (b_pa, (arI G 400 v_pa)), (b_ws, (arJ G 8 v_ws)), (b_hw, (arJ G 4 v_hw)), (b_o, (oc12 u_th u_sa b_rf b_ro b_im b_ke u_fd b_tp u_td u_fr u_to u_so u_wo u_fa u_bd u_nc b_nl u_co b_op b_ar u_le b_pi b_pa u_pd u_od b_ws b_hw u_la b_se b_re u_bk u_va u_su u_ce u_ho u_wy u_bt u_ps b_pt u_tg u_sn b_ip u_ic b_ah b_be b_me u_wd b_tr b_ld u_st b_wn u_id))] hP hD ?_
      clear hP hD
      intro hP hD
      refine lv_if_eq (tgt := 26) hx hb dX12_readClause_19 (by decide +kernel) (fun c_159 => ?_) (fun c_159 => ?_)
      ·
        exact absurd c_159 (by decide +kernel)
      ·
        refine lv_iload_n hx hb dX12_readClause_22 rfl (lv_at hl 1 rfl) ?_
        refine lv_goto (tgt := 27) hx hb dX12_readClause_23 (by decide +kernel) ?_
        refine lv_istore_n (lv' := [(1, .int k4_2), (2, .int k4_2), (0, .ref b_o)]) hx hb dX12_readClause_27 rfl hl (by decide +kernel) rfl ?_
        clear hl
        intro ls hl
        refine lv_iinc (v := (k4_2 + 1)) (lv' := [(2, .int (k4_2 + 1)), (1, .int k4_2), (0, .ref b_o)]) hx hb dX12_readClause_28 hl (k := 1) rfl rfl (by decide +kernel) rfl ?_
        clear hl
        intro ls hl
        have t_160 : (k4_2 + 1).toInt = k4_2.toInt + 1 := g5_iadd (a := k4_2.toInt) (b := 1) rfl (by decide +kernel) (by omega) (by omega)
        refine W.eq (g2 := F0 m 31 ls []) rfl ?_
        refine lv_goto (tgt := 4) hx hb dX12_readClause_31 (by decide +kernel) ?_
        exact ih_4_5 ((k4_2 + 1), k4_2) ls H locs (show Int.toNat (4 - (k4_2 + 1).toInt) < Int.toNat (4 - k4_2.toInt) from g_up (show k4_2.toInt < (k4_2 + 1).toInt by omega) (show k4_2.toInt < 4 by omega)) ⟨lv_sub hl [1, 0, 2] rfl, hP.sub [8, 0, 1, 2, 3, 4, 5, 6, 7] rfl, hD.sub [8, 0, 1, 2, 3, 4, 5, 6, 7] (by decide +kernel) rfl, hS, ⟨by omega, by omega⟩, ⟨by omega, by omega⟩, Or.inr (by omega), ptw_Y (by omega) (by omega) ((pt_head e_tp e_ws e_tk (i := k4_2) (by omega)).mpr i_157) (by omega)⟩
    ·
      have hJ9 := va_join (wr := [(b_tp, (arI G 400 v_tp)), (b_nl, (arI G 96 v_nl)), (b_op, (arI G 400 v_op)), (b_ar, (arI G 400 v_ar)), (b_pi, (arI G 400 v_pi)), (b_pa, (arI G 400 v_pa)), (b_ws, (arJ G 8 v_ws)), (b_hw, (arJ G 4 v_hw))]) hP hD [0] [1, 2, 3, 4, 5, 6, 7, 8] rfl rfl (by decide +kernel) (by decide +kernel) hk1 hFc hP1 hD1
      clear hP hD hPc hDc hFc ht hvm hz1 hk1 hP1 hD1
      obtain ⟨hP, hD⟩ := hJ9
      refine g5_rs [(b_tp, (arI G 400 v_tp)), (b_nl, (arI G 96 v_nl)), (b_op, (arI G 400 v_op)), (b_ar, (arI G 400 v_ar)), (b_pi, (arI G 400 v_pi)), (b_pa, (arI G 400 v_pa)), (b_ws, (arJ G 8 v_ws)), (b_hw, (arJ G 4 v_hw)), (b_o, (oc12 u_th u_sa b_rf b_ro b_im b_ke u_fd b_tp u_td u_fr u_to u_so u_wo u_fa u_bd u_nc b_nl u_co b_op b_ar u_le b_pi b_pa u_pd u_od b_ws b_hw u_la b_se b_re u_bk u_va u_su u_ce u_ho u_wy u_bt u_ps b_pt u_tg u_sn b_ip u_ic b_ah b_be b_me u_wd b_tr b_ld u_st b_wn u_id))] hP hD ?_
      clear hP hD
      intro hP hD
      refine lv_if_eq (tgt := 26) hx hb dX12_readClause_19 (by decide +kernel) (fun c_161 => ?_) (fun c_161 => ?_)
      ·
        refine lv_iload_n hx hb dX12_readClause_26 rfl (lv_at hl 0 rfl) ?_
        refine lv_istore_n (lv' := [(1, .int k4_1), (2, .int k4_2), (0, .ref b_o)]) hx hb dX12_readClause_27 rfl hl (by decide +kernel) rfl ?_
        clear hl
        intro ls hl
        refine lv_iinc (v := (k4_2 + 1)) (lv' := [(2, .int (k4_2 + 1)), (1, .int k4_1), (0, .ref b_o)]) hx hb dX12_readClause_28 hl (k := 1) rfl rfl (by decide +kernel) rfl ?_
        clear hl
        intro ls hl
        have t_162 : (k4_2 + 1).toInt = k4_2.toInt + 1 := g5_iadd (a := k4_2.toInt) (b := 1) rfl (by decide +kernel) (by omega) (by omega)
        refine lv_goto (tgt := 4) hx hb dX12_readClause_31 (by decide +kernel) ?_
        exact ih_4_5 ((k4_2 + 1), k4_1) ls H locs (show Int.toNat (4 - (k4_2 + 1).toInt) < Int.toNat (4 - k4_2.toInt) from g_up (show k4_2.toInt < (k4_2 + 1).toInt by omega) (show k4_2.toInt < 4 by omega)) ⟨lv_sub hl [1, 0, 2] rfl, hP.sub [8, 0, 1, 2, 3, 4, 5, 6, 7] rfl, hD.sub [8, 0, 1, 2, 3, 4, 5, 6, 7] (by decide +kernel) rfl, hS, ⟨by omega, by omega⟩, i_2, i_3, ptw_N i_4 (by omega) (fun q9 => i_158 ((pt_head e_tp e_ws e_tk (i := k4_2) (by omega)).mp q9))⟩
      ·
        exact absurd c_161 (by decide +kernel)
set_option maxHeartbeats 4000000 in
set_option maxRecDepth 100000 in
theorem n_beginX (l : Launch) (G : g5_G) (b_o b_tp b_rf b_ro b_im b_ke b_nl b_op b_ar b_pi b_pa b_ws b_hw b_se b_re b_pt b_ip b_ah b_be b_me b_tr b_ld b_wn : Nat) (sz : Nat) (u_th : Int32) (u_sa : Int32) (u_fd : Int32) (u_td : Int32) (u_fr : Int32) (u_to : Int32) (u_so : Int32) (u_fa : Int32) (u_bd : Int32) (u_nc : Int32) (u_co : Int32) (u_le : Int32) (u_pd : Int32) (u_od : Int32) (u_la : Int32) (u_bk : Int32) (u_ce : Int32) (u_ho : Int32) (u_wy : Int32) (u_bt : Int32) (u_ps : Int32) (u_tg : Int32) (u_sn : Int32) (u_ic : Int32) (u_wd : Int32) (u_id : Int32) (u_wo : Int64) (u_va : Int64) (u_su : Int64) (u_st : Int64) (v_tp : Nat → Int32) (h_u_td : 0 ≤ u_td.toInt ∧ u_td.toInt ≤ 400) (h_u_fr : 0 ≤ u_fr.toInt ∧ u_fr.toInt ≤ 400) (h_u_to : 0 ≤ u_to.toInt ∧ u_to.toInt ≤ 400) (h_u_bd : 0 ≤ u_bd.toInt ∧ u_bd.toInt ≤ 1) (h_u_nc : 0 ≤ u_nc.toInt ∧ u_nc.toInt ≤ 12) (h_u_co : 0 ≤ u_co.toInt ∧ u_co.toInt ≤ 400) (h_u_pd : 0 ≤ u_pd.toInt ∧ u_pd.toInt ≤ 400) (h_u_la : 0 ≤ u_la.toInt ∧ u_la.toInt ≤ 4840) (h_u_bk : 0 ≤ u_bk.toInt ∧ u_bk.toInt ≤ 1) (h_u_ce : 0 ≤ u_ce.toInt ∧ u_ce.toInt ≤ 63) (h_u_ho : 0 ≤ u_ho.toInt ∧ u_ho.toInt ≤ 23) (h_u_wy : 0 ≤ u_wy.toInt ∧ u_wy.toInt ≤ 3) (h_u_bt : 0 ≤ u_bt.toInt ∧ u_bt.toInt ≤ 1000000) (h_u_ps : 0 ≤ u_ps.toInt ∧ u_ps.toInt ≤ 200) (h_u_ic : 0 ≤ u_ic.toInt ∧ u_ic.toInt ≤ 1) (h_u_id : 0 ≤ u_id.toInt ∧ u_id.toInt ≤ 1) : Met l yX12_begin (wsG yX12_begin cX12_begin 1 none) ({ frames := 2, cells := 0, slots := 0, locals := 40 }) (va_Pc [.ref b_o] (g5_P G [(b_o, (oc12 u_th u_sa b_rf b_ro b_im b_ke u_fd b_tp u_td u_fr u_to u_so u_wo u_fa u_bd u_nc b_nl u_co b_op b_ar u_le b_pi b_pa u_pd u_od b_ws b_hw u_la b_se b_re u_bk u_va u_su u_ce u_ho u_wy u_bt u_ps b_pt u_tg u_sn b_ip u_ic b_ah b_be b_me u_wd b_tr b_ld u_st b_wn u_id)), (b_tp, (arI G 400 v_tp))] sz)) (va_Qv (fun (u : va_W) => (∃ (o_fr : Int32) (o_to : Int32) (o_so : Int32) (o_wo : Int64), (0 ≤ o_fr.toInt ∧ o_fr.toInt ≤ 400) ∧ (0 ≤ o_to.toInt ∧ o_to.toInt ≤ 400) ∧ (o_fr.toInt ≤ o_to.toInt ∧ o_to.toInt ≤ u_td.toInt) ∧ (TKs o_so.toInt o_fr.toInt o_to.toInt) ∧ (TOKA v_tp u_td.toInt.toNat (pT v_tp u_td.toInt.toNat 0) o_fr o_to o_so o_wo) ∧ (u = [(b_o, (oc12 u_th u_sa b_rf b_ro b_im b_ke u_fd b_tp u_td o_fr o_to o_so o_wo (-1) 0 u_nc b_nl u_co b_op b_ar u_le b_pi b_pa u_pd u_od b_ws b_hw u_la b_se b_re u_bk u_va u_su u_ce u_ho u_wy u_bt u_ps b_pt u_tg u_sn b_ip u_ic b_ah b_be b_me u_wd b_tr b_ld u_st b_wn u_id)), (b_tp, (arI G 400 v_tp))]))) (g5_B G (va_A [(b_o, (oc12 u_th u_sa b_rf b_ro b_im b_ke u_fd b_tp u_td u_fr u_to u_so u_wo u_fa u_bd u_nc b_nl u_co b_op b_ar u_le b_pi b_pa u_pd u_od b_ws b_hw u_la b_se b_re u_bk u_va u_su u_ce u_ho u_wy u_bt u_ps b_pt u_tg u_sn b_ip u_ic b_ah b_be b_me u_wd b_tr b_ld u_st b_wn u_id)), (b_tp, (arI G 400 v_tp))] sz)) (va_A [(b_o, (oc12 u_th u_sa b_rf b_ro b_im b_ke u_fd b_tp u_td u_fr u_to u_so u_wo u_fa u_bd u_nc b_nl u_co b_op b_ar u_le b_pi b_pa u_pd u_od b_ws b_hw u_la b_se b_re u_bk u_va u_su u_ce u_ho u_wy u_bt u_ps b_pt u_tg u_sn b_ip u_ic b_ah b_be b_me u_wd b_tr b_ld u_st b_wn u_id)), (b_tp, (arI G 400 v_tp))] sz)) 0 0 (va_A [(b_o, (oc12 u_th u_sa b_rf b_ro b_im b_ke u_fd b_tp u_td u_fr u_to u_so u_wo u_fa u_bd u_nc b_nl u_co b_op b_ar u_le b_pi b_pa u_pd u_od b_ws b_hw u_la b_se b_re u_bk u_va u_su u_ce u_ho u_wy u_bt u_ps b_pt u_tg u_sn b_ip u_ic b_ah b_be b_me u_wd b_tr b_ld u_st b_wn u_id)), (b_tp, (arI G 400 v_tp))] sz) := by
  refine Met.ofW (cc := cX12_begin) (maxL := 1) (ret := none) (by decide +kernel) rfl ?_
  intro p e s m args below meth c s₁ B hml hv
  obtain ⟨rfl, hsz, hP, hK, hD0, hN, hT⟩ := hv
  have hx := B.exec
  have hb := B.bytes
  have hr := B.returns
  have hts : ∀ w ∈ tblG, w.before _ s = true := fun w h => atoms_spec (ws := (wsG yX12_begin cX12_begin 1 none)) B.pre w (List.mem_cons_of_mem _ h)
  have hown : s.vm.findClass RX12 = some m.cls := findClass_of_methodNamed B.named
  have hlocks := B.notSynchronized
  subst hsz
  have hD := hD0.self (sz := s.heap.size)
  generalize hAe : va_A [(b_o, (oc12 u_th u_sa b_rf b_ro b_im b_ke u_fd b_tp u_td u_fr u_to u_so u_wo u_fa u_bd u_nc b_nl u_co b_op b_ar u_le b_pi b_pa u_pd u_od b_ws b_hw u_la b_se b_re u_bk u_va u_su u_ce u_ho u_wy u_bt u_ps b_pt u_tg u_sn b_ip u_ic b_ah b_be b_me u_wd b_tr b_ld u_st b_wn u_id)), (b_tp, (arI G 400 v_tp))] s.heap.size = A at hD hT ⊢
  have hA : ∀ q : Nat, s.heap.size ≤ q → A q := fun q h => by rw [← hAe]; exact Or.inr h
  have hS : va_S A s.heap s.heap [] := va_S.rf
  replace hP : va_P G.1 vwCl [(b_o, (oc12 u_th u_sa b_rf b_ro b_im b_ke u_fd b_tp u_td u_fr u_to u_so u_wo u_fa u_bd u_nc b_nl u_co b_op b_ar u_le b_pi b_pa u_pd u_od b_ws b_hw u_la b_se b_re u_bk u_va u_su u_ce u_ho u_wy u_bt u_ps b_pt u_tg u_sn b_ip u_ic b_ah b_be b_me u_wd b_tr b_ld u_st b_wn u_id)), (b_tp, (arI G 400 v_tp))] s.heap := hP
  have hl := lv_entry ([.ref b_o]) (n := 1) (Nat.le_of_ble_eq_true rfl)
  rw [lg_entry_eq]
  generalize (lg_sl ([.ref b_o]) ++ List.replicate (1 - (lg_sl ([.ref b_o])).length) Slot.unset).toArray = ls at hl ⊢
  replace hl : lv_has ls 1 [(0, .ref b_o)] := hl
  have z00 : (0 : Int32).toInt = 0 := (by decide +kernel)
  refine lv_aload_n hx hb dX12_begin_0 rfl (lv_at hl 0 rfl) ?_
  refine lv_iconst (v := 0) hx hb dX12_begin_1 (by decide +kernel) ?_
  refine va_put (D := G.1) (ci := 12) (v := .int 0) (ty := .int) (C := RX12) (T := TX12) (N := 52) hx hb hts inG_X12 tyX12 tyX12_ok nmX12 hown hK hP hD hS 0 rfl rfl 10 (by decide +kernel) (hts _ fl_X12_202) (fun _ h9 => h9) rfl (by decide +kernel) rfl rfl (Nat.le_of_ble_eq_true rfl) dX12_begin_2 ?_
  clear hP hD hS
  intro H locs hP hD hS
  refine g5_rs [(b_o, (oc12 u_th u_sa b_rf b_ro b_im b_ke u_fd b_tp u_td u_fr 0 u_so u_wo u_fa u_bd u_nc b_nl u_co b_op b_ar u_le b_pi b_pa u_pd u_od b_ws b_hw u_la b_se b_re u_bk u_va u_su u_ce u_ho u_wy u_bt u_ps b_pt u_tg u_sn b_ip u_ic b_ah b_be b_me u_wd b_tr b_ld u_st b_wn u_id)), (b_tp, (arI G 400 v_tp))] hP hD ?_
  clear hP hD
  intro hP hD
  refine lv_aload_n hx hb dX12_begin_5 rfl (lv_at hl 0 rfl) ?_
  refine W.eq (g2 := F0 m 6 ls [.ref b_o]) rfl ?_
  refine lv_iconst (v := 0) hx hb dX12_begin_6 (by decide +kernel) ?_
  refine va_put (D := G.1) (ci := 12) (v := .int 0) (ty := .boolean) (C := RX12) (T := TX12) (N := 52) hx hb hts inG_X12 tyX12 tyX12_ok nmX12 hown hK hP hD hS 0 rfl rfl 14 (by decide +kernel) (hts _ fl_X12_205) (fun _ h9 => h9) rfl (by decide +kernel) rfl rfl (Nat.le_of_ble_eq_true rfl) dX12_begin_7 ?_
  clear hP hD hS
  intro H locs hP hD hS
  refine g5_rs [(b_o, (oc12 u_th u_sa b_rf b_ro b_im b_ke u_fd b_tp u_td u_fr 0 u_so u_wo u_fa 0 u_nc b_nl u_co b_op b_ar u_le b_pi b_pa u_pd u_od b_ws b_hw u_la b_se b_re u_bk u_va u_su u_ce u_ho u_wy u_bt u_ps b_pt u_tg u_sn b_ip u_ic b_ah b_be b_me u_wd b_tr b_ld u_st b_wn u_id)), (b_tp, (arI G 400 v_tp))] hP hD ?_
  clear hP hD
  intro hP hD
  refine lv_aload_n hx hb dX12_begin_10 rfl (lv_at hl 0 rfl) ?_
  refine lv_iconst (v := (-1)) hx hb dX12_begin_11 (by decide +kernel) ?_
  refine va_put (D := G.1) (ci := 12) (v := .int (-1)) (ty := .int) (C := RX12) (T := TX12) (N := 52) hx hb hts inG_X12 tyX12 tyX12_ok nmX12 hown hK hP hD hS 0 rfl rfl 13 (by decide +kernel) (hts _ fl_X12_26) (fun _ h9 => h9) rfl (by decide +kernel) rfl rfl (Nat.le_of_ble_eq_true rfl) dX12_begin_12 ?_
  clear hP hD hS
  intro H locs hP hD hS
  refine g5_rs [(b_o, (oc12 u_th u_sa b_rf b_ro b_im b_ke u_fd b_tp u_td u_fr 0 u_so u_wo (-1) 0 u_nc b_nl u_co b_op b_ar u_le b_pi b_pa u_pd u_od b_ws b_hw u_la b_se b_re u_bk u_va u_su u_ce u_ho u_wy u_bt u_ps b_pt u_tg u_sn b_ip u_ic b_ah b_be b_me u_wd b_tr b_ld u_st b_wn u_id)), (b_tp, (arI G 400 v_tp))] hP hD ?_
  clear hP hD
  intro hP hD
  refine W.eq (g2 := F0 m 15 ls []) rfl ?_
  refine lv_aload_n hx hb dX12_begin_15 rfl (lv_at hl 0 rfl) ?_
  obtain ⟨hPc, hDc, hFc⟩ := g5_sub3 (wc := [(b_o, (oc12 u_th u_sa b_rf b_ro b_im b_ke u_fd b_tp u_td u_fr 0 u_so u_wo (-1) 0 u_nc b_nl u_co b_op b_ar u_le b_pi b_pa u_pd u_od b_ws b_hw u_la b_se b_re u_bk u_va u_su u_ce u_ho u_wy u_bt u_ps b_pt u_tg u_sn b_ip u_ic b_ah b_be b_me u_wd b_tr b_ld u_st b_wn u_id)), (b_tp, (arI G 400 v_tp))]) hP hD hS hA [0, 1] (by decide +kernel) rfl
  refine va_callv (va_runV (As := []) (rest := []) ⟨hx, hb, hml, hown, hts⟩ (n_nextX l G b_o b_tp b_rf b_ro b_im b_ke b_nl b_op b_ar b_pi b_pa b_ws b_hw b_se b_re b_pt b_ip b_ah b_be b_me b_tr b_ld b_wn H.size u_th u_sa u_fd u_td u_fr 0 u_so (-1) 0 u_nc u_co u_le u_pd u_od u_la u_bk u_ce u_ho u_wy u_bt u_ps u_tg u_sn u_ic u_wd u_id u_wo u_va u_su u_st v_tp h_u_td h_u_fr ⟨by decide, by decide⟩ ⟨by decide, by decide⟩ h_u_nc h_u_co h_u_pd h_u_la h_u_bk h_u_ce h_u_ho h_u_wy h_u_bt h_u_ps h_u_ic h_u_id (by omega)) (cwV 0 hts gV_X12_208 rfl rfl rfl hv_X12_next ⟨Nat.le_of_ble_eq_true rfl, Nat.le_of_ble_eq_true rfl⟩) (g5_preV hPc hK hDc hN hT hS hFc (ci := 12) (q0 := 0) rfl rfl) rfl rfl hl.1 rfl (lv_room (Nat.le_of_ble_eq_true rfl)) dX12_begin_16 ⟨Nat.le_of_ble_eq_true rfl, Nat.le_of_ble_eq_true rfl⟩) hS (fun q _ h => hFc q h) hFc (fun u t H locs ht hvm hw hB hz1 hk1 hS => ?_)
  obtain ⟨hP1, hD1⟩ := hB
  have hP1 := g5_ht ht hP1
  obtain ⟨z6, z7, z8, z9, (i_1 : 0 ≤ z6.toInt ∧ z6.toInt ≤ 400), (i_2 : 0 ≤ z7.toInt ∧ z7.toInt ≤ 400), (i_3 : (0 : Int32).toInt ≤ z6.toInt ∧ z6.toInt ≤ z7.toInt ∧ z7.toInt ≤ u_td.toInt), (i_4 : TKs z8.toInt z6.toInt z7.toInt), (i_5 : TOKA v_tp u_td.toInt.toNat (skT v_tp u_td.toInt.toNat (0 : Int32).toInt.toNat) z6 z7 z8 z9), rfl⟩ := hw
  have hJ9 := va_join (wr := []) hP hD [0, 1] [] rfl rfl (by decide +kernel) (by decide +kernel) hk1 hFc hP1 hD1
  clear hP hD hPc hDc hFc ht hvm hz1 hk1 hP1 hD1
  obtain ⟨hP, hD⟩ := hJ9
  refine g5_rs [(b_o, (oc12 u_th u_sa b_rf b_ro b_im b_ke u_fd b_tp u_td z6 z7 z8 z9 (-1) 0 u_nc b_nl u_co b_op b_ar u_le b_pi b_pa u_pd u_od b_ws b_hw u_la b_se b_re u_bk u_va u_su u_ce u_ho u_wy u_bt u_ps b_pt u_tg u_sn b_ip u_ic b_ah b_be b_me u_wd b_tr b_ld u_st b_wn u_id)), (b_tp, (arI G 400 v_tp))] hP hD ?_
  clear hP hD
  intro hP hD
  exact W.vret hx hb hr (fun t ht hW => ⟨⟨[(b_o, (oc12 u_th u_sa b_rf b_ro b_im b_ke u_fd b_tp u_td z6 z7 z8 z9 (-1) 0 u_nc b_nl u_co b_op b_ar u_le b_pi b_pa u_pd u_od b_ws b_hw u_la b_se b_re u_bk u_va u_su u_ce u_ho u_wy u_bt u_ps b_pt u_tg u_sn b_ip u_ic b_ah b_be b_me u_wd b_tr b_ld u_st b_wn u_id)), (b_tp, (arI G 400 v_tp))], rfl, ⟨z6, z7, z8, z9, i_1, i_2, by omega, i_4, toka_b (by decide +kernel) i_5, rfl⟩, by rw [ht]; exact hP.sub [0, 1] rfl, hD.sub [0, 1] (by decide +kernel) rfl⟩, hS.F ht⟩) hS.2.2 dX12_begin_19
