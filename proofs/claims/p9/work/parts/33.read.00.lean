theorem dgJ7_copyOf_59c91_0 : ∀ r ∈ ([(0, (.iload_n 1, 1)), (1, (.aload_n 0, 1)), (2, (.arraylength, 1)), (3, (.if_icmp .ne 11, 3)), (6, (.aload_n 0, 1)), (7, (.invokevirtual 316, 3)), (10, (.checkcast 317, 3)), (13, (.areturn, 1)), (14, (.iload_n 1, 1)), (15, (.newarray .int, 2)), (17, (.astore_n 2, 1)), (18, (.aload_n 0, 1)), (19, (.iconst 0, 1)), (20, (.aload_n 2, 1)), (21, (.iconst 0, 1)), (22, (.aload_n 0, 1)), (23, (.arraylength, 1)), (24, (.iload_n 1, 1)), (25, (.invokestatic 304, 3)), (28, (.invokestatic 150, 3)), (31, (.aload_n 2, 1)), (32, (.areturn, 1))] : List (Nat × (Instr × Nat))), decode cJ7_copyOf_59c91 r.1 = .ok r.2 := by decide +kernel
theorem dJ7_copyOf_59c91_0 : decode cJ7_copyOf_59c91 0 = .ok (.iload_n 1, 1) := dgJ7_copyOf_59c91_0 (0, (.iload_n 1, 1)) (List.mem_of_getElem? (i := 0) rfl)
theorem dJ7_copyOf_59c91_1 : decode cJ7_copyOf_59c91 1 = .ok (.aload_n 0, 1) := dgJ7_copyOf_59c91_0 (1, (.aload_n 0, 1)) (List.mem_of_getElem? (i := 1) rfl)
theorem dJ7_copyOf_59c91_2 : decode cJ7_copyOf_59c91 2 = .ok (.arraylength, 1) := dgJ7_copyOf_59c91_0 (2, (.arraylength, 1)) (List.mem_of_getElem? (i := 2) rfl)
theorem dJ7_copyOf_59c91_3 : decode cJ7_copyOf_59c91 3 = .ok (.if_icmp .ne 11, 3) := dgJ7_copyOf_59c91_0 (3, (.if_icmp .ne 11, 3)) (List.mem_of_getElem? (i := 3) rfl)
theorem dJ7_copyOf_59c91_6 : decode cJ7_copyOf_59c91 6 = .ok (.aload_n 0, 1) := dgJ7_copyOf_59c91_0 (6, (.aload_n 0, 1)) (List.mem_of_getElem? (i := 4) rfl)
theorem dJ7_copyOf_59c91_7 : decode cJ7_copyOf_59c91 7 = .ok (.invokevirtual 316, 3) := dgJ7_copyOf_59c91_0 (7, (.invokevirtual 316, 3)) (List.mem_of_getElem? (i := 5) rfl)
theorem dJ7_copyOf_59c91_10 : decode cJ7_copyOf_59c91 10 = .ok (.checkcast 317, 3) := dgJ7_copyOf_59c91_0 (10, (.checkcast 317, 3)) (List.mem_of_getElem? (i := 6) rfl)
theorem dJ7_copyOf_59c91_13 : decode cJ7_copyOf_59c91 13 = .ok (.areturn, 1) := dgJ7_copyOf_59c91_0 (13, (.areturn, 1)) (List.mem_of_getElem? (i := 7) rfl)
theorem dJ7_copyOf_59c91_14 : decode cJ7_copyOf_59c91 14 = .ok (.iload_n 1, 1) := dgJ7_copyOf_59c91_0 (14, (.iload_n 1, 1)) (List.mem_of_getElem? (i := 8) rfl)
theorem dJ7_copyOf_59c91_15 : decode cJ7_copyOf_59c91 15 = .ok (.newarray .int, 2) := dgJ7_copyOf_59c91_0 (15, (.newarray .int, 2)) (List.mem_of_getElem? (i := 9) rfl)
theorem dJ7_copyOf_59c91_17 : decode cJ7_copyOf_59c91 17 = .ok (.astore_n 2, 1) := dgJ7_copyOf_59c91_0 (17, (.astore_n 2, 1)) (List.mem_of_getElem? (i := 10) rfl)
theorem dJ7_copyOf_59c91_18 : decode cJ7_copyOf_59c91 18 = .ok (.aload_n 0, 1) := dgJ7_copyOf_59c91_0 (18, (.aload_n 0, 1)) (List.mem_of_getElem? (i := 11) rfl)
theorem dJ7_copyOf_59c91_19 : decode cJ7_copyOf_59c91 19 = .ok (.iconst 0, 1) := dgJ7_copyOf_59c91_0 (19, (.iconst 0, 1)) (List.mem_of_getElem? (i := 12) rfl)
theorem dJ7_copyOf_59c91_20 : decode cJ7_copyOf_59c91 20 = .ok (.aload_n 2, 1) := dgJ7_copyOf_59c91_0 (20, (.aload_n 2, 1)) (List.mem_of_getElem? (i := 13) rfl)
theorem dJ7_copyOf_59c91_21 : decode cJ7_copyOf_59c91 21 = .ok (.iconst 0, 1) := dgJ7_copyOf_59c91_0 (21, (.iconst 0, 1)) (List.mem_of_getElem? (i := 14) rfl)
theorem dJ7_copyOf_59c91_22 : decode cJ7_copyOf_59c91 22 = .ok (.aload_n 0, 1) := dgJ7_copyOf_59c91_0 (22, (.aload_n 0, 1)) (List.mem_of_getElem? (i := 15) rfl)
theorem dJ7_copyOf_59c91_23 : decode cJ7_copyOf_59c91 23 = .ok (.arraylength, 1) := dgJ7_copyOf_59c91_0 (23, (.arraylength, 1)) (List.mem_of_getElem? (i := 16) rfl)
theorem dJ7_copyOf_59c91_24 : decode cJ7_copyOf_59c91 24 = .ok (.iload_n 1, 1) := dgJ7_copyOf_59c91_0 (24, (.iload_n 1, 1)) (List.mem_of_getElem? (i := 17) rfl)
theorem dJ7_copyOf_59c91_25 : decode cJ7_copyOf_59c91 25 = .ok (.invokestatic 304, 3) := dgJ7_copyOf_59c91_0 (25, (.invokestatic 304, 3)) (List.mem_of_getElem? (i := 18) rfl)
theorem dJ7_copyOf_59c91_28 : decode cJ7_copyOf_59c91 28 = .ok (.invokestatic 150, 3) := dgJ7_copyOf_59c91_0 (28, (.invokestatic 150, 3)) (List.mem_of_getElem? (i := 19) rfl)
theorem dJ7_copyOf_59c91_31 : decode cJ7_copyOf_59c91 31 = .ok (.aload_n 2, 1) := dgJ7_copyOf_59c91_0 (31, (.aload_n 2, 1)) (List.mem_of_getElem? (i := 20) rfl)
theorem dJ7_copyOf_59c91_32 : decode cJ7_copyOf_59c91 32 = .ok (.areturn, 1) := dgJ7_copyOf_59c91_0 (32, (.areturn, 1)) (List.mem_of_getElem? (i := 21) rfl)
theorem acl_I : Cond.arrayClass .int ∈ tblG := tg 152 (by decide +kernel) (by decide +kernel)
theorem ml_J7_304 : Cond.methodLink RJ7 304 Lib.Math.min.name ∈ tblG := tg 768 (by decide +kernel) (by decide +kernel)
theorem st_Math_minI : Cond.static Lib.Math.min.name ∈ tblG := tg 769 (by decide +kernel) (by decide +kernel)
theorem cd_Math_minI : Cond.code Lib.Math.min.name Lib.Math.min.code 2 (some .int) ∈ tblG := tg 770 (by decide +kernel) (by decide +kernel)
theorem ml_J7_150 : Cond.methodLink RJ7 150 arraycopyName ∈ tblG := tg 771 (by decide +kernel) (by decide +kernel)
theorem ml_clone : Cond.methodLink RJ7 316 ⟨"[I", "clone", "()Ljava/lang/Object;"⟩ ∈ tblG := tg 761 (by decide +kernel) (by decide +kernel)
theorem sm_clone : Cond.sameMethod "[I" "java/lang/Object" "clone" "()Ljava/lang/Object;" ∈ tblG := tg 762 (by decide +kernel) (by decide +kernel)
theorem na_clone : Cond.native ⟨"java/lang/Object", "clone", "()Ljava/lang/Object;"⟩ ∈ tblG := tg 763 (by decide +kernel) (by decide +kernel)
theorem im_clone : Cond.instanceMethod ⟨"java/lang/Object", "clone", "()Ljava/lang/Object;"⟩ ∈ tblG := tg 764 (by decide +kernel) (by decide +kernel)
theorem se_clone : Cond.selects "[I" ⟨"[I", "clone", "()Ljava/lang/Object;"⟩ ⟨"java/lang/Object", "clone", "()Ljava/lang/Object;"⟩ ∈ tblG := tg 765 (by decide +kernel) (by decide +kernel)
theorem cl_J7_317 : Cond.classLink RJ7 317 "[I" ∈ tblG := tg 767 (by decide +kernel) (by decide +kernel)
set_option maxHeartbeats 4000000 in
set_option maxRecDepth 100000 in
theorem k_copyOf12 (l : Launch) (G : g5_G) (a_0 : Nat) (sz : Nat) (p_n : Int32) (f_a : Nat → Int32) (h_p_n : 0 ≤ p_n.toInt ∧ p_n.toInt ≤ 12) : Met l yJ7_copyOf_59c91 (wsG yJ7_copyOf_59c91 cJ7_copyOf_59c91 3 (some (.array .int))) ({ frames := 1, cells := 1, slots := 12, locals := 60 }) (va_Pc [.ref a_0, .int p_n] (g5_P G [(a_0, (arI G 12 f_a))] sz)) (va_Qq (fun (r : Option Nat) (u : va_W) => (∃ (o_q : Nat) (o_n : Nat) (o_f : Nat → Int32), ((o_n : Int) = p_n.toInt) ∧ (∀ j : Nat, j < o_n → o_f j = f_a j) ∧ (r = some o_q) ∧ (u = [(a_0, (arI G 12 f_a)), (o_q, (arI G o_n o_f))]))) (g5_B G (va_A [(a_0, (arI G 12 f_a))] sz)) (va_A [(a_0, (arI G 12 f_a))] sz)) 1 12 (va_A [(a_0, (arI G 12 f_a))] sz) := by
  refine Met.ofW (cc := cJ7_copyOf_59c91) (maxL := 3) (ret := (some (.array .int))) (by decide) rfl ?_
  intro p e s m args below meth c s₁ B hml hv
  obtain ⟨rfl, hsz, hP, hK, hD0, hN, hT⟩ := hv
  have hx := B.exec
  have hb := B.bytes
  have hr := B.returns
  have hts : ∀ w ∈ tblG, w.before _ s = true := fun w h => atoms_spec (ws := (wsG yJ7_copyOf_59c91 cJ7_copyOf_59c91 3 (some (.array .int)))) B.pre w (List.mem_cons_of_mem _ h)
  have hown : s.vm.findClass RJ7 = some m.cls := findClass_of_methodNamed B.named
  have hlocks := B.notSynchronized
  subst hsz
  have hD := hD0.self (sz := s.heap.size)
  generalize hAe : va_A [(a_0, (arI G 12 f_a))] s.heap.size = A at hD hT ⊢
  have hA : ∀ q : Nat, s.heap.size ≤ q → A q := fun q h => by rw [← hAe]; exact Or.inr h
  have hS : va_S A s.heap s.heap [] := va_S.rf
  have hP : va_P G.1 vwCl [(a_0, (arI G 12 f_a))] s.heap := hP
  have hl := lv_entry ([.ref a_0, .int p_n]) (n := 3) (Nat.le_of_ble_eq_true rfl)
  rw [lg_entry_eq]
  generalize (lg_sl ([.ref a_0, .int p_n]) ++ List.replicate (3 - (lg_sl ([.ref a_0, .int p_n])).length) Slot.unset).toArray = ls at hl ⊢
  have hl : lv_has ls 3 [(0, .ref a_0), (1, .int p_n)] := hl
  refine lv_iload_n hx hb dJ7_copyOf_59c91_0 rfl (lv_at hl 1 rfl) ?_
  refine lv_aload_n hx hb dJ7_copyOf_59c91_1 rfl (lv_at hl 0 rfl) ?_
  refine va_alen hx hb hK hP 0 0 rfl rfl (v := 12) (by show Int32.ofNat 12 = 12; decide) dJ7_copyOf_59c91_2 ?_
  refine lv_icmp_ne (tgt := 14) hx hb dJ7_copyOf_59c91_3 (by decide) (fun c_1 => ?_) (fun c_1 => ?_)
  ·
    have n_1 : gNe (p_n.toInt) (12) := by have z := g5_ne (a := p_n.toInt) (b := 12) (by rfl) (by decide) c_1; unfold gNe; omega
    have i_1 : p_n.toInt ≤ 11 := by have z := g5_ne (a := p_n.toInt) (b := 12) (by rfl) (by decide) c_1; omega
    refine lv_iload_n hx hb dJ7_copyOf_59c91_14 rfl (lv_at hl 1 rfl) ?_
    refine va_newa (D := G.1) (atype := .int) (ty := .int) hx hb (hts _ acl_I) rfl hK hP hD hS hA (n := p_n) (N' := p_n.toNatClampNeg) (a0 := (p_n.toNatClampNeg, .inl (fun _ => 0))) (fun _ => rfl) (g_nlt0 (by omega)) rfl (by have zz := g5_clamp p_n; show p_n.toNatClampNeg * 4 ≤ _; omega) (Nat.le_of_ble_eq_true rfl) (by have zz := g5_clamp p_n; show 0 + p_n.toNatClampNeg ≤ 12; omega) dJ7_copyOf_59c91_15 (fun q2 cA H hKn hP hD hS => ?_)
    obtain rfl : cA = G.2 0 := g5_cI hKn
    refine g5_rs [(a_0, (arI G 12 f_a)), (q2, (arI G p_n.toNatClampNeg (fun _ => 0)))] hP hD (fun hP hD => ?_)
    refine W.widen (k := 1) (n := 11) (Nat.le_of_ble_eq_true rfl) (by have zz := g5_clamp p_n; omega) ?_
    refine lv_astore_n (lv' := [(2, .ref q2), (0, .ref a_0), (1, .int p_n)]) hx hb dJ7_copyOf_59c91_17 rfl hl (by decide) rfl (fun ls hl => ?_)
    refine lv_aload_n hx hb dJ7_copyOf_59c91_18 rfl (lv_at hl 1 rfl) ?_
    refine lv_iconst (v := 0) hx hb dJ7_copyOf_59c91_19 (by decide) ?_
    refine lv_aload_n hx hb dJ7_copyOf_59c91_20 rfl (lv_at hl 0 rfl) ?_
    refine lv_iconst (v := 0) hx hb dJ7_copyOf_59c91_21 (by decide) ?_
    refine lv_aload_n hx hb dJ7_copyOf_59c91_22 rfl (lv_at hl 1 rfl) ?_
    refine va_alen hx hb hK hP 0 0 rfl rfl (v := 12) (by show Int32.ofNat 12 = 12; decide) dJ7_copyOf_59c91_23 ?_
    refine lv_iload_n hx hb dJ7_copyOf_59c91_24 rfl (lv_at hl 2 rfl) ?_
    refine va_mmin hx hb (hml.trans hl.1.symm) hown (hts _ ml_J7_304) (hts _ st_Math_minI) (hts _ ini_Math) (hts _ cd_Math_minI) (Nat.le_of_ble_eq_true rfl) (Nat.le_of_ble_eq_true rfl) (Nat.le_of_ble_eq_true rfl) (Nat.le_of_ble_eq_true rfl) dJ7_copyOf_59c91_25 ?_
    have zk_3 : (12 : Int32).toInt = 12 := (by decide)
    have hm_4 := g_minI 12 p_n
    refine va_copyi hx hb (hml.trans hl.1.symm) hown (hts _ ml_J7_150) (hts _ ac_nat) (hts _ ac_st) (hts _ ac_ini) hK hP hD hS 0 1 0 0 rfl rfl rfl rfl rfl (sp := 0) (dp := 0) (n := (if p_n < 12 then p_n else 12)) (by decide) (by decide) (g_nlt0 (by omega)) (by have z5 : (0 : Int32).toNatClampNeg = 0 := (by decide); have z6 := g5_clamp (if p_n < 12 then p_n else 12); have z7 := g5_clamp p_n; omega) (by have z8 : (0 : Int32).toNatClampNeg = 0 := (by decide); have z9 := g5_clamp (if p_n < 12 then p_n else 12); have z10 := g5_clamp p_n; omega) (fun _ _ => rfl) (Nat.le_of_ble_eq_true rfl) (by decide) dJ7_copyOf_59c91_28 (fun H locs hP hD hS => ?_)
    refine g5_rs [(a_0, (arI G 12 f_a)), (q2, (arI G p_n.toNatClampNeg (va_cpy f_a (fun _ => 0) 0 0 (if p_n < 12 then p_n else 12).toNatClampNeg)))] hP hD (fun hP hD => ?_)
    refine lv_aload_n hx hb dJ7_copyOf_59c91_31 rfl (lv_at hl 0 rfl) ?_
    refine W.widen (k := 1) (n := 12) (by decide) (by decide) ?_
    exact W.aret (v := .ref q2) hx hb hr (Or.inr ⟨_, rfl⟩) (Or.inr ⟨_, rfl⟩) (fun t ht hW => ⟨⟨some q2, [(a_0, (arI G 12 f_a)), (q2, (arI G p_n.toNatClampNeg (va_cpy f_a (fun _ => 0) 0 0 (if p_n < 12 then p_n else 12).toNatClampNeg)))], rfl, ⟨q2, p_n.toNatClampNeg, (va_cpy f_a (fun _ => 0) 0 0 (if p_n < 12 then p_n else 12).toNatClampNeg), by have zz := g5_clamp p_n; omega, cpy_ok (by have zz := g5_clamp p_n; omega), rfl, rfl⟩, by rw [ht]; exact hP.sub [0, 1] rfl, hD.sub [0, 1] (by decide) rfl⟩, hS.F ht⟩) hS.2.2 dJ7_copyOf_59c91_32
  ·
    have i_1 : p_n.toInt = 12 := by have z := g5_neN (a := p_n.toInt) (b := 12) (by rfl) (by decide) c_1; omega
    refine lv_aload_n hx hb dJ7_copyOf_59c91_6 rfl (lv_at hl 0 rfl) ?_
    refine va_clone hx hb (hml.trans hl.1.symm) hown (hts _ ml_clone) (hts _ sm_clone) (hts _ na_clone) (hts _ im_clone) (hts _ se_clone) hN.2.2.2 hK hP hD hS hA 0 0 rfl rfl (g_find hK) g_fitI (Nat.le_of_ble_eq_true rfl) (by decide) (Nat.le_of_ble_eq_true rfl) (Nat.le_of_ble_eq_true rfl) dJ7_copyOf_59c91_7 (fun q11 H hKn hP hD hS => ?_)
    refine g5_rs [(a_0, (arI G 12 f_a)), (q11, (arI G 12 f_a))] hP hD (fun hP hD => ?_)
    refine W.widen (k := 1) (n := 12) (Nat.le_of_ble_eq_true rfl) (Nat.le_of_ble_eq_true rfl) ?_
    refine va_castA hx hb hown (hts _ cl_J7_317) hP 1 rfl (g_find hK) dJ7_copyOf_59c91_10 ?_
    exact W.aret (v := .ref q11) hx hb hr (Or.inr ⟨_, rfl⟩) (Or.inr ⟨_, rfl⟩) (fun t ht hW => ⟨⟨some q11, [(a_0, (arI G 12 f_a)), (q11, (arI G 12 f_a))], rfl, ⟨q11, 12, f_a, by have zz := g5_clamp p_n; omega, fun _ _ => rfl, rfl, rfl⟩, by rw [ht]; exact hP.sub [0, 1] rfl, hD.sub [0, 1] (by decide) rfl⟩, hS.F ht⟩) hS.2.2 dJ7_copyOf_59c91_13
set_option maxHeartbeats 4000000 in
set_option maxRecDepth 100000 in
theorem k_copyOf13 (l : Launch) (G : g5_G) (a_0 : Nat) (sz : Nat) (p_n : Int32) (f_a : Nat → Int32) (h_p_n : 0 ≤ p_n.toInt ∧ p_n.toInt ≤ 13) : Met l yJ7_copyOf_59c91 (wsG yJ7_copyOf_59c91 cJ7_copyOf_59c91 3 (some (.array .int))) ({ frames := 1, cells := 1, slots := 13, locals := 60 }) (va_Pc [.ref a_0, .int p_n] (g5_P G [(a_0, (arI G 13 f_a))] sz)) (va_Qq (fun (r : Option Nat) (u : va_W) => (∃ (o_q : Nat) (o_n : Nat) (o_f : Nat → Int32), ((o_n : Int) = p_n.toInt) ∧ (∀ j : Nat, j < o_n → o_f j = f_a j) ∧ (r = some o_q) ∧ (u = [(a_0, (arI G 13 f_a)), (o_q, (arI G o_n o_f))]))) (g5_B G (va_A [(a_0, (arI G 13 f_a))] sz)) (va_A [(a_0, (arI G 13 f_a))] sz)) 1 13 (va_A [(a_0, (arI G 13 f_a))] sz) := by
  refine Met.ofW (cc := cJ7_copyOf_59c91) (maxL := 3) (ret := (some (.array .int))) (by decide) rfl ?_
  intro p e s m args below meth c s₁ B hml hv
  obtain ⟨rfl, hsz, hP, hK, hD0, hN, hT⟩ := hv
  have hx := B.exec
  have hb := B.bytes
  have hr := B.returns
  have hts : ∀ w ∈ tblG, w.before _ s = true := fun w h => atoms_spec (ws := (wsG yJ7_copyOf_59c91 cJ7_copyOf_59c91 3 (some (.array .int)))) B.pre w (List.mem_cons_of_mem _ h)
  have hown : s.vm.findClass RJ7 = some m.cls := findClass_of_methodNamed B.named
  have hlocks := B.notSynchronized
  subst hsz
  have hD := hD0.self (sz := s.heap.size)
  generalize hAe : va_A [(a_0, (arI G 13 f_a))] s.heap.size = A at hD hT ⊢
  have hA : ∀ q : Nat, s.heap.size ≤ q → A q := fun q h => by rw [← hAe]; exact Or.inr h
  have hS : va_S A s.heap s.heap [] := va_S.rf
  have hP : va_P G.1 vwCl [(a_0, (arI G 13 f_a))] s.heap := hP
  have hl := lv_entry ([.ref a_0, .int p_n]) (n := 3) (Nat.le_of_ble_eq_true rfl)
  rw [lg_entry_eq]
  generalize (lg_sl ([.ref a_0, .int p_n]) ++ List.replicate (3 - (lg_sl ([.ref a_0, .int p_n])).length) Slot.unset).toArray = ls at hl ⊢
  have hl : lv_has ls 3 [(0, .ref a_0), (1, .int p_n)] := hl
  refine lv_iload_n hx hb dJ7_copyOf_59c91_0 rfl (lv_at hl 1 rfl) ?_
  refine lv_aload_n hx hb dJ7_copyOf_59c91_1 rfl (lv_at hl 0 rfl) ?_
  refine va_alen hx hb hK hP 0 0 rfl rfl (v := 13) (by show Int32.ofNat 13 = 13; decide) dJ7_copyOf_59c91_2 ?_
  refine lv_icmp_ne (tgt := 14) hx hb dJ7_copyOf_59c91_3 (by decide) (fun c_1 => ?_) (fun c_1 => ?_)
  ·
    have n_1 : gNe (p_n.toInt) (13) := by have z := g5_ne (a := p_n.toInt) (b := 13) (by rfl) (by decide) c_1; unfold gNe; omega
    have i_1 : p_n.toInt ≤ 12 := by have z := g5_ne (a := p_n.toInt) (b := 13) (by rfl) (by decide) c_1; omega
    refine lv_iload_n hx hb dJ7_copyOf_59c91_14 rfl (lv_at hl 1 rfl) ?_
    refine va_newa (D := G.1) (atype := .int) (ty := .int) hx hb (hts _ acl_I) rfl hK hP hD hS hA (n := p_n) (N' := p_n.toNatClampNeg) (a0 := (p_n.toNatClampNeg, .inl (fun _ => 0))) (fun _ => rfl) (g_nlt0 (by omega)) rfl (by have zz := g5_clamp p_n; show p_n.toNatClampNeg * 4 ≤ _; omega) (Nat.le_of_ble_eq_true rfl) (by have zz := g5_clamp p_n; show 0 + p_n.toNatClampNeg ≤ 13; omega) dJ7_copyOf_59c91_15 (fun q2 cA H hKn hP hD hS => ?_)
    obtain rfl : cA = G.2 0 := g5_cI hKn
    refine g5_rs [(a_0, (arI G 13 f_a)), (q2, (arI G p_n.toNatClampNeg (fun _ => 0)))] hP hD (fun hP hD => ?_)
    refine W.widen (k := 1) (n := 12) (Nat.le_of_ble_eq_true rfl) (by have zz := g5_clamp p_n; omega) ?_
    refine lv_astore_n (lv' := [(2, .ref q2), (0, .ref a_0), (1, .int p_n)]) hx hb dJ7_copyOf_59c91_17 rfl hl (by decide) rfl (fun ls hl => ?_)
    refine lv_aload_n hx hb dJ7_copyOf_59c91_18 rfl (lv_at hl 1 rfl) ?_
    refine lv_iconst (v := 0) hx hb dJ7_copyOf_59c91_19 (by decide) ?_
    refine lv_aload_n hx hb dJ7_copyOf_59c91_20 rfl (lv_at hl 0 rfl) ?_
    refine lv_iconst (v := 0) hx hb dJ7_copyOf_59c91_21 (by decide) ?_
    refine lv_aload_n hx hb dJ7_copyOf_59c91_22 rfl (lv_at hl 1 rfl) ?_
    refine va_alen hx hb hK hP 0 0 rfl rfl (v := 13) (by show Int32.ofNat 13 = 13; decide) dJ7_copyOf_59c91_23 ?_
    refine lv_iload_n hx hb dJ7_copyOf_59c91_24 rfl (lv_at hl 2 rfl) ?_
    refine va_mmin hx hb (hml.trans hl.1.symm) hown (hts _ ml_J7_304) (hts _ st_Math_minI) (hts _ ini_Math) (hts _ cd_Math_minI) (Nat.le_of_ble_eq_true rfl) (Nat.le_of_ble_eq_true rfl) (Nat.le_of_ble_eq_true rfl) (Nat.le_of_ble_eq_true rfl) dJ7_copyOf_59c91_25 ?_
    have zk_3 : (13 : Int32).toInt = 13 := (by decide)
    have hm_4 := g_minI 13 p_n
    refine va_copyi hx hb (hml.trans hl.1.symm) hown (hts _ ml_J7_150) (hts _ ac_nat) (hts _ ac_st) (hts _ ac_ini) hK hP hD hS 0 1 0 0 rfl rfl rfl rfl rfl (sp := 0) (dp := 0) (n := (if p_n < 13 then p_n else 13)) (by decide) (by decide) (g_nlt0 (by omega)) (by have z5 : (0 : Int32).toNatClampNeg = 0 := (by decide); have z6 := g5_clamp (if p_n < 13 then p_n else 13); have z7 := g5_clamp p_n; omega) (by have z8 : (0 : Int32).toNatClampNeg = 0 := (by decide); have z9 := g5_clamp (if p_n < 13 then p_n else 13); have z10 := g5_clamp p_n; omega) (fun _ _ => rfl) (Nat.le_of_ble_eq_true rfl) (by decide) dJ7_copyOf_59c91_28 (fun H locs hP hD hS => ?_)
    refine g5_rs [(a_0, (arI G 13 f_a)), (q2, (arI G p_n.toNatClampNeg (va_cpy f_a (fun _ => 0) 0 0 (if p_n < 13 then p_n else 13).toNatClampNeg)))] hP hD (fun hP hD => ?_)
    refine lv_aload_n hx hb dJ7_copyOf_59c91_31 rfl (lv_at hl 0 rfl) ?_
    refine W.widen (k := 1) (n := 13) (by decide) (by decide) ?_
    exact W.aret (v := .ref q2) hx hb hr (Or.inr ⟨_, rfl⟩) (Or.inr ⟨_, rfl⟩) (fun t ht hW => ⟨⟨some q2, [(a_0, (arI G 13 f_a)), (q2, (arI G p_n.toNatClampNeg (va_cpy f_a (fun _ => 0) 0 0 (if p_n < 13 then p_n else 13).toNatClampNeg)))], rfl, ⟨q2, p_n.toNatClampNeg, (va_cpy f_a (fun _ => 0) 0 0 (if p_n < 13 then p_n else 13).toNatClampNeg), by have zz := g5_clamp p_n; omega, cpy_ok (by have zz := g5_clamp p_n; omega), rfl, rfl⟩, by rw [ht]; exact hP.sub [0, 1] rfl, hD.sub [0, 1] (by decide) rfl⟩, hS.F ht⟩) hS.2.2 dJ7_copyOf_59c91_32
  ·
    have i_1 : p_n.toInt = 13 := by have z := g5_neN (a := p_n.toInt) (b := 13) (by rfl) (by decide) c_1; omega
    refine lv_aload_n hx hb dJ7_copyOf_59c91_6 rfl (lv_at hl 0 rfl) ?_
    refine va_clone hx hb (hml.trans hl.1.symm) hown (hts _ ml_clone) (hts _ sm_clone) (hts _ na_clone) (hts _ im_clone) (hts _ se_clone) hN.2.2.2 hK hP hD hS hA 0 0 rfl rfl (g_find hK) g_fitI (Nat.le_of_ble_eq_true rfl) (by decide) (Nat.le_of_ble_eq_true rfl) (Nat.le_of_ble_eq_true rfl) dJ7_copyOf_59c91_7 (fun q11 H hKn hP hD hS => ?_)
    refine g5_rs [(a_0, (arI G 13 f_a)), (q11, (arI G 13 f_a))] hP hD (fun hP hD => ?_)
    refine W.widen (k := 1) (n := 13) (Nat.le_of_ble_eq_true rfl) (Nat.le_of_ble_eq_true rfl) ?_
    refine va_castA hx hb hown (hts _ cl_J7_317) hP 1 rfl (g_find hK) dJ7_copyOf_59c91_10 ?_
    exact W.aret (v := .ref q11) hx hb hr (Or.inr ⟨_, rfl⟩) (Or.inr ⟨_, rfl⟩) (fun t ht hW => ⟨⟨some q11, [(a_0, (arI G 13 f_a)), (q11, (arI G 13 f_a))], rfl, ⟨q11, 13, f_a, by have zz := g5_clamp p_n; omega, fun _ _ => rfl, rfl, rfl⟩, by rw [ht]; exact hP.sub [0, 1] rfl, hD.sub [0, 1] (by decide) rfl⟩, hS.F ht⟩) hS.2.2 dJ7_copyOf_59c91_13
set_option maxHeartbeats 4000000 in
set_option maxRecDepth 100000 in
theorem k_copyOf400 (l : Launch) (G : g5_G) (a_0 : Nat) (sz : Nat) (p_n : Int32) (f_a : Nat → Int32) (h_p_n : 0 ≤ p_n.toInt ∧ p_n.toInt ≤ 400) : Met l yJ7_copyOf_59c91 (wsG yJ7_copyOf_59c91 cJ7_copyOf_59c91 3 (some (.array .int))) ({ frames := 1, cells := 1, slots := 400, locals := 60 }) (va_Pc [.ref a_0, .int p_n] (g5_P G [(a_0, (arI G 400 f_a))] sz)) (va_Qq (fun (r : Option Nat) (u : va_W) => (∃ (o_q : Nat) (o_n : Nat) (o_f : Nat → Int32), ((o_n : Int) = p_n.toInt) ∧ (∀ j : Nat, j < o_n → o_f j = f_a j) ∧ (r = some o_q) ∧ (u = [(a_0, (arI G 400 f_a)), (o_q, (arI G o_n o_f))]))) (g5_B G (va_A [(a_0, (arI G 400 f_a))] sz)) (va_A [(a_0, (arI G 400 f_a))] sz)) 1 400 (va_A [(a_0, (arI G 400 f_a))] sz) := by
  refine Met.ofW (cc := cJ7_copyOf_59c91) (maxL := 3) (ret := (some (.array .int))) (by decide) rfl ?_
  intro p e s m args below meth c s₁ B hml hv
  obtain ⟨rfl, hsz, hP, hK, hD0, hN, hT⟩ := hv
  have hx := B.exec
  have hb := B.bytes
  have hr := B.returns
  have hts : ∀ w ∈ tblG, w.before _ s = true := fun w h => atoms_spec (ws := (wsG yJ7_copyOf_59c91 cJ7_copyOf_59c91 3 (some (.array .int)))) B.pre w (List.mem_cons_of_mem _ h)
  have hown : s.vm.findClass RJ7 = some m.cls := findClass_of_methodNamed B.named
  have hlocks := B.notSynchronized
  subst hsz
  have hD := hD0.self (sz := s.heap.size)
  generalize hAe : va_A [(a_0, (arI G 400 f_a))] s.heap.size = A at hD hT ⊢
  have hA : ∀ q : Nat, s.heap.size ≤ q → A q := fun q h => by rw [← hAe]; exact Or.inr h
  have hS : va_S A s.heap s.heap [] := va_S.rf
  have hP : va_P G.1 vwCl [(a_0, (arI G 400 f_a))] s.heap := hP
  have hl := lv_entry ([.ref a_0, .int p_n]) (n := 3) (Nat.le_of_ble_eq_true rfl)
  rw [lg_entry_eq]
  generalize (lg_sl ([.ref a_0, .int p_n]) ++ List.replicate (3 - (lg_sl ([.ref a_0, .int p_n])).length) Slot.unset).toArray = ls at hl ⊢
  have hl : lv_has ls 3 [(0, .ref a_0), (1, .int p_n)] := hl
  refine lv_iload_n hx hb dJ7_copyOf_59c91_0 rfl (lv_at hl 1 rfl) ?_
  refine lv_aload_n hx hb dJ7_copyOf_59c91_1 rfl (lv_at hl 0 rfl) ?_
  refine va_alen hx hb hK hP 0 0 rfl rfl (v := 400) (by show Int32.ofNat 400 = 400; decide) dJ7_copyOf_59c91_2 ?_
  refine lv_icmp_ne (tgt := 14) hx hb dJ7_copyOf_59c91_3 (by decide) (fun c_1 => ?_) (fun c_1 => ?_)
  ·
    have n_1 : gNe (p_n.toInt) (400) := by have z := g5_ne (a := p_n.toInt) (b := 400) (by rfl) (by decide) c_1; unfold gNe; omega
    have i_1 : p_n.toInt ≤ 399 := by have z := g5_ne (a := p_n.toInt) (b := 400) (by rfl) (by decide) c_1; omega
    refine lv_iload_n hx hb dJ7_copyOf_59c91_14 rfl (lv_at hl 1 rfl) ?_
    refine va_newa (D := G.1) (atype := .int) (ty := .int) hx hb (hts _ acl_I) rfl hK hP hD hS hA (n := p_n) (N' := p_n.toNatClampNeg) (a0 := (p_n.toNatClampNeg, .inl (fun _ => 0))) (fun _ => rfl) (g_nlt0 (by omega)) rfl (by have zz := g5_clamp p_n; show p_n.toNatClampNeg * 4 ≤ _; omega) (Nat.le_of_ble_eq_true rfl) (by have zz := g5_clamp p_n; show 0 + p_n.toNatClampNeg ≤ 400; omega) dJ7_copyOf_59c91_15 (fun q2 cA H hKn hP hD hS => ?_)
    obtain rfl : cA = G.2 0 := g5_cI hKn
    refine g5_rs [(a_0, (arI G 400 f_a)), (q2, (arI G p_n.toNatClampNeg (fun _ => 0)))] hP hD (fun hP hD => ?_)
    refine W.widen (k := 1) (n := 399) (Nat.le_of_ble_eq_true rfl) (by have zz := g5_clamp p_n; omega) ?_
    refine lv_astore_n (lv' := [(2, .ref q2), (0, .ref a_0), (1, .int p_n)]) hx hb dJ7_copyOf_59c91_17 rfl hl (by decide) rfl (fun ls hl => ?_)
    refine lv_aload_n hx hb dJ7_copyOf_59c91_18 rfl (lv_at hl 1 rfl) ?_
    refine lv_iconst (v := 0) hx hb dJ7_copyOf_59c91_19 (by decide) ?_
    refine lv_aload_n hx hb dJ7_copyOf_59c91_20 rfl (lv_at hl 0 rfl) ?_
    refine lv_iconst (v := 0) hx hb dJ7_copyOf_59c91_21 (by decide) ?_
    refine lv_aload_n hx hb dJ7_copyOf_59c91_22 rfl (lv_at hl 1 rfl) ?_
    refine va_alen hx hb hK hP 0 0 rfl rfl (v := 400) (by show Int32.ofNat 400 = 400; decide) dJ7_copyOf_59c91_23 ?_
    refine lv_iload_n hx hb dJ7_copyOf_59c91_24 rfl (lv_at hl 2 rfl) ?_
    refine va_mmin hx hb (hml.trans hl.1.symm) hown (hts _ ml_J7_304) (hts _ st_Math_minI) (hts _ ini_Math) (hts _ cd_Math_minI) (Nat.le_of_ble_eq_true rfl) (Nat.le_of_ble_eq_true rfl) (Nat.le_of_ble_eq_true rfl) (Nat.le_of_ble_eq_true rfl) dJ7_copyOf_59c91_25 ?_
    have zk_3 : (400 : Int32).toInt = 400 := (by decide)
    have hm_4 := g_minI 400 p_n
    refine va_copyi hx hb (hml.trans hl.1.symm) hown (hts _ ml_J7_150) (hts _ ac_nat) (hts _ ac_st) (hts _ ac_ini) hK hP hD hS 0 1 0 0 rfl rfl rfl rfl rfl (sp := 0) (dp := 0) (n := (if p_n < 400 then p_n else 400)) (by decide) (by decide) (g_nlt0 (by omega)) (by have z5 : (0 : Int32).toNatClampNeg = 0 := (by decide); have z6 := g5_clamp (if p_n < 400 then p_n else 400); have z7 := g5_clamp p_n; omega) (by have z8 : (0 : Int32).toNatClampNeg = 0 := (by decide); have z9 := g5_clamp (if p_n < 400 then p_n else 400); have z10 := g5_clamp p_n; omega) (fun _ _ => rfl) (Nat.le_of_ble_eq_true rfl) (by decide) dJ7_copyOf_59c91_28 (fun H locs hP hD hS => ?_)
    refine g5_rs [(a_0, (arI G 400 f_a)), (q2, (arI G p_n.toNatClampNeg (va_cpy f_a (fun _ => 0) 0 0 (if p_n < 400 then p_n else 400).toNatClampNeg)))] hP hD (fun hP hD => ?_)
    refine lv_aload_n hx hb dJ7_copyOf_59c91_31 rfl (lv_at hl 0 rfl) ?_
    refine W.widen (k := 1) (n := 400) (by decide) (by decide) ?_
    exact W.aret (v := .ref q2) hx hb hr (Or.inr ⟨_, rfl⟩) (Or.inr ⟨_, rfl⟩) (fun t ht hW => ⟨⟨some q2, [(a_0, (arI G 400 f_a)), (q2, (arI G p_n.toNatClampNeg (va_cpy f_a (fun _ => 0) 0 0 (if p_n < 400 then p_n else 400).toNatClampNeg)))], rfl, ⟨q2, p_n.toNatClampNeg, (va_cpy f_a (fun _ => 0) 0 0 (if p_n < 400 then p_n else 400).toNatClampNeg), by have zz := g5_clamp p_n; omega, cpy_ok (by have zz := g5_clamp p_n; omega), rfl, rfl⟩, by rw [ht]; exact hP.sub [0, 1] rfl, hD.sub [0, 1] (by decide) rfl⟩, hS.F ht⟩) hS.2.2 dJ7_copyOf_59c91_32
  ·
    have i_1 : p_n.toInt = 400 := by have z := g5_neN (a := p_n.toInt) (b := 400) (by rfl) (by decide) c_1; omega
    refine lv_aload_n hx hb dJ7_copyOf_59c91_6 rfl (lv_at hl 0 rfl) ?_
    refine va_clone hx hb (hml.trans hl.1.symm) hown (hts _ ml_clone) (hts _ sm_clone) (hts _ na_clone) (hts _ im_clone) (hts _ se_clone) hN.2.2.2 hK hP hD hS hA 0 0 rfl rfl (g_find hK) g_fitI (Nat.le_of_ble_eq_true rfl) (by decide) (Nat.le_of_ble_eq_true rfl) (Nat.le_of_ble_eq_true rfl) dJ7_copyOf_59c91_7 (fun q11 H hKn hP hD hS => ?_)
    refine g5_rs [(a_0, (arI G 400 f_a)), (q11, (arI G 400 f_a))] hP hD (fun hP hD => ?_)
    refine W.widen (k := 1) (n := 400) (Nat.le_of_ble_eq_true rfl) (Nat.le_of_ble_eq_true rfl) ?_
    refine va_castA hx hb hown (hts _ cl_J7_317) hP 1 rfl (g_find hK) dJ7_copyOf_59c91_10 ?_
    exact W.aret (v := .ref q11) hx hb hr (Or.inr ⟨_, rfl⟩) (Or.inr ⟨_, rfl⟩) (fun t ht hW => ⟨⟨some q11, [(a_0, (arI G 400 f_a)), (q11, (arI G 400 f_a))], rfl, ⟨q11, 400, f_a, by have zz := g5_clamp p_n; omega, fun _ _ => rfl, rfl, rfl⟩, by rw [ht]; exact hP.sub [0, 1] rfl, hD.sub [0, 1] (by decide) rfl⟩, hS.F ht⟩) hS.2.2 dJ7_copyOf_59c91_13
theorem dgX4_readClause_0 : ∀ r ∈ ([(0, (.aload_n 0, 1)), (1, (.getfield 12, 3)), (4, (.aload_n 0, 1)), (5, (.getfield 42, 3)), (8, (.invokevirtual 69, 3)), (11, (.sipush 256, 3)), (14, (.isub, 1)), (15, (.istore_n 2, 1)), (16, (.iload_n 2, 1)), (17, (.ifCond .lt 8, 3)), (20, (.iload_n 2, 1)), (21, (.iconst 4, 1)), (22, (.if_icmp .lt 5, 3)), (25, (.iconst 0, 1)), (26, (.ireturn, 1)), (27, (.aload_n 0, 1)), (28, (.dup, 1)), (29, (.getfield 42, 3)), (32, (.iconst 1, 1)), (33, (.iadd, 1)), (34, (.putfield 42, 3)), (37, (.aload_n 0, 1)), (38, (.getfield 18, 3)), (41, (.iload_n 1, 1)), (42, (.iload_n 2, 1)), (43, (.iastore, 1)), (44, (.aload_n 0, 1)), (45, (.getfield 22, 3)), (48, (.iload_n 1, 1)), (49, (.aload_n 0, 1)), (50, (.getfield 36, 3)), (53, (.iastore, 1)), (54, (.iload_n 2, 1)), (55, (.ifCond .eq 8, 3)), (58, (.iload_n 2, 1)), (59, (.iconst 1, 1)), (60, (.if_icmp .ne 13, 3)), (63, (.aload_n 0, 1)), (64, (.iconst 0, 1)), (65, (.invokevirtual 73, 3))] : List (Nat × (Instr × Nat))), decode cX4_readClause r.1 = .ok r.2 := by decide +kernel
theorem dX4_readClause_0 : decode cX4_readClause 0 = .ok (.aload_n 0, 1) := dgX4_readClause_0 (0, (.aload_n 0, 1)) (List.mem_of_getElem? (i := 0) rfl)
theorem dX4_readClause_1 : decode cX4_readClause 1 = .ok (.getfield 12, 3) := dgX4_readClause_0 (1, (.getfield 12, 3)) (List.mem_of_getElem? (i := 1) rfl)
theorem dX4_readClause_4 : decode cX4_readClause 4 = .ok (.aload_n 0, 1) := dgX4_readClause_0 (4, (.aload_n 0, 1)) (List.mem_of_getElem? (i := 2) rfl)
theorem dX4_readClause_5 : decode cX4_readClause 5 = .ok (.getfield 42, 3) := dgX4_readClause_0 (5, (.getfield 42, 3)) (List.mem_of_getElem? (i := 3) rfl)
theorem dX4_readClause_8 : decode cX4_readClause 8 = .ok (.invokevirtual 69, 3) := dgX4_readClause_0 (8, (.invokevirtual 69, 3)) (List.mem_of_getElem? (i := 4) rfl)
theorem dX4_readClause_11 : decode cX4_readClause 11 = .ok (.sipush 256, 3) := dgX4_readClause_0 (11, (.sipush 256, 3)) (List.mem_of_getElem? (i := 5) rfl)
theorem dX4_readClause_14 : decode cX4_readClause 14 = .ok (.isub, 1) := dgX4_readClause_0 (14, (.isub, 1)) (List.mem_of_getElem? (i := 6) rfl)
theorem dX4_readClause_15 : decode cX4_readClause 15 = .ok (.istore_n 2, 1) := dgX4_readClause_0 (15, (.istore_n 2, 1)) (List.mem_of_getElem? (i := 7) rfl)
theorem dX4_readClause_16 : decode cX4_readClause 16 = .ok (.iload_n 2, 1) := dgX4_readClause_0 (16, (.iload_n 2, 1)) (List.mem_of_getElem? (i := 8) rfl)
theorem dX4_readClause_17 : decode cX4_readClause 17 = .ok (.ifCond .lt 8, 3) := dgX4_readClause_0 (17, (.ifCond .lt 8, 3)) (List.mem_of_getElem? (i := 9) rfl)
theorem dX4_readClause_20 : decode cX4_readClause 20 = .ok (.iload_n 2, 1) := dgX4_readClause_0 (20, (.iload_n 2, 1)) (List.mem_of_getElem? (i := 10) rfl)
theorem dX4_readClause_21 : decode cX4_readClause 21 = .ok (.iconst 4, 1) := dgX4_readClause_0 (21, (.iconst 4, 1)) (List.mem_of_getElem? (i := 11) rfl)
theorem dX4_readClause_22 : decode cX4_readClause 22 = .ok (.if_icmp .lt 5, 3) := dgX4_readClause_0 (22, (.if_icmp .lt 5, 3)) (List.mem_of_getElem? (i := 12) rfl)
theorem dX4_readClause_25 : decode cX4_readClause 25 = .ok (.iconst 0, 1) := dgX4_readClause_0 (25, (.iconst 0, 1)) (List.mem_of_getElem? (i := 13) rfl)
theorem dX4_readClause_26 : decode cX4_readClause 26 = .ok (.ireturn, 1) := dgX4_readClause_0 (26, (.ireturn, 1)) (List.mem_of_getElem? (i := 14) rfl)
theorem dX4_readClause_27 : decode cX4_readClause 27 = .ok (.aload_n 0, 1) := dgX4_readClause_0 (27, (.aload_n 0, 1)) (List.mem_of_getElem? (i := 15) rfl)
theorem dX4_readClause_28 : decode cX4_readClause 28 = .ok (.dup, 1) := dgX4_readClause_0 (28, (.dup, 1)) (List.mem_of_getElem? (i := 16) rfl)
theorem dX4_readClause_29 : decode cX4_readClause 29 = .ok (.getfield 42, 3) := dgX4_readClause_0 (29, (.getfield 42, 3)) (List.mem_of_getElem? (i := 17) rfl)
theorem dX4_readClause_32 : decode cX4_readClause 32 = .ok (.iconst 1, 1) := dgX4_readClause_0 (32, (.iconst 1, 1)) (List.mem_of_getElem? (i := 18) rfl)
theorem dX4_readClause_33 : decode cX4_readClause 33 = .ok (.iadd, 1) := dgX4_readClause_0 (33, (.iadd, 1)) (List.mem_of_getElem? (i := 19) rfl)
theorem dX4_readClause_34 : decode cX4_readClause 34 = .ok (.putfield 42, 3) := dgX4_readClause_0 (34, (.putfield 42, 3)) (List.mem_of_getElem? (i := 20) rfl)
theorem dX4_readClause_37 : decode cX4_readClause 37 = .ok (.aload_n 0, 1) := dgX4_readClause_0 (37, (.aload_n 0, 1)) (List.mem_of_getElem? (i := 21) rfl)
theorem dX4_readClause_38 : decode cX4_readClause 38 = .ok (.getfield 18, 3) := dgX4_readClause_0 (38, (.getfield 18, 3)) (List.mem_of_getElem? (i := 22) rfl)
theorem dX4_readClause_41 : decode cX4_readClause 41 = .ok (.iload_n 1, 1) := dgX4_readClause_0 (41, (.iload_n 1, 1)) (List.mem_of_getElem? (i := 23) rfl)
theorem dX4_readClause_42 : decode cX4_readClause 42 = .ok (.iload_n 2, 1) := dgX4_readClause_0 (42, (.iload_n 2, 1)) (List.mem_of_getElem? (i := 24) rfl)
theorem dX4_readClause_43 : decode cX4_readClause 43 = .ok (.iastore, 1) := dgX4_readClause_0 (43, (.iastore, 1)) (List.mem_of_getElem? (i := 25) rfl)
theorem dX4_readClause_44 : decode cX4_readClause 44 = .ok (.aload_n 0, 1) := dgX4_readClause_0 (44, (.aload_n 0, 1)) (List.mem_of_getElem? (i := 26) rfl)
theorem dX4_readClause_45 : decode cX4_readClause 45 = .ok (.getfield 22, 3) := dgX4_readClause_0 (45, (.getfield 22, 3)) (List.mem_of_getElem? (i := 27) rfl)
theorem dX4_readClause_48 : decode cX4_readClause 48 = .ok (.iload_n 1, 1) := dgX4_readClause_0 (48, (.iload_n 1, 1)) (List.mem_of_getElem? (i := 28) rfl)
theorem dX4_readClause_49 : decode cX4_readClause 49 = .ok (.aload_n 0, 1) := dgX4_readClause_0 (49, (.aload_n 0, 1)) (List.mem_of_getElem? (i := 29) rfl)
theorem dX4_readClause_50 : decode cX4_readClause 50 = .ok (.getfield 36, 3) := dgX4_readClause_0 (50, (.getfield 36, 3)) (List.mem_of_getElem? (i := 30) rfl)
theorem dX4_readClause_53 : decode cX4_readClause 53 = .ok (.iastore, 1) := dgX4_readClause_0 (53, (.iastore, 1)) (List.mem_of_getElem? (i := 31) rfl)
theorem dX4_readClause_54 : decode cX4_readClause 54 = .ok (.iload_n 2, 1) := dgX4_readClause_0 (54, (.iload_n 2, 1)) (List.mem_of_getElem? (i := 32) rfl)
theorem dX4_readClause_55 : decode cX4_readClause 55 = .ok (.ifCond .eq 8, 3) := dgX4_readClause_0 (55, (.ifCond .eq 8, 3)) (List.mem_of_getElem? (i := 33) rfl)
theorem dX4_readClause_58 : decode cX4_readClause 58 = .ok (.iload_n 2, 1) := dgX4_readClause_0 (58, (.iload_n 2, 1)) (List.mem_of_getElem? (i := 34) rfl)
theorem dX4_readClause_59 : decode cX4_readClause 59 = .ok (.iconst 1, 1) := dgX4_readClause_0 (59, (.iconst 1, 1)) (List.mem_of_getElem? (i := 35) rfl)
theorem dX4_readClause_60 : decode cX4_readClause 60 = .ok (.if_icmp .ne 13, 3) := dgX4_readClause_0 (60, (.if_icmp .ne 13, 3)) (List.mem_of_getElem? (i := 36) rfl)
theorem dX4_readClause_63 : decode cX4_readClause 63 = .ok (.aload_n 0, 1) := dgX4_readClause_0 (63, (.aload_n 0, 1)) (List.mem_of_getElem? (i := 37) rfl)
theorem dX4_readClause_64 : decode cX4_readClause 64 = .ok (.iconst 0, 1) := dgX4_readClause_0 (64, (.iconst 0, 1)) (List.mem_of_getElem? (i := 38) rfl)
theorem dX4_readClause_65 : decode cX4_readClause 65 = .ok (.invokevirtual 73, 3) := dgX4_readClause_0 (65, (.invokevirtual 73, 3)) (List.mem_of_getElem? (i := 39) rfl)
theorem dgX4_readClause_1 : ∀ r ∈ ([(68, (.ifCond .ne 5, 3)), (71, (.iconst 0, 1)), (72, (.ireturn, 1)), (73, (.aload_n 0, 1)), (74, (.sipush 260, 3)), (77, (.invokevirtual 63, 3)), (80, (.ifCond .ne 5, 3)), (83, (.iconst 1, 1)), (84, (.ireturn, 1)), (85, (.aload_n 0, 1)), (86, (.iconst 0, 1)), (87, (.invokevirtual 76, 3)), (90, (.ifCond .ne 5, 3)), (93, (.iconst 0, 1)), (94, (.ireturn, 1)), (95, (.aload_n 0, 1)), (96, (.bipush 10, 2)), (98, (.iconst 0, 1)), (99, (.invokevirtual 79, 3)), (102, (.pop, 1)), (103, (.iconst 1, 1)), (104, (.ireturn, 1))] : List (Nat × (Instr × Nat))), decode cX4_readClause r.1 = .ok r.2 := by decide +kernel
theorem dX4_readClause_68 : decode cX4_readClause 68 = .ok (.ifCond .ne 5, 3) := dgX4_readClause_1 (68, (.ifCond .ne 5, 3)) (List.mem_of_getElem? (i := 0) rfl)
theorem dX4_readClause_71 : decode cX4_readClause 71 = .ok (.iconst 0, 1) := dgX4_readClause_1 (71, (.iconst 0, 1)) (List.mem_of_getElem? (i := 1) rfl)
theorem dX4_readClause_72 : decode cX4_readClause 72 = .ok (.ireturn, 1) := dgX4_readClause_1 (72, (.ireturn, 1)) (List.mem_of_getElem? (i := 2) rfl)
theorem dX4_readClause_73 : decode cX4_readClause 73 = .ok (.aload_n 0, 1) := dgX4_readClause_1 (73, (.aload_n 0, 1)) (List.mem_of_getElem? (i := 3) rfl)
theorem dX4_readClause_74 : decode cX4_readClause 74 = .ok (.sipush 260, 3) := dgX4_readClause_1 (74, (.sipush 260, 3)) (List.mem_of_getElem? (i := 4) rfl)
theorem dX4_readClause_77 : decode cX4_readClause 77 = .ok (.invokevirtual 63, 3) := dgX4_readClause_1 (77, (.invokevirtual 63, 3)) (List.mem_of_getElem? (i := 5) rfl)
theorem dX4_readClause_80 : decode cX4_readClause 80 = .ok (.ifCond .ne 5, 3) := dgX4_readClause_1 (80, (.ifCond .ne 5, 3)) (List.mem_of_getElem? (i := 6) rfl)
theorem dX4_readClause_83 : decode cX4_readClause 83 = .ok (.iconst 1, 1) := dgX4_readClause_1 (83, (.iconst 1, 1)) (List.mem_of_getElem? (i := 7) rfl)
theorem dX4_readClause_84 : decode cX4_readClause 84 = .ok (.ireturn, 1) := dgX4_readClause_1 (84, (.ireturn, 1)) (List.mem_of_getElem? (i := 8) rfl)
theorem dX4_readClause_85 : decode cX4_readClause 85 = .ok (.aload_n 0, 1) := dgX4_readClause_1 (85, (.aload_n 0, 1)) (List.mem_of_getElem? (i := 9) rfl)
theorem dX4_readClause_86 : decode cX4_readClause 86 = .ok (.iconst 0, 1) := dgX4_readClause_1 (86, (.iconst 0, 1)) (List.mem_of_getElem? (i := 10) rfl)
theorem dX4_readClause_87 : decode cX4_readClause 87 = .ok (.invokevirtual 76, 3) := dgX4_readClause_1 (87, (.invokevirtual 76, 3)) (List.mem_of_getElem? (i := 11) rfl)
theorem dX4_readClause_90 : decode cX4_readClause 90 = .ok (.ifCond .ne 5, 3) := dgX4_readClause_1 (90, (.ifCond .ne 5, 3)) (List.mem_of_getElem? (i := 12) rfl)
theorem dX4_readClause_93 : decode cX4_readClause 93 = .ok (.iconst 0, 1) := dgX4_readClause_1 (93, (.iconst 0, 1)) (List.mem_of_getElem? (i := 13) rfl)
theorem dX4_readClause_94 : decode cX4_readClause 94 = .ok (.ireturn, 1) := dgX4_readClause_1 (94, (.ireturn, 1)) (List.mem_of_getElem? (i := 14) rfl)
theorem dX4_readClause_95 : decode cX4_readClause 95 = .ok (.aload_n 0, 1) := dgX4_readClause_1 (95, (.aload_n 0, 1)) (List.mem_of_getElem? (i := 15) rfl)
theorem dX4_readClause_96 : decode cX4_readClause 96 = .ok (.bipush 10, 2) := dgX4_readClause_1 (96, (.bipush 10, 2)) (List.mem_of_getElem? (i := 16) rfl)
theorem dX4_readClause_98 : decode cX4_readClause 98 = .ok (.iconst 0, 1) := dgX4_readClause_1 (98, (.iconst 0, 1)) (List.mem_of_getElem? (i := 17) rfl)
theorem dX4_readClause_99 : decode cX4_readClause 99 = .ok (.invokevirtual 79, 3) := dgX4_readClause_1 (99, (.invokevirtual 79, 3)) (List.mem_of_getElem? (i := 18) rfl)
theorem dX4_readClause_102 : decode cX4_readClause 102 = .ok (.pop, 1) := dgX4_readClause_1 (102, (.pop, 1)) (List.mem_of_getElem? (i := 19) rfl)
theorem dX4_readClause_103 : decode cX4_readClause 103 = .ok (.iconst 1, 1) := dgX4_readClause_1 (103, (.iconst 1, 1)) (List.mem_of_getElem? (i := 20) rfl)
theorem dX4_readClause_104 : decode cX4_readClause 104 = .ok (.ireturn, 1) := dgX4_readClause_1 (104, (.ireturn, 1)) (List.mem_of_getElem? (i := 21) rfl)
theorem fl_X4_18 : Cond.fieldLink RX4 18 "LateGlass$LawReader" "heads" "[I" ∈ tblG := tg 419 (by decide +kernel) (by decide +kernel)
theorem fl_X4_22 : Cond.fieldLink RX4 22 "LateGlass$LawReader" "starts" "[I" ∈ tblG := tg 420 (by decide +kernel) (by decide +kernel)
set_option maxHeartbeats 4000000 in
set_option maxRecDepth 100000 in
theorem r_clause (l : Launch) (G : g5_G) (a_r a_tk a_kd a_nm a_rc a_rh a_rs a_pl : Nat) (sz : Nat) (e_ln : Int32) (e_pa : Int32) (e_at : Int32) (e_fp : Int32) (p_c : Int32) (f_kd : Nat → Int32) (f_nm : Nat → Int32) (f_rc : Nat → Int32) (f_rh : Nat → Int32) (f_rs : Nat → Int32) (h_e_ln : 0 ≤ e_ln.toInt ∧ e_ln.toInt ≤ 400) (h_e_pa : 0 ≤ e_pa.toInt ∧ e_pa.toInt ≤ 50) (h_e_at : 0 ≤ e_at.toInt ∧ e_at.toInt ≤ 401) (h_p_c : 0 ≤ p_c.toInt ∧ p_c.toInt ≤ 11) (e_tk : TOKI f_kd f_nm) (e_cd : CDI f_rc e_ln.toInt) (e_si : STI f_rs p_c.toInt e_ln.toInt) : Met l yX4_readClause (wsG yX4_readClause cX4_readClause 3 (some .boolean)) ({ frames := 109, cells := 0, slots := 0, locals := 2617 }) (va_Pc [.ref a_r, .int p_c] (g5_P G [(a_r, (oc4 a_tk a_rh a_rs a_rc e_ln e_pa e_at e_fp)), (a_tk, (oc8 a_kd a_nm a_pl)), (a_kd, (arI G 401 f_kd)), (a_nm, (arI G 401 f_nm)), (a_rc, (arI G 400 f_rc)), (a_rh, (arI G 12 f_rh)), (a_rs, (arI G 13 f_rs))] sz)) (va_Qi (fun (r : Int32) (u : va_W) => (∃ (o_r : Int32) (o_ln : Int32) (o_pa : Int32) (o_at : Int32) (o_rc : Nat → Int32) (o_rh : Nat → Int32) (o_rs : Nat → Int32), (0 ≤ o_r.toInt ∧ o_r.toInt ≤ 1) ∧ (e_ln.toInt ≤ o_ln.toInt ∧ o_ln.toInt ≤ 400) ∧ (0 ≤ o_at.toInt ∧ o_at.toInt ≤ 401) ∧ (0 ≤ o_pa.toInt ∧ o_pa.toInt ≤ 50) ∧ (CDI o_rc o_ln.toInt) ∧ (o_r.toInt = 1 → STI o_rs (p_c.toInt + 1) o_ln.toInt) ∧ (r = o_r) ∧ (u = [(a_r, (oc4 a_tk a_rh a_rs a_rc o_ln o_pa o_at e_fp)), (a_tk, (oc8 a_kd a_nm a_pl)), (a_kd, (arI G 401 f_kd)), (a_nm, (arI G 401 f_nm)), (a_rc, (arI G 400 o_rc)), (a_rh, (arI G 12 o_rh)), (a_rs, (arI G 13 o_rs))]))) (g5_B G (va_A [(a_r, (oc4 a_tk a_rh a_rs a_rc e_ln e_pa e_at e_fp)), (a_tk, (oc8 a_kd a_nm a_pl)), (a_kd, (arI G 401 f_kd)), (a_nm, (arI G 401 f_nm)), (a_rc, (arI G 400 f_rc)), (a_rh, (arI G 12 f_rh)), (a_rs, (arI G 13 f_rs))] sz)) (va_A [(a_r, (oc4 a_tk a_rh a_rs a_rc e_ln e_pa e_at e_fp)), (a_tk, (oc8 a_kd a_nm a_pl)), (a_kd, (arI G 401 f_kd)), (a_nm, (arI G 401 f_nm)), (a_rc, (arI G 400 f_rc)), (a_rh, (arI G 12 f_rh)), (a_rs, (arI G 13 f_rs))] sz)) 0 0 (va_A [(a_r, (oc4 a_tk a_rh a_rs a_rc e_ln e_pa e_at e_fp)), (a_tk, (oc8 a_kd a_nm a_pl)), (a_kd, (arI G 401 f_kd)), (a_nm, (arI G 401 f_nm)), (a_rc, (arI G 400 f_rc)), (a_rh, (arI G 12 f_rh)), (a_rs, (arI G 13 f_rs))] sz) := by
  refine Met.ofW (cc := cX4_readClause) (maxL := 3) (ret := (some .boolean)) (by decide) rfl ?_
  intro p e s m args below meth c s₁ B hml hv
  obtain ⟨rfl, hsz, hP, hK, hD0, hN, hT⟩ := hv
  have hx := B.exec
  have hb := B.bytes
  have hr := B.returns
  have hts : ∀ w ∈ tblG, w.before _ s = true := fun w h => atoms_spec (ws := (wsG yX4_readClause cX4_readClause 3 (some .boolean))) B.pre w (List.mem_cons_of_mem _ h)
  have hown : s.vm.findClass RX4 = some m.cls := findClass_of_methodNamed B.named
  have hlocks := B.notSynchronized
  subst hsz
  have hD := hD0.self (sz := s.heap.size)
  generalize hAe : va_A [(a_r, (oc4 a_tk a_rh a_rs a_rc e_ln e_pa e_at e_fp)), (a_tk, (oc8 a_kd a_nm a_pl)), (a_kd, (arI G 401 f_kd)), (a_nm, (arI G 401 f_nm)), (a_rc, (arI G 400 f_rc)), (a_rh, (arI G 12 f_rh)), (a_rs, (arI G 13 f_rs))] s.heap.size = A at hD hT ⊢
  have hA : ∀ q : Nat, s.heap.size ≤ q → A q := fun q h => by rw [← hAe]; exact Or.inr h
  have hS : va_S A s.heap s.heap [] := va_S.rf
  have hP : va_P G.1 vwCl [(a_r, (oc4 a_tk a_rh a_rs a_rc e_ln e_pa e_at e_fp)), (a_tk, (oc8 a_kd a_nm a_pl)), (a_kd, (arI G 401 f_kd)), (a_nm, (arI G 401 f_nm)), (a_rc, (arI G 400 f_rc)), (a_rh, (arI G 12 f_rh)), (a_rs, (arI G 13 f_rs))] s.heap := hP
  have hl := lv_entry ([.ref a_r, .int p_c]) (n := 3) (Nat.le_of_ble_eq_true rfl)
  rw [lg_entry_eq]
  generalize (lg_sl ([.ref a_r, .int p_c]) ++ List.replicate (3 - (lg_sl ([.ref a_r, .int p_c])).length) Slot.unset).toArray = ls at hl ⊢
  have hl : lv_has ls 3 [(0, .ref a_r), (1, .int p_c)] := hl
  refine lv_aload_n hx hb dX4_readClause_0 rfl (lv_at hl 0 rfl) ?_
  refine va_get (D := G.1) (ci := 4) (v := .ref a_tk) (C := RX4) (T := TX4) (N := 8) hx hb hts inG_X4 hown hK hP 0 rfl rfl 0 (by decide) (hts _ fl_X4_12) (fun _ h9 => h9) rfl dX4_readClause_1 ?_
  refine lv_aload_n hx hb dX4_readClause_4 rfl (lv_at hl 0 rfl) ?_
  refine va_get (D := G.1) (ci := 4) (v := .int e_at) (C := RX4) (T := TX4) (N := 8) hx hb hts inG_X4 hown hK hP 0 rfl rfl 6 (by decide) (hts _ fl_X4_42) (fun _ h9 => h9) rfl dX4_readClause_5 ?_
  obtain ⟨hPc, hDc, hFc⟩ := g5_sub3 (wc := [(a_tk, (oc8 a_kd a_nm a_pl)), (a_kd, (arI G 401 f_kd))]) hP hD hS hA [1, 2] (by decide) rfl
  refine va_calli (va_runV (As := [.int e_at]) (rest := []) ⟨hx, hb, hml, hown, hts⟩ (k_kindAt l G a_tk a_kd a_nm a_pl s.heap.size e_at f_kd h_e_at) (cwV 1 hts gV_X4_69 rfl rfl rfl hv_X8_kindAt ⟨Nat.le_of_ble_eq_true rfl, Nat.le_of_ble_eq_true rfl⟩) (g5_preV hPc hK hDc hN hT hS hFc (ci := 8) (q0 := 0) rfl rfl) rfl rfl hl.1 rfl (lv_room (Nat.le_of_ble_eq_true rfl)) dX4_readClause_8 ⟨Nat.le_of_ble_eq_true rfl, Nat.le_of_ble_eq_true rfl⟩) hS (fun q _ h => hFc q h) hFc (fun r u t H1 locs ht hvm hw hB hz1 hk1 hS => ?_)
  obtain ⟨hP1, hD1⟩ := hB
  rw [ht] at hP1
  rcases hw with ⟨z2, i_1, y3, rfl⟩ | ⟨rfl, rfl⟩
  ·
    have i_1 : e_at.toInt ≤ 400 := i_1
    obtain ⟨hP, hD⟩ := va_join (wr := [(a_r, (oc4 a_tk a_rh a_rs a_rc e_ln e_pa e_at e_fp)), (a_nm, (arI G 401 f_nm)), (a_rc, (arI G 400 f_rc)), (a_rh, (arI G 12 f_rh)), (a_rs, (arI G 13 f_rs))]) hP hD [1, 2] [0, 3, 4, 5, 6] rfl rfl (by decide) (by decide) hk1 hFc hP1 hD1
    generalize H1 = H at hP hS ⊢
    refine g5_rs [(a_r, (oc4 a_tk a_rh a_rs a_rc e_ln e_pa e_at e_fp)), (a_nm, (arI G 401 f_nm)), (a_rc, (arI G 400 f_rc)), (a_rh, (arI G 12 f_rh)), (a_rs, (arI G 13 f_rs)), (a_tk, (oc8 a_kd a_nm a_pl)), (a_kd, (arI G 401 f_kd))] hP hD (fun hP hD => ?_)
    refine g5_ti (v := z2) y3 ?_
    refine lv_sipush (v := 256) hx hb dX4_readClause_11 (by decide) ?_
    refine lv_isub hx hb dX4_readClause_14 ?_
    refine lv_istore_n (lv' := [(2, .int (z2 - 256)), (0, .ref a_r), (1, .int p_c)]) hx hb dX4_readClause_15 rfl hl (by decide) rfl (fun ls hl => ?_)
    refine lv_iload_n hx hb dX4_readClause_16 rfl (lv_at hl 0 rfl) ?_
    refine lv_if_lt (tgt := 25) hx hb dX4_readClause_17 (by decide) (fun c_4 => ?_) (fun c_4 => ?_)
    ·
      have i_4 : (z2 - 256).toInt < 0 := by have z := g5_lt (a := (z2 - 256).toInt) (b := 0) (by rfl) (by decide) c_4; omega
      refine lv_iconst (v := 0) hx hb dX4_readClause_25 (by decide) ?_
      exact W.zret (v := 0) hx hb hr rfl (fun t ht hW => ⟨⟨0, [(a_r, (oc4 a_tk a_rh a_rs a_rc e_ln e_pa e_at e_fp)), (a_tk, (oc8 a_kd a_nm a_pl)), (a_kd, (arI G 401 f_kd)), (a_nm, (arI G 401 f_nm)), (a_rc, (arI G 400 f_rc)), (a_rh, (arI G 12 f_rh)), (a_rs, (arI G 13 f_rs))], rfl, ⟨0, e_ln, e_pa, e_at, f_rc, f_rh, f_rs, ⟨by have zc_o_r : (0 : Int32).toInt = 0 := (by decide); omega, by have zc_o_r : (0 : Int32).toInt = 0 := (by decide); omega⟩, ⟨by omega, by omega⟩, h_e_at, h_e_pa, e_cd, fun h => absurd h (by decide), rfl, rfl⟩, by rw [ht]; exact hP.sub [0, 5, 6, 1, 2, 3, 4] rfl, hD.sub [0, 5, 6, 1, 2, 3, 4] (by decide) rfl⟩, hS.F ht⟩) hS.2.2 dX4_readClause_26
    ·
      have i_4 : (z2 - 256).toInt ≥ 0 := by have z := g5_ltN (a := (z2 - 256).toInt) (b := 0) (by rfl) (by decide) c_4; omega
      refine lv_iload_n hx hb dX4_readClause_20 rfl (lv_at hl 0 rfl) ?_
      refine lv_iconst (v := 4) hx hb dX4_readClause_21 (by decide) ?_
      refine lv_icmp_lt (tgt := 27) hx hb dX4_readClause_22 (by decide) (fun c_5 => ?_) (fun c_5 => ?_)
      ·
        have i_5 : (z2 - 256).toInt < 4 := by have z := g5_lt (a := (z2 - 256).toInt) (b := 4) (by rfl) (by decide) c_5; omega
        refine lv_aload_n hx hb dX4_readClause_27 rfl (lv_at hl 1 rfl) ?_
        refine lv_dup hx hb dX4_readClause_28 rfl ?_
        refine va_get (D := G.1) (ci := 4) (v := .int e_at) (C := RX4) (T := TX4) (N := 8) hx hb hts inG_X4 hown hK hP 0 rfl rfl 6 (by decide) (hts _ fl_X4_42) (fun _ h9 => h9) rfl dX4_readClause_29 ?_
        refine lv_iconst (v := 1) hx hb dX4_readClause_32 (by decide) ?_
        refine lv_iadd hx hb dX4_readClause_33 ?_
        have t_6 : (e_at + 1).toInt = e_at.toInt + 1 := g5_iadd (a := e_at.toInt) (b := 1) (by rfl) (by decide) (by omega) (by omega)
        refine va_put (D := G.1) (ci := 4) (v := .int (e_at + 1)) (ty := .int) (C := RX4) (T := TX4) (N := 8) hx hb hts inG_X4 tyX4 tyX4_ok nmX4 hown hK hP hD hS 0 rfl rfl 6 (by decide) (hts _ fl_X4_42) (fun _ h9 => h9) rfl (by decide +kernel) rfl rfl (Nat.le_of_ble_eq_true rfl) dX4_readClause_34 (fun H locs hP hD hS => ?_)
        refine g5_rs [(a_r, (oc4 a_tk a_rh a_rs a_rc e_ln e_pa (e_at + 1) e_fp)), (a_nm, (arI G 401 f_nm)), (a_rc, (arI G 400 f_rc)), (a_rh, (arI G 12 f_rh)), (a_rs, (arI G 13 f_rs)), (a_tk, (oc8 a_kd a_nm a_pl)), (a_kd, (arI G 401 f_kd))] hP hD (fun hP hD => ?_)
        refine lv_aload_n hx hb dX4_readClause_37 rfl (lv_at hl 1 rfl) ?_
        refine va_get (D := G.1) (ci := 4) (v := .ref a_rh) (C := RX4) (T := TX4) (N := 8) hx hb hts inG_X4 hown hK hP 0 rfl rfl 1 (by decide) (hts _ fl_X4_18) (fun _ h9 => h9) rfl dX4_readClause_38 ?_
        refine lv_iload_n hx hb dX4_readClause_41 rfl (lv_at hl 2 rfl) ?_
        refine lv_iload_n hx hb dX4_readClause_42 rfl (lv_at hl 0 rfl) ?_
        refine va_iast hx hb hK hP hD hS 3 0 rfl rfl (i := p_c) (x := (z2 - 256)) (vp_in_iff.mpr ⟨by omega, by omega⟩) dX4_readClause_43 (fun H locs hP hD hS => ?_)
        refine g5_rs [(a_r, (oc4 a_tk a_rh a_rs a_rc e_ln e_pa (e_at + 1) e_fp)), (a_nm, (arI G 401 f_nm)), (a_rc, (arI G 400 f_rc)), (a_rh, (arI G 12 (upd f_rh p_c.toNatClampNeg (z2 - 256)))), (a_rs, (arI G 13 f_rs)), (a_tk, (oc8 a_kd a_nm a_pl)), (a_kd, (arI G 401 f_kd))] hP hD (fun hP hD => ?_)
        refine lv_aload_n hx hb dX4_readClause_44 rfl (lv_at hl 1 rfl) ?_
        refine va_get (D := G.1) (ci := 4) (v := .ref a_rs) (C := RX4) (T := TX4) (N := 8) hx hb hts inG_X4 hown hK hP 0 rfl rfl 2 (by decide) (hts _ fl_X4_22) (fun _ h9 => h9) rfl dX4_readClause_45 ?_
        refine lv_iload_n hx hb dX4_readClause_48 rfl (lv_at hl 2 rfl) ?_
        refine lv_aload_n hx hb dX4_readClause_49 rfl (lv_at hl 1 rfl) ?_
        refine va_get (D := G.1) (ci := 4) (v := .int e_ln) (C := RX4) (T := TX4) (N := 8) hx hb hts inG_X4 hown hK hP 0 rfl rfl 4 (by decide) (hts _ fl_X4_36) (fun _ h9 => h9) rfl dX4_readClause_50 ?_
        refine va_iast hx hb hK hP hD hS 4 0 rfl rfl (i := p_c) (x := e_ln) (vp_in_iff.mpr ⟨by omega, by omega⟩) dX4_readClause_53 (fun H locs hP hD hS => ?_)
        refine g5_rs [(a_r, (oc4 a_tk a_rh a_rs a_rc e_ln e_pa (e_at + 1) e_fp)), (a_nm, (arI G 401 f_nm)), (a_rc, (arI G 400 f_rc)), (a_rh, (arI G 12 (upd f_rh p_c.toNatClampNeg (z2 - 256)))), (a_rs, (arI G 13 (upd f_rs p_c.toNatClampNeg e_ln))), (a_tk, (oc8 a_kd a_nm a_pl)), (a_kd, (arI G 401 f_kd))] hP hD (fun hP hD => ?_)
        refine lv_iload_n hx hb dX4_readClause_54 rfl (lv_at hl 0 rfl) ?_
        refine lv_if_eq (tgt := 63) hx hb dX4_readClause_55 (by decide) (fun c_7 => ?_) (fun c_7 => ?_)
        ·
          have i_7 : (z2 - 256).toInt = 0 := by have z := g5_eq (a := (z2 - 256).toInt) (b := 0) (by rfl) (by decide) c_7; omega
          refine lv_aload_n hx hb dX4_readClause_63 rfl (lv_at hl 1 rfl) ?_
          refine lv_iconst (v := 0) hx hb dX4_readClause_64 (by decide) ?_
          obtain ⟨hPc, hDc, hFc⟩ := g5_sub3 (wc := [(a_r, (oc4 a_tk a_rh a_rs a_rc e_ln e_pa (e_at + 1) e_fp)), (a_tk, (oc8 a_kd a_nm a_pl)), (a_kd, (arI G 401 f_kd)), (a_nm, (arI G 401 f_nm)), (a_rc, (arI G 400 f_rc))]) hP hD hS hA [0, 5, 6, 1, 2] (by decide) rfl
          refine va_calli (va_runV (As := [.int 0]) (rest := []) ⟨hx, hb, hml, hown, hts⟩ (r_sum0 l G a_r a_tk a_kd a_nm a_rc a_rh a_rs a_pl H.size e_ln e_pa (e_at + 1) e_fp f_kd f_nm f_rc h_e_ln h_e_pa ⟨by omega, by omega⟩ (e_tk) (e_cd)) (cwV 1 hts gV_X4_73 rfl rfl rfl hv_X4_readSum ⟨Nat.le_of_ble_eq_true rfl, Nat.le_of_ble_eq_true rfl⟩) (g5_preV hPc hK hDc hN hT hS hFc (ci := 4) (q0 := 0) rfl rfl) rfl rfl hl.1 rfl (lv_room (Nat.le_of_ble_eq_true rfl)) dX4_readClause_65 ⟨Nat.le_of_ble_eq_true rfl, Nat.le_of_ble_eq_true rfl⟩) hS (fun q _ h => hFc q h) hFc (fun r u t H1 locs ht hvm hw hB hz1 hk1 hS => ?_)
          obtain ⟨hP1, hD1⟩ := hB
          rw [ht] at hP1
          obtain ⟨z14, z15, z16, z17, z18, i_8, i_9, i_10, i_11, i_12, i_13, y19, rfl⟩ := hw
          have i_8 : 0 ≤ z14.toInt ∧ z14.toInt ≤ 1 := i_8
          have i_9 : e_ln.toInt ≤ z15.toInt ∧ z15.toInt ≤ 400 := i_9
          have i_10 : 0 ≤ z17.toInt ∧ z17.toInt ≤ 401 := i_10
          have i_11 : 0 ≤ z16.toInt ∧ z16.toInt ≤ 50 := i_11
          have i_12 : CDI z18 z15.toInt := i_12
          have i_13 : OPK f_rc z18 e_ln.toInt := i_13
          obtain ⟨hP, hD⟩ := va_join (wr := [(a_rh, (arI G 12 (upd f_rh p_c.toNatClampNeg (z2 - 256)))), (a_rs, (arI G 13 (upd f_rs p_c.toNatClampNeg e_ln)))]) hP hD [0, 5, 6, 1, 2] [3, 4] rfl rfl (by decide) (by decide) hk1 hFc hP1 hD1
          generalize H1 = H at hP hS ⊢
          refine g5_rs [(a_rh, (arI G 12 (upd f_rh p_c.toNatClampNeg (z2 - 256)))), (a_rs, (arI G 13 (upd f_rs p_c.toNatClampNeg e_ln))), (a_r, (oc4 a_tk a_rh a_rs a_rc z15 z16 z17 e_fp)), (a_tk, (oc8 a_kd a_nm a_pl)), (a_kd, (arI G 401 f_kd)), (a_nm, (arI G 401 f_nm)), (a_rc, (arI G 400 z18))] hP hD (fun hP hD => ?_)
          refine g5_ti (v := z14) y19 ?_
          refine lv_if_ne (tgt := 73) hx hb dX4_readClause_68 (by decide) (fun c_20 => ?_) (fun c_20 => ?_)
          ·
            have n_20 : gNe (z14.toInt) (0) := by have z := g5_ne (a := z14.toInt) (b := 0) (by rfl) (by decide) c_20; unfold gNe; omega
            have i_20 : z14.toInt ≥ 1 := by have z := g5_ne (a := z14.toInt) (b := 0) (by rfl) (by decide) c_20; omega
            refine lv_aload_n hx hb dX4_readClause_73 rfl (lv_at hl 1 rfl) ?_
            refine lv_sipush (v := 260) hx hb dX4_readClause_74 (by decide) ?_
            obtain ⟨hPc, hDc, hFc⟩ := g5_sub3 (wc := [(a_r, (oc4 a_tk a_rh a_rs a_rc z15 z16 z17 e_fp)), (a_tk, (oc8 a_kd a_nm a_pl)), (a_kd, (arI G 401 f_kd))]) hP hD hS hA [2, 3, 4] (by decide) rfl
            refine va_calli (va_runV (As := [.int 260]) (rest := []) ⟨hx, hb, hml, hown, hts⟩ (r_passed l G a_r a_tk a_kd a_rh a_rs a_rc a_nm a_pl H.size z15 z16 z17 e_fp 260 f_kd ⟨by omega, by omega⟩ i_11 i_10) (cwV 1 hts gV_X4_63 rfl rfl rfl hv_X4_passed ⟨Nat.le_of_ble_eq_true rfl, Nat.le_of_ble_eq_true rfl⟩) (g5_preV hPc hK hDc hN hT hS hFc (ci := 4) (q0 := 0) rfl rfl) rfl rfl hl.1 rfl (lv_room (Nat.le_of_ble_eq_true rfl)) dX4_readClause_77 ⟨Nat.le_of_ble_eq_true rfl, Nat.le_of_ble_eq_true rfl⟩) hS (fun q _ h => hFc q h) hFc (fun r u t H1 locs ht hvm hw hB hz1 hk1 hS => ?_)
            obtain ⟨hP1, hD1⟩ := hB
            rw [ht] at hP1
            obtain ⟨z23, z24, i_21, i_22, y25, rfl⟩ := hw
            have i_21 : 0 ≤ z23.toInt ∧ z23.toInt ≤ 1 := i_21
            have i_22 : 0 ≤ z24.toInt ∧ z24.toInt ≤ 401 := i_22
            obtain ⟨hP, hD⟩ := va_join (wr := [(a_rh, (arI G 12 (upd f_rh p_c.toNatClampNeg (z2 - 256)))), (a_rs, (arI G 13 (upd f_rs p_c.toNatClampNeg e_ln))), (a_nm, (arI G 401 f_nm)), (a_rc, (arI G 400 z18))]) hP hD [2, 3, 4] [0, 1, 5, 6] rfl rfl (by decide) (by decide) hk1 hFc hP1 hD1
            generalize H1 = H at hP hS ⊢
            refine g5_rs [(a_rh, (arI G 12 (upd f_rh p_c.toNatClampNeg (z2 - 256)))), (a_rs, (arI G 13 (upd f_rs p_c.toNatClampNeg e_ln))), (a_nm, (arI G 401 f_nm)), (a_rc, (arI G 400 z18)), (a_r, (oc4 a_tk a_rh a_rs a_rc z15 z16 z24 e_fp)), (a_tk, (oc8 a_kd a_nm a_pl)), (a_kd, (arI G 401 f_kd))] hP hD (fun hP hD => ?_)
            refine g5_ti (v := z23) y25 ?_
            refine lv_if_ne (tgt := 85) hx hb dX4_readClause_80 (by decide) (fun c_26 => ?_) (fun c_26 => ?_)
            ·
              have n_26 : gNe (z23.toInt) (0) := by have z := g5_ne (a := z23.toInt) (b := 0) (by rfl) (by decide) c_26; unfold gNe; omega
              have i_26 : z23.toInt ≥ 1 := by have z := g5_ne (a := z23.toInt) (b := 0) (by rfl) (by decide) c_26; omega
              refine lv_aload_n hx hb dX4_readClause_85 rfl (lv_at hl 1 rfl) ?_
              refine lv_iconst (v := 0) hx hb dX4_readClause_86 (by decide) ?_
              obtain ⟨hPc, hDc, hFc⟩ := g5_sub3 (wc := [(a_r, (oc4 a_tk a_rh a_rs a_rc z15 z16 z24 e_fp)), (a_tk, (oc8 a_kd a_nm a_pl)), (a_kd, (arI G 401 f_kd)), (a_nm, (arI G 401 f_nm)), (a_rc, (arI G 400 z18))]) hP hD hS hA [4, 5, 6, 2, 3] (by decide) rfl
              refine va_calli (va_runV (As := [.int 0]) (rest := []) ⟨hx, hb, hml, hown, hts⟩ (r_test0 l G a_r a_tk a_kd a_nm a_rc a_rh a_rs a_pl H.size z15 z16 z24 e_fp f_kd f_nm z18 ⟨by omega, by omega⟩ i_11 i_22 (e_tk) (i_12)) (cwV 1 hts gV_X4_76 rfl rfl rfl hv_X4_readTest ⟨Nat.le_of_ble_eq_true rfl, Nat.le_of_ble_eq_true rfl⟩) (g5_preV hPc hK hDc hN hT hS hFc (ci := 4) (q0 := 0) rfl rfl) rfl rfl hl.1 rfl (lv_room (Nat.le_of_ble_eq_true rfl)) dX4_readClause_87 ⟨Nat.le_of_ble_eq_true rfl, Nat.le_of_ble_eq_true rfl⟩) hS (fun q _ h => hFc q h) hFc (fun r u t H1 locs ht hvm hw hB hz1 hk1 hS => ?_)
              obtain ⟨hP1, hD1⟩ := hB
              rw [ht] at hP1
              obtain ⟨z33, z34, z35, z36, z37, i_27, i_28, i_29, i_30, i_31, i_32, y38, rfl⟩ := hw
              have i_27 : 0 ≤ z33.toInt ∧ z33.toInt ≤ 1 := i_27
              have i_28 : z15.toInt ≤ z34.toInt ∧ z34.toInt ≤ 400 := i_28
              have i_29 : 0 ≤ z36.toInt ∧ z36.toInt ≤ 401 := i_29
              have i_30 : 0 ≤ z35.toInt ∧ z35.toInt ≤ 50 := i_30
              have i_31 : CDI z37 z34.toInt := i_31
              have i_32 : OPK z18 z37 z15.toInt := i_32
              obtain ⟨hP, hD⟩ := va_join (wr := [(a_rh, (arI G 12 (upd f_rh p_c.toNatClampNeg (z2 - 256)))), (a_rs, (arI G 13 (upd f_rs p_c.toNatClampNeg e_ln)))]) hP hD [4, 5, 6, 2, 3] [0, 1] rfl rfl (by decide) (by decide) hk1 hFc hP1 hD1
              generalize H1 = H at hP hS ⊢
              refine g5_rs [(a_rh, (arI G 12 (upd f_rh p_c.toNatClampNeg (z2 - 256)))), (a_rs, (arI G 13 (upd f_rs p_c.toNatClampNeg e_ln))), (a_r, (oc4 a_tk a_rh a_rs a_rc z34 z35 z36 e_fp)), (a_tk, (oc8 a_kd a_nm a_pl)), (a_kd, (arI G 401 f_kd)), (a_nm, (arI G 401 f_nm)), (a_rc, (arI G 400 z37))] hP hD (fun hP hD => ?_)
              refine g5_ti (v := z33) y38 ?_
              refine lv_if_ne (tgt := 95) hx hb dX4_readClause_90 (by decide) (fun c_39 => ?_) (fun c_39 => ?_)
              ·
                have n_39 : gNe (z33.toInt) (0) := by have z := g5_ne (a := z33.toInt) (b := 0) (by rfl) (by decide) c_39; unfold gNe; omega
                have i_39 : z33.toInt ≥ 1 := by have z := g5_ne (a := z33.toInt) (b := 0) (by rfl) (by decide) c_39; omega
                refine lv_aload_n hx hb dX4_readClause_95 rfl (lv_at hl 1 rfl) ?_
                refine lv_bipush (v := 10) hx hb dX4_readClause_96 (by decide) ?_
                refine lv_iconst (v := 0) hx hb dX4_readClause_98 (by decide) ?_
                obtain ⟨hPc, hDc, hFc⟩ := g5_sub3 (wc := [(a_r, (oc4 a_tk a_rh a_rs a_rc z34 z35 z36 e_fp)), (a_rc, (arI G 400 z37))]) hP hD hS hA [2, 6] (by decide) rfl
                refine va_calli (va_runV (As := [.int 10, .int 0]) (rest := []) ⟨hx, hb, hml, hown, hts⟩ (r_emit l G a_r a_rc a_tk a_rh a_rs H.size z34 z35 z36 e_fp 10 0 z37 ⟨by omega, by omega⟩ i_30 i_29 (i_31) (by unfold wOK; decide)) (cwV 2 hts gV_X4_79 rfl rfl rfl hv_X4_emit ⟨Nat.le_of_ble_eq_true rfl, Nat.le_of_ble_eq_true rfl⟩) (g5_preV hPc hK hDc hN hT hS hFc (ci := 4) (q0 := 0) rfl rfl) rfl rfl hl.1 rfl (lv_room (Nat.le_of_ble_eq_true rfl)) dX4_readClause_99 ⟨Nat.le_of_ble_eq_true rfl, Nat.le_of_ble_eq_true rfl⟩) hS (fun q _ h => hFc q h) hFc (fun r u t H1 locs ht hvm hw hB hz1 hk1 hS => ?_)
                obtain ⟨hP1, hD1⟩ := hB
                rw [ht] at hP1
                obtain ⟨z45, z46, z47, i_40, i_41, i_42, i_43, i_44, y48, rfl⟩ := hw
                have i_40 : -1 ≤ z45.toInt ∧ z45.toInt ≤ 399 := i_40
                have i_41 : z34.toInt ≤ z46.toInt ∧ z46.toInt ≤ 400 := i_41
                have i_42 : CDI z47 z46.toInt := i_42
                have i_43 : OPK z37 z47 z34.toInt := i_43
                have i_44 : 0 ≤ z45.toInt → z45.toInt < z46.toInt ∧ z47 z45.toNatClampNeg = (((10 : Int32) <<< (12 &&& 31)) ||| (0 : Int32)) := i_44
                obtain ⟨hP, hD⟩ := va_join (wr := [(a_rh, (arI G 12 (upd f_rh p_c.toNatClampNeg (z2 - 256)))), (a_rs, (arI G 13 (upd f_rs p_c.toNatClampNeg e_ln))), (a_tk, (oc8 a_kd a_nm a_pl)), (a_kd, (arI G 401 f_kd)), (a_nm, (arI G 401 f_nm))]) hP hD [2, 6] [0, 1, 3, 4, 5] rfl rfl (by decide) (by decide) hk1 hFc hP1 hD1
                generalize H1 = H at hP hS ⊢
                refine g5_rs [(a_rh, (arI G 12 (upd f_rh p_c.toNatClampNeg (z2 - 256)))), (a_rs, (arI G 13 (upd f_rs p_c.toNatClampNeg e_ln))), (a_tk, (oc8 a_kd a_nm a_pl)), (a_kd, (arI G 401 f_kd)), (a_nm, (arI G 401 f_nm)), (a_r, (oc4 a_tk a_rh a_rs a_rc z46 z35 z36 e_fp)), (a_rc, (arI G 400 z47))] hP hD (fun hP hD => ?_)
                refine g5_ti (v := z45) y48 ?_
                refine lv_pop hx hb dX4_readClause_102 rfl ?_
                refine lv_iconst (v := 1) hx hb dX4_readClause_103 (by decide) ?_
                exact W.zret (v := 1) hx hb hr rfl (fun t ht hW => ⟨⟨1, [(a_r, (oc4 a_tk a_rh a_rs a_rc z46 z35 z36 e_fp)), (a_tk, (oc8 a_kd a_nm a_pl)), (a_kd, (arI G 401 f_kd)), (a_nm, (arI G 401 f_nm)), (a_rc, (arI G 400 z47)), (a_rh, (arI G 12 (upd f_rh p_c.toNatClampNeg (z2 - 256)))), (a_rs, (arI G 13 (upd f_rs p_c.toNatClampNeg e_ln)))], rfl, ⟨1, z46, z35, z36, z47, (upd f_rh p_c.toNatClampNeg (z2 - 256)), (upd f_rs p_c.toNatClampNeg e_ln), ⟨by have zc_o_r : (1 : Int32).toInt = 1 := (by decide); omega, by have zc_o_r : (1 : Int32).toInt = 1 := (by decide); omega⟩, ⟨by omega, by omega⟩, i_29, i_30, i_42, fun _ => sti_set e_si (by omega) (by omega) (by omega), rfl, rfl⟩, by rw [ht]; exact hP.sub [5, 2, 3, 4, 6, 0, 1] rfl, hD.sub [5, 2, 3, 4, 6, 0, 1] (by decide) rfl⟩, hS.F ht⟩) hS.2.2 dX4_readClause_104
              ·
                have i_39 : z33.toInt = 0 := by have z := g5_neN (a := z33.toInt) (b := 0) (by rfl) (by decide) c_39; omega
                refine lv_iconst (v := 0) hx hb dX4_readClause_93 (by decide) ?_
                exact W.zret (v := 0) hx hb hr rfl (fun t ht hW => ⟨⟨0, [(a_r, (oc4 a_tk a_rh a_rs a_rc z34 z35 z36 e_fp)), (a_tk, (oc8 a_kd a_nm a_pl)), (a_kd, (arI G 401 f_kd)), (a_nm, (arI G 401 f_nm)), (a_rc, (arI G 400 z37)), (a_rh, (arI G 12 (upd f_rh p_c.toNatClampNeg (z2 - 256)))), (a_rs, (arI G 13 (upd f_rs p_c.toNatClampNeg e_ln)))], rfl, ⟨0, z34, z35, z36, z37, (upd f_rh p_c.toNatClampNeg (z2 - 256)), (upd f_rs p_c.toNatClampNeg e_ln), ⟨by have zc_o_r : (0 : Int32).toInt = 0 := (by decide); omega, by have zc_o_r : (0 : Int32).toInt = 0 := (by decide); omega⟩, ⟨by omega, by omega⟩, i_29, i_30, i_31, fun h => absurd h (by decide), rfl, rfl⟩, by rw [ht]; exact hP.sub [2, 3, 4, 5, 6, 0, 1] rfl, hD.sub [2, 3, 4, 5, 6, 0, 1] (by decide) rfl⟩, hS.F ht⟩) hS.2.2 dX4_readClause_94
            ·
              have i_26 : z23.toInt = 0 := by have z := g5_neN (a := z23.toInt) (b := 0) (by rfl) (by decide) c_26; omega
              refine lv_iconst (v := 1) hx hb dX4_readClause_83 (by decide) ?_
              exact W.zret (v := 1) hx hb hr rfl (fun t ht hW => ⟨⟨1, [(a_r, (oc4 a_tk a_rh a_rs a_rc z15 z16 z24 e_fp)), (a_tk, (oc8 a_kd a_nm a_pl)), (a_kd, (arI G 401 f_kd)), (a_nm, (arI G 401 f_nm)), (a_rc, (arI G 400 z18)), (a_rh, (arI G 12 (upd f_rh p_c.toNatClampNeg (z2 - 256)))), (a_rs, (arI G 13 (upd f_rs p_c.toNatClampNeg e_ln)))], rfl, ⟨1, z15, z16, z24, z18, (upd f_rh p_c.toNatClampNeg (z2 - 256)), (upd f_rs p_c.toNatClampNeg e_ln), ⟨by have zc_o_r : (1 : Int32).toInt = 1 := (by decide); omega, by have zc_o_r : (1 : Int32).toInt = 1 := (by decide); omega⟩, ⟨by omega, by omega⟩, i_22, i_11, i_12, fun _ => sti_set e_si (by omega) (by omega) (by omega), rfl, rfl⟩, by rw [ht]; exact hP.sub [4, 5, 6, 2, 3, 0, 1] rfl, hD.sub [4, 5, 6, 2, 3, 0, 1] (by decide) rfl⟩, hS.F ht⟩) hS.2.2 dX4_readClause_84
          ·
            have i_20 : z14.toInt = 0 := by have z := g5_neN (a := z14.toInt) (b := 0) (by rfl) (by decide) c_20; omega
            refine lv_iconst (v := 0) hx hb dX4_readClause_71 (by decide) ?_
            exact W.zret (v := 0) hx hb hr rfl (fun t ht hW => ⟨⟨0, [(a_r, (oc4 a_tk a_rh a_rs a_rc z15 z16 z17 e_fp)), (a_tk, (oc8 a_kd a_nm a_pl)), (a_kd, (arI G 401 f_kd)), (a_nm, (arI G 401 f_nm)), (a_rc, (arI G 400 z18)), (a_rh, (arI G 12 (upd f_rh p_c.toNatClampNeg (z2 - 256)))), (a_rs, (arI G 13 (upd f_rs p_c.toNatClampNeg e_ln)))], rfl, ⟨0, z15, z16, z17, z18, (upd f_rh p_c.toNatClampNeg (z2 - 256)), (upd f_rs p_c.toNatClampNeg e_ln), ⟨by have zc_o_r : (0 : Int32).toInt = 0 := (by decide); omega, by have zc_o_r : (0 : Int32).toInt = 0 := (by decide); omega⟩, ⟨by omega, by omega⟩, i_10, i_11, i_12, fun h => absurd h (by decide), rfl, rfl⟩, by rw [ht]; exact hP.sub [2, 3, 4, 5, 6, 0, 1] rfl, hD.sub [2, 3, 4, 5, 6, 0, 1] (by decide) rfl⟩, hS.F ht⟩) hS.2.2 dX4_readClause_72
        ·
          have n_7 : gNe ((z2 - 256).toInt) (0) := by have z := g5_eqN (a := (z2 - 256).toInt) (b := 0) (by rfl) (by decide) c_7; unfold gNe; omega
          have i_7 : (z2 - 256).toInt ≥ 1 := by have z := g5_eqN (a := (z2 - 256).toInt) (b := 0) (by rfl) (by decide) c_7; omega
          refine lv_iload_n hx hb dX4_readClause_58 rfl (lv_at hl 0 rfl) ?_
          refine lv_iconst (v := 1) hx hb dX4_readClause_59 (by decide) ?_
          refine lv_icmp_ne (tgt := 73) hx hb dX4_readClause_60 (by decide) (fun c_49 => ?_) (fun c_49 => ?_)
          ·
            have n_49 : gNe ((z2 - 256).toInt) (1) := by have z := g5_ne (a := (z2 - 256).toInt) (b := 1) (by rfl) (by decide) c_49; unfold gNe; omega
            have i_49 : (z2 - 256).toInt ≥ 2 := by have z := g5_ne (a := (z2 - 256).toInt) (b := 1) (by rfl) (by decide) c_49; omega
            refine lv_aload_n hx hb dX4_readClause_73 rfl (lv_at hl 1 rfl) ?_
            refine lv_sipush (v := 260) hx hb dX4_readClause_74 (by decide) ?_
            obtain ⟨hPc, hDc, hFc⟩ := g5_sub3 (wc := [(a_r, (oc4 a_tk a_rh a_rs a_rc e_ln e_pa (e_at + 1) e_fp)), (a_tk, (oc8 a_kd a_nm a_pl)), (a_kd, (arI G 401 f_kd))]) hP hD hS hA [0, 5, 6] (by decide) rfl
            refine va_calli (va_runV (As := [.int 260]) (rest := []) ⟨hx, hb, hml, hown, hts⟩ (r_passed l G a_r a_tk a_kd a_rh a_rs a_rc a_nm a_pl H.size e_ln e_pa (e_at + 1) e_fp 260 f_kd h_e_ln h_e_pa ⟨by omega, by omega⟩) (cwV 1 hts gV_X4_63 rfl rfl rfl hv_X4_passed ⟨Nat.le_of_ble_eq_true rfl, Nat.le_of_ble_eq_true rfl⟩) (g5_preV hPc hK hDc hN hT hS hFc (ci := 4) (q0 := 0) rfl rfl) rfl rfl hl.1 rfl (lv_room (Nat.le_of_ble_eq_true rfl)) dX4_readClause_77 ⟨Nat.le_of_ble_eq_true rfl, Nat.le_of_ble_eq_true rfl⟩) hS (fun q _ h => hFc q h) hFc (fun r u t H1 locs ht hvm hw hB hz1 hk1 hS => ?_)
            obtain ⟨hP1, hD1⟩ := hB
            rw [ht] at hP1
            obtain ⟨z52, z53, i_50, i_51, y54, rfl⟩ := hw
            have i_50 : 0 ≤ z52.toInt ∧ z52.toInt ≤ 1 := i_50
            have i_51 : 0 ≤ z53.toInt ∧ z53.toInt ≤ 401 := i_51
            obtain ⟨hP, hD⟩ := va_join (wr := [(a_nm, (arI G 401 f_nm)), (a_rc, (arI G 400 f_rc)), (a_rh, (arI G 12 (upd f_rh p_c.toNatClampNeg (z2 - 256)))), (a_rs, (arI G 13 (upd f_rs p_c.toNatClampNeg e_ln)))]) hP hD [0, 5, 6] [1, 2, 3, 4] rfl rfl (by decide) (by decide) hk1 hFc hP1 hD1
            generalize H1 = H at hP hS ⊢
            refine g5_rs [(a_nm, (arI G 401 f_nm)), (a_rc, (arI G 400 f_rc)), (a_rh, (arI G 12 (upd f_rh p_c.toNatClampNeg (z2 - 256)))), (a_rs, (arI G 13 (upd f_rs p_c.toNatClampNeg e_ln))), (a_r, (oc4 a_tk a_rh a_rs a_rc e_ln e_pa z53 e_fp)), (a_tk, (oc8 a_kd a_nm a_pl)), (a_kd, (arI G 401 f_kd))] hP hD (fun hP hD => ?_)
            refine g5_ti (v := z52) y54 ?_
            refine lv_if_ne (tgt := 85) hx hb dX4_readClause_80 (by decide) (fun c_55 => ?_) (fun c_55 => ?_)
            ·
              have n_55 : gNe (z52.toInt) (0) := by have z := g5_ne (a := z52.toInt) (b := 0) (by rfl) (by decide) c_55; unfold gNe; omega
              have i_55 : z52.toInt ≥ 1 := by have z := g5_ne (a := z52.toInt) (b := 0) (by rfl) (by decide) c_55; omega
              refine lv_aload_n hx hb dX4_readClause_85 rfl (lv_at hl 1 rfl) ?_
              refine lv_iconst (v := 0) hx hb dX4_readClause_86 (by decide) ?_
              obtain ⟨hPc, hDc, hFc⟩ := g5_sub3 (wc := [(a_r, (oc4 a_tk a_rh a_rs a_rc e_ln e_pa z53 e_fp)), (a_tk, (oc8 a_kd a_nm a_pl)), (a_kd, (arI G 401 f_kd)), (a_nm, (arI G 401 f_nm)), (a_rc, (arI G 400 f_rc))]) hP hD hS hA [4, 5, 6, 0, 1] (by decide) rfl
              refine va_calli (va_runV (As := [.int 0]) (rest := []) ⟨hx, hb, hml, hown, hts⟩ (r_test0 l G a_r a_tk a_kd a_nm a_rc a_rh a_rs a_pl H.size e_ln e_pa z53 e_fp f_kd f_nm f_rc h_e_ln h_e_pa i_51 (e_tk) (e_cd)) (cwV 1 hts gV_X4_76 rfl rfl rfl hv_X4_readTest ⟨Nat.le_of_ble_eq_true rfl, Nat.le_of_ble_eq_true rfl⟩) (g5_preV hPc hK hDc hN hT hS hFc (ci := 4) (q0 := 0) rfl rfl) rfl rfl hl.1 rfl (lv_room (Nat.le_of_ble_eq_true rfl)) dX4_readClause_87 ⟨Nat.le_of_ble_eq_true rfl, Nat.le_of_ble_eq_true rfl⟩) hS (fun q _ h => hFc q h) hFc (fun r u t H1 locs ht hvm hw hB hz1 hk1 hS => ?_)
              obtain ⟨hP1, hD1⟩ := hB
              rw [ht] at hP1
              obtain ⟨z62, z63, z64, z65, z66, i_56, i_57, i_58, i_59, i_60, i_61, y67, rfl⟩ := hw
              have i_56 : 0 ≤ z62.toInt ∧ z62.toInt ≤ 1 := i_56
              have i_57 : e_ln.toInt ≤ z63.toInt ∧ z63.toInt ≤ 400 := i_57
              have i_58 : 0 ≤ z65.toInt ∧ z65.toInt ≤ 401 := i_58
              have i_59 : 0 ≤ z64.toInt ∧ z64.toInt ≤ 50 := i_59
              have i_60 : CDI z66 z63.toInt := i_60
              have i_61 : OPK f_rc z66 e_ln.toInt := i_61
              obtain ⟨hP, hD⟩ := va_join (wr := [(a_rh, (arI G 12 (upd f_rh p_c.toNatClampNeg (z2 - 256)))), (a_rs, (arI G 13 (upd f_rs p_c.toNatClampNeg e_ln)))]) hP hD [4, 5, 6, 0, 1] [2, 3] rfl rfl (by decide) (by decide) hk1 hFc hP1 hD1
              generalize H1 = H at hP hS ⊢
              refine g5_rs [(a_rh, (arI G 12 (upd f_rh p_c.toNatClampNeg (z2 - 256)))), (a_rs, (arI G 13 (upd f_rs p_c.toNatClampNeg e_ln))), (a_r, (oc4 a_tk a_rh a_rs a_rc z63 z64 z65 e_fp)), (a_tk, (oc8 a_kd a_nm a_pl)), (a_kd, (arI G 401 f_kd)), (a_nm, (arI G 401 f_nm)), (a_rc, (arI G 400 z66))] hP hD (fun hP hD => ?_)
              refine g5_ti (v := z62) y67 ?_
              refine lv_if_ne (tgt := 95) hx hb dX4_readClause_90 (by decide) (fun c_68 => ?_) (fun c_68 => ?_)
              ·
                have n_68 : gNe (z62.toInt) (0) := by have z := g5_ne (a := z62.toInt) (b := 0) (by rfl) (by decide) c_68; unfold gNe; omega
                have i_68 : z62.toInt ≥ 1 := by have z := g5_ne (a := z62.toInt) (b := 0) (by rfl) (by decide) c_68; omega
                refine lv_aload_n hx hb dX4_readClause_95 rfl (lv_at hl 1 rfl) ?_
                refine lv_bipush (v := 10) hx hb dX4_readClause_96 (by decide) ?_
                refine lv_iconst (v := 0) hx hb dX4_readClause_98 (by decide) ?_
                obtain ⟨hPc, hDc, hFc⟩ := g5_sub3 (wc := [(a_r, (oc4 a_tk a_rh a_rs a_rc z63 z64 z65 e_fp)), (a_rc, (arI G 400 z66))]) hP hD hS hA [2, 6] (by decide) rfl
                refine va_calli (va_runV (As := [.int 10, .int 0]) (rest := []) ⟨hx, hb, hml, hown, hts⟩ (r_emit l G a_r a_rc a_tk a_rh a_rs H.size z63 z64 z65 e_fp 10 0 z66 ⟨by omega, by omega⟩ i_59 i_58 (i_60) (by unfold wOK; decide)) (cwV 2 hts gV_X4_79 rfl rfl rfl hv_X4_emit ⟨Nat.le_of_ble_eq_true rfl, Nat.le_of_ble_eq_true rfl⟩) (g5_preV hPc hK hDc hN hT hS hFc (ci := 4) (q0 := 0) rfl rfl) rfl rfl hl.1 rfl (lv_room (Nat.le_of_ble_eq_true rfl)) dX4_readClause_99 ⟨Nat.le_of_ble_eq_true rfl, Nat.le_of_ble_eq_true rfl⟩) hS (fun q _ h => hFc q h) hFc (fun r u t H1 locs ht hvm hw hB hz1 hk1 hS => ?_)
                obtain ⟨hP1, hD1⟩ := hB
                rw [ht] at hP1
                obtain ⟨z74, z75, z76, i_69, i_70, i_71, i_72, i_73, y77, rfl⟩ := hw
                have i_69 : -1 ≤ z74.toInt ∧ z74.toInt ≤ 399 := i_69
                have i_70 : z63.toInt ≤ z75.toInt ∧ z75.toInt ≤ 400 := i_70
                have i_71 : CDI z76 z75.toInt := i_71
                have i_72 : OPK z66 z76 z63.toInt := i_72
                have i_73 : 0 ≤ z74.toInt → z74.toInt < z75.toInt ∧ z76 z74.toNatClampNeg = (((10 : Int32) <<< (12 &&& 31)) ||| (0 : Int32)) := i_73
                obtain ⟨hP, hD⟩ := va_join (wr := [(a_rh, (arI G 12 (upd f_rh p_c.toNatClampNeg (z2 - 256)))), (a_rs, (arI G 13 (upd f_rs p_c.toNatClampNeg e_ln))), (a_tk, (oc8 a_kd a_nm a_pl)), (a_kd, (arI G 401 f_kd)), (a_nm, (arI G 401 f_nm))]) hP hD [2, 6] [0, 1, 3, 4, 5] rfl rfl (by decide) (by decide) hk1 hFc hP1 hD1
                generalize H1 = H at hP hS ⊢
                refine g5_rs [(a_rh, (arI G 12 (upd f_rh p_c.toNatClampNeg (z2 - 256)))), (a_rs, (arI G 13 (upd f_rs p_c.toNatClampNeg e_ln))), (a_tk, (oc8 a_kd a_nm a_pl)), (a_kd, (arI G 401 f_kd)), (a_nm, (arI G 401 f_nm)), (a_r, (oc4 a_tk a_rh a_rs a_rc z75 z64 z65 e_fp)), (a_rc, (arI G 400 z76))] hP hD (fun hP hD => ?_)
                refine g5_ti (v := z74) y77 ?_
                refine lv_pop hx hb dX4_readClause_102 rfl ?_
                refine lv_iconst (v := 1) hx hb dX4_readClause_103 (by decide) ?_
                exact W.zret (v := 1) hx hb hr rfl (fun t ht hW => ⟨⟨1, [(a_r, (oc4 a_tk a_rh a_rs a_rc z75 z64 z65 e_fp)), (a_tk, (oc8 a_kd a_nm a_pl)), (a_kd, (arI G 401 f_kd)), (a_nm, (arI G 401 f_nm)), (a_rc, (arI G 400 z76)), (a_rh, (arI G 12 (upd f_rh p_c.toNatClampNeg (z2 - 256)))), (a_rs, (arI G 13 (upd f_rs p_c.toNatClampNeg e_ln)))], rfl, ⟨1, z75, z64, z65, z76, (upd f_rh p_c.toNatClampNeg (z2 - 256)), (upd f_rs p_c.toNatClampNeg e_ln), ⟨by have zc_o_r : (1 : Int32).toInt = 1 := (by decide); omega, by have zc_o_r : (1 : Int32).toInt = 1 := (by decide); omega⟩, ⟨by omega, by omega⟩, i_58, i_59, i_71, fun _ => sti_set e_si (by omega) (by omega) (by omega), rfl, rfl⟩, by rw [ht]; exact hP.sub [5, 2, 3, 4, 6, 0, 1] rfl, hD.sub [5, 2, 3, 4, 6, 0, 1] (by decide) rfl⟩, hS.F ht⟩) hS.2.2 dX4_readClause_104
              ·
                have i_68 : z62.toInt = 0 := by have z := g5_neN (a := z62.toInt) (b := 0) (by rfl) (by decide) c_68; omega
                refine lv_iconst (v := 0) hx hb dX4_readClause_93 (by decide) ?_
                exact W.zret (v := 0) hx hb hr rfl (fun t ht hW => ⟨⟨0, [(a_r, (oc4 a_tk a_rh a_rs a_rc z63 z64 z65 e_fp)), (a_tk, (oc8 a_kd a_nm a_pl)), (a_kd, (arI G 401 f_kd)), (a_nm, (arI G 401 f_nm)), (a_rc, (arI G 400 z66)), (a_rh, (arI G 12 (upd f_rh p_c.toNatClampNeg (z2 - 256)))), (a_rs, (arI G 13 (upd f_rs p_c.toNatClampNeg e_ln)))], rfl, ⟨0, z63, z64, z65, z66, (upd f_rh p_c.toNatClampNeg (z2 - 256)), (upd f_rs p_c.toNatClampNeg e_ln), ⟨by have zc_o_r : (0 : Int32).toInt = 0 := (by decide); omega, by have zc_o_r : (0 : Int32).toInt = 0 := (by decide); omega⟩, ⟨by omega, by omega⟩, i_58, i_59, i_60, fun h => absurd h (by decide), rfl, rfl⟩, by rw [ht]; exact hP.sub [2, 3, 4, 5, 6, 0, 1] rfl, hD.sub [2, 3, 4, 5, 6, 0, 1] (by decide) rfl⟩, hS.F ht⟩) hS.2.2 dX4_readClause_94
            ·
              have i_55 : z52.toInt = 0 := by have z := g5_neN (a := z52.toInt) (b := 0) (by rfl) (by decide) c_55; omega
              refine lv_iconst (v := 1) hx hb dX4_readClause_83 (by decide) ?_
              exact W.zret (v := 1) hx hb hr rfl (fun t ht hW => ⟨⟨1, [(a_r, (oc4 a_tk a_rh a_rs a_rc e_ln e_pa z53 e_fp)), (a_tk, (oc8 a_kd a_nm a_pl)), (a_kd, (arI G 401 f_kd)), (a_nm, (arI G 401 f_nm)), (a_rc, (arI G 400 f_rc)), (a_rh, (arI G 12 (upd f_rh p_c.toNatClampNeg (z2 - 256)))), (a_rs, (arI G 13 (upd f_rs p_c.toNatClampNeg e_ln)))], rfl, ⟨1, e_ln, e_pa, z53, f_rc, (upd f_rh p_c.toNatClampNeg (z2 - 256)), (upd f_rs p_c.toNatClampNeg e_ln), ⟨by have zc_o_r : (1 : Int32).toInt = 1 := (by decide); omega, by have zc_o_r : (1 : Int32).toInt = 1 := (by decide); omega⟩, ⟨by omega, by omega⟩, i_51, h_e_pa, e_cd, fun _ => sti_set e_si (by omega) (by omega) (by omega), rfl, rfl⟩, by rw [ht]; exact hP.sub [4, 5, 6, 0, 1, 2, 3] rfl, hD.sub [4, 5, 6, 0, 1, 2, 3] (by decide) rfl⟩, hS.F ht⟩) hS.2.2 dX4_readClause_84
          ·
            have i_49 : (z2 - 256).toInt = 1 := by have z := g5_neN (a := (z2 - 256).toInt) (b := 1) (by rfl) (by decide) c_49; omega
            refine lv_aload_n hx hb dX4_readClause_63 rfl (lv_at hl 1 rfl) ?_
            refine lv_iconst (v := 0) hx hb dX4_readClause_64 (by decide) ?_
            obtain ⟨hPc, hDc, hFc⟩ := g5_sub3 (wc := [(a_r, (oc4 a_tk a_rh a_rs a_rc e_ln e_pa (e_at + 1) e_fp)), (a_tk, (oc8 a_kd a_nm a_pl)), (a_kd, (arI G 401 f_kd)), (a_nm, (arI G 401 f_nm)), (a_rc, (arI G 400 f_rc))]) hP hD hS hA [0, 5, 6, 1, 2] (by decide) rfl
            refine va_calli (va_runV (As := [.int 0]) (rest := []) ⟨hx, hb, hml, hown, hts⟩ (r_sum0 l G a_r a_tk a_kd a_nm a_rc a_rh a_rs a_pl H.size e_ln e_pa (e_at + 1) e_fp f_kd f_nm f_rc h_e_ln h_e_pa ⟨by omega, by omega⟩ (e_tk) (e_cd)) (cwV 1 hts gV_X4_73 rfl rfl rfl hv_X4_readSum ⟨Nat.le_of_ble_eq_true rfl, Nat.le_of_ble_eq_true rfl⟩) (g5_preV hPc hK hDc hN hT hS hFc (ci := 4) (q0 := 0) rfl rfl) rfl rfl hl.1 rfl (lv_room (Nat.le_of_ble_eq_true rfl)) dX4_readClause_65 ⟨Nat.le_of_ble_eq_true rfl, Nat.le_of_ble_eq_true rfl⟩) hS (fun q _ h => hFc q h) hFc (fun r u t H1 locs ht hvm hw hB hz1 hk1 hS => ?_)
            obtain ⟨hP1, hD1⟩ := hB
            rw [ht] at hP1
            obtain ⟨z84, z85, z86, z87, z88, i_78, i_79, i_80, i_81, i_82, i_83, y89, rfl⟩ := hw
            have i_78 : 0 ≤ z84.toInt ∧ z84.toInt ≤ 1 := i_78
            have i_79 : e_ln.toInt ≤ z85.toInt ∧ z85.toInt ≤ 400 := i_79
            have i_80 : 0 ≤ z87.toInt ∧ z87.toInt ≤ 401 := i_80
            have i_81 : 0 ≤ z86.toInt ∧ z86.toInt ≤ 50 := i_81
            have i_82 : CDI z88 z85.toInt := i_82
            have i_83 : OPK f_rc z88 e_ln.toInt := i_83
            obtain ⟨hP, hD⟩ := va_join (wr := [(a_rh, (arI G 12 (upd f_rh p_c.toNatClampNeg (z2 - 256)))), (a_rs, (arI G 13 (upd f_rs p_c.toNatClampNeg e_ln)))]) hP hD [0, 5, 6, 1, 2] [3, 4] rfl rfl (by decide) (by decide) hk1 hFc hP1 hD1
            generalize H1 = H at hP hS ⊢
            refine g5_rs [(a_rh, (arI G 12 (upd f_rh p_c.toNatClampNeg (z2 - 256)))), (a_rs, (arI G 13 (upd f_rs p_c.toNatClampNeg e_ln))), (a_r, (oc4 a_tk a_rh a_rs a_rc z85 z86 z87 e_fp)), (a_tk, (oc8 a_kd a_nm a_pl)), (a_kd, (arI G 401 f_kd)), (a_nm, (arI G 401 f_nm)), (a_rc, (arI G 400 z88))] hP hD (fun hP hD => ?_)
            refine g5_ti (v := z84) y89 ?_
            refine lv_if_ne (tgt := 73) hx hb dX4_readClause_68 (by decide) (fun c_90 => ?_) (fun c_90 => ?_)
            ·
              have n_90 : gNe (z84.toInt) (0) := by have z := g5_ne (a := z84.toInt) (b := 0) (by rfl) (by decide) c_90; unfold gNe; omega
              have i_90 : z84.toInt ≥ 1 := by have z := g5_ne (a := z84.toInt) (b := 0) (by rfl) (by decide) c_90; omega
              refine lv_aload_n hx hb dX4_readClause_73 rfl (lv_at hl 1 rfl) ?_
              refine lv_sipush (v := 260) hx hb dX4_readClause_74 (by decide) ?_
              obtain ⟨hPc, hDc, hFc⟩ := g5_sub3 (wc := [(a_r, (oc4 a_tk a_rh a_rs a_rc z85 z86 z87 e_fp)), (a_tk, (oc8 a_kd a_nm a_pl)), (a_kd, (arI G 401 f_kd))]) hP hD hS hA [2, 3, 4] (by decide) rfl
              refine va_calli (va_runV (As := [.int 260]) (rest := []) ⟨hx, hb, hml, hown, hts⟩ (r_passed l G a_r a_tk a_kd a_rh a_rs a_rc a_nm a_pl H.size z85 z86 z87 e_fp 260 f_kd ⟨by omega, by omega⟩ i_81 i_80) (cwV 1 hts gV_X4_63 rfl rfl rfl hv_X4_passed ⟨Nat.le_of_ble_eq_true rfl, Nat.le_of_ble_eq_true rfl⟩) (g5_preV hPc hK hDc hN hT hS hFc (ci := 4) (q0 := 0) rfl rfl) rfl rfl hl.1 rfl (lv_room (Nat.le_of_ble_eq_true rfl)) dX4_readClause_77 ⟨Nat.le_of_ble_eq_true rfl, Nat.le_of_ble_eq_true rfl⟩) hS (fun q _ h => hFc q h) hFc (fun r u t H1 locs ht hvm hw hB hz1 hk1 hS => ?_)
              obtain ⟨hP1, hD1⟩ := hB
              rw [ht] at hP1
              obtain ⟨z93, z94, i_91, i_92, y95, rfl⟩ := hw
              have i_91 : 0 ≤ z93.toInt ∧ z93.toInt ≤ 1 := i_91
              have i_92 : 0 ≤ z94.toInt ∧ z94.toInt ≤ 401 := i_92
              obtain ⟨hP, hD⟩ := va_join (wr := [(a_rh, (arI G 12 (upd f_rh p_c.toNatClampNeg (z2 - 256)))), (a_rs, (arI G 13 (upd f_rs p_c.toNatClampNeg e_ln))), (a_nm, (arI G 401 f_nm)), (a_rc, (arI G 400 z88))]) hP hD [2, 3, 4] [0, 1, 5, 6] rfl rfl (by decide) (by decide) hk1 hFc hP1 hD1
              generalize H1 = H at hP hS ⊢
              refine g5_rs [(a_rh, (arI G 12 (upd f_rh p_c.toNatClampNeg (z2 - 256)))), (a_rs, (arI G 13 (upd f_rs p_c.toNatClampNeg e_ln))), (a_nm, (arI G 401 f_nm)), (a_rc, (arI G 400 z88)), (a_r, (oc4 a_tk a_rh a_rs a_rc z85 z86 z94 e_fp)), (a_tk, (oc8 a_kd a_nm a_pl)), (a_kd, (arI G 401 f_kd))] hP hD (fun hP hD => ?_)
              refine g5_ti (v := z93) y95 ?_
              refine lv_if_ne (tgt := 85) hx hb dX4_readClause_80 (by decide) (fun c_96 => ?_) (fun c_96 => ?_)
              ·
                have n_96 : gNe (z93.toInt) (0) := by have z := g5_ne (a := z93.toInt) (b := 0) (by rfl) (by decide) c_96; unfold gNe; omega
                have i_96 : z93.toInt ≥ 1 := by have z := g5_ne (a := z93.toInt) (b := 0) (by rfl) (by decide) c_96; omega
                refine lv_aload_n hx hb dX4_readClause_85 rfl (lv_at hl 1 rfl) ?_
                refine lv_iconst (v := 0) hx hb dX4_readClause_86 (by decide) ?_
                obtain ⟨hPc, hDc, hFc⟩ := g5_sub3 (wc := [(a_r, (oc4 a_tk a_rh a_rs a_rc z85 z86 z94 e_fp)), (a_tk, (oc8 a_kd a_nm a_pl)), (a_kd, (arI G 401 f_kd)), (a_nm, (arI G 401 f_nm)), (a_rc, (arI G 400 z88))]) hP hD hS hA [4, 5, 6, 2, 3] (by decide) rfl
                refine va_calli (va_runV (As := [.int 0]) (rest := []) ⟨hx, hb, hml, hown, hts⟩ (r_test0 l G a_r a_tk a_kd a_nm a_rc a_rh a_rs a_pl H.size z85 z86 z94 e_fp f_kd f_nm z88 ⟨by omega, by omega⟩ i_81 i_92 (e_tk) (i_82)) (cwV 1 hts gV_X4_76 rfl rfl rfl hv_X4_readTest ⟨Nat.le_of_ble_eq_true rfl, Nat.le_of_ble_eq_true rfl⟩) (g5_preV hPc hK hDc hN hT hS hFc (ci := 4) (q0 := 0) rfl rfl) rfl rfl hl.1 rfl (lv_room (Nat.le_of_ble_eq_true rfl)) dX4_readClause_87 ⟨Nat.le_of_ble_eq_true rfl, Nat.le_of_ble_eq_true rfl⟩) hS (fun q _ h => hFc q h) hFc (fun r u t H1 locs ht hvm hw hB hz1 hk1 hS => ?_)
                obtain ⟨hP1, hD1⟩ := hB
                rw [ht] at hP1
                obtain ⟨z103, z104, z105, z106, z107, i_97, i_98, i_99, i_100, i_101, i_102, y108, rfl⟩ := hw
                have i_97 : 0 ≤ z103.toInt ∧ z103.toInt ≤ 1 := i_97
                have i_98 : z85.toInt ≤ z104.toInt ∧ z104.toInt ≤ 400 := i_98
                have i_99 : 0 ≤ z106.toInt ∧ z106.toInt ≤ 401 := i_99
                have i_100 : 0 ≤ z105.toInt ∧ z105.toInt ≤ 50 := i_100
                have i_101 : CDI z107 z104.toInt := i_101
                have i_102 : OPK z88 z107 z85.toInt := i_102
                obtain ⟨hP, hD⟩ := va_join (wr := [(a_rh, (arI G 12 (upd f_rh p_c.toNatClampNeg (z2 - 256)))), (a_rs, (arI G 13 (upd f_rs p_c.toNatClampNeg e_ln)))]) hP hD [4, 5, 6, 2, 3] [0, 1] rfl rfl (by decide) (by decide) hk1 hFc hP1 hD1
                generalize H1 = H at hP hS ⊢
                refine g5_rs [(a_rh, (arI G 12 (upd f_rh p_c.toNatClampNeg (z2 - 256)))), (a_rs, (arI G 13 (upd f_rs p_c.toNatClampNeg e_ln))), (a_r, (oc4 a_tk a_rh a_rs a_rc z104 z105 z106 e_fp)), (a_tk, (oc8 a_kd a_nm a_pl)), (a_kd, (arI G 401 f_kd)), (a_nm, (arI G 401 f_nm)), (a_rc, (arI G 400 z107))] hP hD (fun hP hD => ?_)
                refine g5_ti (v := z103) y108 ?_
                refine lv_if_ne (tgt := 95) hx hb dX4_readClause_90 (by decide) (fun c_109 => ?_) (fun c_109 => ?_)
                ·
                  have n_109 : gNe (z103.toInt) (0) := by have z := g5_ne (a := z103.toInt) (b := 0) (by rfl) (by decide) c_109; unfold gNe; omega
                  have i_109 : z103.toInt ≥ 1 := by have z := g5_ne (a := z103.toInt) (b := 0) (by rfl) (by decide) c_109; omega
                  refine lv_aload_n hx hb dX4_readClause_95 rfl (lv_at hl 1 rfl) ?_
                  refine lv_bipush (v := 10) hx hb dX4_readClause_96 (by decide) ?_
                  refine lv_iconst (v := 0) hx hb dX4_readClause_98 (by decide) ?_
                  obtain ⟨hPc, hDc, hFc⟩ := g5_sub3 (wc := [(a_r, (oc4 a_tk a_rh a_rs a_rc z104 z105 z106 e_fp)), (a_rc, (arI G 400 z107))]) hP hD hS hA [2, 6] (by decide) rfl
                  refine va_calli (va_runV (As := [.int 10, .int 0]) (rest := []) ⟨hx, hb, hml, hown, hts⟩ (r_emit l G a_r a_rc a_tk a_rh a_rs H.size z104 z105 z106 e_fp 10 0 z107 ⟨by omega, by omega⟩ i_100 i_99 (i_101) (by unfold wOK; decide)) (cwV 2 hts gV_X4_79 rfl rfl rfl hv_X4_emit ⟨Nat.le_of_ble_eq_true rfl, Nat.le_of_ble_eq_true rfl⟩) (g5_preV hPc hK hDc hN hT hS hFc (ci := 4) (q0 := 0) rfl rfl) rfl rfl hl.1 rfl (lv_room (Nat.le_of_ble_eq_true rfl)) dX4_readClause_99 ⟨Nat.le_of_ble_eq_true rfl, Nat.le_of_ble_eq_true rfl⟩) hS (fun q _ h => hFc q h) hFc (fun r u t H1 locs ht hvm hw hB hz1 hk1 hS => ?_)
                  obtain ⟨hP1, hD1⟩ := hB
                  rw [ht] at hP1
                  obtain ⟨z115, z116, z117, i_110, i_111, i_112, i_113, i_114, y118, rfl⟩ := hw
                  have i_110 : -1 ≤ z115.toInt ∧ z115.toInt ≤ 399 := i_110
                  have i_111 : z104.toInt ≤ z116.toInt ∧ z116.toInt ≤ 400 := i_111
                  have i_112 : CDI z117 z116.toInt := i_112
                  have i_113 : OPK z107 z117 z104.toInt := i_113
                  have i_114 : 0 ≤ z115.toInt → z115.toInt < z116.toInt ∧ z117 z115.toNatClampNeg = (((10 : Int32) <<< (12 &&& 31)) ||| (0 : Int32)) := i_114
                  obtain ⟨hP, hD⟩ := va_join (wr := [(a_rh, (arI G 12 (upd f_rh p_c.toNatClampNeg (z2 - 256)))), (a_rs, (arI G 13 (upd f_rs p_c.toNatClampNeg e_ln))), (a_tk, (oc8 a_kd a_nm a_pl)), (a_kd, (arI G 401 f_kd)), (a_nm, (arI G 401 f_nm))]) hP hD [2, 6] [0, 1, 3, 4, 5] rfl rfl (by decide) (by decide) hk1 hFc hP1 hD1
                  generalize H1 = H at hP hS ⊢
                  refine g5_rs [(a_rh, (arI G 12 (upd f_rh p_c.toNatClampNeg (z2 - 256)))), (a_rs, (arI G 13 (upd f_rs p_c.toNatClampNeg e_ln))), (a_tk, (oc8 a_kd a_nm a_pl)), (a_kd, (arI G 401 f_kd)), (a_nm, (arI G 401 f_nm)), (a_r, (oc4 a_tk a_rh a_rs a_rc z116 z105 z106 e_fp)), (a_rc, (arI G 400 z117))] hP hD (fun hP hD => ?_)
                  refine g5_ti (v := z115) y118 ?_
                  refine lv_pop hx hb dX4_readClause_102 rfl ?_
                  refine lv_iconst (v := 1) hx hb dX4_readClause_103 (by decide) ?_
                  exact W.zret (v := 1) hx hb hr rfl (fun t ht hW => ⟨⟨1, [(a_r, (oc4 a_tk a_rh a_rs a_rc z116 z105 z106 e_fp)), (a_tk, (oc8 a_kd a_nm a_pl)), (a_kd, (arI G 401 f_kd)), (a_nm, (arI G 401 f_nm)), (a_rc, (arI G 400 z117)), (a_rh, (arI G 12 (upd f_rh p_c.toNatClampNeg (z2 - 256)))), (a_rs, (arI G 13 (upd f_rs p_c.toNatClampNeg e_ln)))], rfl, ⟨1, z116, z105, z106, z117, (upd f_rh p_c.toNatClampNeg (z2 - 256)), (upd f_rs p_c.toNatClampNeg e_ln), ⟨by have zc_o_r : (1 : Int32).toInt = 1 := (by decide); omega, by have zc_o_r : (1 : Int32).toInt = 1 := (by decide); omega⟩, ⟨by omega, by omega⟩, i_99, i_100, i_112, fun _ => sti_set e_si (by omega) (by omega) (by omega), rfl, rfl⟩, by rw [ht]; exact hP.sub [5, 2, 3, 4, 6, 0, 1] rfl, hD.sub [5, 2, 3, 4, 6, 0, 1] (by decide) rfl⟩, hS.F ht⟩) hS.2.2 dX4_readClause_104
                ·
                  have i_109 : z103.toInt = 0 := by have z := g5_neN (a := z103.toInt) (b := 0) (by rfl) (by decide) c_109; omega
                  refine lv_iconst (v := 0) hx hb dX4_readClause_93 (by decide) ?_
                  exact W.zret (v := 0) hx hb hr rfl (fun t ht hW => ⟨⟨0, [(a_r, (oc4 a_tk a_rh a_rs a_rc z104 z105 z106 e_fp)), (a_tk, (oc8 a_kd a_nm a_pl)), (a_kd, (arI G 401 f_kd)), (a_nm, (arI G 401 f_nm)), (a_rc, (arI G 400 z107)), (a_rh, (arI G 12 (upd f_rh p_c.toNatClampNeg (z2 - 256)))), (a_rs, (arI G 13 (upd f_rs p_c.toNatClampNeg e_ln)))], rfl, ⟨0, z104, z105, z106, z107, (upd f_rh p_c.toNatClampNeg (z2 - 256)), (upd f_rs p_c.toNatClampNeg e_ln), ⟨by have zc_o_r : (0 : Int32).toInt = 0 := (by decide); omega, by have zc_o_r : (0 : Int32).toInt = 0 := (by decide); omega⟩, ⟨by omega, by omega⟩, i_99, i_100, i_101, fun h => absurd h (by decide), rfl, rfl⟩, by rw [ht]; exact hP.sub [2, 3, 4, 5, 6, 0, 1] rfl, hD.sub [2, 3, 4, 5, 6, 0, 1] (by decide) rfl⟩, hS.F ht⟩) hS.2.2 dX4_readClause_94
              ·
                have i_96 : z93.toInt = 0 := by have z := g5_neN (a := z93.toInt) (b := 0) (by rfl) (by decide) c_96; omega
                refine lv_iconst (v := 1) hx hb dX4_readClause_83 (by decide) ?_
                exact W.zret (v := 1) hx hb hr rfl (fun t ht hW => ⟨⟨1, [(a_r, (oc4 a_tk a_rh a_rs a_rc z85 z86 z94 e_fp)), (a_tk, (oc8 a_kd a_nm a_pl)), (a_kd, (arI G 401 f_kd)), (a_nm, (arI G 401 f_nm)), (a_rc, (arI G 400 z88)), (a_rh, (arI G 12 (upd f_rh p_c.toNatClampNeg (z2 - 256)))), (a_rs, (arI G 13 (upd f_rs p_c.toNatClampNeg e_ln)))], rfl, ⟨1, z85, z86, z94, z88, (upd f_rh p_c.toNatClampNeg (z2 - 256)), (upd f_rs p_c.toNatClampNeg e_ln), ⟨by have zc_o_r : (1 : Int32).toInt = 1 := (by decide); omega, by have zc_o_r : (1 : Int32).toInt = 1 := (by decide); omega⟩, ⟨by omega, by omega⟩, i_92, i_81, i_82, fun _ => sti_set e_si (by omega) (by omega) (by omega), rfl, rfl⟩, by rw [ht]; exact hP.sub [4, 5, 6, 2, 3, 0, 1] rfl, hD.sub [4, 5, 6, 2, 3, 0, 1] (by decide) rfl⟩, hS.F ht⟩) hS.2.2 dX4_readClause_84
            ·
              have i_90 : z84.toInt = 0 := by have z := g5_neN (a := z84.toInt) (b := 0) (by rfl) (by decide) c_90; omega
              refine lv_iconst (v := 0) hx hb dX4_readClause_71 (by decide) ?_
              exact W.zret (v := 0) hx hb hr rfl (fun t ht hW => ⟨⟨0, [(a_r, (oc4 a_tk a_rh a_rs a_rc z85 z86 z87 e_fp)), (a_tk, (oc8 a_kd a_nm a_pl)), (a_kd, (arI G 401 f_kd)), (a_nm, (arI G 401 f_nm)), (a_rc, (arI G 400 z88)), (a_rh, (arI G 12 (upd f_rh p_c.toNatClampNeg (z2 - 256)))), (a_rs, (arI G 13 (upd f_rs p_c.toNatClampNeg e_ln)))], rfl, ⟨0, z85, z86, z87, z88, (upd f_rh p_c.toNatClampNeg (z2 - 256)), (upd f_rs p_c.toNatClampNeg e_ln), ⟨by have zc_o_r : (0 : Int32).toInt = 0 := (by decide); omega, by have zc_o_r : (0 : Int32).toInt = 0 := (by decide); omega⟩, ⟨by omega, by omega⟩, i_80, i_81, i_82, fun h => absurd h (by decide), rfl, rfl⟩, by rw [ht]; exact hP.sub [2, 3, 4, 5, 6, 0, 1] rfl, hD.sub [2, 3, 4, 5, 6, 0, 1] (by decide) rfl⟩, hS.F ht⟩) hS.2.2 dX4_readClause_72
      ·
        have i_5 : (z2 - 256).toInt ≥ 4 := by have z := g5_ltN (a := (z2 - 256).toInt) (b := 4) (by rfl) (by decide) c_5; omega
        refine lv_iconst (v := 0) hx hb dX4_readClause_25 (by decide) ?_
        exact W.zret (v := 0) hx hb hr rfl (fun t ht hW => ⟨⟨0, [(a_r, (oc4 a_tk a_rh a_rs a_rc e_ln e_pa e_at e_fp)), (a_tk, (oc8 a_kd a_nm a_pl)), (a_kd, (arI G 401 f_kd)), (a_nm, (arI G 401 f_nm)), (a_rc, (arI G 400 f_rc)), (a_rh, (arI G 12 f_rh)), (a_rs, (arI G 13 f_rs))], rfl, ⟨0, e_ln, e_pa, e_at, f_rc, f_rh, f_rs, ⟨by have zc_o_r : (0 : Int32).toInt = 0 := (by decide); omega, by have zc_o_r : (0 : Int32).toInt = 0 := (by decide); omega⟩, ⟨by omega, by omega⟩, h_e_at, h_e_pa, e_cd, fun h => absurd h (by decide), rfl, rfl⟩, by rw [ht]; exact hP.sub [0, 5, 6, 1, 2, 3, 4] rfl, hD.sub [0, 5, 6, 1, 2, 3, 4] (by decide) rfl⟩, hS.F ht⟩) hS.2.2 dX4_readClause_26
  ·
    obtain ⟨hP, hD⟩ := va_join (wr := [(a_r, (oc4 a_tk a_rh a_rs a_rc e_ln e_pa e_at e_fp)), (a_nm, (arI G 401 f_nm)), (a_rc, (arI G 400 f_rc)), (a_rh, (arI G 12 f_rh)), (a_rs, (arI G 13 f_rs))]) hP hD [1, 2] [0, 3, 4, 5, 6] rfl rfl (by decide) (by decide) hk1 hFc hP1 hD1
    generalize H1 = H at hP hS ⊢
    refine g5_rs [(a_r, (oc4 a_tk a_rh a_rs a_rc e_ln e_pa e_at e_fp)), (a_nm, (arI G 401 f_nm)), (a_rc, (arI G 400 f_rc)), (a_rh, (arI G 12 f_rh)), (a_rs, (arI G 13 f_rs)), (a_tk, (oc8 a_kd a_nm a_pl)), (a_kd, (arI G 401 f_kd))] hP hD (fun hP hD => ?_)
    refine lv_sipush (v := 256) hx hb dX4_readClause_11 (by decide) ?_
    refine lv_isub hx hb dX4_readClause_14 ?_
    refine g5_ti (v := 46) (by decide) ?_
    refine lv_istore_n (lv' := [(2, .int 46), (0, .ref a_r), (1, .int p_c)]) hx hb dX4_readClause_15 rfl hl (by decide) rfl (fun ls hl => ?_)
    refine lv_iload_n hx hb dX4_readClause_16 rfl (lv_at hl 0 rfl) ?_
    refine lv_if_lt (tgt := 25) hx hb dX4_readClause_17 (by decide) (fun c_119 => ?_) (fun c_119 => ?_)
    ·
      exact absurd c_119 (by decide)
    ·
      refine lv_iload_n hx hb dX4_readClause_20 rfl (lv_at hl 0 rfl) ?_
      refine lv_iconst (v := 4) hx hb dX4_readClause_21 (by decide) ?_
      refine lv_icmp_lt (tgt := 27) hx hb dX4_readClause_22 (by decide) (fun c_120 => ?_) (fun c_120 => ?_)
      ·
        exact absurd c_120 (by decide)
      ·
        refine lv_iconst (v := 0) hx hb dX4_readClause_25 (by decide) ?_
        exact W.zret (v := 0) hx hb hr rfl (fun t ht hW => ⟨⟨0, [(a_r, (oc4 a_tk a_rh a_rs a_rc e_ln e_pa e_at e_fp)), (a_tk, (oc8 a_kd a_nm a_pl)), (a_kd, (arI G 401 f_kd)), (a_nm, (arI G 401 f_nm)), (a_rc, (arI G 400 f_rc)), (a_rh, (arI G 12 f_rh)), (a_rs, (arI G 13 f_rs))], rfl, ⟨0, e_ln, e_pa, e_at, f_rc, f_rh, f_rs, ⟨by have zc_o_r : (0 : Int32).toInt = 0 := (by decide); omega, by have zc_o_r : (0 : Int32).toInt = 0 := (by decide); omega⟩, ⟨by omega, by omega⟩, h_e_at, h_e_pa, e_cd, fun h => absurd h (by decide), rfl, rfl⟩, by rw [ht]; exact hP.sub [0, 5, 6, 1, 2, 3, 4] rfl, hD.sub [0, 5, 6, 1, 2, 3, 4] (by decide) rfl⟩, hS.F ht⟩) hS.2.2 dX4_readClause_26
theorem g_stiN {f : Nat → Int32} {k k' : Int32} {l : Int} (h : STI f (k.toInt + 1) l) (hk : k'.toInt = k.toInt + 1) : STI f k'.toInt l := by rw [hk]; exact h
theorem g_sti {f g : Nat → Int32} {k k' x : Int32} {n m : Nat} (h : STI f (k.toInt + 1) x.toInt) (h0 : 0 ≤ k.toInt) (hk : k'.toInt = k.toInt + 1) (hx : 0 ≤ x.toInt) (hm : (m : Int) = x.toInt) (hn : (n : Int) = k.toInt + 2) (e : ∀ j : Nat, j < n → g j = upd f k'.toNatClampNeg x j) : ∀ j : Nat, j < n → 0 ≤ (g j).toInt ∧ (g j).toInt ≤ (m : Int) := by
  have z : STI (upd f k'.toNatClampNeg x) (k'.toInt + 1) x.toInt := sti_set (by rw [hk]; exact h) (by omega) ⟨hx, Int.le_refl _⟩ (Int.le_refl _)
  rw [hm]
  exact sti_at z (by omega) e
theorem dgX4_read_0 : ∀ r ∈ ([(0, (.aload_n 0, 1)), (1, (.getfield 12, 3)), (4, (.aload_n 1, 1)), (5, (.iload_n 2, 1)), (6, (.invokevirtual 32, 3)), (9, (.aload_n 0, 1)), (10, (.iconst 0, 1)), (11, (.putfield 36, 3)), (14, (.aload_n 0, 1)), (15, (.iconst 0, 1)), (16, (.putfield 39, 3)), (19, (.aload_n 0, 1)), (20, (.iconst 0, 1)), (21, (.putfield 42, 3)), (24, (.iconst 0, 1)), (25, (.istore_n 3, 1)), (26, (.iload_n 3, 1)), (27, (.bipush 12, 2)), (29, (.if_icmp .ge 98, 3)), (32, (.aload_n 0, 1)), (33, (.iload_n 3, 1)), (34, (.invokevirtual 45, 3)), (37, (.ifCond .eq 90, 3)), (40, (.aload_n 0, 1)), (41, (.sipush 302, 3)), (44, (.invokevirtual 49, 3)), (47, (.ifCond .eq 62, 3)), (50, (.aload_n 0, 1)), (51, (.iconst (-1), 1)), (52, (.putfield 28, 3)), (55, (.aload_n 0, 1)), (56, (.getfield 22, 3)), (59, (.iload_n 3, 1)), (60, (.iconst 1, 1)), (61, (.iadd, 1)), (62, (.aload_n 0, 1)), (63, (.getfield 36, 3)), (66, (.iastore, 1)), (67, (.new 52, 3)), (70, (.dup, 1))] : List (Nat × (Instr × Nat))), decode cX4_read r.1 = .ok r.2 := by decide +kernel
theorem dX4_read_0 : decode cX4_read 0 = .ok (.aload_n 0, 1) := dgX4_read_0 (0, (.aload_n 0, 1)) (List.mem_of_getElem? (i := 0) rfl)
theorem dX4_read_1 : decode cX4_read 1 = .ok (.getfield 12, 3) := dgX4_read_0 (1, (.getfield 12, 3)) (List.mem_of_getElem? (i := 1) rfl)
theorem dX4_read_4 : decode cX4_read 4 = .ok (.aload_n 1, 1) := dgX4_read_0 (4, (.aload_n 1, 1)) (List.mem_of_getElem? (i := 2) rfl)
theorem dX4_read_5 : decode cX4_read 5 = .ok (.iload_n 2, 1) := dgX4_read_0 (5, (.iload_n 2, 1)) (List.mem_of_getElem? (i := 3) rfl)
theorem dX4_read_6 : decode cX4_read 6 = .ok (.invokevirtual 32, 3) := dgX4_read_0 (6, (.invokevirtual 32, 3)) (List.mem_of_getElem? (i := 4) rfl)
theorem dX4_read_9 : decode cX4_read 9 = .ok (.aload_n 0, 1) := dgX4_read_0 (9, (.aload_n 0, 1)) (List.mem_of_getElem? (i := 5) rfl)
theorem dX4_read_10 : decode cX4_read 10 = .ok (.iconst 0, 1) := dgX4_read_0 (10, (.iconst 0, 1)) (List.mem_of_getElem? (i := 6) rfl)
theorem dX4_read_11 : decode cX4_read 11 = .ok (.putfield 36, 3) := dgX4_read_0 (11, (.putfield 36, 3)) (List.mem_of_getElem? (i := 7) rfl)
theorem dX4_read_14 : decode cX4_read 14 = .ok (.aload_n 0, 1) := dgX4_read_0 (14, (.aload_n 0, 1)) (List.mem_of_getElem? (i := 8) rfl)
theorem dX4_read_15 : decode cX4_read 15 = .ok (.iconst 0, 1) := dgX4_read_0 (15, (.iconst 0, 1)) (List.mem_of_getElem? (i := 9) rfl)
theorem dX4_read_16 : decode cX4_read 16 = .ok (.putfield 39, 3) := dgX4_read_0 (16, (.putfield 39, 3)) (List.mem_of_getElem? (i := 10) rfl)
theorem dX4_read_19 : decode cX4_read 19 = .ok (.aload_n 0, 1) := dgX4_read_0 (19, (.aload_n 0, 1)) (List.mem_of_getElem? (i := 11) rfl)
theorem dX4_read_20 : decode cX4_read 20 = .ok (.iconst 0, 1) := dgX4_read_0 (20, (.iconst 0, 1)) (List.mem_of_getElem? (i := 12) rfl)
theorem dX4_read_21 : decode cX4_read 21 = .ok (.putfield 42, 3) := dgX4_read_0 (21, (.putfield 42, 3)) (List.mem_of_getElem? (i := 13) rfl)
theorem dX4_read_24 : decode cX4_read 24 = .ok (.iconst 0, 1) := dgX4_read_0 (24, (.iconst 0, 1)) (List.mem_of_getElem? (i := 14) rfl)
theorem dX4_read_25 : decode cX4_read 25 = .ok (.istore_n 3, 1) := dgX4_read_0 (25, (.istore_n 3, 1)) (List.mem_of_getElem? (i := 15) rfl)
theorem dX4_read_26 : decode cX4_read 26 = .ok (.iload_n 3, 1) := dgX4_read_0 (26, (.iload_n 3, 1)) (List.mem_of_getElem? (i := 16) rfl)
theorem dX4_read_27 : decode cX4_read 27 = .ok (.bipush 12, 2) := dgX4_read_0 (27, (.bipush 12, 2)) (List.mem_of_getElem? (i := 17) rfl)
theorem dX4_read_29 : decode cX4_read 29 = .ok (.if_icmp .ge 98, 3) := dgX4_read_0 (29, (.if_icmp .ge 98, 3)) (List.mem_of_getElem? (i := 18) rfl)
theorem dX4_read_32 : decode cX4_read 32 = .ok (.aload_n 0, 1) := dgX4_read_0 (32, (.aload_n 0, 1)) (List.mem_of_getElem? (i := 19) rfl)
theorem dX4_read_33 : decode cX4_read 33 = .ok (.iload_n 3, 1) := dgX4_read_0 (33, (.iload_n 3, 1)) (List.mem_of_getElem? (i := 20) rfl)
theorem dX4_read_34 : decode cX4_read 34 = .ok (.invokevirtual 45, 3) := dgX4_read_0 (34, (.invokevirtual 45, 3)) (List.mem_of_getElem? (i := 21) rfl)
theorem dX4_read_37 : decode cX4_read 37 = .ok (.ifCond .eq 90, 3) := dgX4_read_0 (37, (.ifCond .eq 90, 3)) (List.mem_of_getElem? (i := 22) rfl)
theorem dX4_read_40 : decode cX4_read 40 = .ok (.aload_n 0, 1) := dgX4_read_0 (40, (.aload_n 0, 1)) (List.mem_of_getElem? (i := 23) rfl)
theorem dX4_read_41 : decode cX4_read 41 = .ok (.sipush 302, 3) := dgX4_read_0 (41, (.sipush 302, 3)) (List.mem_of_getElem? (i := 24) rfl)
theorem dX4_read_44 : decode cX4_read 44 = .ok (.invokevirtual 49, 3) := dgX4_read_0 (44, (.invokevirtual 49, 3)) (List.mem_of_getElem? (i := 25) rfl)
theorem dX4_read_47 : decode cX4_read 47 = .ok (.ifCond .eq 62, 3) := dgX4_read_0 (47, (.ifCond .eq 62, 3)) (List.mem_of_getElem? (i := 26) rfl)
theorem dX4_read_50 : decode cX4_read 50 = .ok (.aload_n 0, 1) := dgX4_read_0 (50, (.aload_n 0, 1)) (List.mem_of_getElem? (i := 27) rfl)
theorem dX4_read_51 : decode cX4_read 51 = .ok (.iconst (-1), 1) := dgX4_read_0 (51, (.iconst (-1), 1)) (List.mem_of_getElem? (i := 28) rfl)
theorem dX4_read_52 : decode cX4_read 52 = .ok (.putfield 28, 3) := dgX4_read_0 (52, (.putfield 28, 3)) (List.mem_of_getElem? (i := 29) rfl)
theorem dX4_read_55 : decode cX4_read 55 = .ok (.aload_n 0, 1) := dgX4_read_0 (55, (.aload_n 0, 1)) (List.mem_of_getElem? (i := 30) rfl)
theorem dX4_read_56 : decode cX4_read 56 = .ok (.getfield 22, 3) := dgX4_read_0 (56, (.getfield 22, 3)) (List.mem_of_getElem? (i := 31) rfl)
theorem dX4_read_59 : decode cX4_read 59 = .ok (.iload_n 3, 1) := dgX4_read_0 (59, (.iload_n 3, 1)) (List.mem_of_getElem? (i := 32) rfl)
theorem dX4_read_60 : decode cX4_read 60 = .ok (.iconst 1, 1) := dgX4_read_0 (60, (.iconst 1, 1)) (List.mem_of_getElem? (i := 33) rfl)
theorem dX4_read_61 : decode cX4_read 61 = .ok (.iadd, 1) := dgX4_read_0 (61, (.iadd, 1)) (List.mem_of_getElem? (i := 34) rfl)
theorem dX4_read_62 : decode cX4_read 62 = .ok (.aload_n 0, 1) := dgX4_read_0 (62, (.aload_n 0, 1)) (List.mem_of_getElem? (i := 35) rfl)
theorem dX4_read_63 : decode cX4_read 63 = .ok (.getfield 36, 3) := dgX4_read_0 (63, (.getfield 36, 3)) (List.mem_of_getElem? (i := 36) rfl)
theorem dX4_read_66 : decode cX4_read 66 = .ok (.iastore, 1) := dgX4_read_0 (66, (.iastore, 1)) (List.mem_of_getElem? (i := 37) rfl)
theorem dX4_read_67 : decode cX4_read 67 = .ok (.new 52, 3) := dgX4_read_0 (67, (.new 52, 3)) (List.mem_of_getElem? (i := 38) rfl)
theorem dX4_read_70 : decode cX4_read 70 = .ok (.dup, 1) := dgX4_read_0 (70, (.dup, 1)) (List.mem_of_getElem? (i := 39) rfl)
theorem dgX4_read_1 : ∀ r ∈ ([(71, (.iload_n 3, 1)), (72, (.iconst 1, 1)), (73, (.iadd, 1)), (74, (.aload_n 0, 1)), (75, (.getfield 18, 3)), (78, (.iload_n 3, 1)), (79, (.iconst 1, 1)), (80, (.iadd, 1)), (81, (.invokestatic 54, 3)), (84, (.aload_n 0, 1)), (85, (.getfield 22, 3)), (88, (.iload_n 3, 1)), (89, (.iconst 2, 1)), (90, (.iadd, 1)), (91, (.invokestatic 54, 3)), (94, (.aload_n 0, 1)), (95, (.getfield 25, 3)), (98, (.aload_n 0, 1)), (99, (.getfield 36, 3)), (102, (.invokestatic 54, 3)), (105, (.invokespecial 60, 3)), (108, (.areturn, 1)), (109, (.aload_n 0, 1)), (110, (.bipush 59, 2)), (112, (.invokevirtual 63, 3)), (115, (.ifCond .ne 6, 3)), (118, (.goto 9, 3)), (121, (.iinc 3 1, 3)), (124, (.goto (-98), 3)), (127, (.aload_n 0, 1)), (128, (.aload_n 0, 1)), (129, (.getfield 42, 3)), (132, (.aload_n 0, 1)), (133, (.getfield 12, 3)), (136, (.getfield 66, 3)), (139, (.arraylength, 1)), (140, (.if_icmp .ge 18, 3)), (143, (.aload_n 0, 1)), (144, (.getfield 12, 3)), (147, (.getfield 66, 3))] : List (Nat × (Instr × Nat))), decode cX4_read r.1 = .ok r.2 := by decide +kernel
theorem dX4_read_71 : decode cX4_read 71 = .ok (.iload_n 3, 1) := dgX4_read_1 (71, (.iload_n 3, 1)) (List.mem_of_getElem? (i := 0) rfl)
theorem dX4_read_72 : decode cX4_read 72 = .ok (.iconst 1, 1) := dgX4_read_1 (72, (.iconst 1, 1)) (List.mem_of_getElem? (i := 1) rfl)
theorem dX4_read_73 : decode cX4_read 73 = .ok (.iadd, 1) := dgX4_read_1 (73, (.iadd, 1)) (List.mem_of_getElem? (i := 2) rfl)
theorem dX4_read_74 : decode cX4_read 74 = .ok (.aload_n 0, 1) := dgX4_read_1 (74, (.aload_n 0, 1)) (List.mem_of_getElem? (i := 3) rfl)
theorem dX4_read_75 : decode cX4_read 75 = .ok (.getfield 18, 3) := dgX4_read_1 (75, (.getfield 18, 3)) (List.mem_of_getElem? (i := 4) rfl)
theorem dX4_read_78 : decode cX4_read 78 = .ok (.iload_n 3, 1) := dgX4_read_1 (78, (.iload_n 3, 1)) (List.mem_of_getElem? (i := 5) rfl)
theorem dX4_read_79 : decode cX4_read 79 = .ok (.iconst 1, 1) := dgX4_read_1 (79, (.iconst 1, 1)) (List.mem_of_getElem? (i := 6) rfl)
theorem dX4_read_80 : decode cX4_read 80 = .ok (.iadd, 1) := dgX4_read_1 (80, (.iadd, 1)) (List.mem_of_getElem? (i := 7) rfl)
theorem dX4_read_81 : decode cX4_read 81 = .ok (.invokestatic 54, 3) := dgX4_read_1 (81, (.invokestatic 54, 3)) (List.mem_of_getElem? (i := 8) rfl)
theorem dX4_read_84 : decode cX4_read 84 = .ok (.aload_n 0, 1) := dgX4_read_1 (84, (.aload_n 0, 1)) (List.mem_of_getElem? (i := 9) rfl)
theorem dX4_read_85 : decode cX4_read 85 = .ok (.getfield 22, 3) := dgX4_read_1 (85, (.getfield 22, 3)) (List.mem_of_getElem? (i := 10) rfl)
theorem dX4_read_88 : decode cX4_read 88 = .ok (.iload_n 3, 1) := dgX4_read_1 (88, (.iload_n 3, 1)) (List.mem_of_getElem? (i := 11) rfl)
theorem dX4_read_89 : decode cX4_read 89 = .ok (.iconst 2, 1) := dgX4_read_1 (89, (.iconst 2, 1)) (List.mem_of_getElem? (i := 12) rfl)
theorem dX4_read_90 : decode cX4_read 90 = .ok (.iadd, 1) := dgX4_read_1 (90, (.iadd, 1)) (List.mem_of_getElem? (i := 13) rfl)
theorem dX4_read_91 : decode cX4_read 91 = .ok (.invokestatic 54, 3) := dgX4_read_1 (91, (.invokestatic 54, 3)) (List.mem_of_getElem? (i := 14) rfl)
theorem dX4_read_94 : decode cX4_read 94 = .ok (.aload_n 0, 1) := dgX4_read_1 (94, (.aload_n 0, 1)) (List.mem_of_getElem? (i := 15) rfl)
theorem dX4_read_95 : decode cX4_read 95 = .ok (.getfield 25, 3) := dgX4_read_1 (95, (.getfield 25, 3)) (List.mem_of_getElem? (i := 16) rfl)
theorem dX4_read_98 : decode cX4_read 98 = .ok (.aload_n 0, 1) := dgX4_read_1 (98, (.aload_n 0, 1)) (List.mem_of_getElem? (i := 17) rfl)
theorem dX4_read_99 : decode cX4_read 99 = .ok (.getfield 36, 3) := dgX4_read_1 (99, (.getfield 36, 3)) (List.mem_of_getElem? (i := 18) rfl)
theorem dX4_read_102 : decode cX4_read 102 = .ok (.invokestatic 54, 3) := dgX4_read_1 (102, (.invokestatic 54, 3)) (List.mem_of_getElem? (i := 19) rfl)
theorem dX4_read_105 : decode cX4_read 105 = .ok (.invokespecial 60, 3) := dgX4_read_1 (105, (.invokespecial 60, 3)) (List.mem_of_getElem? (i := 20) rfl)
theorem dX4_read_108 : decode cX4_read 108 = .ok (.areturn, 1) := dgX4_read_1 (108, (.areturn, 1)) (List.mem_of_getElem? (i := 21) rfl)
theorem dX4_read_109 : decode cX4_read 109 = .ok (.aload_n 0, 1) := dgX4_read_1 (109, (.aload_n 0, 1)) (List.mem_of_getElem? (i := 22) rfl)
theorem dX4_read_110 : decode cX4_read 110 = .ok (.bipush 59, 2) := dgX4_read_1 (110, (.bipush 59, 2)) (List.mem_of_getElem? (i := 23) rfl)
theorem dX4_read_112 : decode cX4_read 112 = .ok (.invokevirtual 63, 3) := dgX4_read_1 (112, (.invokevirtual 63, 3)) (List.mem_of_getElem? (i := 24) rfl)
theorem dX4_read_115 : decode cX4_read 115 = .ok (.ifCond .ne 6, 3) := dgX4_read_1 (115, (.ifCond .ne 6, 3)) (List.mem_of_getElem? (i := 25) rfl)
theorem dX4_read_118 : decode cX4_read 118 = .ok (.goto 9, 3) := dgX4_read_1 (118, (.goto 9, 3)) (List.mem_of_getElem? (i := 26) rfl)
theorem dX4_read_121 : decode cX4_read 121 = .ok (.iinc 3 1, 3) := dgX4_read_1 (121, (.iinc 3 1, 3)) (List.mem_of_getElem? (i := 27) rfl)
theorem dX4_read_124 : decode cX4_read 124 = .ok (.goto (-98), 3) := dgX4_read_1 (124, (.goto (-98), 3)) (List.mem_of_getElem? (i := 28) rfl)
theorem dX4_read_127 : decode cX4_read 127 = .ok (.aload_n 0, 1) := dgX4_read_1 (127, (.aload_n 0, 1)) (List.mem_of_getElem? (i := 29) rfl)
theorem dX4_read_128 : decode cX4_read 128 = .ok (.aload_n 0, 1) := dgX4_read_1 (128, (.aload_n 0, 1)) (List.mem_of_getElem? (i := 30) rfl)
theorem dX4_read_129 : decode cX4_read 129 = .ok (.getfield 42, 3) := dgX4_read_1 (129, (.getfield 42, 3)) (List.mem_of_getElem? (i := 31) rfl)
theorem dX4_read_132 : decode cX4_read 132 = .ok (.aload_n 0, 1) := dgX4_read_1 (132, (.aload_n 0, 1)) (List.mem_of_getElem? (i := 32) rfl)
theorem dX4_read_133 : decode cX4_read 133 = .ok (.getfield 12, 3) := dgX4_read_1 (133, (.getfield 12, 3)) (List.mem_of_getElem? (i := 33) rfl)
theorem dX4_read_136 : decode cX4_read 136 = .ok (.getfield 66, 3) := dgX4_read_1 (136, (.getfield 66, 3)) (List.mem_of_getElem? (i := 34) rfl)
theorem dX4_read_139 : decode cX4_read 139 = .ok (.arraylength, 1) := dgX4_read_1 (139, (.arraylength, 1)) (List.mem_of_getElem? (i := 35) rfl)
theorem dX4_read_140 : decode cX4_read 140 = .ok (.if_icmp .ge 18, 3) := dgX4_read_1 (140, (.if_icmp .ge 18, 3)) (List.mem_of_getElem? (i := 36) rfl)
theorem dX4_read_143 : decode cX4_read 143 = .ok (.aload_n 0, 1) := dgX4_read_1 (143, (.aload_n 0, 1)) (List.mem_of_getElem? (i := 37) rfl)
theorem dX4_read_144 : decode cX4_read 144 = .ok (.getfield 12, 3) := dgX4_read_1 (144, (.getfield 12, 3)) (List.mem_of_getElem? (i := 38) rfl)
theorem dX4_read_147 : decode cX4_read 147 = .ok (.getfield 66, 3) := dgX4_read_1 (147, (.getfield 66, 3)) (List.mem_of_getElem? (i := 39) rfl)
theorem dgX4_read_2 : ∀ r ∈ ([(150, (.aload_n 0, 1)), (151, (.getfield 42, 3)), (154, (.iaload, 1)), (155, (.goto 4, 3)), (158, (.iload_n 2, 1)), (159, (.putfield 28, 3)), (162, (.aconst_null, 1)), (163, (.areturn, 1))] : List (Nat × (Instr × Nat))), decode cX4_read r.1 = .ok r.2 := by decide +kernel
theorem dX4_read_150 : decode cX4_read 150 = .ok (.aload_n 0, 1) := dgX4_read_2 (150, (.aload_n 0, 1)) (List.mem_of_getElem? (i := 0) rfl)
theorem dX4_read_151 : decode cX4_read 151 = .ok (.getfield 42, 3) := dgX4_read_2 (151, (.getfield 42, 3)) (List.mem_of_getElem? (i := 1) rfl)
theorem dX4_read_154 : decode cX4_read 154 = .ok (.iaload, 1) := dgX4_read_2 (154, (.iaload, 1)) (List.mem_of_getElem? (i := 2) rfl)
theorem dX4_read_155 : decode cX4_read 155 = .ok (.goto 4, 3) := dgX4_read_2 (155, (.goto 4, 3)) (List.mem_of_getElem? (i := 3) rfl)
theorem dX4_read_158 : decode cX4_read 158 = .ok (.iload_n 2, 1) := dgX4_read_2 (158, (.iload_n 2, 1)) (List.mem_of_getElem? (i := 4) rfl)
theorem dX4_read_159 : decode cX4_read 159 = .ok (.putfield 28, 3) := dgX4_read_2 (159, (.putfield 28, 3)) (List.mem_of_getElem? (i := 5) rfl)
theorem dX4_read_162 : decode cX4_read 162 = .ok (.aconst_null, 1) := dgX4_read_2 (162, (.aconst_null, 1)) (List.mem_of_getElem? (i := 6) rfl)
theorem dX4_read_163 : decode cX4_read 163 = .ok (.areturn, 1) := dgX4_read_2 (163, (.areturn, 1)) (List.mem_of_getElem? (i := 7) rfl)
theorem ml_X4_32 : Cond.methodLink RX4 32 yX8_cut ∈ tblG := tg 645 (by decide +kernel) (by decide +kernel)
theorem im_X8_cut : Cond.instanceMethod yX8_cut ∈ tblG := tg 646 (by decide +kernel) (by decide +kernel)
theorem se_X8_cut : Cond.selects RX8 yX8_cut yX8_cut ∈ tblG := tg 647 (by decide +kernel) (by decide +kernel)
theorem cd_X8_cut : Cond.code yX8_cut cX8_cut 7 none ∈ tblG := tg 648 (by decide +kernel) (by decide +kernel)
theorem gW_X8_cut : GoodIn tblG (wsG yX8_cut cX8_cut 7 none) := tgi cd_X8_cut
theorem gV_X4_32 : GoodIn tblG (wsV RX4 32 RX8 yX8_cut (wsG yX8_cut cX8_cut 7 none)) := tgV ml_X4_32 im_X8_cut se_X8_cut ini_X8 gW_X8_cut
theorem hv_X8_cut : yX8_cut.cls = RX8 ∧ yX8_cut.cls ≠ "java/lang/invoke/MethodHandle" ∧ yX8_cut.cls ≠ "java/lang/invoke/VarHandle" ∧ (parseMethodDescriptor yX8_cut.desc).map (fun d => d.parameters.length) = some 2 := by decide +kernel
theorem fl_X4_66 : Cond.fieldLink RX4 66 "LateGlass$Tokens" "places" "[I" ∈ tblG := tg 410 (by decide +kernel) (by decide +kernel)
theorem fl_X4_28 : Cond.fieldLink RX4 28 "LateGlass$LawReader" "faultPlace" "I" ∈ tblG := tg 425 (by decide +kernel) (by decide +kernel)
theorem ml_X4_45 : Cond.methodLink RX4 45 yX4_readClause ∈ tblG := tg 716 (by decide +kernel) (by decide +kernel)
theorem im_X4_readClause : Cond.instanceMethod yX4_readClause ∈ tblG := tg 718 (by decide +kernel) (by decide +kernel)
theorem se_X4_readClause : Cond.selects RX4 yX4_readClause yX4_readClause ∈ tblG := tg 4 (by decide +kernel) (by decide +kernel)
theorem cd_X4_readClause : Cond.code yX4_readClause cX4_readClause 3 (some .boolean) ∈ tblG := tg 719 (by decide +kernel) (by decide +kernel)
theorem gW_X4_readClause : GoodIn tblG (wsG yX4_readClause cX4_readClause 3 (some .boolean)) := tgi cd_X4_readClause
theorem gV_X4_45 : GoodIn tblG (wsV RX4 45 RX4 yX4_readClause (wsG yX4_readClause cX4_readClause 3 (some .boolean))) := tgV ml_X4_45 im_X4_readClause se_X4_readClause ini_X4 gW_X4_readClause
theorem hv_X4_readClause : yX4_readClause.cls = RX4 ∧ yX4_readClause.cls ≠ "java/lang/invoke/MethodHandle" ∧ yX4_readClause.cls ≠ "java/lang/invoke/VarHandle" ∧ (parseMethodDescriptor yX4_readClause.desc).map (fun d => d.parameters.length) = some 1 := by decide +kernel
theorem cl_X4_52 : Cond.classLink RX4 52 RX3 ∈ tblG := tg 756 (by decide +kernel) (by decide +kernel)
theorem isn_X3 : Cond.instantiable RX3 4 ∈ tblG := tg 757 (by decide +kernel) (by decide +kernel)
theorem ini_X3 : Cond.initialized RX3 ∈ tblG := tg 104 (by decide +kernel) (by decide +kernel)
theorem ml_X4_54 : Cond.methodLink RX4 54 yJ7_copyOf_59c91 ∈ tblG := tg 758 (by decide +kernel) (by decide +kernel)
theorem st_J7_copyOf_59c91 : Cond.static yJ7_copyOf_59c91 ∈ tblG := tg 759 (by decide +kernel) (by decide +kernel)
theorem cd_J7_copyOf_59c91 : Cond.code yJ7_copyOf_59c91 cJ7_copyOf_59c91 3 (some (.array .int)) ∈ tblG := tg 760 (by decide +kernel) (by decide +kernel)
theorem gW_J7_copyOf_59c91 : GoodIn tblG (wsG yJ7_copyOf_59c91 cJ7_copyOf_59c91 3 (some (.array .int))) := tgi cd_J7_copyOf_59c91
