set_option maxHeartbeats 4000000 in
set_option maxRecDepth 100000 in
theorem kX12_count (l : Launch) (G : g5_G) (a0 a1 a2 a3 a4 a5 a6 a7 a8 a9 a10 a11 a12 a13 a14 a15 a16 a17 a18 a19 a20 a21 a22 : Nat) (sz : Nat) (n0 : Int32) : Met l yX12_count (wsG yX12_count cX12_count 4 (some .int)) ({ frames := 0, cells := 0, slots := 0, locals := 0 }) (va_Pc [.ref a0, .int n0] (g5_P G [(a0, .inr (12, [.int 0, .int 0, .ref a1, .ref a2, .ref a3, .ref a4, .int 0, .ref a5, .int 0, .int 0, .int 0, .int 0, .long 0, .int (-1), .int 0, .int 0, .ref a6, .int 0, .ref a7, .ref a8, .int 0, .ref a9, .ref a10, .int 0, .int 0, .ref a11, .ref a12, .int 0, .ref a13, .ref a14, .int 0, .long 0, .long 0, .int 0, .int 0, .int 0, .int 0, .int 0, .ref a15, .int 0, .int 0, .ref a16, .int 0, .ref a17, .ref a18, .ref a19, .int 0, .ref a20, .ref a21, .long 0, .ref a22, .int 0])), (a2, .inl (G.2 0, 5740, .inl (upd (upd (upd (fun _ => 0) 3 (-1)) 4 1000) 6 (-1)))), (a1, .inl (G.2 0, 7, .inl (fun _ => 0)))] sz)) (va_Qi (fun (r : Int32) (u : va_W) => ((n0.toInt = 0) ∧ (r = 0) ∧ (u = [])) ∨ ((n0.toInt = 1) ∧ (r = 0) ∧ (u = [])) ∨ ((n0.toInt = 2) ∧ (r = 0) ∧ (u = [])) ∨ ((n0.toInt = 3) ∧ (r = 0) ∧ (u = [])) ∨ ((n0.toInt = 4) ∧ (r = 0) ∧ (u = [])) ∨ ((n0.toInt = 5) ∧ (r = 0) ∧ (u = [])) ∨ ((n0.toInt = 6) ∧ (r = 0) ∧ (u = [])) ∨ ((n0.toInt = 7) ∧ (r = 0) ∧ (u = [])) ∨ ((n0.toInt = 8) ∧ (r = 0) ∧ (u = [])) ∨ ((n0.toInt = 9) ∧ (r = 0) ∧ (u = [])) ∨ ((n0.toInt = 10) ∧ (r = 0) ∧ (u = [])) ∨ ((n0.toInt = 11) ∧ (r = 0) ∧ (u = [])) ∨ ((n0.toInt = 12) ∧ (r = 0) ∧ (u = [])) ∨ ((n0.toInt = 13) ∧ (r = (-1)) ∧ (u = [])) ∨ ((n0.toInt < 0) ∧ (r = (-1)) ∧ (u = [])) ∨ ((n0.toInt > 13) ∧ (r = (-1)) ∧ (u = []))) (g5_B G (va_A [(a0, .inr (12, [.int 0, .int 0, .ref a1, .ref a2, .ref a3, .ref a4, .int 0, .ref a5, .int 0, .int 0, .int 0, .int 0, .long 0, .int (-1), .int 0, .int 0, .ref a6, .int 0, .ref a7, .ref a8, .int 0, .ref a9, .ref a10, .int 0, .int 0, .ref a11, .ref a12, .int 0, .ref a13, .ref a14, .int 0, .long 0, .long 0, .int 0, .int 0, .int 0, .int 0, .int 0, .ref a15, .int 0, .int 0, .ref a16, .int 0, .ref a17, .ref a18, .ref a19, .int 0, .ref a20, .ref a21, .long 0, .ref a22, .int 0])), (a2, .inl (G.2 0, 5740, .inl (upd (upd (upd (fun _ => 0) 3 (-1)) 4 1000) 6 (-1)))), (a1, .inl (G.2 0, 7, .inl (fun _ => 0)))] sz)) (va_A [(a0, .inr (12, [.int 0, .int 0, .ref a1, .ref a2, .ref a3, .ref a4, .int 0, .ref a5, .int 0, .int 0, .int 0, .int 0, .long 0, .int (-1), .int 0, .int 0, .ref a6, .int 0, .ref a7, .ref a8, .int 0, .ref a9, .ref a10, .int 0, .int 0, .ref a11, .ref a12, .int 0, .ref a13, .ref a14, .int 0, .long 0, .long 0, .int 0, .int 0, .int 0, .int 0, .int 0, .ref a15, .int 0, .int 0, .ref a16, .int 0, .ref a17, .ref a18, .ref a19, .int 0, .ref a20, .ref a21, .long 0, .ref a22, .int 0])), (a2, .inl (G.2 0, 5740, .inl (upd (upd (upd (fun _ => 0) 3 (-1)) 4 1000) 6 (-1)))), (a1, .inl (G.2 0, 7, .inl (fun _ => 0)))] sz)) 0 0 (va_A [(a0, .inr (12, [.int 0, .int 0, .ref a1, .ref a2, .ref a3, .ref a4, .int 0, .ref a5, .int 0, .int 0, .int 0, .int 0, .long 0, .int (-1), .int 0, .int 0, .ref a6, .int 0, .ref a7, .ref a8, .int 0, .ref a9, .ref a10, .int 0, .int 0, .ref a11, .ref a12, .int 0, .ref a13, .ref a14, .int 0, .long 0, .long 0, .int 0, .int 0, .int 0, .int 0, .int 0, .ref a15, .int 0, .int 0, .ref a16, .int 0, .ref a17, .ref a18, .ref a19, .int 0, .ref a20, .ref a21, .long 0, .ref a22, .int 0])), (a2, .inl (G.2 0, 5740, .inl (upd (upd (upd (fun _ => 0) 3 (-1)) 4 1000) 6 (-1)))), (a1, .inl (G.2 0, 7, .inl (fun _ => 0)))] sz) := by
  refine Met.ofW (cc := cX12_count) (maxL := 4) (ret := (some .int)) (by decide) rfl ?_
  intro p e s m args below meth c s₁ B hml hv
  obtain ⟨rfl, hsz, hP, hK, hD0, hN, hT⟩ := hv
  have hx := B.exec
  have hb := B.bytes
  have hr := B.returns
  have hts : ∀ w ∈ tblG, w.before _ s = true := fun w h => atoms_spec (ws := (wsG yX12_count cX12_count 4 (some .int))) B.pre w (List.mem_cons_of_mem _ h)
  have hown : s.vm.findClass RX12 = some m.cls := findClass_of_methodNamed B.named
  have hlocks := B.notSynchronized
  subst hsz
  have hD := hD0.self (sz := s.heap.size)
  generalize hAe : va_A [(a0, .inr (12, [.int 0, .int 0, .ref a1, .ref a2, .ref a3, .ref a4, .int 0, .ref a5, .int 0, .int 0, .int 0, .int 0, .long 0, .int (-1), .int 0, .int 0, .ref a6, .int 0, .ref a7, .ref a8, .int 0, .ref a9, .ref a10, .int 0, .int 0, .ref a11, .ref a12, .int 0, .ref a13, .ref a14, .int 0, .long 0, .long 0, .int 0, .int 0, .int 0, .int 0, .int 0, .ref a15, .int 0, .int 0, .ref a16, .int 0, .ref a17, .ref a18, .ref a19, .int 0, .ref a20, .ref a21, .long 0, .ref a22, .int 0])), (a2, .inl (G.2 0, 5740, .inl (upd (upd (upd (fun _ => 0) 3 (-1)) 4 1000) 6 (-1)))), (a1, .inl (G.2 0, 7, .inl (fun _ => 0)))] s.heap.size = A at hD hT ⊢
  have hA : ∀ q : Nat, s.heap.size ≤ q → A q := fun q h => by rw [← hAe]; exact Or.inr h
  have hS : va_S A s.heap s.heap [] := va_S.rf
  have hP : va_P G.1 vwCl [(a0, .inr (12, [.int 0, .int 0, .ref a1, .ref a2, .ref a3, .ref a4, .int 0, .ref a5, .int 0, .int 0, .int 0, .int 0, .long 0, .int (-1), .int 0, .int 0, .ref a6, .int 0, .ref a7, .ref a8, .int 0, .ref a9, .ref a10, .int 0, .int 0, .ref a11, .ref a12, .int 0, .ref a13, .ref a14, .int 0, .long 0, .long 0, .int 0, .int 0, .int 0, .int 0, .int 0, .ref a15, .int 0, .int 0, .ref a16, .int 0, .ref a17, .ref a18, .ref a19, .int 0, .ref a20, .ref a21, .long 0, .ref a22, .int 0])), (a2, .inl (G.2 0, 5740, .inl (upd (upd (upd (fun _ => 0) 3 (-1)) 4 1000) 6 (-1)))), (a1, .inl (G.2 0, 7, .inl (fun _ => 0)))] s.heap := hP
  have hl := lv_entry ([.ref a0, .int n0]) (n := 4) (Nat.le_of_ble_eq_true rfl)
  rw [lg_entry_eq]
  generalize (lg_sl ([.ref a0, .int n0]) ++ List.replicate (4 - (lg_sl ([.ref a0, .int n0])).length) Slot.unset).toArray = ls at hl ⊢
  have hl : lv_has ls 4 [(0, .ref a0), (1, .int n0)] := hl
  refine lv_aload_n hx hb dX12_count_0 rfl (lv_at hl 0 rfl) ?_
  refine lv_iconst (v := 0) hx hb dX12_count_1 (by decide) ?_
  refine va_put (D := G.1) (ci := 12) (v := .int 0) (ty := .int) (C := RX12) (T := TX12) (N := 52) hx hb hts inG_X12 tyX12 tyX12_ok nmX12 hown hK hP hD hS 0 rfl rfl 0 (by decide) (hts _ fl_X12_107) (fun _ h9 => h9) rfl (by decide +kernel) rfl rfl (Nat.le_of_ble_eq_true rfl) dX12_count_2 (fun H locs hP hD hS => ?_)
  have hP : va_P G.1 vwCl [(a0, .inr (12, [.int 0, .int 0, .ref a1, .ref a2, .ref a3, .ref a4, .int 0, .ref a5, .int 0, .int 0, .int 0, .int 0, .long 0, .int (-1), .int 0, .int 0, .ref a6, .int 0, .ref a7, .ref a8, .int 0, .ref a9, .ref a10, .int 0, .int 0, .ref a11, .ref a12, .int 0, .ref a13, .ref a14, .int 0, .long 0, .long 0, .int 0, .int 0, .int 0, .int 0, .int 0, .ref a15, .int 0, .int 0, .ref a16, .int 0, .ref a17, .ref a18, .ref a19, .int 0, .ref a20, .ref a21, .long 0, .ref a22, .int 0])), (a2, .inl (G.2 0, 5740, .inl (upd (upd (upd (fun _ => 0) 3 (-1)) 4 1000) 6 (-1)))), (a1, .inl (G.2 0, 7, .inl (fun _ => 0)))] H := hP
  have hD : va_D A [(a0, .inr (12, [.int 0, .int 0, .ref a1, .ref a2, .ref a3, .ref a4, .int 0, .ref a5, .int 0, .int 0, .int 0, .int 0, .long 0, .int (-1), .int 0, .int 0, .ref a6, .int 0, .ref a7, .ref a8, .int 0, .ref a9, .ref a10, .int 0, .int 0, .ref a11, .ref a12, .int 0, .ref a13, .ref a14, .int 0, .long 0, .long 0, .int 0, .int 0, .int 0, .int 0, .int 0, .ref a15, .int 0, .int 0, .ref a16, .int 0, .ref a17, .ref a18, .ref a19, .int 0, .ref a20, .ref a21, .long 0, .ref a22, .int 0])), (a2, .inl (G.2 0, 5740, .inl (upd (upd (upd (fun _ => 0) 3 (-1)) 4 1000) 6 (-1)))), (a1, .inl (G.2 0, 7, .inl (fun _ => 0)))] := hD
  refine lv_iconst (v := 0) hx hb dX12_count_5 (by decide) ?_
  refine lv_istore_n (lv' := [(2, .int 0), (0, .ref a0), (1, .int n0)]) hx hb dX12_count_6 rfl hl (by decide) rfl (fun ls hl => ?_)
  refine lv_iconst (v := 0) hx hb dX12_count_7 (by decide) ?_
  refine lv_istore_n (lv' := [(3, .int 0), (2, .int 0), (0, .ref a0), (1, .int n0)]) hx hb dX12_count_8 rfl hl (by decide) rfl (fun ls hl => ?_)
  refine lv_iload_n hx hb dX12_count_9 rfl (lv_at hl 0 rfl) ?_
  refine lv_bipush (v := 64) hx hb dX12_count_10 (by decide) ?_
  refine lv_icmp_ge (tgt := 33) hx hb dX12_count_12 (by decide) (fun c_1 => ?_) (fun c_1 => ?_)
  ·
    exact absurd c_1 (by decide)
  ·
    refine lv_iload_n hx hb dX12_count_15 rfl (lv_at hl 1 rfl) ?_
    refine lv_aload_n hx hb dX12_count_16 rfl (lv_at hl 2 rfl) ?_
    refine va_get (D := G.1) (ci := 12) (v := .ref a2) (C := RX12) (T := TX12) (N := 52) hx hb hts inG_X12 hown hK hP 0 rfl rfl 3 (by decide) (hts _ fl_X12_13) (fun _ h9 => h9) rfl dX12_count_17 ?_
    refine lv_bipush (v := 10) hx hb dX12_count_20 (by decide) ?_
    refine lv_iload_n hx hb dX12_count_22 rfl (lv_at hl 0 rfl) ?_
    refine lv_iadd hx hb dX12_count_23 ?_
    refine g5_ti (v := 10) (by decide) ?_
    refine va_iald hx hb hK hP 1 0 rfl rfl (i := 10) (by unfold vp_in; decide) dX12_count_24 ?_
    refine g5_ti (v := 0) rfl ?_
    refine lv_iadd hx hb dX12_count_25 ?_
    refine g5_ti (v := 0) (by decide) ?_
    refine lv_istore_n (lv' := [(2, .int 0), (3, .int 0), (0, .ref a0), (1, .int n0)]) hx hb dX12_count_26 rfl hl (by decide) rfl (fun ls hl => ?_)
    refine lv_iinc (v := 1) (lv' := [(3, .int 1), (2, .int 0), (0, .ref a0), (1, .int n0)]) hx hb dX12_count_27 hl (k := 1) rfl (by decide) (by decide) rfl (fun ls hl => ?_)
    refine lv_goto (tgt := 9) hx hb dX12_count_30 (by decide) ?_
    refine lv_iload_n hx hb dX12_count_9 rfl (lv_at hl 0 rfl) ?_
    refine lv_bipush (v := 64) hx hb dX12_count_10 (by decide) ?_
    refine lv_icmp_ge (tgt := 33) hx hb dX12_count_12 (by decide) (fun c_2 => ?_) (fun c_2 => ?_)
    ·
      exact absurd c_2 (by decide)
    ·
      refine lv_iload_n hx hb dX12_count_15 rfl (lv_at hl 1 rfl) ?_
      refine lv_aload_n hx hb dX12_count_16 rfl (lv_at hl 2 rfl) ?_
      refine va_get (D := G.1) (ci := 12) (v := .ref a2) (C := RX12) (T := TX12) (N := 52) hx hb hts inG_X12 hown hK hP 0 rfl rfl 3 (by decide) (hts _ fl_X12_13) (fun _ h9 => h9) rfl dX12_count_17 ?_
      refine lv_bipush (v := 10) hx hb dX12_count_20 (by decide) ?_
      refine lv_iload_n hx hb dX12_count_22 rfl (lv_at hl 0 rfl) ?_
      refine lv_iadd hx hb dX12_count_23 ?_
      refine g5_ti (v := 11) (by decide) ?_
      refine va_iald hx hb hK hP 1 0 rfl rfl (i := 11) (by unfold vp_in; decide) dX12_count_24 ?_
      refine g5_ti (v := 0) rfl ?_
      refine lv_iadd hx hb dX12_count_25 ?_
      refine g5_ti (v := 0) (by decide) ?_
      refine lv_istore_n (lv' := [(2, .int 0), (3, .int 1), (0, .ref a0), (1, .int n0)]) hx hb dX12_count_26 rfl hl (by decide) rfl (fun ls hl => ?_)
      refine lv_iinc (v := 2) (lv' := [(3, .int 2), (2, .int 0), (0, .ref a0), (1, .int n0)]) hx hb dX12_count_27 hl (k := 1) rfl (by decide) (by decide) rfl (fun ls hl => ?_)
      refine lv_goto (tgt := 9) hx hb dX12_count_30 (by decide) ?_
      refine lv_iload_n hx hb dX12_count_9 rfl (lv_at hl 0 rfl) ?_
      refine lv_bipush (v := 64) hx hb dX12_count_10 (by decide) ?_
      refine lv_icmp_ge (tgt := 33) hx hb dX12_count_12 (by decide) (fun c_3 => ?_) (fun c_3 => ?_)
      ·
        exact absurd c_3 (by decide)
      ·
        refine lv_iload_n hx hb dX12_count_15 rfl (lv_at hl 1 rfl) ?_
        refine lv_aload_n hx hb dX12_count_16 rfl (lv_at hl 2 rfl) ?_
        refine va_get (D := G.1) (ci := 12) (v := .ref a2) (C := RX12) (T := TX12) (N := 52) hx hb hts inG_X12 hown hK hP 0 rfl rfl 3 (by decide) (hts _ fl_X12_13) (fun _ h9 => h9) rfl dX12_count_17 ?_
        refine lv_bipush (v := 10) hx hb dX12_count_20 (by decide) ?_
        refine lv_iload_n hx hb dX12_count_22 rfl (lv_at hl 0 rfl) ?_
        refine lv_iadd hx hb dX12_count_23 ?_
        refine g5_ti (v := 12) (by decide) ?_
        refine va_iald hx hb hK hP 1 0 rfl rfl (i := 12) (by unfold vp_in; decide) dX12_count_24 ?_
        refine g5_ti (v := 0) rfl ?_
        refine lv_iadd hx hb dX12_count_25 ?_
        refine g5_ti (v := 0) (by decide) ?_
        refine lv_istore_n (lv' := [(2, .int 0), (3, .int 2), (0, .ref a0), (1, .int n0)]) hx hb dX12_count_26 rfl hl (by decide) rfl (fun ls hl => ?_)
        refine lv_iinc (v := 3) (lv' := [(3, .int 3), (2, .int 0), (0, .ref a0), (1, .int n0)]) hx hb dX12_count_27 hl (k := 1) rfl (by decide) (by decide) rfl (fun ls hl => ?_)
        refine lv_goto (tgt := 9) hx hb dX12_count_30 (by decide) ?_
        refine lv_iload_n hx hb dX12_count_9 rfl (lv_at hl 0 rfl) ?_
        refine lv_bipush (v := 64) hx hb dX12_count_10 (by decide) ?_
        refine lv_icmp_ge (tgt := 33) hx hb dX12_count_12 (by decide) (fun c_4 => ?_) (fun c_4 => ?_)
        ·
          exact absurd c_4 (by decide)
        ·
          refine lv_iload_n hx hb dX12_count_15 rfl (lv_at hl 1 rfl) ?_
          refine lv_aload_n hx hb dX12_count_16 rfl (lv_at hl 2 rfl) ?_
          refine va_get (D := G.1) (ci := 12) (v := .ref a2) (C := RX12) (T := TX12) (N := 52) hx hb hts inG_X12 hown hK hP 0 rfl rfl 3 (by decide) (hts _ fl_X12_13) (fun _ h9 => h9) rfl dX12_count_17 ?_
          refine lv_bipush (v := 10) hx hb dX12_count_20 (by decide) ?_
          refine lv_iload_n hx hb dX12_count_22 rfl (lv_at hl 0 rfl) ?_
          refine lv_iadd hx hb dX12_count_23 ?_
          refine g5_ti (v := 13) (by decide) ?_
          refine va_iald hx hb hK hP 1 0 rfl rfl (i := 13) (by unfold vp_in; decide) dX12_count_24 ?_
          refine g5_ti (v := 0) rfl ?_
          refine lv_iadd hx hb dX12_count_25 ?_
          refine g5_ti (v := 0) (by decide) ?_
          refine lv_istore_n (lv' := [(2, .int 0), (3, .int 3), (0, .ref a0), (1, .int n0)]) hx hb dX12_count_26 rfl hl (by decide) rfl (fun ls hl => ?_)
          refine lv_iinc (v := 4) (lv' := [(3, .int 4), (2, .int 0), (0, .ref a0), (1, .int n0)]) hx hb dX12_count_27 hl (k := 1) rfl (by decide) (by decide) rfl (fun ls hl => ?_)
          refine lv_goto (tgt := 9) hx hb dX12_count_30 (by decide) ?_
          refine lv_iload_n hx hb dX12_count_9 rfl (lv_at hl 0 rfl) ?_
          refine lv_bipush (v := 64) hx hb dX12_count_10 (by decide) ?_
          refine lv_icmp_ge (tgt := 33) hx hb dX12_count_12 (by decide) (fun c_5 => ?_) (fun c_5 => ?_)
          ·
            exact absurd c_5 (by decide)
          ·
            refine lv_iload_n hx hb dX12_count_15 rfl (lv_at hl 1 rfl) ?_
            refine lv_aload_n hx hb dX12_count_16 rfl (lv_at hl 2 rfl) ?_
            refine va_get (D := G.1) (ci := 12) (v := .ref a2) (C := RX12) (T := TX12) (N := 52) hx hb hts inG_X12 hown hK hP 0 rfl rfl 3 (by decide) (hts _ fl_X12_13) (fun _ h9 => h9) rfl dX12_count_17 ?_
            refine lv_bipush (v := 10) hx hb dX12_count_20 (by decide) ?_
            refine lv_iload_n hx hb dX12_count_22 rfl (lv_at hl 0 rfl) ?_
            refine lv_iadd hx hb dX12_count_23 ?_
            refine g5_ti (v := 14) (by decide) ?_
            refine va_iald hx hb hK hP 1 0 rfl rfl (i := 14) (by unfold vp_in; decide) dX12_count_24 ?_
            refine g5_ti (v := 0) rfl ?_
            refine lv_iadd hx hb dX12_count_25 ?_
            refine g5_ti (v := 0) (by decide) ?_
            refine lv_istore_n (lv' := [(2, .int 0), (3, .int 4), (0, .ref a0), (1, .int n0)]) hx hb dX12_count_26 rfl hl (by decide) rfl (fun ls hl => ?_)
            refine lv_iinc (v := 5) (lv' := [(3, .int 5), (2, .int 0), (0, .ref a0), (1, .int n0)]) hx hb dX12_count_27 hl (k := 1) rfl (by decide) (by decide) rfl (fun ls hl => ?_)
            refine lv_goto (tgt := 9) hx hb dX12_count_30 (by decide) ?_
            refine lv_iload_n hx hb dX12_count_9 rfl (lv_at hl 0 rfl) ?_
            refine lv_bipush (v := 64) hx hb dX12_count_10 (by decide) ?_
            refine lv_icmp_ge (tgt := 33) hx hb dX12_count_12 (by decide) (fun c_6 => ?_) (fun c_6 => ?_)
            ·
              exact absurd c_6 (by decide)
            ·
              refine lv_iload_n hx hb dX12_count_15 rfl (lv_at hl 1 rfl) ?_
              refine lv_aload_n hx hb dX12_count_16 rfl (lv_at hl 2 rfl) ?_
              refine va_get (D := G.1) (ci := 12) (v := .ref a2) (C := RX12) (T := TX12) (N := 52) hx hb hts inG_X12 hown hK hP 0 rfl rfl 3 (by decide) (hts _ fl_X12_13) (fun _ h9 => h9) rfl dX12_count_17 ?_
              refine lv_bipush (v := 10) hx hb dX12_count_20 (by decide) ?_
              refine lv_iload_n hx hb dX12_count_22 rfl (lv_at hl 0 rfl) ?_
              refine lv_iadd hx hb dX12_count_23 ?_
              refine g5_ti (v := 15) (by decide) ?_
              refine va_iald hx hb hK hP 1 0 rfl rfl (i := 15) (by unfold vp_in; decide) dX12_count_24 ?_
              refine g5_ti (v := 0) rfl ?_
              refine lv_iadd hx hb dX12_count_25 ?_
              refine g5_ti (v := 0) (by decide) ?_
              refine lv_istore_n (lv' := [(2, .int 0), (3, .int 5), (0, .ref a0), (1, .int n0)]) hx hb dX12_count_26 rfl hl (by decide) rfl (fun ls hl => ?_)
              refine lv_iinc (v := 6) (lv' := [(3, .int 6), (2, .int 0), (0, .ref a0), (1, .int n0)]) hx hb dX12_count_27 hl (k := 1) rfl (by decide) (by decide) rfl (fun ls hl => ?_)
              refine lv_goto (tgt := 9) hx hb dX12_count_30 (by decide) ?_
              refine lv_iload_n hx hb dX12_count_9 rfl (lv_at hl 0 rfl) ?_
              refine lv_bipush (v := 64) hx hb dX12_count_10 (by decide) ?_
              refine lv_icmp_ge (tgt := 33) hx hb dX12_count_12 (by decide) (fun c_7 => ?_) (fun c_7 => ?_)
              ·
                exact absurd c_7 (by decide)
              ·
                refine lv_iload_n hx hb dX12_count_15 rfl (lv_at hl 1 rfl) ?_
                refine lv_aload_n hx hb dX12_count_16 rfl (lv_at hl 2 rfl) ?_
                refine va_get (D := G.1) (ci := 12) (v := .ref a2) (C := RX12) (T := TX12) (N := 52) hx hb hts inG_X12 hown hK hP 0 rfl rfl 3 (by decide) (hts _ fl_X12_13) (fun _ h9 => h9) rfl dX12_count_17 ?_
                refine lv_bipush (v := 10) hx hb dX12_count_20 (by decide) ?_
                refine lv_iload_n hx hb dX12_count_22 rfl (lv_at hl 0 rfl) ?_
                refine lv_iadd hx hb dX12_count_23 ?_
                refine g5_ti (v := 16) (by decide) ?_
                refine va_iald hx hb hK hP 1 0 rfl rfl (i := 16) (by unfold vp_in; decide) dX12_count_24 ?_
                refine g5_ti (v := 0) rfl ?_
                refine lv_iadd hx hb dX12_count_25 ?_
                refine g5_ti (v := 0) (by decide) ?_
                refine lv_istore_n (lv' := [(2, .int 0), (3, .int 6), (0, .ref a0), (1, .int n0)]) hx hb dX12_count_26 rfl hl (by decide) rfl (fun ls hl => ?_)
                refine lv_iinc (v := 7) (lv' := [(3, .int 7), (2, .int 0), (0, .ref a0), (1, .int n0)]) hx hb dX12_count_27 hl (k := 1) rfl (by decide) (by decide) rfl (fun ls hl => ?_)
                refine lv_goto (tgt := 9) hx hb dX12_count_30 (by decide) ?_
                refine lv_iload_n hx hb dX12_count_9 rfl (lv_at hl 0 rfl) ?_
                refine lv_bipush (v := 64) hx hb dX12_count_10 (by decide) ?_
                refine lv_icmp_ge (tgt := 33) hx hb dX12_count_12 (by decide) (fun c_8 => ?_) (fun c_8 => ?_)
                ·
                  exact absurd c_8 (by decide)
                ·
                  refine lv_iload_n hx hb dX12_count_15 rfl (lv_at hl 1 rfl) ?_
                  refine lv_aload_n hx hb dX12_count_16 rfl (lv_at hl 2 rfl) ?_
                  refine va_get (D := G.1) (ci := 12) (v := .ref a2) (C := RX12) (T := TX12) (N := 52) hx hb hts inG_X12 hown hK hP 0 rfl rfl 3 (by decide) (hts _ fl_X12_13) (fun _ h9 => h9) rfl dX12_count_17 ?_
                  refine lv_bipush (v := 10) hx hb dX12_count_20 (by decide) ?_
                  refine lv_iload_n hx hb dX12_count_22 rfl (lv_at hl 0 rfl) ?_
                  refine lv_iadd hx hb dX12_count_23 ?_
                  refine g5_ti (v := 17) (by decide) ?_
                  refine va_iald hx hb hK hP 1 0 rfl rfl (i := 17) (by unfold vp_in; decide) dX12_count_24 ?_
                  refine g5_ti (v := 0) rfl ?_
                  refine lv_iadd hx hb dX12_count_25 ?_
                  refine g5_ti (v := 0) (by decide) ?_
                  refine lv_istore_n (lv' := [(2, .int 0), (3, .int 7), (0, .ref a0), (1, .int n0)]) hx hb dX12_count_26 rfl hl (by decide) rfl (fun ls hl => ?_)
                  refine lv_iinc (v := 8) (lv' := [(3, .int 8), (2, .int 0), (0, .ref a0), (1, .int n0)]) hx hb dX12_count_27 hl (k := 1) rfl (by decide) (by decide) rfl (fun ls hl => ?_)
                  refine lv_goto (tgt := 9) hx hb dX12_count_30 (by decide) ?_
                  refine lv_iload_n hx hb dX12_count_9 rfl (lv_at hl 0 rfl) ?_
                  refine lv_bipush (v := 64) hx hb dX12_count_10 (by decide) ?_
                  refine lv_icmp_ge (tgt := 33) hx hb dX12_count_12 (by decide) (fun c_9 => ?_) (fun c_9 => ?_)
                  ·
                    exact absurd c_9 (by decide)
                  ·
                    refine lv_iload_n hx hb dX12_count_15 rfl (lv_at hl 1 rfl) ?_
                    refine lv_aload_n hx hb dX12_count_16 rfl (lv_at hl 2 rfl) ?_
                    refine va_get (D := G.1) (ci := 12) (v := .ref a2) (C := RX12) (T := TX12) (N := 52) hx hb hts inG_X12 hown hK hP 0 rfl rfl 3 (by decide) (hts _ fl_X12_13) (fun _ h9 => h9) rfl dX12_count_17 ?_
                    refine lv_bipush (v := 10) hx hb dX12_count_20 (by decide) ?_
                    refine lv_iload_n hx hb dX12_count_22 rfl (lv_at hl 0 rfl) ?_
                    refine lv_iadd hx hb dX12_count_23 ?_
                    refine g5_ti (v := 18) (by decide) ?_
                    refine va_iald hx hb hK hP 1 0 rfl rfl (i := 18) (by unfold vp_in; decide) dX12_count_24 ?_
                    refine g5_ti (v := 0) rfl ?_
                    refine lv_iadd hx hb dX12_count_25 ?_
                    refine g5_ti (v := 0) (by decide) ?_
                    refine lv_istore_n (lv' := [(2, .int 0), (3, .int 8), (0, .ref a0), (1, .int n0)]) hx hb dX12_count_26 rfl hl (by decide) rfl (fun ls hl => ?_)
                    refine lv_iinc (v := 9) (lv' := [(3, .int 9), (2, .int 0), (0, .ref a0), (1, .int n0)]) hx hb dX12_count_27 hl (k := 1) rfl (by decide) (by decide) rfl (fun ls hl => ?_)
                    refine lv_goto (tgt := 9) hx hb dX12_count_30 (by decide) ?_
                    refine lv_iload_n hx hb dX12_count_9 rfl (lv_at hl 0 rfl) ?_
                    refine lv_bipush (v := 64) hx hb dX12_count_10 (by decide) ?_
                    refine lv_icmp_ge (tgt := 33) hx hb dX12_count_12 (by decide) (fun c_10 => ?_) (fun c_10 => ?_)
                    ·
                      exact absurd c_10 (by decide)
                    ·
                      refine lv_iload_n hx hb dX12_count_15 rfl (lv_at hl 1 rfl) ?_
                      refine lv_aload_n hx hb dX12_count_16 rfl (lv_at hl 2 rfl) ?_
                      refine va_get (D := G.1) (ci := 12) (v := .ref a2) (C := RX12) (T := TX12) (N := 52) hx hb hts inG_X12 hown hK hP 0 rfl rfl 3 (by decide) (hts _ fl_X12_13) (fun _ h9 => h9) rfl dX12_count_17 ?_
                      refine lv_bipush (v := 10) hx hb dX12_count_20 (by decide) ?_
                      refine lv_iload_n hx hb dX12_count_22 rfl (lv_at hl 0 rfl) ?_
                      refine lv_iadd hx hb dX12_count_23 ?_
                      refine g5_ti (v := 19) (by decide) ?_
                      refine va_iald hx hb hK hP 1 0 rfl rfl (i := 19) (by unfold vp_in; decide) dX12_count_24 ?_
                      refine g5_ti (v := 0) rfl ?_
                      refine lv_iadd hx hb dX12_count_25 ?_
                      refine g5_ti (v := 0) (by decide) ?_
                      refine lv_istore_n (lv' := [(2, .int 0), (3, .int 9), (0, .ref a0), (1, .int n0)]) hx hb dX12_count_26 rfl hl (by decide) rfl (fun ls hl => ?_)
                      refine lv_iinc (v := 10) (lv' := [(3, .int 10), (2, .int 0), (0, .ref a0), (1, .int n0)]) hx hb dX12_count_27 hl (k := 1) rfl (by decide) (by decide) rfl (fun ls hl => ?_)
                      refine lv_goto (tgt := 9) hx hb dX12_count_30 (by decide) ?_
                      refine lv_iload_n hx hb dX12_count_9 rfl (lv_at hl 0 rfl) ?_
                      refine lv_bipush (v := 64) hx hb dX12_count_10 (by decide) ?_
                      refine lv_icmp_ge (tgt := 33) hx hb dX12_count_12 (by decide) (fun c_11 => ?_) (fun c_11 => ?_)
                      ·
                        exact absurd c_11 (by decide)
                      ·
                        refine lv_iload_n hx hb dX12_count_15 rfl (lv_at hl 1 rfl) ?_
                        refine lv_aload_n hx hb dX12_count_16 rfl (lv_at hl 2 rfl) ?_
                        refine va_get (D := G.1) (ci := 12) (v := .ref a2) (C := RX12) (T := TX12) (N := 52) hx hb hts inG_X12 hown hK hP 0 rfl rfl 3 (by decide) (hts _ fl_X12_13) (fun _ h9 => h9) rfl dX12_count_17 ?_
                        refine lv_bipush (v := 10) hx hb dX12_count_20 (by decide) ?_
                        refine lv_iload_n hx hb dX12_count_22 rfl (lv_at hl 0 rfl) ?_
                        refine lv_iadd hx hb dX12_count_23 ?_
                        refine g5_ti (v := 20) (by decide) ?_
                        refine va_iald hx hb hK hP 1 0 rfl rfl (i := 20) (by unfold vp_in; decide) dX12_count_24 ?_
                        refine g5_ti (v := 0) rfl ?_
                        refine lv_iadd hx hb dX12_count_25 ?_
                        refine g5_ti (v := 0) (by decide) ?_
                        refine lv_istore_n (lv' := [(2, .int 0), (3, .int 10), (0, .ref a0), (1, .int n0)]) hx hb dX12_count_26 rfl hl (by decide) rfl (fun ls hl => ?_)
                        refine lv_iinc (v := 11) (lv' := [(3, .int 11), (2, .int 0), (0, .ref a0), (1, .int n0)]) hx hb dX12_count_27 hl (k := 1) rfl (by decide) (by decide) rfl (fun ls hl => ?_)
                        refine lv_goto (tgt := 9) hx hb dX12_count_30 (by decide) ?_
                        refine lv_iload_n hx hb dX12_count_9 rfl (lv_at hl 0 rfl) ?_
                        refine lv_bipush (v := 64) hx hb dX12_count_10 (by decide) ?_
                        refine lv_icmp_ge (tgt := 33) hx hb dX12_count_12 (by decide) (fun c_12 => ?_) (fun c_12 => ?_)
                        ·
                          exact absurd c_12 (by decide)
                        ·
                          refine lv_iload_n hx hb dX12_count_15 rfl (lv_at hl 1 rfl) ?_
                          refine lv_aload_n hx hb dX12_count_16 rfl (lv_at hl 2 rfl) ?_
                          refine va_get (D := G.1) (ci := 12) (v := .ref a2) (C := RX12) (T := TX12) (N := 52) hx hb hts inG_X12 hown hK hP 0 rfl rfl 3 (by decide) (hts _ fl_X12_13) (fun _ h9 => h9) rfl dX12_count_17 ?_
                          refine lv_bipush (v := 10) hx hb dX12_count_20 (by decide) ?_
                          refine lv_iload_n hx hb dX12_count_22 rfl (lv_at hl 0 rfl) ?_
                          refine lv_iadd hx hb dX12_count_23 ?_
                          refine g5_ti (v := 21) (by decide) ?_
                          refine va_iald hx hb hK hP 1 0 rfl rfl (i := 21) (by unfold vp_in; decide) dX12_count_24 ?_
                          refine g5_ti (v := 0) rfl ?_
                          refine lv_iadd hx hb dX12_count_25 ?_
                          refine g5_ti (v := 0) (by decide) ?_
                          refine lv_istore_n (lv' := [(2, .int 0), (3, .int 11), (0, .ref a0), (1, .int n0)]) hx hb dX12_count_26 rfl hl (by decide) rfl (fun ls hl => ?_)
                          refine lv_iinc (v := 12) (lv' := [(3, .int 12), (2, .int 0), (0, .ref a0), (1, .int n0)]) hx hb dX12_count_27 hl (k := 1) rfl (by decide) (by decide) rfl (fun ls hl => ?_)
                          refine lv_goto (tgt := 9) hx hb dX12_count_30 (by decide) ?_
                          refine lv_iload_n hx hb dX12_count_9 rfl (lv_at hl 0 rfl) ?_
                          refine lv_bipush (v := 64) hx hb dX12_count_10 (by decide) ?_
                          refine lv_icmp_ge (tgt := 33) hx hb dX12_count_12 (by decide) (fun c_13 => ?_) (fun c_13 => ?_)
                          ·
                            exact absurd c_13 (by decide)
                          ·
                            refine lv_iload_n hx hb dX12_count_15 rfl (lv_at hl 1 rfl) ?_
                            refine lv_aload_n hx hb dX12_count_16 rfl (lv_at hl 2 rfl) ?_
                            refine va_get (D := G.1) (ci := 12) (v := .ref a2) (C := RX12) (T := TX12) (N := 52) hx hb hts inG_X12 hown hK hP 0 rfl rfl 3 (by decide) (hts _ fl_X12_13) (fun _ h9 => h9) rfl dX12_count_17 ?_
                            refine lv_bipush (v := 10) hx hb dX12_count_20 (by decide) ?_
                            refine lv_iload_n hx hb dX12_count_22 rfl (lv_at hl 0 rfl) ?_
                            refine lv_iadd hx hb dX12_count_23 ?_
                            refine g5_ti (v := 22) (by decide) ?_
                            refine va_iald hx hb hK hP 1 0 rfl rfl (i := 22) (by unfold vp_in; decide) dX12_count_24 ?_
                            refine g5_ti (v := 0) rfl ?_
                            refine lv_iadd hx hb dX12_count_25 ?_
                            refine g5_ti (v := 0) (by decide) ?_
                            refine lv_istore_n (lv' := [(2, .int 0), (3, .int 12), (0, .ref a0), (1, .int n0)]) hx hb dX12_count_26 rfl hl (by decide) rfl (fun ls hl => ?_)
                            refine lv_iinc (v := 13) (lv' := [(3, .int 13), (2, .int 0), (0, .ref a0), (1, .int n0)]) hx hb dX12_count_27 hl (k := 1) rfl (by decide) (by decide) rfl (fun ls hl => ?_)
                            refine lv_goto (tgt := 9) hx hb dX12_count_30 (by decide) ?_
                            refine lv_iload_n hx hb dX12_count_9 rfl (lv_at hl 0 rfl) ?_
                            refine lv_bipush (v := 64) hx hb dX12_count_10 (by decide) ?_
                            refine lv_icmp_ge (tgt := 33) hx hb dX12_count_12 (by decide) (fun c_14 => ?_) (fun c_14 => ?_)
                            ·
                              exact absurd c_14 (by decide)
                            ·
                              refine lv_iload_n hx hb dX12_count_15 rfl (lv_at hl 1 rfl) ?_
                              refine lv_aload_n hx hb dX12_count_16 rfl (lv_at hl 2 rfl) ?_
                              refine va_get (D := G.1) (ci := 12) (v := .ref a2) (C := RX12) (T := TX12) (N := 52) hx hb hts inG_X12 hown hK hP 0 rfl rfl 3 (by decide) (hts _ fl_X12_13) (fun _ h9 => h9) rfl dX12_count_17 ?_
                              refine lv_bipush (v := 10) hx hb dX12_count_20 (by decide) ?_
                              refine lv_iload_n hx hb dX12_count_22 rfl (lv_at hl 0 rfl) ?_
                              refine lv_iadd hx hb dX12_count_23 ?_
                              refine g5_ti (v := 23) (by decide) ?_
                              refine va_iald hx hb hK hP 1 0 rfl rfl (i := 23) (by unfold vp_in; decide) dX12_count_24 ?_
                              refine g5_ti (v := 0) rfl ?_
                              refine lv_iadd hx hb dX12_count_25 ?_
                              refine g5_ti (v := 0) (by decide) ?_
                              refine lv_istore_n (lv' := [(2, .int 0), (3, .int 13), (0, .ref a0), (1, .int n0)]) hx hb dX12_count_26 rfl hl (by decide) rfl (fun ls hl => ?_)
                              refine lv_iinc (v := 14) (lv' := [(3, .int 14), (2, .int 0), (0, .ref a0), (1, .int n0)]) hx hb dX12_count_27 hl (k := 1) rfl (by decide) (by decide) rfl (fun ls hl => ?_)
                              refine lv_goto (tgt := 9) hx hb dX12_count_30 (by decide) ?_
                              refine lv_iload_n hx hb dX12_count_9 rfl (lv_at hl 0 rfl) ?_
                              refine lv_bipush (v := 64) hx hb dX12_count_10 (by decide) ?_
                              refine lv_icmp_ge (tgt := 33) hx hb dX12_count_12 (by decide) (fun c_15 => ?_) (fun c_15 => ?_)
                              ·
                                exact absurd c_15 (by decide)
                              ·
                                refine lv_iload_n hx hb dX12_count_15 rfl (lv_at hl 1 rfl) ?_
                                refine lv_aload_n hx hb dX12_count_16 rfl (lv_at hl 2 rfl) ?_
                                refine va_get (D := G.1) (ci := 12) (v := .ref a2) (C := RX12) (T := TX12) (N := 52) hx hb hts inG_X12 hown hK hP 0 rfl rfl 3 (by decide) (hts _ fl_X12_13) (fun _ h9 => h9) rfl dX12_count_17 ?_
                                refine lv_bipush (v := 10) hx hb dX12_count_20 (by decide) ?_
                                refine lv_iload_n hx hb dX12_count_22 rfl (lv_at hl 0 rfl) ?_
                                refine lv_iadd hx hb dX12_count_23 ?_
                                refine g5_ti (v := 24) (by decide) ?_
                                refine va_iald hx hb hK hP 1 0 rfl rfl (i := 24) (by unfold vp_in; decide) dX12_count_24 ?_
                                refine g5_ti (v := 0) rfl ?_
                                refine lv_iadd hx hb dX12_count_25 ?_
                                refine g5_ti (v := 0) (by decide) ?_
                                refine lv_istore_n (lv' := [(2, .int 0), (3, .int 14), (0, .ref a0), (1, .int n0)]) hx hb dX12_count_26 rfl hl (by decide) rfl (fun ls hl => ?_)
                                refine lv_iinc (v := 15) (lv' := [(3, .int 15), (2, .int 0), (0, .ref a0), (1, .int n0)]) hx hb dX12_count_27 hl (k := 1) rfl (by decide) (by decide) rfl (fun ls hl => ?_)
                                refine lv_goto (tgt := 9) hx hb dX12_count_30 (by decide) ?_
                                refine lv_iload_n hx hb dX12_count_9 rfl (lv_at hl 0 rfl) ?_
                                refine lv_bipush (v := 64) hx hb dX12_count_10 (by decide) ?_
                                refine lv_icmp_ge (tgt := 33) hx hb dX12_count_12 (by decide) (fun c_16 => ?_) (fun c_16 => ?_)
                                ·
                                  exact absurd c_16 (by decide)
                                ·
                                  refine lv_iload_n hx hb dX12_count_15 rfl (lv_at hl 1 rfl) ?_
                                  refine lv_aload_n hx hb dX12_count_16 rfl (lv_at hl 2 rfl) ?_
                                  refine va_get (D := G.1) (ci := 12) (v := .ref a2) (C := RX12) (T := TX12) (N := 52) hx hb hts inG_X12 hown hK hP 0 rfl rfl 3 (by decide) (hts _ fl_X12_13) (fun _ h9 => h9) rfl dX12_count_17 ?_
                                  refine lv_bipush (v := 10) hx hb dX12_count_20 (by decide) ?_
                                  refine lv_iload_n hx hb dX12_count_22 rfl (lv_at hl 0 rfl) ?_
                                  refine lv_iadd hx hb dX12_count_23 ?_
                                  refine g5_ti (v := 25) (by decide) ?_
                                  refine va_iald hx hb hK hP 1 0 rfl rfl (i := 25) (by unfold vp_in; decide) dX12_count_24 ?_
                                  refine g5_ti (v := 0) rfl ?_
                                  refine lv_iadd hx hb dX12_count_25 ?_
                                  refine g5_ti (v := 0) (by decide) ?_
                                  refine lv_istore_n (lv' := [(2, .int 0), (3, .int 15), (0, .ref a0), (1, .int n0)]) hx hb dX12_count_26 rfl hl (by decide) rfl (fun ls hl => ?_)
                                  refine lv_iinc (v := 16) (lv' := [(3, .int 16), (2, .int 0), (0, .ref a0), (1, .int n0)]) hx hb dX12_count_27 hl (k := 1) rfl (by decide) (by decide) rfl (fun ls hl => ?_)
                                  refine lv_goto (tgt := 9) hx hb dX12_count_30 (by decide) ?_
                                  refine lv_iload_n hx hb dX12_count_9 rfl (lv_at hl 0 rfl) ?_
                                  refine lv_bipush (v := 64) hx hb dX12_count_10 (by decide) ?_
                                  refine lv_icmp_ge (tgt := 33) hx hb dX12_count_12 (by decide) (fun c_17 => ?_) (fun c_17 => ?_)
                                  ·
                                    exact absurd c_17 (by decide)
                                  ·
                                    refine lv_iload_n hx hb dX12_count_15 rfl (lv_at hl 1 rfl) ?_
                                    refine lv_aload_n hx hb dX12_count_16 rfl (lv_at hl 2 rfl) ?_
                                    refine va_get (D := G.1) (ci := 12) (v := .ref a2) (C := RX12) (T := TX12) (N := 52) hx hb hts inG_X12 hown hK hP 0 rfl rfl 3 (by decide) (hts _ fl_X12_13) (fun _ h9 => h9) rfl dX12_count_17 ?_
                                    refine lv_bipush (v := 10) hx hb dX12_count_20 (by decide) ?_
                                    refine lv_iload_n hx hb dX12_count_22 rfl (lv_at hl 0 rfl) ?_
                                    refine lv_iadd hx hb dX12_count_23 ?_
                                    refine g5_ti (v := 26) (by decide) ?_
                                    refine va_iald hx hb hK hP 1 0 rfl rfl (i := 26) (by unfold vp_in; decide) dX12_count_24 ?_
                                    refine g5_ti (v := 0) rfl ?_
                                    refine lv_iadd hx hb dX12_count_25 ?_
                                    refine g5_ti (v := 0) (by decide) ?_
                                    refine lv_istore_n (lv' := [(2, .int 0), (3, .int 16), (0, .ref a0), (1, .int n0)]) hx hb dX12_count_26 rfl hl (by decide) rfl (fun ls hl => ?_)
                                    refine lv_iinc (v := 17) (lv' := [(3, .int 17), (2, .int 0), (0, .ref a0), (1, .int n0)]) hx hb dX12_count_27 hl (k := 1) rfl (by decide) (by decide) rfl (fun ls hl => ?_)
                                    refine lv_goto (tgt := 9) hx hb dX12_count_30 (by decide) ?_
                                    refine lv_iload_n hx hb dX12_count_9 rfl (lv_at hl 0 rfl) ?_
                                    refine lv_bipush (v := 64) hx hb dX12_count_10 (by decide) ?_
                                    refine lv_icmp_ge (tgt := 33) hx hb dX12_count_12 (by decide) (fun c_18 => ?_) (fun c_18 => ?_)
                                    ·
                                      exact absurd c_18 (by decide)
                                    ·
                                      refine lv_iload_n hx hb dX12_count_15 rfl (lv_at hl 1 rfl) ?_
                                      refine lv_aload_n hx hb dX12_count_16 rfl (lv_at hl 2 rfl) ?_
                                      refine va_get (D := G.1) (ci := 12) (v := .ref a2) (C := RX12) (T := TX12) (N := 52) hx hb hts inG_X12 hown hK hP 0 rfl rfl 3 (by decide) (hts _ fl_X12_13) (fun _ h9 => h9) rfl dX12_count_17 ?_
                                      refine lv_bipush (v := 10) hx hb dX12_count_20 (by decide) ?_
                                      refine lv_iload_n hx hb dX12_count_22 rfl (lv_at hl 0 rfl) ?_
                                      refine lv_iadd hx hb dX12_count_23 ?_
                                      refine g5_ti (v := 27) (by decide) ?_
                                      refine va_iald hx hb hK hP 1 0 rfl rfl (i := 27) (by unfold vp_in; decide) dX12_count_24 ?_
                                      refine g5_ti (v := 0) rfl ?_
                                      refine lv_iadd hx hb dX12_count_25 ?_
                                      refine g5_ti (v := 0) (by decide) ?_
                                      refine lv_istore_n (lv' := [(2, .int 0), (3, .int 17), (0, .ref a0), (1, .int n0)]) hx hb dX12_count_26 rfl hl (by decide) rfl (fun ls hl => ?_)
                                      refine lv_iinc (v := 18) (lv' := [(3, .int 18), (2, .int 0), (0, .ref a0), (1, .int n0)]) hx hb dX12_count_27 hl (k := 1) rfl (by decide) (by decide) rfl (fun ls hl => ?_)
                                      refine lv_goto (tgt := 9) hx hb dX12_count_30 (by decide) ?_
                                      refine lv_iload_n hx hb dX12_count_9 rfl (lv_at hl 0 rfl) ?_
                                      refine lv_bipush (v := 64) hx hb dX12_count_10 (by decide) ?_
                                      refine lv_icmp_ge (tgt := 33) hx hb dX12_count_12 (by decide) (fun c_19 => ?_) (fun c_19 => ?_)
                                      ·
                                        exact absurd c_19 (by decide)
                                      ·
                                        refine lv_iload_n hx hb dX12_count_15 rfl (lv_at hl 1 rfl) ?_
                                        refine lv_aload_n hx hb dX12_count_16 rfl (lv_at hl 2 rfl) ?_
                                        refine va_get (D := G.1) (ci := 12) (v := .ref a2) (C := RX12) (T := TX12) (N := 52) hx hb hts inG_X12 hown hK hP 0 rfl rfl 3 (by decide) (hts _ fl_X12_13) (fun _ h9 => h9) rfl dX12_count_17 ?_
                                        refine lv_bipush (v := 10) hx hb dX12_count_20 (by decide) ?_
                                        refine lv_iload_n hx hb dX12_count_22 rfl (lv_at hl 0 rfl) ?_
                                        refine lv_iadd hx hb dX12_count_23 ?_
                                        refine g5_ti (v := 28) (by decide) ?_
                                        refine va_iald hx hb hK hP 1 0 rfl rfl (i := 28) (by unfold vp_in; decide) dX12_count_24 ?_
                                        refine g5_ti (v := 0) rfl ?_
                                        refine lv_iadd hx hb dX12_count_25 ?_
                                        refine g5_ti (v := 0) (by decide) ?_
                                        refine lv_istore_n (lv' := [(2, .int 0), (3, .int 18), (0, .ref a0), (1, .int n0)]) hx hb dX12_count_26 rfl hl (by decide) rfl (fun ls hl => ?_)
                                        refine lv_iinc (v := 19) (lv' := [(3, .int 19), (2, .int 0), (0, .ref a0), (1, .int n0)]) hx hb dX12_count_27 hl (k := 1) rfl (by decide) (by decide) rfl (fun ls hl => ?_)
                                        refine lv_goto (tgt := 9) hx hb dX12_count_30 (by decide) ?_
                                        refine lv_iload_n hx hb dX12_count_9 rfl (lv_at hl 0 rfl) ?_
                                        refine lv_bipush (v := 64) hx hb dX12_count_10 (by decide) ?_
                                        refine lv_icmp_ge (tgt := 33) hx hb dX12_count_12 (by decide) (fun c_20 => ?_) (fun c_20 => ?_)
                                        ·
                                          exact absurd c_20 (by decide)
                                        ·
                                          refine lv_iload_n hx hb dX12_count_15 rfl (lv_at hl 1 rfl) ?_
                                          refine lv_aload_n hx hb dX12_count_16 rfl (lv_at hl 2 rfl) ?_
                                          refine va_get (D := G.1) (ci := 12) (v := .ref a2) (C := RX12) (T := TX12) (N := 52) hx hb hts inG_X12 hown hK hP 0 rfl rfl 3 (by decide) (hts _ fl_X12_13) (fun _ h9 => h9) rfl dX12_count_17 ?_
                                          refine lv_bipush (v := 10) hx hb dX12_count_20 (by decide) ?_
                                          refine lv_iload_n hx hb dX12_count_22 rfl (lv_at hl 0 rfl) ?_
                                          refine lv_iadd hx hb dX12_count_23 ?_
                                          refine g5_ti (v := 29) (by decide) ?_
                                          refine va_iald hx hb hK hP 1 0 rfl rfl (i := 29) (by unfold vp_in; decide) dX12_count_24 ?_
                                          refine g5_ti (v := 0) rfl ?_
                                          refine lv_iadd hx hb dX12_count_25 ?_
                                          refine g5_ti (v := 0) (by decide) ?_
                                          refine lv_istore_n (lv' := [(2, .int 0), (3, .int 19), (0, .ref a0), (1, .int n0)]) hx hb dX12_count_26 rfl hl (by decide) rfl (fun ls hl => ?_)
                                          refine lv_iinc (v := 20) (lv' := [(3, .int 20), (2, .int 0), (0, .ref a0), (1, .int n0)]) hx hb dX12_count_27 hl (k := 1) rfl (by decide) (by decide) rfl (fun ls hl => ?_)
                                          refine lv_goto (tgt := 9) hx hb dX12_count_30 (by decide) ?_
                                          refine lv_iload_n hx hb dX12_count_9 rfl (lv_at hl 0 rfl) ?_
                                          refine lv_bipush (v := 64) hx hb dX12_count_10 (by decide) ?_
                                          refine lv_icmp_ge (tgt := 33) hx hb dX12_count_12 (by decide) (fun c_21 => ?_) (fun c_21 => ?_)
                                          ·
                                            exact absurd c_21 (by decide)
                                          ·
                                            refine lv_iload_n hx hb dX12_count_15 rfl (lv_at hl 1 rfl) ?_
                                            refine lv_aload_n hx hb dX12_count_16 rfl (lv_at hl 2 rfl) ?_
                                            refine va_get (D := G.1) (ci := 12) (v := .ref a2) (C := RX12) (T := TX12) (N := 52) hx hb hts inG_X12 hown hK hP 0 rfl rfl 3 (by decide) (hts _ fl_X12_13) (fun _ h9 => h9) rfl dX12_count_17 ?_
                                            refine lv_bipush (v := 10) hx hb dX12_count_20 (by decide) ?_
                                            refine lv_iload_n hx hb dX12_count_22 rfl (lv_at hl 0 rfl) ?_
                                            refine lv_iadd hx hb dX12_count_23 ?_
                                            refine g5_ti (v := 30) (by decide) ?_
                                            refine va_iald hx hb hK hP 1 0 rfl rfl (i := 30) (by unfold vp_in; decide) dX12_count_24 ?_
                                            refine g5_ti (v := 0) rfl ?_
                                            refine lv_iadd hx hb dX12_count_25 ?_
                                            refine g5_ti (v := 0) (by decide) ?_
                                            refine lv_istore_n (lv' := [(2, .int 0), (3, .int 20), (0, .ref a0), (1, .int n0)]) hx hb dX12_count_26 rfl hl (by decide) rfl (fun ls hl => ?_)
                                            refine lv_iinc (v := 21) (lv' := [(3, .int 21), (2, .int 0), (0, .ref a0), (1, .int n0)]) hx hb dX12_count_27 hl (k := 1) rfl (by decide) (by decide) rfl (fun ls hl => ?_)
                                            refine lv_goto (tgt := 9) hx hb dX12_count_30 (by decide) ?_
                                            refine lv_iload_n hx hb dX12_count_9 rfl (lv_at hl 0 rfl) ?_
                                            refine lv_bipush (v := 64) hx hb dX12_count_10 (by decide) ?_
                                            refine lv_icmp_ge (tgt := 33) hx hb dX12_count_12 (by decide) (fun c_22 => ?_) (fun c_22 => ?_)
                                            ·
                                              exact absurd c_22 (by decide)
                                            ·
                                              refine lv_iload_n hx hb dX12_count_15 rfl (lv_at hl 1 rfl) ?_
                                              refine lv_aload_n hx hb dX12_count_16 rfl (lv_at hl 2 rfl) ?_
                                              refine va_get (D := G.1) (ci := 12) (v := .ref a2) (C := RX12) (T := TX12) (N := 52) hx hb hts inG_X12 hown hK hP 0 rfl rfl 3 (by decide) (hts _ fl_X12_13) (fun _ h9 => h9) rfl dX12_count_17 ?_
                                              refine lv_bipush (v := 10) hx hb dX12_count_20 (by decide) ?_
                                              refine lv_iload_n hx hb dX12_count_22 rfl (lv_at hl 0 rfl) ?_
                                              refine lv_iadd hx hb dX12_count_23 ?_
                                              refine g5_ti (v := 31) (by decide) ?_
                                              refine va_iald hx hb hK hP 1 0 rfl rfl (i := 31) (by unfold vp_in; decide) dX12_count_24 ?_
                                              refine g5_ti (v := 0) rfl ?_
                                              refine lv_iadd hx hb dX12_count_25 ?_
                                              refine g5_ti (v := 0) (by decide) ?_
                                              refine lv_istore_n (lv' := [(2, .int 0), (3, .int 21), (0, .ref a0), (1, .int n0)]) hx hb dX12_count_26 rfl hl (by decide) rfl (fun ls hl => ?_)
                                              refine lv_iinc (v := 22) (lv' := [(3, .int 22), (2, .int 0), (0, .ref a0), (1, .int n0)]) hx hb dX12_count_27 hl (k := 1) rfl (by decide) (by decide) rfl (fun ls hl => ?_)
                                              refine lv_goto (tgt := 9) hx hb dX12_count_30 (by decide) ?_
                                              refine lv_iload_n hx hb dX12_count_9 rfl (lv_at hl 0 rfl) ?_
                                              refine lv_bipush (v := 64) hx hb dX12_count_10 (by decide) ?_
                                              refine lv_icmp_ge (tgt := 33) hx hb dX12_count_12 (by decide) (fun c_23 => ?_) (fun c_23 => ?_)
                                              ·
                                                exact absurd c_23 (by decide)
                                              ·
                                                refine lv_iload_n hx hb dX12_count_15 rfl (lv_at hl 1 rfl) ?_
                                                refine lv_aload_n hx hb dX12_count_16 rfl (lv_at hl 2 rfl) ?_
                                                refine va_get (D := G.1) (ci := 12) (v := .ref a2) (C := RX12) (T := TX12) (N := 52) hx hb hts inG_X12 hown hK hP 0 rfl rfl 3 (by decide) (hts _ fl_X12_13) (fun _ h9 => h9) rfl dX12_count_17 ?_
                                                refine lv_bipush (v := 10) hx hb dX12_count_20 (by decide) ?_
                                                refine lv_iload_n hx hb dX12_count_22 rfl (lv_at hl 0 rfl) ?_
                                                refine lv_iadd hx hb dX12_count_23 ?_
                                                refine g5_ti (v := 32) (by decide) ?_
                                                refine va_iald hx hb hK hP 1 0 rfl rfl (i := 32) (by unfold vp_in; decide) dX12_count_24 ?_
                                                refine g5_ti (v := 0) rfl ?_
                                                refine lv_iadd hx hb dX12_count_25 ?_
                                                refine g5_ti (v := 0) (by decide) ?_
                                                refine lv_istore_n (lv' := [(2, .int 0), (3, .int 22), (0, .ref a0), (1, .int n0)]) hx hb dX12_count_26 rfl hl (by decide) rfl (fun ls hl => ?_)
                                                refine lv_iinc (v := 23) (lv' := [(3, .int 23), (2, .int 0), (0, .ref a0), (1, .int n0)]) hx hb dX12_count_27 hl (k := 1) rfl (by decide) (by decide) rfl (fun ls hl => ?_)
                                                refine lv_goto (tgt := 9) hx hb dX12_count_30 (by decide) ?_
                                                refine lv_iload_n hx hb dX12_count_9 rfl (lv_at hl 0 rfl) ?_
                                                refine lv_bipush (v := 64) hx hb dX12_count_10 (by decide) ?_
                                                refine lv_icmp_ge (tgt := 33) hx hb dX12_count_12 (by decide) (fun c_24 => ?_) (fun c_24 => ?_)
                                                ·
                                                  exact absurd c_24 (by decide)
                                                ·
                                                  refine lv_iload_n hx hb dX12_count_15 rfl (lv_at hl 1 rfl) ?_
                                                  refine lv_aload_n hx hb dX12_count_16 rfl (lv_at hl 2 rfl) ?_
                                                  refine va_get (D := G.1) (ci := 12) (v := .ref a2) (C := RX12) (T := TX12) (N := 52) hx hb hts inG_X12 hown hK hP 0 rfl rfl 3 (by decide) (hts _ fl_X12_13) (fun _ h9 => h9) rfl dX12_count_17 ?_
                                                  refine lv_bipush (v := 10) hx hb dX12_count_20 (by decide) ?_
                                                  refine lv_iload_n hx hb dX12_count_22 rfl (lv_at hl 0 rfl) ?_
                                                  refine lv_iadd hx hb dX12_count_23 ?_
                                                  refine g5_ti (v := 33) (by decide) ?_
                                                  refine va_iald hx hb hK hP 1 0 rfl rfl (i := 33) (by unfold vp_in; decide) dX12_count_24 ?_
                                                  refine g5_ti (v := 0) rfl ?_
                                                  refine lv_iadd hx hb dX12_count_25 ?_
                                                  refine g5_ti (v := 0) (by decide) ?_
                                                  refine lv_istore_n (lv' := [(2, .int 0), (3, .int 23), (0, .ref a0), (1, .int n0)]) hx hb dX12_count_26 rfl hl (by decide) rfl (fun ls hl => ?_)
                                                  refine lv_iinc (v := 24) (lv' := [(3, .int 24), (2, .int 0), (0, .ref a0), (1, .int n0)]) hx hb dX12_count_27 hl (k := 1) rfl (by decide) (by decide) rfl (fun ls hl => ?_)
                                                  refine lv_goto (tgt := 9) hx hb dX12_count_30 (by decide) ?_
                                                  refine lv_iload_n hx hb dX12_count_9 rfl (lv_at hl 0 rfl) ?_
                                                  refine lv_bipush (v := 64) hx hb dX12_count_10 (by decide) ?_
                                                  refine lv_icmp_ge (tgt := 33) hx hb dX12_count_12 (by decide) (fun c_25 => ?_) (fun c_25 => ?_)
                                                  ·
                                                    exact absurd c_25 (by decide)
                                                  ·
                                                    refine lv_iload_n hx hb dX12_count_15 rfl (lv_at hl 1 rfl) ?_
                                                    refine lv_aload_n hx hb dX12_count_16 rfl (lv_at hl 2 rfl) ?_
                                                    refine va_get (D := G.1) (ci := 12) (v := .ref a2) (C := RX12) (T := TX12) (N := 52) hx hb hts inG_X12 hown hK hP 0 rfl rfl 3 (by decide) (hts _ fl_X12_13) (fun _ h9 => h9) rfl dX12_count_17 ?_
                                                    refine lv_bipush (v := 10) hx hb dX12_count_20 (by decide) ?_
                                                    refine lv_iload_n hx hb dX12_count_22 rfl (lv_at hl 0 rfl) ?_
                                                    refine lv_iadd hx hb dX12_count_23 ?_
                                                    refine g5_ti (v := 34) (by decide) ?_
                                                    refine va_iald hx hb hK hP 1 0 rfl rfl (i := 34) (by unfold vp_in; decide) dX12_count_24 ?_
                                                    refine g5_ti (v := 0) rfl ?_
                                                    refine lv_iadd hx hb dX12_count_25 ?_
                                                    refine g5_ti (v := 0) (by decide) ?_
                                                    refine lv_istore_n (lv' := [(2, .int 0), (3, .int 24), (0, .ref a0), (1, .int n0)]) hx hb dX12_count_26 rfl hl (by decide) rfl (fun ls hl => ?_)
                                                    refine lv_iinc (v := 25) (lv' := [(3, .int 25), (2, .int 0), (0, .ref a0), (1, .int n0)]) hx hb dX12_count_27 hl (k := 1) rfl (by decide) (by decide) rfl (fun ls hl => ?_)
                                                    refine lv_goto (tgt := 9) hx hb dX12_count_30 (by decide) ?_
                                                    refine lv_iload_n hx hb dX12_count_9 rfl (lv_at hl 0 rfl) ?_
                                                    refine lv_bipush (v := 64) hx hb dX12_count_10 (by decide) ?_
                                                    refine lv_icmp_ge (tgt := 33) hx hb dX12_count_12 (by decide) (fun c_26 => ?_) (fun c_26 => ?_)
                                                    ·
                                                      exact absurd c_26 (by decide)
                                                    ·
                                                      refine lv_iload_n hx hb dX12_count_15 rfl (lv_at hl 1 rfl) ?_
                                                      refine lv_aload_n hx hb dX12_count_16 rfl (lv_at hl 2 rfl) ?_
                                                      refine va_get (D := G.1) (ci := 12) (v := .ref a2) (C := RX12) (T := TX12) (N := 52) hx hb hts inG_X12 hown hK hP 0 rfl rfl 3 (by decide) (hts _ fl_X12_13) (fun _ h9 => h9) rfl dX12_count_17 ?_
                                                      refine lv_bipush (v := 10) hx hb dX12_count_20 (by decide) ?_
                                                      refine lv_iload_n hx hb dX12_count_22 rfl (lv_at hl 0 rfl) ?_
                                                      refine lv_iadd hx hb dX12_count_23 ?_
                                                      refine g5_ti (v := 35) (by decide) ?_
                                                      refine va_iald hx hb hK hP 1 0 rfl rfl (i := 35) (by unfold vp_in; decide) dX12_count_24 ?_
                                                      refine g5_ti (v := 0) rfl ?_
                                                      refine lv_iadd hx hb dX12_count_25 ?_
                                                      refine g5_ti (v := 0) (by decide) ?_
                                                      refine lv_istore_n (lv' := [(2, .int 0), (3, .int 25), (0, .ref a0), (1, .int n0)]) hx hb dX12_count_26 rfl hl (by decide) rfl (fun ls hl => ?_)
                                                      refine lv_iinc (v := 26) (lv' := [(3, .int 26), (2, .int 0), (0, .ref a0), (1, .int n0)]) hx hb dX12_count_27 hl (k := 1) rfl (by decide) (by decide) rfl (fun ls hl => ?_)
                                                      refine lv_goto (tgt := 9) hx hb dX12_count_30 (by decide) ?_
                                                      refine lv_iload_n hx hb dX12_count_9 rfl (lv_at hl 0 rfl) ?_
                                                      refine lv_bipush (v := 64) hx hb dX12_count_10 (by decide) ?_
                                                      refine lv_icmp_ge (tgt := 33) hx hb dX12_count_12 (by decide) (fun c_27 => ?_) (fun c_27 => ?_)
                                                      ·
                                                        exact absurd c_27 (by decide)
                                                      ·
                                                        refine lv_iload_n hx hb dX12_count_15 rfl (lv_at hl 1 rfl) ?_
                                                        refine lv_aload_n hx hb dX12_count_16 rfl (lv_at hl 2 rfl) ?_
                                                        refine va_get (D := G.1) (ci := 12) (v := .ref a2) (C := RX12) (T := TX12) (N := 52) hx hb hts inG_X12 hown hK hP 0 rfl rfl 3 (by decide) (hts _ fl_X12_13) (fun _ h9 => h9) rfl dX12_count_17 ?_
                                                        refine lv_bipush (v := 10) hx hb dX12_count_20 (by decide) ?_
                                                        refine lv_iload_n hx hb dX12_count_22 rfl (lv_at hl 0 rfl) ?_
                                                        refine lv_iadd hx hb dX12_count_23 ?_
                                                        refine g5_ti (v := 36) (by decide) ?_
                                                        refine va_iald hx hb hK hP 1 0 rfl rfl (i := 36) (by unfold vp_in; decide) dX12_count_24 ?_
                                                        refine g5_ti (v := 0) rfl ?_
                                                        refine lv_iadd hx hb dX12_count_25 ?_
                                                        refine g5_ti (v := 0) (by decide) ?_
                                                        refine lv_istore_n (lv' := [(2, .int 0), (3, .int 26), (0, .ref a0), (1, .int n0)]) hx hb dX12_count_26 rfl hl (by decide) rfl (fun ls hl => ?_)
                                                        refine lv_iinc (v := 27) (lv' := [(3, .int 27), (2, .int 0), (0, .ref a0), (1, .int n0)]) hx hb dX12_count_27 hl (k := 1) rfl (by decide) (by decide) rfl (fun ls hl => ?_)
                                                        refine lv_goto (tgt := 9) hx hb dX12_count_30 (by decide) ?_
                                                        refine lv_iload_n hx hb dX12_count_9 rfl (lv_at hl 0 rfl) ?_
                                                        refine lv_bipush (v := 64) hx hb dX12_count_10 (by decide) ?_
                                                        refine lv_icmp_ge (tgt := 33) hx hb dX12_count_12 (by decide) (fun c_28 => ?_) (fun c_28 => ?_)
                                                        ·
                                                          exact absurd c_28 (by decide)
                                                        ·
                                                          refine lv_iload_n hx hb dX12_count_15 rfl (lv_at hl 1 rfl) ?_
                                                          refine lv_aload_n hx hb dX12_count_16 rfl (lv_at hl 2 rfl) ?_
                                                          refine va_get (D := G.1) (ci := 12) (v := .ref a2) (C := RX12) (T := TX12) (N := 52) hx hb hts inG_X12 hown hK hP 0 rfl rfl 3 (by decide) (hts _ fl_X12_13) (fun _ h9 => h9) rfl dX12_count_17 ?_
                                                          refine lv_bipush (v := 10) hx hb dX12_count_20 (by decide) ?_
                                                          refine lv_iload_n hx hb dX12_count_22 rfl (lv_at hl 0 rfl) ?_
                                                          refine lv_iadd hx hb dX12_count_23 ?_
                                                          refine g5_ti (v := 37) (by decide) ?_
                                                          refine va_iald hx hb hK hP 1 0 rfl rfl (i := 37) (by unfold vp_in; decide) dX12_count_24 ?_
                                                          refine g5_ti (v := 0) rfl ?_
                                                          refine lv_iadd hx hb dX12_count_25 ?_
                                                          refine g5_ti (v := 0) (by decide) ?_
                                                          refine lv_istore_n (lv' := [(2, .int 0), (3, .int 27), (0, .ref a0), (1, .int n0)]) hx hb dX12_count_26 rfl hl (by decide) rfl (fun ls hl => ?_)
                                                          refine lv_iinc (v := 28) (lv' := [(3, .int 28), (2, .int 0), (0, .ref a0), (1, .int n0)]) hx hb dX12_count_27 hl (k := 1) rfl (by decide) (by decide) rfl (fun ls hl => ?_)
                                                          refine lv_goto (tgt := 9) hx hb dX12_count_30 (by decide) ?_
                                                          refine lv_iload_n hx hb dX12_count_9 rfl (lv_at hl 0 rfl) ?_
                                                          refine lv_bipush (v := 64) hx hb dX12_count_10 (by decide) ?_
                                                          refine lv_icmp_ge (tgt := 33) hx hb dX12_count_12 (by decide) (fun c_29 => ?_) (fun c_29 => ?_)
                                                          ·
                                                            exact absurd c_29 (by decide)
                                                          ·
                                                            refine lv_iload_n hx hb dX12_count_15 rfl (lv_at hl 1 rfl) ?_
                                                            refine lv_aload_n hx hb dX12_count_16 rfl (lv_at hl 2 rfl) ?_
                                                            refine va_get (D := G.1) (ci := 12) (v := .ref a2) (C := RX12) (T := TX12) (N := 52) hx hb hts inG_X12 hown hK hP 0 rfl rfl 3 (by decide) (hts _ fl_X12_13) (fun _ h9 => h9) rfl dX12_count_17 ?_
                                                            refine lv_bipush (v := 10) hx hb dX12_count_20 (by decide) ?_
                                                            refine lv_iload_n hx hb dX12_count_22 rfl (lv_at hl 0 rfl) ?_
                                                            refine lv_iadd hx hb dX12_count_23 ?_
                                                            refine g5_ti (v := 38) (by decide) ?_
                                                            refine va_iald hx hb hK hP 1 0 rfl rfl (i := 38) (by unfold vp_in; decide) dX12_count_24 ?_
                                                            refine g5_ti (v := 0) rfl ?_
                                                            refine lv_iadd hx hb dX12_count_25 ?_
                                                            refine g5_ti (v := 0) (by decide) ?_
                                                            refine lv_istore_n (lv' := [(2, .int 0), (3, .int 28), (0, .ref a0), (1, .int n0)]) hx hb dX12_count_26 rfl hl (by decide) rfl (fun ls hl => ?_)
                                                            refine lv_iinc (v := 29) (lv' := [(3, .int 29), (2, .int 0), (0, .ref a0), (1, .int n0)]) hx hb dX12_count_27 hl (k := 1) rfl (by decide) (by decide) rfl (fun ls hl => ?_)
                                                            refine lv_goto (tgt := 9) hx hb dX12_count_30 (by decide) ?_
                                                            refine lv_iload_n hx hb dX12_count_9 rfl (lv_at hl 0 rfl) ?_
                                                            refine lv_bipush (v := 64) hx hb dX12_count_10 (by decide) ?_
                                                            refine lv_icmp_ge (tgt := 33) hx hb dX12_count_12 (by decide) (fun c_30 => ?_) (fun c_30 => ?_)
                                                            ·
                                                              exact absurd c_30 (by decide)
                                                            ·
                                                              refine lv_iload_n hx hb dX12_count_15 rfl (lv_at hl 1 rfl) ?_
                                                              refine lv_aload_n hx hb dX12_count_16 rfl (lv_at hl 2 rfl) ?_
                                                              refine va_get (D := G.1) (ci := 12) (v := .ref a2) (C := RX12) (T := TX12) (N := 52) hx hb hts inG_X12 hown hK hP 0 rfl rfl 3 (by decide) (hts _ fl_X12_13) (fun _ h9 => h9) rfl dX12_count_17 ?_
                                                              refine lv_bipush (v := 10) hx hb dX12_count_20 (by decide) ?_
                                                              refine lv_iload_n hx hb dX12_count_22 rfl (lv_at hl 0 rfl) ?_
                                                              refine lv_iadd hx hb dX12_count_23 ?_
                                                              refine g5_ti (v := 39) (by decide) ?_
                                                              refine va_iald hx hb hK hP 1 0 rfl rfl (i := 39) (by unfold vp_in; decide) dX12_count_24 ?_
                                                              refine g5_ti (v := 0) rfl ?_
                                                              refine lv_iadd hx hb dX12_count_25 ?_
                                                              refine g5_ti (v := 0) (by decide) ?_
                                                              refine lv_istore_n (lv' := [(2, .int 0), (3, .int 29), (0, .ref a0), (1, .int n0)]) hx hb dX12_count_26 rfl hl (by decide) rfl (fun ls hl => ?_)
                                                              refine lv_iinc (v := 30) (lv' := [(3, .int 30), (2, .int 0), (0, .ref a0), (1, .int n0)]) hx hb dX12_count_27 hl (k := 1) rfl (by decide) (by decide) rfl (fun ls hl => ?_)
                                                              refine lv_goto (tgt := 9) hx hb dX12_count_30 (by decide) ?_
                                                              refine lv_iload_n hx hb dX12_count_9 rfl (lv_at hl 0 rfl) ?_
                                                              refine lv_bipush (v := 64) hx hb dX12_count_10 (by decide) ?_
                                                              refine lv_icmp_ge (tgt := 33) hx hb dX12_count_12 (by decide) (fun c_31 => ?_) (fun c_31 => ?_)
                                                              ·
                                                                exact absurd c_31 (by decide)
                                                              ·
                                                                refine lv_iload_n hx hb dX12_count_15 rfl (lv_at hl 1 rfl) ?_
                                                                refine lv_aload_n hx hb dX12_count_16 rfl (lv_at hl 2 rfl) ?_
                                                                refine va_get (D := G.1) (ci := 12) (v := .ref a2) (C := RX12) (T := TX12) (N := 52) hx hb hts inG_X12 hown hK hP 0 rfl rfl 3 (by decide) (hts _ fl_X12_13) (fun _ h9 => h9) rfl dX12_count_17 ?_
                                                                refine lv_bipush (v := 10) hx hb dX12_count_20 (by decide) ?_
                                                                refine lv_iload_n hx hb dX12_count_22 rfl (lv_at hl 0 rfl) ?_
                                                                refine lv_iadd hx hb dX12_count_23 ?_
                                                                refine g5_ti (v := 40) (by decide) ?_
                                                                refine va_iald hx hb hK hP 1 0 rfl rfl (i := 40) (by unfold vp_in; decide) dX12_count_24 ?_
                                                                refine g5_ti (v := 0) rfl ?_
                                                                refine lv_iadd hx hb dX12_count_25 ?_
                                                                refine g5_ti (v := 0) (by decide) ?_
                                                                refine lv_istore_n (lv' := [(2, .int 0), (3, .int 30), (0, .ref a0), (1, .int n0)]) hx hb dX12_count_26 rfl hl (by decide) rfl (fun ls hl => ?_)
                                                                refine lv_iinc (v := 31) (lv' := [(3, .int 31), (2, .int 0), (0, .ref a0), (1, .int n0)]) hx hb dX12_count_27 hl (k := 1) rfl (by decide) (by decide) rfl (fun ls hl => ?_)
                                                                refine lv_goto (tgt := 9) hx hb dX12_count_30 (by decide) ?_
                                                                refine lv_iload_n hx hb dX12_count_9 rfl (lv_at hl 0 rfl) ?_
                                                                refine lv_bipush (v := 64) hx hb dX12_count_10 (by decide) ?_
                                                                refine lv_icmp_ge (tgt := 33) hx hb dX12_count_12 (by decide) (fun c_32 => ?_) (fun c_32 => ?_)
                                                                ·
                                                                  exact absurd c_32 (by decide)
                                                                ·
                                                                  refine lv_iload_n hx hb dX12_count_15 rfl (lv_at hl 1 rfl) ?_
                                                                  refine lv_aload_n hx hb dX12_count_16 rfl (lv_at hl 2 rfl) ?_
                                                                  refine va_get (D := G.1) (ci := 12) (v := .ref a2) (C := RX12) (T := TX12) (N := 52) hx hb hts inG_X12 hown hK hP 0 rfl rfl 3 (by decide) (hts _ fl_X12_13) (fun _ h9 => h9) rfl dX12_count_17 ?_
                                                                  refine lv_bipush (v := 10) hx hb dX12_count_20 (by decide) ?_
                                                                  refine lv_iload_n hx hb dX12_count_22 rfl (lv_at hl 0 rfl) ?_
                                                                  refine lv_iadd hx hb dX12_count_23 ?_
                                                                  refine g5_ti (v := 41) (by decide) ?_
                                                                  refine va_iald hx hb hK hP 1 0 rfl rfl (i := 41) (by unfold vp_in; decide) dX12_count_24 ?_
                                                                  refine g5_ti (v := 0) rfl ?_
                                                                  refine lv_iadd hx hb dX12_count_25 ?_
                                                                  refine g5_ti (v := 0) (by decide) ?_
                                                                  refine lv_istore_n (lv' := [(2, .int 0), (3, .int 31), (0, .ref a0), (1, .int n0)]) hx hb dX12_count_26 rfl hl (by decide) rfl (fun ls hl => ?_)
                                                                  refine lv_iinc (v := 32) (lv' := [(3, .int 32), (2, .int 0), (0, .ref a0), (1, .int n0)]) hx hb dX12_count_27 hl (k := 1) rfl (by decide) (by decide) rfl (fun ls hl => ?_)
                                                                  refine lv_goto (tgt := 9) hx hb dX12_count_30 (by decide) ?_
                                                                  refine lv_iload_n hx hb dX12_count_9 rfl (lv_at hl 0 rfl) ?_
                                                                  refine lv_bipush (v := 64) hx hb dX12_count_10 (by decide) ?_
                                                                  refine lv_icmp_ge (tgt := 33) hx hb dX12_count_12 (by decide) (fun c_33 => ?_) (fun c_33 => ?_)
                                                                  ·
                                                                    exact absurd c_33 (by decide)
                                                                  ·
                                                                    refine lv_iload_n hx hb dX12_count_15 rfl (lv_at hl 1 rfl) ?_
                                                                    refine lv_aload_n hx hb dX12_count_16 rfl (lv_at hl 2 rfl) ?_
                                                                    refine va_get (D := G.1) (ci := 12) (v := .ref a2) (C := RX12) (T := TX12) (N := 52) hx hb hts inG_X12 hown hK hP 0 rfl rfl 3 (by decide) (hts _ fl_X12_13) (fun _ h9 => h9) rfl dX12_count_17 ?_
                                                                    refine lv_bipush (v := 10) hx hb dX12_count_20 (by decide) ?_
                                                                    refine lv_iload_n hx hb dX12_count_22 rfl (lv_at hl 0 rfl) ?_
                                                                    refine lv_iadd hx hb dX12_count_23 ?_
                                                                    refine g5_ti (v := 42) (by decide) ?_
                                                                    refine va_iald hx hb hK hP 1 0 rfl rfl (i := 42) (by unfold vp_in; decide) dX12_count_24 ?_
                                                                    refine g5_ti (v := 0) rfl ?_
                                                                    refine lv_iadd hx hb dX12_count_25 ?_
                                                                    refine g5_ti (v := 0) (by decide) ?_
                                                                    refine lv_istore_n (lv' := [(2, .int 0), (3, .int 32), (0, .ref a0), (1, .int n0)]) hx hb dX12_count_26 rfl hl (by decide) rfl (fun ls hl => ?_)
                                                                    refine lv_iinc (v := 33) (lv' := [(3, .int 33), (2, .int 0), (0, .ref a0), (1, .int n0)]) hx hb dX12_count_27 hl (k := 1) rfl (by decide) (by decide) rfl (fun ls hl => ?_)
                                                                    refine lv_goto (tgt := 9) hx hb dX12_count_30 (by decide) ?_
                                                                    refine lv_iload_n hx hb dX12_count_9 rfl (lv_at hl 0 rfl) ?_
                                                                    refine lv_bipush (v := 64) hx hb dX12_count_10 (by decide) ?_
                                                                    refine lv_icmp_ge (tgt := 33) hx hb dX12_count_12 (by decide) (fun c_34 => ?_) (fun c_34 => ?_)
                                                                    ·
                                                                      exact absurd c_34 (by decide)
                                                                    ·
                                                                      refine lv_iload_n hx hb dX12_count_15 rfl (lv_at hl 1 rfl) ?_
                                                                      refine lv_aload_n hx hb dX12_count_16 rfl (lv_at hl 2 rfl) ?_
                                                                      refine va_get (D := G.1) (ci := 12) (v := .ref a2) (C := RX12) (T := TX12) (N := 52) hx hb hts inG_X12 hown hK hP 0 rfl rfl 3 (by decide) (hts _ fl_X12_13) (fun _ h9 => h9) rfl dX12_count_17 ?_
                                                                      refine lv_bipush (v := 10) hx hb dX12_count_20 (by decide) ?_
                                                                      refine lv_iload_n hx hb dX12_count_22 rfl (lv_at hl 0 rfl) ?_
                                                                      refine lv_iadd hx hb dX12_count_23 ?_
                                                                      refine g5_ti (v := 43) (by decide) ?_
                                                                      refine va_iald hx hb hK hP 1 0 rfl rfl (i := 43) (by unfold vp_in; decide) dX12_count_24 ?_
                                                                      refine g5_ti (v := 0) rfl ?_
                                                                      refine lv_iadd hx hb dX12_count_25 ?_
                                                                      refine g5_ti (v := 0) (by decide) ?_
                                                                      refine lv_istore_n (lv' := [(2, .int 0), (3, .int 33), (0, .ref a0), (1, .int n0)]) hx hb dX12_count_26 rfl hl (by decide) rfl (fun ls hl => ?_)
                                                                      refine lv_iinc (v := 34) (lv' := [(3, .int 34), (2, .int 0), (0, .ref a0), (1, .int n0)]) hx hb dX12_count_27 hl (k := 1) rfl (by decide) (by decide) rfl (fun ls hl => ?_)
                                                                      refine lv_goto (tgt := 9) hx hb dX12_count_30 (by decide) ?_
                                                                      refine lv_iload_n hx hb dX12_count_9 rfl (lv_at hl 0 rfl) ?_
                                                                      refine lv_bipush (v := 64) hx hb dX12_count_10 (by decide) ?_
                                                                      refine lv_icmp_ge (tgt := 33) hx hb dX12_count_12 (by decide) (fun c_35 => ?_) (fun c_35 => ?_)
                                                                      ·
                                                                        exact absurd c_35 (by decide)
                                                                      ·
                                                                        refine lv_iload_n hx hb dX12_count_15 rfl (lv_at hl 1 rfl) ?_
                                                                        refine lv_aload_n hx hb dX12_count_16 rfl (lv_at hl 2 rfl) ?_
                                                                        refine va_get (D := G.1) (ci := 12) (v := .ref a2) (C := RX12) (T := TX12) (N := 52) hx hb hts inG_X12 hown hK hP 0 rfl rfl 3 (by decide) (hts _ fl_X12_13) (fun _ h9 => h9) rfl dX12_count_17 ?_
                                                                        refine lv_bipush (v := 10) hx hb dX12_count_20 (by decide) ?_
                                                                        refine lv_iload_n hx hb dX12_count_22 rfl (lv_at hl 0 rfl) ?_
                                                                        refine lv_iadd hx hb dX12_count_23 ?_
                                                                        refine g5_ti (v := 44) (by decide) ?_
                                                                        refine va_iald hx hb hK hP 1 0 rfl rfl (i := 44) (by unfold vp_in; decide) dX12_count_24 ?_
                                                                        refine g5_ti (v := 0) rfl ?_
                                                                        refine lv_iadd hx hb dX12_count_25 ?_
                                                                        refine g5_ti (v := 0) (by decide) ?_
                                                                        refine lv_istore_n (lv' := [(2, .int 0), (3, .int 34), (0, .ref a0), (1, .int n0)]) hx hb dX12_count_26 rfl hl (by decide) rfl (fun ls hl => ?_)
                                                                        refine lv_iinc (v := 35) (lv' := [(3, .int 35), (2, .int 0), (0, .ref a0), (1, .int n0)]) hx hb dX12_count_27 hl (k := 1) rfl (by decide) (by decide) rfl (fun ls hl => ?_)
                                                                        refine lv_goto (tgt := 9) hx hb dX12_count_30 (by decide) ?_
                                                                        refine lv_iload_n hx hb dX12_count_9 rfl (lv_at hl 0 rfl) ?_
                                                                        refine lv_bipush (v := 64) hx hb dX12_count_10 (by decide) ?_
                                                                        refine lv_icmp_ge (tgt := 33) hx hb dX12_count_12 (by decide) (fun c_36 => ?_) (fun c_36 => ?_)
                                                                        ·
                                                                          exact absurd c_36 (by decide)
                                                                        ·
                                                                          refine lv_iload_n hx hb dX12_count_15 rfl (lv_at hl 1 rfl) ?_
                                                                          refine lv_aload_n hx hb dX12_count_16 rfl (lv_at hl 2 rfl) ?_
                                                                          refine va_get (D := G.1) (ci := 12) (v := .ref a2) (C := RX12) (T := TX12) (N := 52) hx hb hts inG_X12 hown hK hP 0 rfl rfl 3 (by decide) (hts _ fl_X12_13) (fun _ h9 => h9) rfl dX12_count_17 ?_
                                                                          refine lv_bipush (v := 10) hx hb dX12_count_20 (by decide) ?_
                                                                          refine lv_iload_n hx hb dX12_count_22 rfl (lv_at hl 0 rfl) ?_
                                                                          refine lv_iadd hx hb dX12_count_23 ?_
                                                                          refine g5_ti (v := 45) (by decide) ?_
                                                                          refine va_iald hx hb hK hP 1 0 rfl rfl (i := 45) (by unfold vp_in; decide) dX12_count_24 ?_
                                                                          refine g5_ti (v := 0) rfl ?_
                                                                          refine lv_iadd hx hb dX12_count_25 ?_
                                                                          refine g5_ti (v := 0) (by decide) ?_
                                                                          refine lv_istore_n (lv' := [(2, .int 0), (3, .int 35), (0, .ref a0), (1, .int n0)]) hx hb dX12_count_26 rfl hl (by decide) rfl (fun ls hl => ?_)
                                                                          refine lv_iinc (v := 36) (lv' := [(3, .int 36), (2, .int 0), (0, .ref a0), (1, .int n0)]) hx hb dX12_count_27 hl (k := 1) rfl (by decide) (by decide) rfl (fun ls hl => ?_)
                                                                          refine lv_goto (tgt := 9) hx hb dX12_count_30 (by decide) ?_
                                                                          refine lv_iload_n hx hb dX12_count_9 rfl (lv_at hl 0 rfl) ?_
                                                                          refine lv_bipush (v := 64) hx hb dX12_count_10 (by decide) ?_
                                                                          refine lv_icmp_ge (tgt := 33) hx hb dX12_count_12 (by decide) (fun c_37 => ?_) (fun c_37 => ?_)
                                                                          ·
                                                                            exact absurd c_37 (by decide)
                                                                          ·
                                                                            refine lv_iload_n hx hb dX12_count_15 rfl (lv_at hl 1 rfl) ?_
                                                                            refine lv_aload_n hx hb dX12_count_16 rfl (lv_at hl 2 rfl) ?_
                                                                            refine va_get (D := G.1) (ci := 12) (v := .ref a2) (C := RX12) (T := TX12) (N := 52) hx hb hts inG_X12 hown hK hP 0 rfl rfl 3 (by decide) (hts _ fl_X12_13) (fun _ h9 => h9) rfl dX12_count_17 ?_
                                                                            refine lv_bipush (v := 10) hx hb dX12_count_20 (by decide) ?_
                                                                            refine lv_iload_n hx hb dX12_count_22 rfl (lv_at hl 0 rfl) ?_
                                                                            refine lv_iadd hx hb dX12_count_23 ?_
                                                                            refine g5_ti (v := 46) (by decide) ?_
                                                                            refine va_iald hx hb hK hP 1 0 rfl rfl (i := 46) (by unfold vp_in; decide) dX12_count_24 ?_
                                                                            refine g5_ti (v := 0) rfl ?_
                                                                            refine lv_iadd hx hb dX12_count_25 ?_
                                                                            refine g5_ti (v := 0) (by decide) ?_
                                                                            refine lv_istore_n (lv' := [(2, .int 0), (3, .int 36), (0, .ref a0), (1, .int n0)]) hx hb dX12_count_26 rfl hl (by decide) rfl (fun ls hl => ?_)
                                                                            refine lv_iinc (v := 37) (lv' := [(3, .int 37), (2, .int 0), (0, .ref a0), (1, .int n0)]) hx hb dX12_count_27 hl (k := 1) rfl (by decide) (by decide) rfl (fun ls hl => ?_)
                                                                            refine lv_goto (tgt := 9) hx hb dX12_count_30 (by decide) ?_
                                                                            refine lv_iload_n hx hb dX12_count_9 rfl (lv_at hl 0 rfl) ?_
                                                                            refine lv_bipush (v := 64) hx hb dX12_count_10 (by decide) ?_
                                                                            refine lv_icmp_ge (tgt := 33) hx hb dX12_count_12 (by decide) (fun c_38 => ?_) (fun c_38 => ?_)
                                                                            ·
                                                                              exact absurd c_38 (by decide)
                                                                            ·
                                                                              refine lv_iload_n hx hb dX12_count_15 rfl (lv_at hl 1 rfl) ?_
                                                                              refine lv_aload_n hx hb dX12_count_16 rfl (lv_at hl 2 rfl) ?_
                                                                              refine va_get (D := G.1) (ci := 12) (v := .ref a2) (C := RX12) (T := TX12) (N := 52) hx hb hts inG_X12 hown hK hP 0 rfl rfl 3 (by decide) (hts _ fl_X12_13) (fun _ h9 => h9) rfl dX12_count_17 ?_
                                                                              refine lv_bipush (v := 10) hx hb dX12_count_20 (by decide) ?_
                                                                              refine lv_iload_n hx hb dX12_count_22 rfl (lv_at hl 0 rfl) ?_
                                                                              refine lv_iadd hx hb dX12_count_23 ?_
                                                                              refine g5_ti (v := 47) (by decide) ?_
                                                                              refine va_iald hx hb hK hP 1 0 rfl rfl (i := 47) (by unfold vp_in; decide) dX12_count_24 ?_
                                                                              refine g5_ti (v := 0) rfl ?_
                                                                              refine lv_iadd hx hb dX12_count_25 ?_
                                                                              refine g5_ti (v := 0) (by decide) ?_
                                                                              refine lv_istore_n (lv' := [(2, .int 0), (3, .int 37), (0, .ref a0), (1, .int n0)]) hx hb dX12_count_26 rfl hl (by decide) rfl (fun ls hl => ?_)
                                                                              refine lv_iinc (v := 38) (lv' := [(3, .int 38), (2, .int 0), (0, .ref a0), (1, .int n0)]) hx hb dX12_count_27 hl (k := 1) rfl (by decide) (by decide) rfl (fun ls hl => ?_)
                                                                              refine lv_goto (tgt := 9) hx hb dX12_count_30 (by decide) ?_
                                                                              refine lv_iload_n hx hb dX12_count_9 rfl (lv_at hl 0 rfl) ?_
                                                                              refine lv_bipush (v := 64) hx hb dX12_count_10 (by decide) ?_
                                                                              refine lv_icmp_ge (tgt := 33) hx hb dX12_count_12 (by decide) (fun c_39 => ?_) (fun c_39 => ?_)
                                                                              ·
                                                                                exact absurd c_39 (by decide)
                                                                              ·
                                                                                refine lv_iload_n hx hb dX12_count_15 rfl (lv_at hl 1 rfl) ?_
                                                                                refine lv_aload_n hx hb dX12_count_16 rfl (lv_at hl 2 rfl) ?_
                                                                                refine va_get (D := G.1) (ci := 12) (v := .ref a2) (C := RX12) (T := TX12) (N := 52) hx hb hts inG_X12 hown hK hP 0 rfl rfl 3 (by decide) (hts _ fl_X12_13) (fun _ h9 => h9) rfl dX12_count_17 ?_
                                                                                refine lv_bipush (v := 10) hx hb dX12_count_20 (by decide) ?_
                                                                                refine lv_iload_n hx hb dX12_count_22 rfl (lv_at hl 0 rfl) ?_
                                                                                refine lv_iadd hx hb dX12_count_23 ?_
                                                                                refine g5_ti (v := 48) (by decide) ?_
                                                                                refine va_iald hx hb hK hP 1 0 rfl rfl (i := 48) (by unfold vp_in; decide) dX12_count_24 ?_
                                                                                refine g5_ti (v := 0) rfl ?_
                                                                                refine lv_iadd hx hb dX12_count_25 ?_
                                                                                refine g5_ti (v := 0) (by decide) ?_
                                                                                refine lv_istore_n (lv' := [(2, .int 0), (3, .int 38), (0, .ref a0), (1, .int n0)]) hx hb dX12_count_26 rfl hl (by decide) rfl (fun ls hl => ?_)
                                                                                refine lv_iinc (v := 39) (lv' := [(3, .int 39), (2, .int 0), (0, .ref a0), (1, .int n0)]) hx hb dX12_count_27 hl (k := 1) rfl (by decide) (by decide) rfl (fun ls hl => ?_)
                                                                                refine lv_goto (tgt := 9) hx hb dX12_count_30 (by decide) ?_
                                                                                refine lv_iload_n hx hb dX12_count_9 rfl (lv_at hl 0 rfl) ?_
                                                                                refine lv_bipush (v := 64) hx hb dX12_count_10 (by decide) ?_
                                                                                refine lv_icmp_ge (tgt := 33) hx hb dX12_count_12 (by decide) (fun c_40 => ?_) (fun c_40 => ?_)
                                                                                ·
                                                                                  exact absurd c_40 (by decide)
                                                                                ·
                                                                                  refine lv_iload_n hx hb dX12_count_15 rfl (lv_at hl 1 rfl) ?_
                                                                                  refine lv_aload_n hx hb dX12_count_16 rfl (lv_at hl 2 rfl) ?_
                                                                                  refine va_get (D := G.1) (ci := 12) (v := .ref a2) (C := RX12) (T := TX12) (N := 52) hx hb hts inG_X12 hown hK hP 0 rfl rfl 3 (by decide) (hts _ fl_X12_13) (fun _ h9 => h9) rfl dX12_count_17 ?_
                                                                                  refine lv_bipush (v := 10) hx hb dX12_count_20 (by decide) ?_
                                                                                  refine lv_iload_n hx hb dX12_count_22 rfl (lv_at hl 0 rfl) ?_
                                                                                  refine lv_iadd hx hb dX12_count_23 ?_
                                                                                  refine g5_ti (v := 49) (by decide) ?_
                                                                                  refine va_iald hx hb hK hP 1 0 rfl rfl (i := 49) (by unfold vp_in; decide) dX12_count_24 ?_
                                                                                  refine g5_ti (v := 0) rfl ?_
                                                                                  refine lv_iadd hx hb dX12_count_25 ?_
                                                                                  refine g5_ti (v := 0) (by decide) ?_
                                                                                  refine lv_istore_n (lv' := [(2, .int 0), (3, .int 39), (0, .ref a0), (1, .int n0)]) hx hb dX12_count_26 rfl hl (by decide) rfl (fun ls hl => ?_)
                                                                                  refine lv_iinc (v := 40) (lv' := [(3, .int 40), (2, .int 0), (0, .ref a0), (1, .int n0)]) hx hb dX12_count_27 hl (k := 1) rfl (by decide) (by decide) rfl (fun ls hl => ?_)
                                                                                  refine lv_goto (tgt := 9) hx hb dX12_count_30 (by decide) ?_
                                                                                  refine lv_iload_n hx hb dX12_count_9 rfl (lv_at hl 0 rfl) ?_
                                                                                  refine lv_bipush (v := 64) hx hb dX12_count_10 (by decide) ?_
                                                                                  refine lv_icmp_ge (tgt := 33) hx hb dX12_count_12 (by decide) (fun c_41 => ?_) (fun c_41 => ?_)
                                                                                  ·
                                                                                    exact absurd c_41 (by decide)
                                                                                  ·
                                                                                    refine lv_iload_n hx hb dX12_count_15 rfl (lv_at hl 1 rfl) ?_
                                                                                    refine lv_aload_n hx hb dX12_count_16 rfl (lv_at hl 2 rfl) ?_
                                                                                    refine va_get (D := G.1) (ci := 12) (v := .ref a2) (C := RX12) (T := TX12) (N := 52) hx hb hts inG_X12 hown hK hP 0 rfl rfl 3 (by decide) (hts _ fl_X12_13) (fun _ h9 => h9) rfl dX12_count_17 ?_
                                                                                    refine lv_bipush (v := 10) hx hb dX12_count_20 (by decide) ?_
                                                                                    refine lv_iload_n hx hb dX12_count_22 rfl (lv_at hl 0 rfl) ?_
                                                                                    refine lv_iadd hx hb dX12_count_23 ?_
                                                                                    refine g5_ti (v := 50) (by decide) ?_
                                                                                    refine va_iald hx hb hK hP 1 0 rfl rfl (i := 50) (by unfold vp_in; decide) dX12_count_24 ?_
                                                                                    refine g5_ti (v := 0) rfl ?_
                                                                                    refine lv_iadd hx hb dX12_count_25 ?_
                                                                                    refine g5_ti (v := 0) (by decide) ?_
                                                                                    refine lv_istore_n (lv' := [(2, .int 0), (3, .int 40), (0, .ref a0), (1, .int n0)]) hx hb dX12_count_26 rfl hl (by decide) rfl (fun ls hl => ?_)
                                                                                    refine lv_iinc (v := 41) (lv' := [(3, .int 41), (2, .int 0), (0, .ref a0), (1, .int n0)]) hx hb dX12_count_27 hl (k := 1) rfl (by decide) (by decide) rfl (fun ls hl => ?_)
                                                                                    refine lv_goto (tgt := 9) hx hb dX12_count_30 (by decide) ?_
                                                                                    refine lv_iload_n hx hb dX12_count_9 rfl (lv_at hl 0 rfl) ?_
                                                                                    refine lv_bipush (v := 64) hx hb dX12_count_10 (by decide) ?_
                                                                                    refine lv_icmp_ge (tgt := 33) hx hb dX12_count_12 (by decide) (fun c_42 => ?_) (fun c_42 => ?_)
                                                                                    ·
                                                                                      exact absurd c_42 (by decide)
                                                                                    ·
                                                                                      refine lv_iload_n hx hb dX12_count_15 rfl (lv_at hl 1 rfl) ?_
                                                                                      refine lv_aload_n hx hb dX12_count_16 rfl (lv_at hl 2 rfl) ?_
                                                                                      refine va_get (D := G.1) (ci := 12) (v := .ref a2) (C := RX12) (T := TX12) (N := 52) hx hb hts inG_X12 hown hK hP 0 rfl rfl 3 (by decide) (hts _ fl_X12_13) (fun _ h9 => h9) rfl dX12_count_17 ?_
                                                                                      refine lv_bipush (v := 10) hx hb dX12_count_20 (by decide) ?_
                                                                                      refine lv_iload_n hx hb dX12_count_22 rfl (lv_at hl 0 rfl) ?_
                                                                                      refine lv_iadd hx hb dX12_count_23 ?_
                                                                                      refine g5_ti (v := 51) (by decide) ?_
                                                                                      refine va_iald hx hb hK hP 1 0 rfl rfl (i := 51) (by unfold vp_in; decide) dX12_count_24 ?_
                                                                                      refine g5_ti (v := 0) rfl ?_
                                                                                      refine lv_iadd hx hb dX12_count_25 ?_
                                                                                      refine g5_ti (v := 0) (by decide) ?_
                                                                                      refine lv_istore_n (lv' := [(2, .int 0), (3, .int 41), (0, .ref a0), (1, .int n0)]) hx hb dX12_count_26 rfl hl (by decide) rfl (fun ls hl => ?_)
                                                                                      refine lv_iinc (v := 42) (lv' := [(3, .int 42), (2, .int 0), (0, .ref a0), (1, .int n0)]) hx hb dX12_count_27 hl (k := 1) rfl (by decide) (by decide) rfl (fun ls hl => ?_)
                                                                                      refine lv_goto (tgt := 9) hx hb dX12_count_30 (by decide) ?_
                                                                                      refine lv_iload_n hx hb dX12_count_9 rfl (lv_at hl 0 rfl) ?_
                                                                                      refine lv_bipush (v := 64) hx hb dX12_count_10 (by decide) ?_
                                                                                      refine lv_icmp_ge (tgt := 33) hx hb dX12_count_12 (by decide) (fun c_43 => ?_) (fun c_43 => ?_)
                                                                                      ·
                                                                                        exact absurd c_43 (by decide)
                                                                                      ·
                                                                                        refine lv_iload_n hx hb dX12_count_15 rfl (lv_at hl 1 rfl) ?_
                                                                                        refine lv_aload_n hx hb dX12_count_16 rfl (lv_at hl 2 rfl) ?_
                                                                                        refine va_get (D := G.1) (ci := 12) (v := .ref a2) (C := RX12) (T := TX12) (N := 52) hx hb hts inG_X12 hown hK hP 0 rfl rfl 3 (by decide) (hts _ fl_X12_13) (fun _ h9 => h9) rfl dX12_count_17 ?_
                                                                                        refine lv_bipush (v := 10) hx hb dX12_count_20 (by decide) ?_
                                                                                        refine lv_iload_n hx hb dX12_count_22 rfl (lv_at hl 0 rfl) ?_
                                                                                        refine lv_iadd hx hb dX12_count_23 ?_
                                                                                        refine g5_ti (v := 52) (by decide) ?_
                                                                                        refine va_iald hx hb hK hP 1 0 rfl rfl (i := 52) (by unfold vp_in; decide) dX12_count_24 ?_
                                                                                        refine g5_ti (v := 0) rfl ?_
                                                                                        refine lv_iadd hx hb dX12_count_25 ?_
                                                                                        refine g5_ti (v := 0) (by decide) ?_
                                                                                        refine lv_istore_n (lv' := [(2, .int 0), (3, .int 42), (0, .ref a0), (1, .int n0)]) hx hb dX12_count_26 rfl hl (by decide) rfl (fun ls hl => ?_)
                                                                                        refine lv_iinc (v := 43) (lv' := [(3, .int 43), (2, .int 0), (0, .ref a0), (1, .int n0)]) hx hb dX12_count_27 hl (k := 1) rfl (by decide) (by decide) rfl (fun ls hl => ?_)
                                                                                        refine lv_goto (tgt := 9) hx hb dX12_count_30 (by decide) ?_
                                                                                        refine lv_iload_n hx hb dX12_count_9 rfl (lv_at hl 0 rfl) ?_
                                                                                        refine lv_bipush (v := 64) hx hb dX12_count_10 (by decide) ?_
                                                                                        refine lv_icmp_ge (tgt := 33) hx hb dX12_count_12 (by decide) (fun c_44 => ?_) (fun c_44 => ?_)
                                                                                        ·
                                                                                          exact absurd c_44 (by decide)
                                                                                        ·
                                                                                          refine lv_iload_n hx hb dX12_count_15 rfl (lv_at hl 1 rfl) ?_
                                                                                          refine lv_aload_n hx hb dX12_count_16 rfl (lv_at hl 2 rfl) ?_
                                                                                          refine va_get (D := G.1) (ci := 12) (v := .ref a2) (C := RX12) (T := TX12) (N := 52) hx hb hts inG_X12 hown hK hP 0 rfl rfl 3 (by decide) (hts _ fl_X12_13) (fun _ h9 => h9) rfl dX12_count_17 ?_
                                                                                          refine lv_bipush (v := 10) hx hb dX12_count_20 (by decide) ?_
                                                                                          refine lv_iload_n hx hb dX12_count_22 rfl (lv_at hl 0 rfl) ?_
                                                                                          refine lv_iadd hx hb dX12_count_23 ?_
                                                                                          refine g5_ti (v := 53) (by decide) ?_
                                                                                          refine va_iald hx hb hK hP 1 0 rfl rfl (i := 53) (by unfold vp_in; decide) dX12_count_24 ?_
                                                                                          refine g5_ti (v := 0) rfl ?_
                                                                                          refine lv_iadd hx hb dX12_count_25 ?_
                                                                                          refine g5_ti (v := 0) (by decide) ?_
                                                                                          refine lv_istore_n (lv' := [(2, .int 0), (3, .int 43), (0, .ref a0), (1, .int n0)]) hx hb dX12_count_26 rfl hl (by decide) rfl (fun ls hl => ?_)
                                                                                          refine lv_iinc (v := 44) (lv' := [(3, .int 44), (2, .int 0), (0, .ref a0), (1, .int n0)]) hx hb dX12_count_27 hl (k := 1) rfl (by decide) (by decide) rfl (fun ls hl => ?_)
                                                                                          refine lv_goto (tgt := 9) hx hb dX12_count_30 (by decide) ?_
                                                                                          refine lv_iload_n hx hb dX12_count_9 rfl (lv_at hl 0 rfl) ?_
                                                                                          refine lv_bipush (v := 64) hx hb dX12_count_10 (by decide) ?_
                                                                                          refine lv_icmp_ge (tgt := 33) hx hb dX12_count_12 (by decide) (fun c_45 => ?_) (fun c_45 => ?_)
                                                                                          ·
                                                                                            exact absurd c_45 (by decide)
                                                                                          ·
                                                                                            refine lv_iload_n hx hb dX12_count_15 rfl (lv_at hl 1 rfl) ?_
                                                                                            refine lv_aload_n hx hb dX12_count_16 rfl (lv_at hl 2 rfl) ?_
                                                                                            refine va_get (D := G.1) (ci := 12) (v := .ref a2) (C := RX12) (T := TX12) (N := 52) hx hb hts inG_X12 hown hK hP 0 rfl rfl 3 (by decide) (hts _ fl_X12_13) (fun _ h9 => h9) rfl dX12_count_17 ?_
                                                                                            refine lv_bipush (v := 10) hx hb dX12_count_20 (by decide) ?_
                                                                                            refine lv_iload_n hx hb dX12_count_22 rfl (lv_at hl 0 rfl) ?_
                                                                                            refine lv_iadd hx hb dX12_count_23 ?_
                                                                                            refine g5_ti (v := 54) (by decide) ?_
                                                                                            refine va_iald hx hb hK hP 1 0 rfl rfl (i := 54) (by unfold vp_in; decide) dX12_count_24 ?_
                                                                                            refine g5_ti (v := 0) rfl ?_
                                                                                            refine lv_iadd hx hb dX12_count_25 ?_
                                                                                            refine g5_ti (v := 0) (by decide) ?_
                                                                                            refine lv_istore_n (lv' := [(2, .int 0), (3, .int 44), (0, .ref a0), (1, .int n0)]) hx hb dX12_count_26 rfl hl (by decide) rfl (fun ls hl => ?_)
                                                                                            refine lv_iinc (v := 45) (lv' := [(3, .int 45), (2, .int 0), (0, .ref a0), (1, .int n0)]) hx hb dX12_count_27 hl (k := 1) rfl (by decide) (by decide) rfl (fun ls hl => ?_)
                                                                                            refine lv_goto (tgt := 9) hx hb dX12_count_30 (by decide) ?_
                                                                                            refine lv_iload_n hx hb dX12_count_9 rfl (lv_at hl 0 rfl) ?_
                                                                                            refine lv_bipush (v := 64) hx hb dX12_count_10 (by decide) ?_
                                                                                            refine lv_icmp_ge (tgt := 33) hx hb dX12_count_12 (by decide) (fun c_46 => ?_) (fun c_46 => ?_)
                                                                                            ·
                                                                                              exact absurd c_46 (by decide)
                                                                                            ·
                                                                                              refine lv_iload_n hx hb dX12_count_15 rfl (lv_at hl 1 rfl) ?_
                                                                                              refine lv_aload_n hx hb dX12_count_16 rfl (lv_at hl 2 rfl) ?_
                                                                                              refine va_get (D := G.1) (ci := 12) (v := .ref a2) (C := RX12) (T := TX12) (N := 52) hx hb hts inG_X12 hown hK hP 0 rfl rfl 3 (by decide) (hts _ fl_X12_13) (fun _ h9 => h9) rfl dX12_count_17 ?_
                                                                                              refine lv_bipush (v := 10) hx hb dX12_count_20 (by decide) ?_
                                                                                              refine lv_iload_n hx hb dX12_count_22 rfl (lv_at hl 0 rfl) ?_
                                                                                              refine lv_iadd hx hb dX12_count_23 ?_
                                                                                              refine g5_ti (v := 55) (by decide) ?_
                                                                                              refine va_iald hx hb hK hP 1 0 rfl rfl (i := 55) (by unfold vp_in; decide) dX12_count_24 ?_
                                                                                              refine g5_ti (v := 0) rfl ?_
                                                                                              refine lv_iadd hx hb dX12_count_25 ?_
                                                                                              refine g5_ti (v := 0) (by decide) ?_
                                                                                              refine lv_istore_n (lv' := [(2, .int 0), (3, .int 45), (0, .ref a0), (1, .int n0)]) hx hb dX12_count_26 rfl hl (by decide) rfl (fun ls hl => ?_)
                                                                                              refine lv_iinc (v := 46) (lv' := [(3, .int 46), (2, .int 0), (0, .ref a0), (1, .int n0)]) hx hb dX12_count_27 hl (k := 1) rfl (by decide) (by decide) rfl (fun ls hl => ?_)
                                                                                              refine lv_goto (tgt := 9) hx hb dX12_count_30 (by decide) ?_
                                                                                              refine lv_iload_n hx hb dX12_count_9 rfl (lv_at hl 0 rfl) ?_
                                                                                              refine lv_bipush (v := 64) hx hb dX12_count_10 (by decide) ?_
                                                                                              refine lv_icmp_ge (tgt := 33) hx hb dX12_count_12 (by decide) (fun c_47 => ?_) (fun c_47 => ?_)
                                                                                              ·
                                                                                                exact absurd c_47 (by decide)
                                                                                              ·
                                                                                                refine lv_iload_n hx hb dX12_count_15 rfl (lv_at hl 1 rfl) ?_
                                                                                                refine lv_aload_n hx hb dX12_count_16 rfl (lv_at hl 2 rfl) ?_
                                                                                                refine va_get (D := G.1) (ci := 12) (v := .ref a2) (C := RX12) (T := TX12) (N := 52) hx hb hts inG_X12 hown hK hP 0 rfl rfl 3 (by decide) (hts _ fl_X12_13) (fun _ h9 => h9) rfl dX12_count_17 ?_
                                                                                                refine lv_bipush (v := 10) hx hb dX12_count_20 (by decide) ?_
                                                                                                refine lv_iload_n hx hb dX12_count_22 rfl (lv_at hl 0 rfl) ?_
                                                                                                refine lv_iadd hx hb dX12_count_23 ?_
                                                                                                refine g5_ti (v := 56) (by decide) ?_
                                                                                                refine va_iald hx hb hK hP 1 0 rfl rfl (i := 56) (by unfold vp_in; decide) dX12_count_24 ?_
                                                                                                refine g5_ti (v := 0) rfl ?_
                                                                                                refine lv_iadd hx hb dX12_count_25 ?_
                                                                                                refine g5_ti (v := 0) (by decide) ?_
                                                                                                refine lv_istore_n (lv' := [(2, .int 0), (3, .int 46), (0, .ref a0), (1, .int n0)]) hx hb dX12_count_26 rfl hl (by decide) rfl (fun ls hl => ?_)
                                                                                                refine lv_iinc (v := 47) (lv' := [(3, .int 47), (2, .int 0), (0, .ref a0), (1, .int n0)]) hx hb dX12_count_27 hl (k := 1) rfl (by decide) (by decide) rfl (fun ls hl => ?_)
                                                                                                refine lv_goto (tgt := 9) hx hb dX12_count_30 (by decide) ?_
                                                                                                refine lv_iload_n hx hb dX12_count_9 rfl (lv_at hl 0 rfl) ?_
                                                                                                refine lv_bipush (v := 64) hx hb dX12_count_10 (by decide) ?_
                                                                                                refine lv_icmp_ge (tgt := 33) hx hb dX12_count_12 (by decide) (fun c_48 => ?_) (fun c_48 => ?_)
                                                                                                ·
                                                                                                  exact absurd c_48 (by decide)
                                                                                                ·
                                                                                                  refine lv_iload_n hx hb dX12_count_15 rfl (lv_at hl 1 rfl) ?_
                                                                                                  refine lv_aload_n hx hb dX12_count_16 rfl (lv_at hl 2 rfl) ?_
                                                                                                  refine va_get (D := G.1) (ci := 12) (v := .ref a2) (C := RX12) (T := TX12) (N := 52) hx hb hts inG_X12 hown hK hP 0 rfl rfl 3 (by decide) (hts _ fl_X12_13) (fun _ h9 => h9) rfl dX12_count_17 ?_
                                                                                                  refine lv_bipush (v := 10) hx hb dX12_count_20 (by decide) ?_
                                                                                                  refine lv_iload_n hx hb dX12_count_22 rfl (lv_at hl 0 rfl) ?_
                                                                                                  refine lv_iadd hx hb dX12_count_23 ?_
                                                                                                  refine g5_ti (v := 57) (by decide) ?_
                                                                                                  refine va_iald hx hb hK hP 1 0 rfl rfl (i := 57) (by unfold vp_in; decide) dX12_count_24 ?_
                                                                                                  refine g5_ti (v := 0) rfl ?_
                                                                                                  refine lv_iadd hx hb dX12_count_25 ?_
                                                                                                  refine g5_ti (v := 0) (by decide) ?_
                                                                                                  refine lv_istore_n (lv' := [(2, .int 0), (3, .int 47), (0, .ref a0), (1, .int n0)]) hx hb dX12_count_26 rfl hl (by decide) rfl (fun ls hl => ?_)
                                                                                                  refine lv_iinc (v := 48) (lv' := [(3, .int 48), (2, .int 0), (0, .ref a0), (1, .int n0)]) hx hb dX12_count_27 hl (k := 1) rfl (by decide) (by decide) rfl (fun ls hl => ?_)
                                                                                                  refine lv_goto (tgt := 9) hx hb dX12_count_30 (by decide) ?_
                                                                                                  refine lv_iload_n hx hb dX12_count_9 rfl (lv_at hl 0 rfl) ?_
                                                                                                  refine lv_bipush (v := 64) hx hb dX12_count_10 (by decide) ?_
                                                                                                  refine lv_icmp_ge (tgt := 33) hx hb dX12_count_12 (by decide) (fun c_49 => ?_) (fun c_49 => ?_)
                                                                                                  ·
                                                                                                    exact absurd c_49 (by decide)
                                                                                                  ·
                                                                                                    refine lv_iload_n hx hb dX12_count_15 rfl (lv_at hl 1 rfl) ?_
                                                                                                    refine lv_aload_n hx hb dX12_count_16 rfl (lv_at hl 2 rfl) ?_
                                                                                                    refine va_get (D := G.1) (ci := 12) (v := .ref a2) (C := RX12) (T := TX12) (N := 52) hx hb hts inG_X12 hown hK hP 0 rfl rfl 3 (by decide) (hts _ fl_X12_13) (fun _ h9 => h9) rfl dX12_count_17 ?_
                                                                                                    refine lv_bipush (v := 10) hx hb dX12_count_20 (by decide) ?_
                                                                                                    refine lv_iload_n hx hb dX12_count_22 rfl (lv_at hl 0 rfl) ?_
                                                                                                    refine lv_iadd hx hb dX12_count_23 ?_
                                                                                                    refine g5_ti (v := 58) (by decide) ?_
                                                                                                    refine va_iald hx hb hK hP 1 0 rfl rfl (i := 58) (by unfold vp_in; decide) dX12_count_24 ?_
                                                                                                    refine g5_ti (v := 0) rfl ?_
                                                                                                    refine lv_iadd hx hb dX12_count_25 ?_
                                                                                                    refine g5_ti (v := 0) (by decide) ?_
                                                                                                    refine lv_istore_n (lv' := [(2, .int 0), (3, .int 48), (0, .ref a0), (1, .int n0)]) hx hb dX12_count_26 rfl hl (by decide) rfl (fun ls hl => ?_)
                                                                                                    refine lv_iinc (v := 49) (lv' := [(3, .int 49), (2, .int 0), (0, .ref a0), (1, .int n0)]) hx hb dX12_count_27 hl (k := 1) rfl (by decide) (by decide) rfl (fun ls hl => ?_)
                                                                                                    refine lv_goto (tgt := 9) hx hb dX12_count_30 (by decide) ?_
                                                                                                    refine lv_iload_n hx hb dX12_count_9 rfl (lv_at hl 0 rfl) ?_
                                                                                                    refine lv_bipush (v := 64) hx hb dX12_count_10 (by decide) ?_
                                                                                                    refine lv_icmp_ge (tgt := 33) hx hb dX12_count_12 (by decide) (fun c_50 => ?_) (fun c_50 => ?_)
                                                                                                    ·
                                                                                                      exact absurd c_50 (by decide)
                                                                                                    ·
                                                                                                      refine lv_iload_n hx hb dX12_count_15 rfl (lv_at hl 1 rfl) ?_
                                                                                                      refine lv_aload_n hx hb dX12_count_16 rfl (lv_at hl 2 rfl) ?_
                                                                                                      refine va_get (D := G.1) (ci := 12) (v := .ref a2) (C := RX12) (T := TX12) (N := 52) hx hb hts inG_X12 hown hK hP 0 rfl rfl 3 (by decide) (hts _ fl_X12_13) (fun _ h9 => h9) rfl dX12_count_17 ?_
                                                                                                      refine lv_bipush (v := 10) hx hb dX12_count_20 (by decide) ?_
                                                                                                      refine lv_iload_n hx hb dX12_count_22 rfl (lv_at hl 0 rfl) ?_
                                                                                                      refine lv_iadd hx hb dX12_count_23 ?_
                                                                                                      refine g5_ti (v := 59) (by decide) ?_
                                                                                                      refine va_iald hx hb hK hP 1 0 rfl rfl (i := 59) (by unfold vp_in; decide) dX12_count_24 ?_
                                                                                                      refine g5_ti (v := 0) rfl ?_
                                                                                                      refine lv_iadd hx hb dX12_count_25 ?_
                                                                                                      refine g5_ti (v := 0) (by decide) ?_
                                                                                                      refine lv_istore_n (lv' := [(2, .int 0), (3, .int 49), (0, .ref a0), (1, .int n0)]) hx hb dX12_count_26 rfl hl (by decide) rfl (fun ls hl => ?_)
                                                                                                      refine lv_iinc (v := 50) (lv' := [(3, .int 50), (2, .int 0), (0, .ref a0), (1, .int n0)]) hx hb dX12_count_27 hl (k := 1) rfl (by decide) (by decide) rfl (fun ls hl => ?_)
                                                                                                      refine lv_goto (tgt := 9) hx hb dX12_count_30 (by decide) ?_
                                                                                                      refine lv_iload_n hx hb dX12_count_9 rfl (lv_at hl 0 rfl) ?_
                                                                                                      refine lv_bipush (v := 64) hx hb dX12_count_10 (by decide) ?_
                                                                                                      refine lv_icmp_ge (tgt := 33) hx hb dX12_count_12 (by decide) (fun c_51 => ?_) (fun c_51 => ?_)
                                                                                                      ·
                                                                                                        exact absurd c_51 (by decide)
                                                                                                      ·
                                                                                                        refine lv_iload_n hx hb dX12_count_15 rfl (lv_at hl 1 rfl) ?_
                                                                                                        refine lv_aload_n hx hb dX12_count_16 rfl (lv_at hl 2 rfl) ?_
                                                                                                        refine va_get (D := G.1) (ci := 12) (v := .ref a2) (C := RX12) (T := TX12) (N := 52) hx hb hts inG_X12 hown hK hP 0 rfl rfl 3 (by decide) (hts _ fl_X12_13) (fun _ h9 => h9) rfl dX12_count_17 ?_
                                                                                                        refine lv_bipush (v := 10) hx hb dX12_count_20 (by decide) ?_
                                                                                                        refine lv_iload_n hx hb dX12_count_22 rfl (lv_at hl 0 rfl) ?_
                                                                                                        refine lv_iadd hx hb dX12_count_23 ?_
                                                                                                        refine g5_ti (v := 60) (by decide) ?_
                                                                                                        refine va_iald hx hb hK hP 1 0 rfl rfl (i := 60) (by unfold vp_in; decide) dX12_count_24 ?_
                                                                                                        refine g5_ti (v := 0) rfl ?_
                                                                                                        refine lv_iadd hx hb dX12_count_25 ?_
                                                                                                        refine g5_ti (v := 0) (by decide) ?_
                                                                                                        refine lv_istore_n (lv' := [(2, .int 0), (3, .int 50), (0, .ref a0), (1, .int n0)]) hx hb dX12_count_26 rfl hl (by decide) rfl (fun ls hl => ?_)
                                                                                                        refine lv_iinc (v := 51) (lv' := [(3, .int 51), (2, .int 0), (0, .ref a0), (1, .int n0)]) hx hb dX12_count_27 hl (k := 1) rfl (by decide) (by decide) rfl (fun ls hl => ?_)
                                                                                                        refine lv_goto (tgt := 9) hx hb dX12_count_30 (by decide) ?_
                                                                                                        refine lv_iload_n hx hb dX12_count_9 rfl (lv_at hl 0 rfl) ?_
                                                                                                        refine lv_bipush (v := 64) hx hb dX12_count_10 (by decide) ?_
                                                                                                        refine lv_icmp_ge (tgt := 33) hx hb dX12_count_12 (by decide) (fun c_52 => ?_) (fun c_52 => ?_)
                                                                                                        ·
                                                                                                          exact absurd c_52 (by decide)
                                                                                                        ·
                                                                                                          refine lv_iload_n hx hb dX12_count_15 rfl (lv_at hl 1 rfl) ?_
                                                                                                          refine lv_aload_n hx hb dX12_count_16 rfl (lv_at hl 2 rfl) ?_
                                                                                                          refine va_get (D := G.1) (ci := 12) (v := .ref a2) (C := RX12) (T := TX12) (N := 52) hx hb hts inG_X12 hown hK hP 0 rfl rfl 3 (by decide) (hts _ fl_X12_13) (fun _ h9 => h9) rfl dX12_count_17 ?_
                                                                                                          refine lv_bipush (v := 10) hx hb dX12_count_20 (by decide) ?_
                                                                                                          refine lv_iload_n hx hb dX12_count_22 rfl (lv_at hl 0 rfl) ?_
                                                                                                          refine lv_iadd hx hb dX12_count_23 ?_
                                                                                                          refine g5_ti (v := 61) (by decide) ?_
                                                                                                          refine va_iald hx hb hK hP 1 0 rfl rfl (i := 61) (by unfold vp_in; decide) dX12_count_24 ?_
                                                                                                          refine g5_ti (v := 0) rfl ?_
                                                                                                          refine lv_iadd hx hb dX12_count_25 ?_
                                                                                                          refine g5_ti (v := 0) (by decide) ?_
                                                                                                          refine lv_istore_n (lv' := [(2, .int 0), (3, .int 51), (0, .ref a0), (1, .int n0)]) hx hb dX12_count_26 rfl hl (by decide) rfl (fun ls hl => ?_)
                                                                                                          refine lv_iinc (v := 52) (lv' := [(3, .int 52), (2, .int 0), (0, .ref a0), (1, .int n0)]) hx hb dX12_count_27 hl (k := 1) rfl (by decide) (by decide) rfl (fun ls hl => ?_)
                                                                                                          refine lv_goto (tgt := 9) hx hb dX12_count_30 (by decide) ?_
                                                                                                          refine lv_iload_n hx hb dX12_count_9 rfl (lv_at hl 0 rfl) ?_
                                                                                                          refine lv_bipush (v := 64) hx hb dX12_count_10 (by decide) ?_
                                                                                                          refine lv_icmp_ge (tgt := 33) hx hb dX12_count_12 (by decide) (fun c_53 => ?_) (fun c_53 => ?_)
                                                                                                          ·
                                                                                                            exact absurd c_53 (by decide)
                                                                                                          ·
                                                                                                            refine lv_iload_n hx hb dX12_count_15 rfl (lv_at hl 1 rfl) ?_
                                                                                                            refine lv_aload_n hx hb dX12_count_16 rfl (lv_at hl 2 rfl) ?_
                                                                                                            refine va_get (D := G.1) (ci := 12) (v := .ref a2) (C := RX12) (T := TX12) (N := 52) hx hb hts inG_X12 hown hK hP 0 rfl rfl 3 (by decide) (hts _ fl_X12_13) (fun _ h9 => h9) rfl dX12_count_17 ?_
                                                                                                            refine lv_bipush (v := 10) hx hb dX12_count_20 (by decide) ?_
                                                                                                            refine lv_iload_n hx hb dX12_count_22 rfl (lv_at hl 0 rfl) ?_
                                                                                                            refine lv_iadd hx hb dX12_count_23 ?_
                                                                                                            refine g5_ti (v := 62) (by decide) ?_
                                                                                                            refine va_iald hx hb hK hP 1 0 rfl rfl (i := 62) (by unfold vp_in; decide) dX12_count_24 ?_
                                                                                                            refine g5_ti (v := 0) rfl ?_
                                                                                                            refine lv_iadd hx hb dX12_count_25 ?_
                                                                                                            refine g5_ti (v := 0) (by decide) ?_
                                                                                                            refine lv_istore_n (lv' := [(2, .int 0), (3, .int 52), (0, .ref a0), (1, .int n0)]) hx hb dX12_count_26 rfl hl (by decide) rfl (fun ls hl => ?_)
                                                                                                            refine lv_iinc (v := 53) (lv' := [(3, .int 53), (2, .int 0), (0, .ref a0), (1, .int n0)]) hx hb dX12_count_27 hl (k := 1) rfl (by decide) (by decide) rfl (fun ls hl => ?_)
                                                                                                            refine lv_goto (tgt := 9) hx hb dX12_count_30 (by decide) ?_
                                                                                                            refine lv_iload_n hx hb dX12_count_9 rfl (lv_at hl 0 rfl) ?_
                                                                                                            refine lv_bipush (v := 64) hx hb dX12_count_10 (by decide) ?_
                                                                                                            refine lv_icmp_ge (tgt := 33) hx hb dX12_count_12 (by decide) (fun c_54 => ?_) (fun c_54 => ?_)
                                                                                                            ·
                                                                                                              exact absurd c_54 (by decide)
                                                                                                            ·
                                                                                                              refine lv_iload_n hx hb dX12_count_15 rfl (lv_at hl 1 rfl) ?_
                                                                                                              refine lv_aload_n hx hb dX12_count_16 rfl (lv_at hl 2 rfl) ?_
                                                                                                              refine va_get (D := G.1) (ci := 12) (v := .ref a2) (C := RX12) (T := TX12) (N := 52) hx hb hts inG_X12 hown hK hP 0 rfl rfl 3 (by decide) (hts _ fl_X12_13) (fun _ h9 => h9) rfl dX12_count_17 ?_
                                                                                                              refine lv_bipush (v := 10) hx hb dX12_count_20 (by decide) ?_
                                                                                                              refine lv_iload_n hx hb dX12_count_22 rfl (lv_at hl 0 rfl) ?_
                                                                                                              refine lv_iadd hx hb dX12_count_23 ?_
                                                                                                              refine g5_ti (v := 63) (by decide) ?_
                                                                                                              refine va_iald hx hb hK hP 1 0 rfl rfl (i := 63) (by unfold vp_in; decide) dX12_count_24 ?_
                                                                                                              refine g5_ti (v := 0) rfl ?_
                                                                                                              refine lv_iadd hx hb dX12_count_25 ?_
                                                                                                              refine g5_ti (v := 0) (by decide) ?_
                                                                                                              refine lv_istore_n (lv' := [(2, .int 0), (3, .int 53), (0, .ref a0), (1, .int n0)]) hx hb dX12_count_26 rfl hl (by decide) rfl (fun ls hl => ?_)
                                                                                                              refine lv_iinc (v := 54) (lv' := [(3, .int 54), (2, .int 0), (0, .ref a0), (1, .int n0)]) hx hb dX12_count_27 hl (k := 1) rfl (by decide) (by decide) rfl (fun ls hl => ?_)
                                                                                                              refine lv_goto (tgt := 9) hx hb dX12_count_30 (by decide) ?_
                                                                                                              refine lv_iload_n hx hb dX12_count_9 rfl (lv_at hl 0 rfl) ?_
                                                                                                              refine lv_bipush (v := 64) hx hb dX12_count_10 (by decide) ?_
                                                                                                              refine lv_icmp_ge (tgt := 33) hx hb dX12_count_12 (by decide) (fun c_55 => ?_) (fun c_55 => ?_)
                                                                                                              ·
                                                                                                                exact absurd c_55 (by decide)
                                                                                                              ·
                                                                                                                refine lv_iload_n hx hb dX12_count_15 rfl (lv_at hl 1 rfl) ?_
                                                                                                                refine lv_aload_n hx hb dX12_count_16 rfl (lv_at hl 2 rfl) ?_
                                                                                                                refine va_get (D := G.1) (ci := 12) (v := .ref a2) (C := RX12) (T := TX12) (N := 52) hx hb hts inG_X12 hown hK hP 0 rfl rfl 3 (by decide) (hts _ fl_X12_13) (fun _ h9 => h9) rfl dX12_count_17 ?_
                                                                                                                refine lv_bipush (v := 10) hx hb dX12_count_20 (by decide) ?_
                                                                                                                refine lv_iload_n hx hb dX12_count_22 rfl (lv_at hl 0 rfl) ?_
                                                                                                                refine lv_iadd hx hb dX12_count_23 ?_
                                                                                                                refine g5_ti (v := 64) (by decide) ?_
                                                                                                                refine va_iald hx hb hK hP 1 0 rfl rfl (i := 64) (by unfold vp_in; decide) dX12_count_24 ?_
                                                                                                                refine g5_ti (v := 0) rfl ?_
                                                                                                                refine lv_iadd hx hb dX12_count_25 ?_
                                                                                                                refine g5_ti (v := 0) (by decide) ?_
                                                                                                                refine lv_istore_n (lv' := [(2, .int 0), (3, .int 54), (0, .ref a0), (1, .int n0)]) hx hb dX12_count_26 rfl hl (by decide) rfl (fun ls hl => ?_)
                                                                                                                refine lv_iinc (v := 55) (lv' := [(3, .int 55), (2, .int 0), (0, .ref a0), (1, .int n0)]) hx hb dX12_count_27 hl (k := 1) rfl (by decide) (by decide) rfl (fun ls hl => ?_)
                                                                                                                refine lv_goto (tgt := 9) hx hb dX12_count_30 (by decide) ?_
                                                                                                                refine lv_iload_n hx hb dX12_count_9 rfl (lv_at hl 0 rfl) ?_
                                                                                                                refine lv_bipush (v := 64) hx hb dX12_count_10 (by decide) ?_
                                                                                                                refine lv_icmp_ge (tgt := 33) hx hb dX12_count_12 (by decide) (fun c_56 => ?_) (fun c_56 => ?_)
                                                                                                                ·
                                                                                                                  exact absurd c_56 (by decide)
                                                                                                                ·
                                                                                                                  refine lv_iload_n hx hb dX12_count_15 rfl (lv_at hl 1 rfl) ?_
                                                                                                                  refine lv_aload_n hx hb dX12_count_16 rfl (lv_at hl 2 rfl) ?_
                                                                                                                  refine va_get (D := G.1) (ci := 12) (v := .ref a2) (C := RX12) (T := TX12) (N := 52) hx hb hts inG_X12 hown hK hP 0 rfl rfl 3 (by decide) (hts _ fl_X12_13) (fun _ h9 => h9) rfl dX12_count_17 ?_
                                                                                                                  refine lv_bipush (v := 10) hx hb dX12_count_20 (by decide) ?_
                                                                                                                  refine lv_iload_n hx hb dX12_count_22 rfl (lv_at hl 0 rfl) ?_
                                                                                                                  refine lv_iadd hx hb dX12_count_23 ?_
                                                                                                                  refine g5_ti (v := 65) (by decide) ?_
                                                                                                                  refine va_iald hx hb hK hP 1 0 rfl rfl (i := 65) (by unfold vp_in; decide) dX12_count_24 ?_
                                                                                                                  refine g5_ti (v := 0) rfl ?_
                                                                                                                  refine lv_iadd hx hb dX12_count_25 ?_
                                                                                                                  refine g5_ti (v := 0) (by decide) ?_
                                                                                                                  refine lv_istore_n (lv' := [(2, .int 0), (3, .int 55), (0, .ref a0), (1, .int n0)]) hx hb dX12_count_26 rfl hl (by decide) rfl (fun ls hl => ?_)
                                                                                                                  refine lv_iinc (v := 56) (lv' := [(3, .int 56), (2, .int 0), (0, .ref a0), (1, .int n0)]) hx hb dX12_count_27 hl (k := 1) rfl (by decide) (by decide) rfl (fun ls hl => ?_)
                                                                                                                  refine lv_goto (tgt := 9) hx hb dX12_count_30 (by decide) ?_
                                                                                                                  refine lv_iload_n hx hb dX12_count_9 rfl (lv_at hl 0 rfl) ?_
                                                                                                                  refine lv_bipush (v := 64) hx hb dX12_count_10 (by decide) ?_
                                                                                                                  refine lv_icmp_ge (tgt := 33) hx hb dX12_count_12 (by decide) (fun c_57 => ?_) (fun c_57 => ?_)
                                                                                                                  ·
                                                                                                                    exact absurd c_57 (by decide)
                                                                                                                  ·
                                                                                                                    refine lv_iload_n hx hb dX12_count_15 rfl (lv_at hl 1 rfl) ?_
                                                                                                                    refine lv_aload_n hx hb dX12_count_16 rfl (lv_at hl 2 rfl) ?_
                                                                                                                    refine va_get (D := G.1) (ci := 12) (v := .ref a2) (C := RX12) (T := TX12) (N := 52) hx hb hts inG_X12 hown hK hP 0 rfl rfl 3 (by decide) (hts _ fl_X12_13) (fun _ h9 => h9) rfl dX12_count_17 ?_
                                                                                                                    refine lv_bipush (v := 10) hx hb dX12_count_20 (by decide) ?_
                                                                                                                    refine lv_iload_n hx hb dX12_count_22 rfl (lv_at hl 0 rfl) ?_
                                                                                                                    refine lv_iadd hx hb dX12_count_23 ?_
                                                                                                                    refine g5_ti (v := 66) (by decide) ?_
                                                                                                                    refine va_iald hx hb hK hP 1 0 rfl rfl (i := 66) (by unfold vp_in; decide) dX12_count_24 ?_
                                                                                                                    refine g5_ti (v := 0) rfl ?_
                                                                                                                    refine lv_iadd hx hb dX12_count_25 ?_
                                                                                                                    refine g5_ti (v := 0) (by decide) ?_
                                                                                                                    refine lv_istore_n (lv' := [(2, .int 0), (3, .int 56), (0, .ref a0), (1, .int n0)]) hx hb dX12_count_26 rfl hl (by decide) rfl (fun ls hl => ?_)
                                                                                                                    refine lv_iinc (v := 57) (lv' := [(3, .int 57), (2, .int 0), (0, .ref a0), (1, .int n0)]) hx hb dX12_count_27 hl (k := 1) rfl (by decide) (by decide) rfl (fun ls hl => ?_)
                                                                                                                    refine lv_goto (tgt := 9) hx hb dX12_count_30 (by decide) ?_
                                                                                                                    refine lv_iload_n hx hb dX12_count_9 rfl (lv_at hl 0 rfl) ?_
                                                                                                                    refine lv_bipush (v := 64) hx hb dX12_count_10 (by decide) ?_
                                                                                                                    refine lv_icmp_ge (tgt := 33) hx hb dX12_count_12 (by decide) (fun c_58 => ?_) (fun c_58 => ?_)
                                                                                                                    ·
                                                                                                                      exact absurd c_58 (by decide)
                                                                                                                    ·
                                                                                                                      refine lv_iload_n hx hb dX12_count_15 rfl (lv_at hl 1 rfl) ?_
                                                                                                                      refine lv_aload_n hx hb dX12_count_16 rfl (lv_at hl 2 rfl) ?_
                                                                                                                      refine va_get (D := G.1) (ci := 12) (v := .ref a2) (C := RX12) (T := TX12) (N := 52) hx hb hts inG_X12 hown hK hP 0 rfl rfl 3 (by decide) (hts _ fl_X12_13) (fun _ h9 => h9) rfl dX12_count_17 ?_
                                                                                                                      refine lv_bipush (v := 10) hx hb dX12_count_20 (by decide) ?_
                                                                                                                      refine lv_iload_n hx hb dX12_count_22 rfl (lv_at hl 0 rfl) ?_
                                                                                                                      refine lv_iadd hx hb dX12_count_23 ?_
                                                                                                                      refine g5_ti (v := 67) (by decide) ?_
                                                                                                                      refine va_iald hx hb hK hP 1 0 rfl rfl (i := 67) (by unfold vp_in; decide) dX12_count_24 ?_
                                                                                                                      refine g5_ti (v := 0) rfl ?_
                                                                                                                      refine lv_iadd hx hb dX12_count_25 ?_
                                                                                                                      refine g5_ti (v := 0) (by decide) ?_
                                                                                                                      refine lv_istore_n (lv' := [(2, .int 0), (3, .int 57), (0, .ref a0), (1, .int n0)]) hx hb dX12_count_26 rfl hl (by decide) rfl (fun ls hl => ?_)
                                                                                                                      refine lv_iinc (v := 58) (lv' := [(3, .int 58), (2, .int 0), (0, .ref a0), (1, .int n0)]) hx hb dX12_count_27 hl (k := 1) rfl (by decide) (by decide) rfl (fun ls hl => ?_)
                                                                                                                      refine lv_goto (tgt := 9) hx hb dX12_count_30 (by decide) ?_
                                                                                                                      refine lv_iload_n hx hb dX12_count_9 rfl (lv_at hl 0 rfl) ?_
                                                                                                                      refine lv_bipush (v := 64) hx hb dX12_count_10 (by decide) ?_
                                                                                                                      refine lv_icmp_ge (tgt := 33) hx hb dX12_count_12 (by decide) (fun c_59 => ?_) (fun c_59 => ?_)
                                                                                                                      ·
                                                                                                                        exact absurd c_59 (by decide)
                                                                                                                      ·
                                                                                                                        refine lv_iload_n hx hb dX12_count_15 rfl (lv_at hl 1 rfl) ?_
                                                                                                                        refine lv_aload_n hx hb dX12_count_16 rfl (lv_at hl 2 rfl) ?_
                                                                                                                        refine va_get (D := G.1) (ci := 12) (v := .ref a2) (C := RX12) (T := TX12) (N := 52) hx hb hts inG_X12 hown hK hP 0 rfl rfl 3 (by decide) (hts _ fl_X12_13) (fun _ h9 => h9) rfl dX12_count_17 ?_
                                                                                                                        refine lv_bipush (v := 10) hx hb dX12_count_20 (by decide) ?_
                                                                                                                        refine lv_iload_n hx hb dX12_count_22 rfl (lv_at hl 0 rfl) ?_
                                                                                                                        refine lv_iadd hx hb dX12_count_23 ?_
                                                                                                                        refine g5_ti (v := 68) (by decide) ?_
                                                                                                                        refine va_iald hx hb hK hP 1 0 rfl rfl (i := 68) (by unfold vp_in; decide) dX12_count_24 ?_
                                                                                                                        refine g5_ti (v := 0) rfl ?_
                                                                                                                        refine lv_iadd hx hb dX12_count_25 ?_
                                                                                                                        refine g5_ti (v := 0) (by decide) ?_
                                                                                                                        refine lv_istore_n (lv' := [(2, .int 0), (3, .int 58), (0, .ref a0), (1, .int n0)]) hx hb dX12_count_26 rfl hl (by decide) rfl (fun ls hl => ?_)
                                                                                                                        refine lv_iinc (v := 59) (lv' := [(3, .int 59), (2, .int 0), (0, .ref a0), (1, .int n0)]) hx hb dX12_count_27 hl (k := 1) rfl (by decide) (by decide) rfl (fun ls hl => ?_)
                                                                                                                        refine lv_goto (tgt := 9) hx hb dX12_count_30 (by decide) ?_
                                                                                                                        refine lv_iload_n hx hb dX12_count_9 rfl (lv_at hl 0 rfl) ?_
                                                                                                                        refine lv_bipush (v := 64) hx hb dX12_count_10 (by decide) ?_
                                                                                                                        refine lv_icmp_ge (tgt := 33) hx hb dX12_count_12 (by decide) (fun c_60 => ?_) (fun c_60 => ?_)
                                                                                                                        ·
                                                                                                                          exact absurd c_60 (by decide)
                                                                                                                        ·
                                                                                                                          refine lv_iload_n hx hb dX12_count_15 rfl (lv_at hl 1 rfl) ?_
                                                                                                                          refine lv_aload_n hx hb dX12_count_16 rfl (lv_at hl 2 rfl) ?_
                                                                                                                          refine va_get (D := G.1) (ci := 12) (v := .ref a2) (C := RX12) (T := TX12) (N := 52) hx hb hts inG_X12 hown hK hP 0 rfl rfl 3 (by decide) (hts _ fl_X12_13) (fun _ h9 => h9) rfl dX12_count_17 ?_
                                                                                                                          refine lv_bipush (v := 10) hx hb dX12_count_20 (by decide) ?_
                                                                                                                          refine lv_iload_n hx hb dX12_count_22 rfl (lv_at hl 0 rfl) ?_
                                                                                                                          refine lv_iadd hx hb dX12_count_23 ?_
                                                                                                                          refine g5_ti (v := 69) (by decide) ?_
                                                                                                                          refine va_iald hx hb hK hP 1 0 rfl rfl (i := 69) (by unfold vp_in; decide) dX12_count_24 ?_
                                                                                                                          refine g5_ti (v := 0) rfl ?_
                                                                                                                          refine lv_iadd hx hb dX12_count_25 ?_
                                                                                                                          refine g5_ti (v := 0) (by decide) ?_
                                                                                                                          refine lv_istore_n (lv' := [(2, .int 0), (3, .int 59), (0, .ref a0), (1, .int n0)]) hx hb dX12_count_26 rfl hl (by decide) rfl (fun ls hl => ?_)
                                                                                                                          refine lv_iinc (v := 60) (lv' := [(3, .int 60), (2, .int 0), (0, .ref a0), (1, .int n0)]) hx hb dX12_count_27 hl (k := 1) rfl (by decide) (by decide) rfl (fun ls hl => ?_)
                                                                                                                          refine lv_goto (tgt := 9) hx hb dX12_count_30 (by decide) ?_
                                                                                                                          refine lv_iload_n hx hb dX12_count_9 rfl (lv_at hl 0 rfl) ?_
                                                                                                                          refine lv_bipush (v := 64) hx hb dX12_count_10 (by decide) ?_
                                                                                                                          refine lv_icmp_ge (tgt := 33) hx hb dX12_count_12 (by decide) (fun c_61 => ?_) (fun c_61 => ?_)
                                                                                                                          ·
                                                                                                                            exact absurd c_61 (by decide)
                                                                                                                          ·
                                                                                                                            refine lv_iload_n hx hb dX12_count_15 rfl (lv_at hl 1 rfl) ?_
                                                                                                                            refine lv_aload_n hx hb dX12_count_16 rfl (lv_at hl 2 rfl) ?_
                                                                                                                            refine va_get (D := G.1) (ci := 12) (v := .ref a2) (C := RX12) (T := TX12) (N := 52) hx hb hts inG_X12 hown hK hP 0 rfl rfl 3 (by decide) (hts _ fl_X12_13) (fun _ h9 => h9) rfl dX12_count_17 ?_
                                                                                                                            refine lv_bipush (v := 10) hx hb dX12_count_20 (by decide) ?_
                                                                                                                            refine lv_iload_n hx hb dX12_count_22 rfl (lv_at hl 0 rfl) ?_
                                                                                                                            refine lv_iadd hx hb dX12_count_23 ?_
                                                                                                                            refine g5_ti (v := 70) (by decide) ?_
                                                                                                                            refine va_iald hx hb hK hP 1 0 rfl rfl (i := 70) (by unfold vp_in; decide) dX12_count_24 ?_
                                                                                                                            refine g5_ti (v := 0) rfl ?_
                                                                                                                            refine lv_iadd hx hb dX12_count_25 ?_
                                                                                                                            refine g5_ti (v := 0) (by decide) ?_
                                                                                                                            refine lv_istore_n (lv' := [(2, .int 0), (3, .int 60), (0, .ref a0), (1, .int n0)]) hx hb dX12_count_26 rfl hl (by decide) rfl (fun ls hl => ?_)
                                                                                                                            refine lv_iinc (v := 61) (lv' := [(3, .int 61), (2, .int 0), (0, .ref a0), (1, .int n0)]) hx hb dX12_count_27 hl (k := 1) rfl (by decide) (by decide) rfl (fun ls hl => ?_)
                                                                                                                            refine lv_goto (tgt := 9) hx hb dX12_count_30 (by decide) ?_
                                                                                                                            refine lv_iload_n hx hb dX12_count_9 rfl (lv_at hl 0 rfl) ?_
                                                                                                                            refine lv_bipush (v := 64) hx hb dX12_count_10 (by decide) ?_
                                                                                                                            refine lv_icmp_ge (tgt := 33) hx hb dX12_count_12 (by decide) (fun c_62 => ?_) (fun c_62 => ?_)
                                                                                                                            ·
                                                                                                                              exact absurd c_62 (by decide)
                                                                                                                            ·
                                                                                                                              refine lv_iload_n hx hb dX12_count_15 rfl (lv_at hl 1 rfl) ?_
                                                                                                                              refine lv_aload_n hx hb dX12_count_16 rfl (lv_at hl 2 rfl) ?_
                                                                                                                              refine va_get (D := G.1) (ci := 12) (v := .ref a2) (C := RX12) (T := TX12) (N := 52) hx hb hts inG_X12 hown hK hP 0 rfl rfl 3 (by decide) (hts _ fl_X12_13) (fun _ h9 => h9) rfl dX12_count_17 ?_
                                                                                                                              refine lv_bipush (v := 10) hx hb dX12_count_20 (by decide) ?_
                                                                                                                              refine lv_iload_n hx hb dX12_count_22 rfl (lv_at hl 0 rfl) ?_
                                                                                                                              refine lv_iadd hx hb dX12_count_23 ?_
                                                                                                                              refine g5_ti (v := 71) (by decide) ?_
                                                                                                                              refine va_iald hx hb hK hP 1 0 rfl rfl (i := 71) (by unfold vp_in; decide) dX12_count_24 ?_
                                                                                                                              refine g5_ti (v := 0) rfl ?_
                                                                                                                              refine lv_iadd hx hb dX12_count_25 ?_
                                                                                                                              refine g5_ti (v := 0) (by decide) ?_
                                                                                                                              refine lv_istore_n (lv' := [(2, .int 0), (3, .int 61), (0, .ref a0), (1, .int n0)]) hx hb dX12_count_26 rfl hl (by decide) rfl (fun ls hl => ?_)
                                                                                                                              refine lv_iinc (v := 62) (lv' := [(3, .int 62), (2, .int 0), (0, .ref a0), (1, .int n0)]) hx hb dX12_count_27 hl (k := 1) rfl (by decide) (by decide) rfl (fun ls hl => ?_)
                                                                                                                              refine lv_goto (tgt := 9) hx hb dX12_count_30 (by decide) ?_
                                                                                                                              refine lv_iload_n hx hb dX12_count_9 rfl (lv_at hl 0 rfl) ?_
                                                                                                                              refine lv_bipush (v := 64) hx hb dX12_count_10 (by decide) ?_
                                                                                                                              refine lv_icmp_ge (tgt := 33) hx hb dX12_count_12 (by decide) (fun c_63 => ?_) (fun c_63 => ?_)
                                                                                                                              ·
                                                                                                                                exact absurd c_63 (by decide)
                                                                                                                              ·
                                                                                                                                refine lv_iload_n hx hb dX12_count_15 rfl (lv_at hl 1 rfl) ?_
                                                                                                                                refine lv_aload_n hx hb dX12_count_16 rfl (lv_at hl 2 rfl) ?_
                                                                                                                                refine va_get (D := G.1) (ci := 12) (v := .ref a2) (C := RX12) (T := TX12) (N := 52) hx hb hts inG_X12 hown hK hP 0 rfl rfl 3 (by decide) (hts _ fl_X12_13) (fun _ h9 => h9) rfl dX12_count_17 ?_
                                                                                                                                refine lv_bipush (v := 10) hx hb dX12_count_20 (by decide) ?_
                                                                                                                                refine lv_iload_n hx hb dX12_count_22 rfl (lv_at hl 0 rfl) ?_
                                                                                                                                refine lv_iadd hx hb dX12_count_23 ?_
                                                                                                                                refine g5_ti (v := 72) (by decide) ?_
                                                                                                                                refine va_iald hx hb hK hP 1 0 rfl rfl (i := 72) (by unfold vp_in; decide) dX12_count_24 ?_
                                                                                                                                refine g5_ti (v := 0) rfl ?_
                                                                                                                                refine lv_iadd hx hb dX12_count_25 ?_
                                                                                                                                refine g5_ti (v := 0) (by decide) ?_
                                                                                                                                refine lv_istore_n (lv' := [(2, .int 0), (3, .int 62), (0, .ref a0), (1, .int n0)]) hx hb dX12_count_26 rfl hl (by decide) rfl (fun ls hl => ?_)
                                                                                                                                refine lv_iinc (v := 63) (lv' := [(3, .int 63), (2, .int 0), (0, .ref a0), (1, .int n0)]) hx hb dX12_count_27 hl (k := 1) rfl (by decide) (by decide) rfl (fun ls hl => ?_)
                                                                                                                                refine lv_goto (tgt := 9) hx hb dX12_count_30 (by decide) ?_
                                                                                                                                refine lv_iload_n hx hb dX12_count_9 rfl (lv_at hl 0 rfl) ?_
                                                                                                                                refine lv_bipush (v := 64) hx hb dX12_count_10 (by decide) ?_
                                                                                                                                refine lv_icmp_ge (tgt := 33) hx hb dX12_count_12 (by decide) (fun c_64 => ?_) (fun c_64 => ?_)
                                                                                                                                ·
                                                                                                                                  exact absurd c_64 (by decide)
                                                                                                                                ·
                                                                                                                                  refine lv_iload_n hx hb dX12_count_15 rfl (lv_at hl 1 rfl) ?_
                                                                                                                                  refine lv_aload_n hx hb dX12_count_16 rfl (lv_at hl 2 rfl) ?_
                                                                                                                                  refine va_get (D := G.1) (ci := 12) (v := .ref a2) (C := RX12) (T := TX12) (N := 52) hx hb hts inG_X12 hown hK hP 0 rfl rfl 3 (by decide) (hts _ fl_X12_13) (fun _ h9 => h9) rfl dX12_count_17 ?_
                                                                                                                                  refine lv_bipush (v := 10) hx hb dX12_count_20 (by decide) ?_
                                                                                                                                  refine lv_iload_n hx hb dX12_count_22 rfl (lv_at hl 0 rfl) ?_
                                                                                                                                  refine lv_iadd hx hb dX12_count_23 ?_
                                                                                                                                  refine g5_ti (v := 73) (by decide) ?_
                                                                                                                                  refine va_iald hx hb hK hP 1 0 rfl rfl (i := 73) (by unfold vp_in; decide) dX12_count_24 ?_
                                                                                                                                  refine g5_ti (v := 0) rfl ?_
                                                                                                                                  refine lv_iadd hx hb dX12_count_25 ?_
                                                                                                                                  refine g5_ti (v := 0) (by decide) ?_
                                                                                                                                  refine lv_istore_n (lv' := [(2, .int 0), (3, .int 63), (0, .ref a0), (1, .int n0)]) hx hb dX12_count_26 rfl hl (by decide) rfl (fun ls hl => ?_)
                                                                                                                                  refine lv_iinc (v := 64) (lv' := [(3, .int 64), (2, .int 0), (0, .ref a0), (1, .int n0)]) hx hb dX12_count_27 hl (k := 1) rfl (by decide) (by decide) rfl (fun ls hl => ?_)
                                                                                                                                  refine lv_goto (tgt := 9) hx hb dX12_count_30 (by decide) ?_
                                                                                                                                  refine lv_iload_n hx hb dX12_count_9 rfl (lv_at hl 0 rfl) ?_
                                                                                                                                  refine lv_bipush (v := 64) hx hb dX12_count_10 (by decide) ?_
                                                                                                                                  refine lv_icmp_ge (tgt := 33) hx hb dX12_count_12 (by decide) (fun c_65 => ?_) (fun c_65 => ?_)
                                                                                                                                  ·
                                                                                                                                    refine lv_iload_n hx hb dX12_count_33 rfl (lv_at hl 3 rfl) ?_
                                                                                                                                    rcases (show n0.toInt = 0 ∨ n0.toInt = 1 ∨ n0.toInt = 2 ∨ n0.toInt = 3 ∨ n0.toInt = 4 ∨ n0.toInt = 5 ∨ n0.toInt = 6 ∨ n0.toInt = 7 ∨ n0.toInt = 8 ∨ n0.toInt = 9 ∨ n0.toInt = 10 ∨ n0.toInt = 11 ∨ n0.toInt = 12 ∨ n0.toInt = 13 ∨ n0.toInt < 0 ∨ n0.toInt > 13 by omega) with s_66 | s_66 | s_66 | s_66 | s_66 | s_66 | s_66 | s_66 | s_66 | s_66 | s_66 | s_66 | s_66 | s_66 | s_66 | s_66
                                                                                                                                    ·
                                                                                                                                      have i_66 : n0.toInt = 0 := by omega
                                                                                                                                      refine lv_tableIn (tgt := 104) hx hb dX12_count_34 (by omega) (by omega) (by rw [s_66]; rfl) (by decide) ?_
                                                                                                                                      refine lv_aload_n hx hb dX12_count_104 rfl (lv_at hl 2 rfl) ?_
                                                                                                                                      refine va_get (D := G.1) (ci := 12) (v := .ref a2) (C := RX12) (T := TX12) (N := 52) hx hb hts inG_X12 hown hK hP 0 rfl rfl 3 (by decide) (hts _ fl_X12_13) (fun _ h9 => h9) rfl dX12_count_105 ?_
                                                                                                                                      refine lv_iconst (v := 0) hx hb dX12_count_108 (by decide) ?_
                                                                                                                                      refine va_iald hx hb hK hP 1 0 rfl rfl (i := 0) (by unfold vp_in; decide) dX12_count_109 ?_
                                                                                                                                      refine g5_ti (v := 0) rfl ?_
                                                                                                                                      have hP := hP.sub (ws' := []) [] rfl
                                                                                                                                      have hD := hD.sub (ws' := []) [] (by decide) rfl
                                                                                                                                      exact W.iret (v := 0) hx hb hr (fun t ht hW => ⟨⟨0, [], rfl, Or.inl (⟨i_66, rfl, rfl⟩), by rw [ht]; exact hP, hD⟩, hS.F ht⟩) hS.2.2 dX12_count_110
                                                                                                                                    ·
                                                                                                                                      have i_66 : n0.toInt = 1 := by omega
                                                                                                                                      refine lv_tableIn (tgt := 111) hx hb dX12_count_34 (by omega) (by omega) (by rw [s_66]; rfl) (by decide) ?_
                                                                                                                                      refine lv_aload_n hx hb dX12_count_111 rfl (lv_at hl 2 rfl) ?_
                                                                                                                                      refine va_get (D := G.1) (ci := 12) (v := .ref a2) (C := RX12) (T := TX12) (N := 52) hx hb hts inG_X12 hown hK hP 0 rfl rfl 3 (by decide) (hts _ fl_X12_13) (fun _ h9 => h9) rfl dX12_count_112 ?_
                                                                                                                                      refine lv_iconst (v := 1) hx hb dX12_count_115 (by decide) ?_
                                                                                                                                      refine va_iald hx hb hK hP 1 0 rfl rfl (i := 1) (by unfold vp_in; decide) dX12_count_116 ?_
                                                                                                                                      refine g5_ti (v := 0) rfl ?_
                                                                                                                                      have hP := hP.sub (ws' := []) [] rfl
                                                                                                                                      have hD := hD.sub (ws' := []) [] (by decide) rfl
                                                                                                                                      exact W.iret (v := 0) hx hb hr (fun t ht hW => ⟨⟨0, [], rfl, Or.inr (Or.inl (⟨i_66, rfl, rfl⟩)), by rw [ht]; exact hP, hD⟩, hS.F ht⟩) hS.2.2 dX12_count_117
                                                                                                                                    ·
                                                                                                                                      have i_66 : n0.toInt = 2 := by omega
                                                                                                                                      refine lv_tableIn (tgt := 118) hx hb dX12_count_34 (by omega) (by omega) (by rw [s_66]; rfl) (by decide) ?_
                                                                                                                                      refine lv_aload_n hx hb dX12_count_118 rfl (lv_at hl 2 rfl) ?_
                                                                                                                                      refine va_get (D := G.1) (ci := 12) (v := .ref a2) (C := RX12) (T := TX12) (N := 52) hx hb hts inG_X12 hown hK hP 0 rfl rfl 3 (by decide) (hts _ fl_X12_13) (fun _ h9 => h9) rfl dX12_count_119 ?_
                                                                                                                                      refine lv_iconst (v := 2) hx hb dX12_count_122 (by decide) ?_
                                                                                                                                      refine va_iald hx hb hK hP 1 0 rfl rfl (i := 2) (by unfold vp_in; decide) dX12_count_123 ?_
                                                                                                                                      refine g5_ti (v := 0) rfl ?_
                                                                                                                                      have hP := hP.sub (ws' := []) [] rfl
                                                                                                                                      have hD := hD.sub (ws' := []) [] (by decide) rfl
                                                                                                                                      exact W.iret (v := 0) hx hb hr (fun t ht hW => ⟨⟨0, [], rfl, Or.inr (Or.inr (Or.inl (⟨i_66, rfl, rfl⟩))), by rw [ht]; exact hP, hD⟩, hS.F ht⟩) hS.2.2 dX12_count_124
                                                                                                                                    ·
                                                                                                                                      have i_66 : n0.toInt = 3 := by omega
                                                                                                                                      refine lv_tableIn (tgt := 125) hx hb dX12_count_34 (by omega) (by omega) (by rw [s_66]; rfl) (by decide) ?_
                                                                                                                                      refine lv_aload_n hx hb dX12_count_125 rfl (lv_at hl 2 rfl) ?_
                                                                                                                                      refine va_get (D := G.1) (ci := 12) (v := .ref a2) (C := RX12) (T := TX12) (N := 52) hx hb hts inG_X12 hown hK hP 0 rfl rfl 3 (by decide) (hts _ fl_X12_13) (fun _ h9 => h9) rfl dX12_count_126 ?_
                                                                                                                                      refine lv_iconst (v := 5) hx hb dX12_count_129 (by decide) ?_
                                                                                                                                      refine va_iald hx hb hK hP 1 0 rfl rfl (i := 5) (by unfold vp_in; decide) dX12_count_130 ?_
                                                                                                                                      refine g5_ti (v := 0) rfl ?_
                                                                                                                                      have hP := hP.sub (ws' := []) [] rfl
                                                                                                                                      have hD := hD.sub (ws' := []) [] (by decide) rfl
                                                                                                                                      exact W.iret (v := 0) hx hb hr (fun t ht hW => ⟨⟨0, [], rfl, Or.inr (Or.inr (Or.inr (Or.inl (⟨i_66, rfl, rfl⟩)))), by rw [ht]; exact hP, hD⟩, hS.F ht⟩) hS.2.2 dX12_count_131
                                                                                                                                    ·
                                                                                                                                      have i_66 : n0.toInt = 4 := by omega
                                                                                                                                      refine lv_tableIn (tgt := 132) hx hb dX12_count_34 (by omega) (by omega) (by rw [s_66]; rfl) (by decide) ?_
                                                                                                                                      refine lv_aload_n hx hb dX12_count_132 rfl (lv_at hl 2 rfl) ?_
                                                                                                                                      refine va_get (D := G.1) (ci := 12) (v := .ref a2) (C := RX12) (T := TX12) (N := 52) hx hb hts inG_X12 hown hK hP 0 rfl rfl 3 (by decide) (hts _ fl_X12_13) (fun _ h9 => h9) rfl dX12_count_133 ?_
                                                                                                                                      refine lv_bipush (v := 7) hx hb dX12_count_136 (by decide) ?_
                                                                                                                                      refine va_iald hx hb hK hP 1 0 rfl rfl (i := 7) (by unfold vp_in; decide) dX12_count_138 ?_
                                                                                                                                      refine g5_ti (v := 0) rfl ?_
                                                                                                                                      have hP := hP.sub (ws' := []) [] rfl
                                                                                                                                      have hD := hD.sub (ws' := []) [] (by decide) rfl
                                                                                                                                      exact W.iret (v := 0) hx hb hr (fun t ht hW => ⟨⟨0, [], rfl, Or.inr (Or.inr (Or.inr (Or.inr (Or.inl (⟨i_66, rfl, rfl⟩))))), by rw [ht]; exact hP, hD⟩, hS.F ht⟩) hS.2.2 dX12_count_139
                                                                                                                                    ·
                                                                                                                                      have i_66 : n0.toInt = 5 := by omega
                                                                                                                                      refine lv_tableIn (tgt := 140) hx hb dX12_count_34 (by omega) (by omega) (by rw [s_66]; rfl) (by decide) ?_
                                                                                                                                      refine lv_aload_n hx hb dX12_count_140 rfl (lv_at hl 2 rfl) ?_
                                                                                                                                      refine va_get (D := G.1) (ci := 12) (v := .ref a2) (C := RX12) (T := TX12) (N := 52) hx hb hts inG_X12 hown hK hP 0 rfl rfl 3 (by decide) (hts _ fl_X12_13) (fun _ h9 => h9) rfl dX12_count_141 ?_
                                                                                                                                      refine lv_bipush (v := 8) hx hb dX12_count_144 (by decide) ?_
                                                                                                                                      refine va_iald hx hb hK hP 1 0 rfl rfl (i := 8) (by unfold vp_in; decide) dX12_count_146 ?_
                                                                                                                                      refine g5_ti (v := 0) rfl ?_
                                                                                                                                      have hP := hP.sub (ws' := []) [] rfl
                                                                                                                                      have hD := hD.sub (ws' := []) [] (by decide) rfl
                                                                                                                                      exact W.iret (v := 0) hx hb hr (fun t ht hW => ⟨⟨0, [], rfl, Or.inr (Or.inr (Or.inr (Or.inr (Or.inr (Or.inl (⟨i_66, rfl, rfl⟩)))))), by rw [ht]; exact hP, hD⟩, hS.F ht⟩) hS.2.2 dX12_count_147
                                                                                                                                    ·
                                                                                                                                      have i_66 : n0.toInt = 6 := by omega
                                                                                                                                      refine lv_tableIn (tgt := 148) hx hb dX12_count_34 (by omega) (by omega) (by rw [s_66]; rfl) (by decide) ?_
                                                                                                                                      refine lv_iload_n hx hb dX12_count_148 rfl (lv_at hl 1 rfl) ?_
                                                                                                                                      have hP := hP.sub (ws' := []) [] rfl
                                                                                                                                      have hD := hD.sub (ws' := []) [] (by decide) rfl
                                                                                                                                      exact W.iret (v := 0) hx hb hr (fun t ht hW => ⟨⟨0, [], rfl, Or.inr (Or.inr (Or.inr (Or.inr (Or.inr (Or.inr (Or.inl (⟨i_66, rfl, rfl⟩))))))), by rw [ht]; exact hP, hD⟩, hS.F ht⟩) hS.2.2 dX12_count_149
                                                                                                                                    ·
                                                                                                                                      have i_66 : n0.toInt = 7 := by omega
                                                                                                                                      refine lv_tableIn (tgt := 150) hx hb dX12_count_34 (by omega) (by omega) (by rw [s_66]; rfl) (by decide) ?_
                                                                                                                                      refine lv_aload_n hx hb dX12_count_150 rfl (lv_at hl 2 rfl) ?_
                                                                                                                                      refine va_get (D := G.1) (ci := 12) (v := .int 0) (C := RX12) (T := TX12) (N := 52) hx hb hts inG_X12 hown hK hP 0 rfl rfl 8 (by decide) (hts _ fl_X12_192) (fun _ h9 => h9) rfl dX12_count_151 ?_
                                                                                                                                      have hP := hP.sub (ws' := []) [] rfl
                                                                                                                                      have hD := hD.sub (ws' := []) [] (by decide) rfl
                                                                                                                                      exact W.iret (v := 0) hx hb hr (fun t ht hW => ⟨⟨0, [], rfl, Or.inr (Or.inr (Or.inr (Or.inr (Or.inr (Or.inr (Or.inr (Or.inl (⟨i_66, rfl, rfl⟩)))))))), by rw [ht]; exact hP, hD⟩, hS.F ht⟩) hS.2.2 dX12_count_154
                                                                                                                                    ·
                                                                                                                                      have i_66 : n0.toInt = 8 := by omega
                                                                                                                                      refine lv_tableIn (tgt := 155) hx hb dX12_count_34 (by omega) (by omega) (by rw [s_66]; rfl) (by decide) ?_
                                                                                                                                      refine lv_aload_n hx hb dX12_count_155 rfl (lv_at hl 2 rfl) ?_
                                                                                                                                      refine va_get (D := G.1) (ci := 12) (v := .ref a1) (C := RX12) (T := TX12) (N := 52) hx hb hts inG_X12 hown hK hP 0 rfl rfl 2 (by decide) (hts _ fl_X12_7) (fun _ h9 => h9) rfl dX12_count_156 ?_
                                                                                                                                      refine lv_iconst (v := 1) hx hb dX12_count_159 (by decide) ?_
                                                                                                                                      refine va_iald hx hb hK hP 2 0 rfl rfl (i := 1) (by unfold vp_in; decide) dX12_count_160 ?_
                                                                                                                                      refine g5_ti (v := 0) rfl ?_
                                                                                                                                      have hP := hP.sub (ws' := []) [] rfl
                                                                                                                                      have hD := hD.sub (ws' := []) [] (by decide) rfl
                                                                                                                                      exact W.iret (v := 0) hx hb hr (fun t ht hW => ⟨⟨0, [], rfl, Or.inr (Or.inr (Or.inr (Or.inr (Or.inr (Or.inr (Or.inr (Or.inr (Or.inl (⟨i_66, rfl, rfl⟩))))))))), by rw [ht]; exact hP, hD⟩, hS.F ht⟩) hS.2.2 dX12_count_161
                                                                                                                                    ·
                                                                                                                                      have i_66 : n0.toInt = 9 := by omega
                                                                                                                                      refine lv_tableIn (tgt := 162) hx hb dX12_count_34 (by omega) (by omega) (by rw [s_66]; rfl) (by decide) ?_
                                                                                                                                      refine lv_aload_n hx hb dX12_count_162 rfl (lv_at hl 2 rfl) ?_
                                                                                                                                      refine va_get (D := G.1) (ci := 12) (v := .ref a1) (C := RX12) (T := TX12) (N := 52) hx hb hts inG_X12 hown hK hP 0 rfl rfl 2 (by decide) (hts _ fl_X12_7) (fun _ h9 => h9) rfl dX12_count_163 ?_
                                                                                                                                      refine lv_iconst (v := 2) hx hb dX12_count_166 (by decide) ?_
                                                                                                                                      refine va_iald hx hb hK hP 2 0 rfl rfl (i := 2) (by unfold vp_in; decide) dX12_count_167 ?_
                                                                                                                                      refine g5_ti (v := 0) rfl ?_
                                                                                                                                      have hP := hP.sub (ws' := []) [] rfl
                                                                                                                                      have hD := hD.sub (ws' := []) [] (by decide) rfl
                                                                                                                                      exact W.iret (v := 0) hx hb hr (fun t ht hW => ⟨⟨0, [], rfl, Or.inr (Or.inr (Or.inr (Or.inr (Or.inr (Or.inr (Or.inr (Or.inr (Or.inr (Or.inl (⟨i_66, rfl, rfl⟩)))))))))), by rw [ht]; exact hP, hD⟩, hS.F ht⟩) hS.2.2 dX12_count_168
                                                                                                                                    ·
                                                                                                                                      have i_66 : n0.toInt = 10 := by omega
                                                                                                                                      refine lv_tableIn (tgt := 169) hx hb dX12_count_34 (by omega) (by omega) (by rw [s_66]; rfl) (by decide) ?_
                                                                                                                                      refine lv_aload_n hx hb dX12_count_169 rfl (lv_at hl 2 rfl) ?_
                                                                                                                                      refine va_get (D := G.1) (ci := 12) (v := .ref a1) (C := RX12) (T := TX12) (N := 52) hx hb hts inG_X12 hown hK hP 0 rfl rfl 2 (by decide) (hts _ fl_X12_7) (fun _ h9 => h9) rfl dX12_count_170 ?_
                                                                                                                                      refine lv_iconst (v := 3) hx hb dX12_count_173 (by decide) ?_
                                                                                                                                      refine va_iald hx hb hK hP 2 0 rfl rfl (i := 3) (by unfold vp_in; decide) dX12_count_174 ?_
                                                                                                                                      refine g5_ti (v := 0) rfl ?_
                                                                                                                                      have hP := hP.sub (ws' := []) [] rfl
                                                                                                                                      have hD := hD.sub (ws' := []) [] (by decide) rfl
                                                                                                                                      exact W.iret (v := 0) hx hb hr (fun t ht hW => ⟨⟨0, [], rfl, Or.inr (Or.inr (Or.inr (Or.inr (Or.inr (Or.inr (Or.inr (Or.inr (Or.inr (Or.inr (Or.inl (⟨i_66, rfl, rfl⟩))))))))))), by rw [ht]; exact hP, hD⟩, hS.F ht⟩) hS.2.2 dX12_count_175
                                                                                                                                    ·
                                                                                                                                      have i_66 : n0.toInt = 11 := by omega
                                                                                                                                      refine lv_tableIn (tgt := 176) hx hb dX12_count_34 (by omega) (by omega) (by rw [s_66]; rfl) (by decide) ?_
                                                                                                                                      refine lv_aload_n hx hb dX12_count_176 rfl (lv_at hl 2 rfl) ?_
                                                                                                                                      refine va_get (D := G.1) (ci := 12) (v := .ref a1) (C := RX12) (T := TX12) (N := 52) hx hb hts inG_X12 hown hK hP 0 rfl rfl 2 (by decide) (hts _ fl_X12_7) (fun _ h9 => h9) rfl dX12_count_177 ?_
                                                                                                                                      refine lv_iconst (v := 5) hx hb dX12_count_180 (by decide) ?_
                                                                                                                                      refine va_iald hx hb hK hP 2 0 rfl rfl (i := 5) (by unfold vp_in; decide) dX12_count_181 ?_
                                                                                                                                      refine g5_ti (v := 0) rfl ?_
                                                                                                                                      have hP := hP.sub (ws' := []) [] rfl
                                                                                                                                      have hD := hD.sub (ws' := []) [] (by decide) rfl
                                                                                                                                      exact W.iret (v := 0) hx hb hr (fun t ht hW => ⟨⟨0, [], rfl, Or.inr (Or.inr (Or.inr (Or.inr (Or.inr (Or.inr (Or.inr (Or.inr (Or.inr (Or.inr (Or.inr (Or.inl (⟨i_66, rfl, rfl⟩)))))))))))), by rw [ht]; exact hP, hD⟩, hS.F ht⟩) hS.2.2 dX12_count_182
                                                                                                                                    ·
                                                                                                                                      have i_66 : n0.toInt = 12 := by omega
                                                                                                                                      refine lv_tableIn (tgt := 183) hx hb dX12_count_34 (by omega) (by omega) (by rw [s_66]; rfl) (by decide) ?_
                                                                                                                                      refine lv_aload_n hx hb dX12_count_183 rfl (lv_at hl 2 rfl) ?_
                                                                                                                                      refine va_get (D := G.1) (ci := 12) (v := .ref a1) (C := RX12) (T := TX12) (N := 52) hx hb hts inG_X12 hown hK hP 0 rfl rfl 2 (by decide) (hts _ fl_X12_7) (fun _ h9 => h9) rfl dX12_count_184 ?_
                                                                                                                                      refine lv_bipush (v := 6) hx hb dX12_count_187 (by decide) ?_
                                                                                                                                      refine va_iald hx hb hK hP 2 0 rfl rfl (i := 6) (by unfold vp_in; decide) dX12_count_189 ?_
                                                                                                                                      refine g5_ti (v := 0) rfl ?_
                                                                                                                                      have hP := hP.sub (ws' := []) [] rfl
                                                                                                                                      have hD := hD.sub (ws' := []) [] (by decide) rfl
                                                                                                                                      exact W.iret (v := 0) hx hb hr (fun t ht hW => ⟨⟨0, [], rfl, Or.inr (Or.inr (Or.inr (Or.inr (Or.inr (Or.inr (Or.inr (Or.inr (Or.inr (Or.inr (Or.inr (Or.inr (Or.inl (⟨i_66, rfl, rfl⟩))))))))))))), by rw [ht]; exact hP, hD⟩, hS.F ht⟩) hS.2.2 dX12_count_190
                                                                                                                                    ·
                                                                                                                                      have i_66 : n0.toInt = 13 := by omega
                                                                                                                                      refine lv_tableIn (tgt := 191) hx hb dX12_count_34 (by omega) (by omega) (by rw [s_66]; rfl) (by decide) ?_
                                                                                                                                      refine lv_aload_n hx hb dX12_count_191 rfl (lv_at hl 2 rfl) ?_
                                                                                                                                      refine va_get (D := G.1) (ci := 12) (v := .ref a2) (C := RX12) (T := TX12) (N := 52) hx hb hts inG_X12 hown hK hP 0 rfl rfl 3 (by decide) (hts _ fl_X12_13) (fun _ h9 => h9) rfl dX12_count_192 ?_
                                                                                                                                      refine lv_iconst (v := 3) hx hb dX12_count_195 (by decide) ?_
                                                                                                                                      refine va_iald hx hb hK hP 1 0 rfl rfl (i := 3) (by unfold vp_in; decide) dX12_count_196 ?_
                                                                                                                                      refine g5_ti (v := (-1)) rfl ?_
                                                                                                                                      have hP := hP.sub (ws' := []) [] rfl
                                                                                                                                      have hD := hD.sub (ws' := []) [] (by decide) rfl
                                                                                                                                      exact W.iret (v := (-1)) hx hb hr (fun t ht hW => ⟨⟨(-1), [], rfl, Or.inr (Or.inr (Or.inr (Or.inr (Or.inr (Or.inr (Or.inr (Or.inr (Or.inr (Or.inr (Or.inr (Or.inr (Or.inr (Or.inl (⟨i_66, rfl, rfl⟩)))))))))))))), by rw [ht]; exact hP, hD⟩, hS.F ht⟩) hS.2.2 dX12_count_197
                                                                                                                                    ·
                                                                                                                                      have i_66 : n0.toInt < 0 := by omega
                                                                                                                                      refine lv_tableOut (tgt := 198) hx hb dX12_count_34 (by omega) (by decide) ?_
                                                                                                                                      refine lv_iconst (v := (-1)) hx hb dX12_count_198 (by decide) ?_
                                                                                                                                      have hP := hP.sub (ws' := []) [] rfl
                                                                                                                                      have hD := hD.sub (ws' := []) [] (by decide) rfl
                                                                                                                                      exact W.iret (v := (-1)) hx hb hr (fun t ht hW => ⟨⟨(-1), [], rfl, Or.inr (Or.inr (Or.inr (Or.inr (Or.inr (Or.inr (Or.inr (Or.inr (Or.inr (Or.inr (Or.inr (Or.inr (Or.inr (Or.inr (Or.inl (⟨i_66, rfl, rfl⟩))))))))))))))), by rw [ht]; exact hP, hD⟩, hS.F ht⟩) hS.2.2 dX12_count_199
                                                                                                                                    ·
                                                                                                                                      have i_66 : n0.toInt > 13 := by omega
                                                                                                                                      refine lv_tableOut (tgt := 198) hx hb dX12_count_34 (by omega) (by decide) ?_
                                                                                                                                      refine lv_iconst (v := (-1)) hx hb dX12_count_198 (by decide) ?_
                                                                                                                                      have hP := hP.sub (ws' := []) [] rfl
                                                                                                                                      have hD := hD.sub (ws' := []) [] (by decide) rfl
                                                                                                                                      exact W.iret (v := (-1)) hx hb hr (fun t ht hW => ⟨⟨(-1), [], rfl, Or.inr (Or.inr (Or.inr (Or.inr (Or.inr (Or.inr (Or.inr (Or.inr (Or.inr (Or.inr (Or.inr (Or.inr (Or.inr (Or.inr (Or.inr (⟨i_66, rfl, rfl⟩))))))))))))))), by rw [ht]; exact hP, hD⟩, hS.F ht⟩) hS.2.2 dX12_count_199
                                                                                                                                  ·
                                                                                                                                    exact absurd c_65 (by decide)
theorem dX12_status_0 : decode cX12_status 0 = .ok (.aload_n 0, 1) := by decide +kernel
theorem dX12_status_1 : decode cX12_status 1 = .ok (.iconst 0, 1) := by decide +kernel
theorem dX12_status_2 : decode cX12_status 2 = .ok (.putfield 107, 3) := by decide +kernel
theorem dX12_status_5 : decode cX12_status 5 = .ok (.aload_n 0, 1) := by decide +kernel
theorem dX12_status_6 : decode cX12_status 6 = .ok (.getfield 110, 3) := by decide +kernel
theorem dX12_status_9 : decode cX12_status 9 = .ok (.ireturn, 1) := by decide +kernel
set_option maxHeartbeats 4000000 in
set_option maxRecDepth 100000 in
theorem kX12_status (l : Launch) (G : g5_G) (a0 a1 a2 a3 a4 a5 a6 a7 a8 a9 a10 a11 a12 a13 a14 a15 a16 a17 a18 a19 a20 a21 a22 : Nat) (sz : Nat) : Met l yX12_status (wsG yX12_status cX12_status 1 (some .int)) ({ frames := 0, cells := 0, slots := 0, locals := 0 }) (va_Pc [.ref a0] (g5_P G [(a0, .inr (12, [.int 0, .int 0, .ref a1, .ref a2, .ref a3, .ref a4, .int 0, .ref a5, .int 0, .int 0, .int 0, .int 0, .long 0, .int (-1), .int 0, .int 0, .ref a6, .int 0, .ref a7, .ref a8, .int 0, .ref a9, .ref a10, .int 0, .int 0, .ref a11, .ref a12, .int 0, .ref a13, .ref a14, .int 0, .long 0, .long 0, .int 0, .int 0, .int 0, .int 0, .int 0, .ref a15, .int 0, .int 0, .ref a16, .int 0, .ref a17, .ref a18, .ref a19, .int 0, .ref a20, .ref a21, .long 0, .ref a22, .int 0]))] sz)) (va_Qi (fun (r : Int32) (u : va_W) => ((r = 0) ∧ (u = []))) (g5_B G (va_A [(a0, .inr (12, [.int 0, .int 0, .ref a1, .ref a2, .ref a3, .ref a4, .int 0, .ref a5, .int 0, .int 0, .int 0, .int 0, .long 0, .int (-1), .int 0, .int 0, .ref a6, .int 0, .ref a7, .ref a8, .int 0, .ref a9, .ref a10, .int 0, .int 0, .ref a11, .ref a12, .int 0, .ref a13, .ref a14, .int 0, .long 0, .long 0, .int 0, .int 0, .int 0, .int 0, .int 0, .ref a15, .int 0, .int 0, .ref a16, .int 0, .ref a17, .ref a18, .ref a19, .int 0, .ref a20, .ref a21, .long 0, .ref a22, .int 0]))] sz)) (va_A [(a0, .inr (12, [.int 0, .int 0, .ref a1, .ref a2, .ref a3, .ref a4, .int 0, .ref a5, .int 0, .int 0, .int 0, .int 0, .long 0, .int (-1), .int 0, .int 0, .ref a6, .int 0, .ref a7, .ref a8, .int 0, .ref a9, .ref a10, .int 0, .int 0, .ref a11, .ref a12, .int 0, .ref a13, .ref a14, .int 0, .long 0, .long 0, .int 0, .int 0, .int 0, .int 0, .int 0, .ref a15, .int 0, .int 0, .ref a16, .int 0, .ref a17, .ref a18, .ref a19, .int 0, .ref a20, .ref a21, .long 0, .ref a22, .int 0]))] sz)) 0 0 (va_A [(a0, .inr (12, [.int 0, .int 0, .ref a1, .ref a2, .ref a3, .ref a4, .int 0, .ref a5, .int 0, .int 0, .int 0, .int 0, .long 0, .int (-1), .int 0, .int 0, .ref a6, .int 0, .ref a7, .ref a8, .int 0, .ref a9, .ref a10, .int 0, .int 0, .ref a11, .ref a12, .int 0, .ref a13, .ref a14, .int 0, .long 0, .long 0, .int 0, .int 0, .int 0, .int 0, .int 0, .ref a15, .int 0, .int 0, .ref a16, .int 0, .ref a17, .ref a18, .ref a19, .int 0, .ref a20, .ref a21, .long 0, .ref a22, .int 0]))] sz) := by
  refine Met.ofW (cc := cX12_status) (maxL := 1) (ret := (some .int)) (by decide) rfl ?_
  intro p e s m args below meth c s₁ B hml hv
  obtain ⟨rfl, hsz, hP, hK, hD0, hN, hT⟩ := hv
  have hx := B.exec
  have hb := B.bytes
  have hr := B.returns
  have hts : ∀ w ∈ tblG, w.before _ s = true := fun w h => atoms_spec (ws := (wsG yX12_status cX12_status 1 (some .int))) B.pre w (List.mem_cons_of_mem _ h)
  have hown : s.vm.findClass RX12 = some m.cls := findClass_of_methodNamed B.named
  have hlocks := B.notSynchronized
  subst hsz
  have hD := hD0.self (sz := s.heap.size)
  generalize hAe : va_A [(a0, .inr (12, [.int 0, .int 0, .ref a1, .ref a2, .ref a3, .ref a4, .int 0, .ref a5, .int 0, .int 0, .int 0, .int 0, .long 0, .int (-1), .int 0, .int 0, .ref a6, .int 0, .ref a7, .ref a8, .int 0, .ref a9, .ref a10, .int 0, .int 0, .ref a11, .ref a12, .int 0, .ref a13, .ref a14, .int 0, .long 0, .long 0, .int 0, .int 0, .int 0, .int 0, .int 0, .ref a15, .int 0, .int 0, .ref a16, .int 0, .ref a17, .ref a18, .ref a19, .int 0, .ref a20, .ref a21, .long 0, .ref a22, .int 0]))] s.heap.size = A at hD hT ⊢
  have hA : ∀ q : Nat, s.heap.size ≤ q → A q := fun q h => by rw [← hAe]; exact Or.inr h
  have hS : va_S A s.heap s.heap [] := va_S.rf
  have hP : va_P G.1 vwCl [(a0, .inr (12, [.int 0, .int 0, .ref a1, .ref a2, .ref a3, .ref a4, .int 0, .ref a5, .int 0, .int 0, .int 0, .int 0, .long 0, .int (-1), .int 0, .int 0, .ref a6, .int 0, .ref a7, .ref a8, .int 0, .ref a9, .ref a10, .int 0, .int 0, .ref a11, .ref a12, .int 0, .ref a13, .ref a14, .int 0, .long 0, .long 0, .int 0, .int 0, .int 0, .int 0, .int 0, .ref a15, .int 0, .int 0, .ref a16, .int 0, .ref a17, .ref a18, .ref a19, .int 0, .ref a20, .ref a21, .long 0, .ref a22, .int 0]))] s.heap := hP
  have hl := lv_entry ([.ref a0]) (n := 1) (Nat.le_of_ble_eq_true rfl)
  rw [lg_entry_eq]
  generalize (lg_sl ([.ref a0]) ++ List.replicate (1 - (lg_sl ([.ref a0])).length) Slot.unset).toArray = ls at hl ⊢
  have hl : lv_has ls 1 [(0, .ref a0)] := hl
  refine lv_aload_n hx hb dX12_status_0 rfl (lv_at hl 0 rfl) ?_
  refine lv_iconst (v := 0) hx hb dX12_status_1 (by decide) ?_
  refine va_put (D := G.1) (ci := 12) (v := .int 0) (ty := .int) (C := RX12) (T := TX12) (N := 52) hx hb hts inG_X12 tyX12 tyX12_ok nmX12 hown hK hP hD hS 0 rfl rfl 0 (by decide) (hts _ fl_X12_107) (fun _ h9 => h9) rfl (by decide +kernel) rfl rfl (Nat.le_of_ble_eq_true rfl) dX12_status_2 (fun H locs hP hD hS => ?_)
  have hP : va_P G.1 vwCl [(a0, .inr (12, [.int 0, .int 0, .ref a1, .ref a2, .ref a3, .ref a4, .int 0, .ref a5, .int 0, .int 0, .int 0, .int 0, .long 0, .int (-1), .int 0, .int 0, .ref a6, .int 0, .ref a7, .ref a8, .int 0, .ref a9, .ref a10, .int 0, .int 0, .ref a11, .ref a12, .int 0, .ref a13, .ref a14, .int 0, .long 0, .long 0, .int 0, .int 0, .int 0, .int 0, .int 0, .ref a15, .int 0, .int 0, .ref a16, .int 0, .ref a17, .ref a18, .ref a19, .int 0, .ref a20, .ref a21, .long 0, .ref a22, .int 0]))] H := hP
  have hD : va_D A [(a0, .inr (12, [.int 0, .int 0, .ref a1, .ref a2, .ref a3, .ref a4, .int 0, .ref a5, .int 0, .int 0, .int 0, .int 0, .long 0, .int (-1), .int 0, .int 0, .ref a6, .int 0, .ref a7, .ref a8, .int 0, .ref a9, .ref a10, .int 0, .int 0, .ref a11, .ref a12, .int 0, .ref a13, .ref a14, .int 0, .long 0, .long 0, .int 0, .int 0, .int 0, .int 0, .int 0, .ref a15, .int 0, .int 0, .ref a16, .int 0, .ref a17, .ref a18, .ref a19, .int 0, .ref a20, .ref a21, .long 0, .ref a22, .int 0]))] := hD
  refine lv_aload_n hx hb dX12_status_5 rfl (lv_at hl 0 rfl) ?_
  refine va_get (D := G.1) (ci := 12) (v := .int 0) (C := RX12) (T := TX12) (N := 52) hx hb hts inG_X12 hown hK hP 0 rfl rfl 1 (by decide) (hts _ fl_X12_110) (fun _ h9 => h9) rfl dX12_status_6 ?_
  have hP := hP.sub (ws' := []) [] rfl
  have hD := hD.sub (ws' := []) [] (by decide) rfl
  exact W.iret (v := 0) hx hb hr (fun t ht hW => ⟨⟨0, [], rfl, ⟨rfl, rfl⟩, by rw [ht]; exact hP, hD⟩, hS.F ht⟩) hS.2.2 dX12_status_9
