set_option maxHeartbeats 4000000 in
set_option maxRecDepth 100000 in
theorem kX12_four_5 (l : Launch) (G : g5_G) (a0 a1 a2 a3 a4 a5 a6 a7 a8 a9 a10 a11 a12 a13 a14 a15 a16 a17 a18 a19 a20 a21 a22 : Nat) (sz : Nat) (n0 : Int32) (f0 : Nat → Int32) : Met l yX12_four (wsG yX12_four cX12_four 3 none) ({ frames := 0, cells := 0, slots := 0, locals := 0 }) (va_Pc [.ref a0, .int n0] (g5_P G [(a0, .inr (12, [.int 0, .int 0, .ref a1, .ref a2, .ref a3, .ref a4, .int 0, .ref a5, .int 16, .int 0, .int 0, .int 0, .long 0, .int (-1), .int 0, .int 0, .ref a6, .int 0, .ref a7, .ref a8, .int 0, .ref a9, .ref a10, .int 0, .int 0, .ref a11, .ref a12, .int 0, .ref a13, .ref a14, .int 0, .long 0, .long 0, .int 0, .int 0, .int 0, .int 0, .int 0, .ref a15, .int 0, .int 0, .ref a16, .int 0, .ref a17, .ref a18, .ref a19, .int 0, .ref a20, .ref a21, .long 0, .ref a22, .int 0])), (a5, .inl (G.2 0, 400, .inl f0))] sz)) (va_Qv (fun (u : va_W) => ((u = [(a0, .inr (12, [.int 0, .int 0, .ref a1, .ref a2, .ref a3, .ref a4, .int 0, .ref a5, .int 20, .int 0, .int 0, .int 0, .long 0, .int (-1), .int 0, .int 0, .ref a6, .int 0, .ref a7, .ref a8, .int 0, .ref a9, .ref a10, .int 0, .int 0, .ref a11, .ref a12, .int 0, .ref a13, .ref a14, .int 0, .long 0, .long 0, .int 0, .int 0, .int 0, .int 0, .int 0, .ref a15, .int 0, .int 0, .ref a16, .int 0, .ref a17, .ref a18, .ref a19, .int 0, .ref a20, .ref a21, .long 0, .ref a22, .int 0])), (a5, .inl (G.2 0, 400, .inl (upd (upd (upd (upd f0 16 ((n0 >>> (24 &&& 31)) &&& 255)) 17 ((n0 >>> (16 &&& 31)) &&& 255)) 18 ((n0 >>> (8 &&& 31)) &&& 255)) 19 ((n0 >>> (0 &&& 31)) &&& 255))))]))) (g5_B G (va_A [(a0, .inr (12, [.int 0, .int 0, .ref a1, .ref a2, .ref a3, .ref a4, .int 0, .ref a5, .int 16, .int 0, .int 0, .int 0, .long 0, .int (-1), .int 0, .int 0, .ref a6, .int 0, .ref a7, .ref a8, .int 0, .ref a9, .ref a10, .int 0, .int 0, .ref a11, .ref a12, .int 0, .ref a13, .ref a14, .int 0, .long 0, .long 0, .int 0, .int 0, .int 0, .int 0, .int 0, .ref a15, .int 0, .int 0, .ref a16, .int 0, .ref a17, .ref a18, .ref a19, .int 0, .ref a20, .ref a21, .long 0, .ref a22, .int 0])), (a5, .inl (G.2 0, 400, .inl f0))] sz)) (va_A [(a0, .inr (12, [.int 0, .int 0, .ref a1, .ref a2, .ref a3, .ref a4, .int 0, .ref a5, .int 16, .int 0, .int 0, .int 0, .long 0, .int (-1), .int 0, .int 0, .ref a6, .int 0, .ref a7, .ref a8, .int 0, .ref a9, .ref a10, .int 0, .int 0, .ref a11, .ref a12, .int 0, .ref a13, .ref a14, .int 0, .long 0, .long 0, .int 0, .int 0, .int 0, .int 0, .int 0, .ref a15, .int 0, .int 0, .ref a16, .int 0, .ref a17, .ref a18, .ref a19, .int 0, .ref a20, .ref a21, .long 0, .ref a22, .int 0])), (a5, .inl (G.2 0, 400, .inl f0))] sz)) 0 0 (va_A [(a0, .inr (12, [.int 0, .int 0, .ref a1, .ref a2, .ref a3, .ref a4, .int 0, .ref a5, .int 16, .int 0, .int 0, .int 0, .long 0, .int (-1), .int 0, .int 0, .ref a6, .int 0, .ref a7, .ref a8, .int 0, .ref a9, .ref a10, .int 0, .int 0, .ref a11, .ref a12, .int 0, .ref a13, .ref a14, .int 0, .long 0, .long 0, .int 0, .int 0, .int 0, .int 0, .int 0, .ref a15, .int 0, .int 0, .ref a16, .int 0, .ref a17, .ref a18, .ref a19, .int 0, .ref a20, .ref a21, .long 0, .ref a22, .int 0])), (a5, .inl (G.2 0, 400, .inl f0))] sz) := by
  refine Met.ofW (cc := cX12_four) (maxL := 3) (ret := none) (by decide) rfl ?_
  intro p e s m args below meth c s₁ B hml hv
  obtain ⟨rfl, hsz, hP, hK, hD0, hN, hT⟩ := hv
  have hx := B.exec
  have hb := B.bytes
  have hr := B.returns
  have hts : ∀ w ∈ tblG, w.before _ s = true := fun w h => atoms_spec (ws := (wsG yX12_four cX12_four 3 none)) B.pre w (List.mem_cons_of_mem _ h)
  have hown : s.vm.findClass RX12 = some m.cls := findClass_of_methodNamed B.named
  have hlocks := B.notSynchronized
  subst hsz
  have hD := hD0.self (sz := s.heap.size)
  generalize hAe : va_A [(a0, .inr (12, [.int 0, .int 0, .ref a1, .ref a2, .ref a3, .ref a4, .int 0, .ref a5, .int 16, .int 0, .int 0, .int 0, .long 0, .int (-1), .int 0, .int 0, .ref a6, .int 0, .ref a7, .ref a8, .int 0, .ref a9, .ref a10, .int 0, .int 0, .ref a11, .ref a12, .int 0, .ref a13, .ref a14, .int 0, .long 0, .long 0, .int 0, .int 0, .int 0, .int 0, .int 0, .ref a15, .int 0, .int 0, .ref a16, .int 0, .ref a17, .ref a18, .ref a19, .int 0, .ref a20, .ref a21, .long 0, .ref a22, .int 0])), (a5, .inl (G.2 0, 400, .inl f0))] s.heap.size = A at hD hT ⊢
  have hA : ∀ q : Nat, s.heap.size ≤ q → A q := fun q h => by rw [← hAe]; exact Or.inr h
  have hS : va_S A s.heap s.heap [] := va_S.rf
  have hP : va_P G.1 vwCl [(a0, .inr (12, [.int 0, .int 0, .ref a1, .ref a2, .ref a3, .ref a4, .int 0, .ref a5, .int 16, .int 0, .int 0, .int 0, .long 0, .int (-1), .int 0, .int 0, .ref a6, .int 0, .ref a7, .ref a8, .int 0, .ref a9, .ref a10, .int 0, .int 0, .ref a11, .ref a12, .int 0, .ref a13, .ref a14, .int 0, .long 0, .long 0, .int 0, .int 0, .int 0, .int 0, .int 0, .ref a15, .int 0, .int 0, .ref a16, .int 0, .ref a17, .ref a18, .ref a19, .int 0, .ref a20, .ref a21, .long 0, .ref a22, .int 0])), (a5, .inl (G.2 0, 400, .inl f0))] s.heap := hP
  have hl := lv_entry ([.ref a0, .int n0]) (n := 3) (Nat.le_of_ble_eq_true rfl)
  rw [lg_entry_eq]
  generalize (lg_sl ([.ref a0, .int n0]) ++ List.replicate (3 - (lg_sl ([.ref a0, .int n0])).length) Slot.unset).toArray = ls at hl ⊢
  have hl : lv_has ls 3 [(0, .ref a0), (1, .int n0)] := hl
  refine lv_bipush (v := 24) hx hb dX12_four_0 (by decide) ?_
  refine lv_istore_n (lv' := [(2, .int 24), (0, .ref a0), (1, .int n0)]) hx hb dX12_four_2 rfl hl (by decide) rfl (fun ls hl => ?_)
  refine lv_iload_n hx hb dX12_four_3 rfl (lv_at hl 0 rfl) ?_
  refine lv_if_lt (tgt := 39) hx hb dX12_four_4 (by decide) (fun c_1 => ?_) (fun c_1 => ?_)
  ·
    exact absurd c_1 (by decide)
  ·
    refine lv_aload_n hx hb dX12_four_7 rfl (lv_at hl 1 rfl) ?_
    refine va_get (D := G.1) (ci := 12) (v := .ref a5) (C := RX12) (T := TX12) (N := 52) hx hb hts inG_X12 hown hK hP 0 rfl rfl 7 (by decide) (hts _ fl_X12_23) (fun _ h9 => h9) rfl dX12_four_8 ?_
    refine lv_aload_n hx hb dX12_four_11 rfl (lv_at hl 1 rfl) ?_
    refine va_get (D := G.1) (ci := 12) (v := .int 16) (C := RX12) (T := TX12) (N := 52) hx hb hts inG_X12 hown hK hP 0 rfl rfl 8 (by decide) (hts _ fl_X12_192) (fun _ h9 => h9) rfl dX12_four_12 ?_
    refine lv_iload_n hx hb dX12_four_15 rfl (lv_at hl 2 rfl) ?_
    refine lv_iload_n hx hb dX12_four_16 rfl (lv_at hl 0 rfl) ?_
    refine lv_ishr hx hb dX12_four_17 ?_
    refine lv_sipush (v := 255) hx hb dX12_four_18 (by decide) ?_
    refine lv_iand hx hb dX12_four_21 ?_
    refine va_iast hx hb hK hP hD hS 1 0 rfl rfl (i := 16) (x := ((n0 >>> (24 &&& 31)) &&& 255)) (by unfold vp_in; decide) dX12_four_22 (fun H locs hP hD hS => ?_)
    have hP : va_P G.1 vwCl [(a0, .inr (12, [.int 0, .int 0, .ref a1, .ref a2, .ref a3, .ref a4, .int 0, .ref a5, .int 16, .int 0, .int 0, .int 0, .long 0, .int (-1), .int 0, .int 0, .ref a6, .int 0, .ref a7, .ref a8, .int 0, .ref a9, .ref a10, .int 0, .int 0, .ref a11, .ref a12, .int 0, .ref a13, .ref a14, .int 0, .long 0, .long 0, .int 0, .int 0, .int 0, .int 0, .int 0, .ref a15, .int 0, .int 0, .ref a16, .int 0, .ref a17, .ref a18, .ref a19, .int 0, .ref a20, .ref a21, .long 0, .ref a22, .int 0])), (a5, .inl (G.2 0, 400, .inl (upd f0 16 ((n0 >>> (24 &&& 31)) &&& 255))))] H := hP
    have hD : va_D A [(a0, .inr (12, [.int 0, .int 0, .ref a1, .ref a2, .ref a3, .ref a4, .int 0, .ref a5, .int 16, .int 0, .int 0, .int 0, .long 0, .int (-1), .int 0, .int 0, .ref a6, .int 0, .ref a7, .ref a8, .int 0, .ref a9, .ref a10, .int 0, .int 0, .ref a11, .ref a12, .int 0, .ref a13, .ref a14, .int 0, .long 0, .long 0, .int 0, .int 0, .int 0, .int 0, .int 0, .ref a15, .int 0, .int 0, .ref a16, .int 0, .ref a17, .ref a18, .ref a19, .int 0, .ref a20, .ref a21, .long 0, .ref a22, .int 0])), (a5, .inl (G.2 0, 400, .inl (upd f0 16 ((n0 >>> (24 &&& 31)) &&& 255))))] := hD
    refine lv_aload_n hx hb dX12_four_23 rfl (lv_at hl 1 rfl) ?_
    refine lv_dup hx hb dX12_four_24 rfl ?_
    refine va_get (D := G.1) (ci := 12) (v := .int 16) (C := RX12) (T := TX12) (N := 52) hx hb hts inG_X12 hown hK hP 0 rfl rfl 8 (by decide) (hts _ fl_X12_192) (fun _ h9 => h9) rfl dX12_four_25 ?_
    refine lv_iconst (v := 1) hx hb dX12_four_28 (by decide) ?_
    refine lv_iadd hx hb dX12_four_29 ?_
    refine g5_ti (v := 17) (by decide) ?_
    refine va_put (D := G.1) (ci := 12) (v := .int 17) (ty := .int) (C := RX12) (T := TX12) (N := 52) hx hb hts inG_X12 tyX12 tyX12_ok nmX12 hown hK hP hD hS 0 rfl rfl 8 (by decide) (hts _ fl_X12_192) (fun _ h9 => h9) rfl (by decide +kernel) rfl rfl (Nat.le_of_ble_eq_true rfl) dX12_four_30 (fun H locs hP hD hS => ?_)
    have hP : va_P G.1 vwCl [(a0, .inr (12, [.int 0, .int 0, .ref a1, .ref a2, .ref a3, .ref a4, .int 0, .ref a5, .int 17, .int 0, .int 0, .int 0, .long 0, .int (-1), .int 0, .int 0, .ref a6, .int 0, .ref a7, .ref a8, .int 0, .ref a9, .ref a10, .int 0, .int 0, .ref a11, .ref a12, .int 0, .ref a13, .ref a14, .int 0, .long 0, .long 0, .int 0, .int 0, .int 0, .int 0, .int 0, .ref a15, .int 0, .int 0, .ref a16, .int 0, .ref a17, .ref a18, .ref a19, .int 0, .ref a20, .ref a21, .long 0, .ref a22, .int 0])), (a5, .inl (G.2 0, 400, .inl (upd f0 16 ((n0 >>> (24 &&& 31)) &&& 255))))] H := hP
    have hD : va_D A [(a0, .inr (12, [.int 0, .int 0, .ref a1, .ref a2, .ref a3, .ref a4, .int 0, .ref a5, .int 17, .int 0, .int 0, .int 0, .long 0, .int (-1), .int 0, .int 0, .ref a6, .int 0, .ref a7, .ref a8, .int 0, .ref a9, .ref a10, .int 0, .int 0, .ref a11, .ref a12, .int 0, .ref a13, .ref a14, .int 0, .long 0, .long 0, .int 0, .int 0, .int 0, .int 0, .int 0, .ref a15, .int 0, .int 0, .ref a16, .int 0, .ref a17, .ref a18, .ref a19, .int 0, .ref a20, .ref a21, .long 0, .ref a22, .int 0])), (a5, .inl (G.2 0, 400, .inl (upd f0 16 ((n0 >>> (24 &&& 31)) &&& 255))))] := hD
    refine lv_iinc (v := 16) (lv' := [(2, .int 16), (0, .ref a0), (1, .int n0)]) hx hb dX12_four_33 hl (k := 0) rfl (by decide) (by decide) rfl (fun ls hl => ?_)
    refine lv_goto (tgt := 3) hx hb dX12_four_36 (by decide) ?_
    refine lv_iload_n hx hb dX12_four_3 rfl (lv_at hl 0 rfl) ?_
    refine lv_if_lt (tgt := 39) hx hb dX12_four_4 (by decide) (fun c_2 => ?_) (fun c_2 => ?_)
    ·
      exact absurd c_2 (by decide)
    ·
      refine lv_aload_n hx hb dX12_four_7 rfl (lv_at hl 1 rfl) ?_
      refine va_get (D := G.1) (ci := 12) (v := .ref a5) (C := RX12) (T := TX12) (N := 52) hx hb hts inG_X12 hown hK hP 0 rfl rfl 7 (by decide) (hts _ fl_X12_23) (fun _ h9 => h9) rfl dX12_four_8 ?_
      refine lv_aload_n hx hb dX12_four_11 rfl (lv_at hl 1 rfl) ?_
      refine va_get (D := G.1) (ci := 12) (v := .int 17) (C := RX12) (T := TX12) (N := 52) hx hb hts inG_X12 hown hK hP 0 rfl rfl 8 (by decide) (hts _ fl_X12_192) (fun _ h9 => h9) rfl dX12_four_12 ?_
      refine lv_iload_n hx hb dX12_four_15 rfl (lv_at hl 2 rfl) ?_
      refine lv_iload_n hx hb dX12_four_16 rfl (lv_at hl 0 rfl) ?_
      refine lv_ishr hx hb dX12_four_17 ?_
      refine lv_sipush (v := 255) hx hb dX12_four_18 (by decide) ?_
      refine lv_iand hx hb dX12_four_21 ?_
      refine va_iast hx hb hK hP hD hS 1 0 rfl rfl (i := 17) (x := ((n0 >>> (16 &&& 31)) &&& 255)) (by unfold vp_in; decide) dX12_four_22 (fun H locs hP hD hS => ?_)
      have hP : va_P G.1 vwCl [(a0, .inr (12, [.int 0, .int 0, .ref a1, .ref a2, .ref a3, .ref a4, .int 0, .ref a5, .int 17, .int 0, .int 0, .int 0, .long 0, .int (-1), .int 0, .int 0, .ref a6, .int 0, .ref a7, .ref a8, .int 0, .ref a9, .ref a10, .int 0, .int 0, .ref a11, .ref a12, .int 0, .ref a13, .ref a14, .int 0, .long 0, .long 0, .int 0, .int 0, .int 0, .int 0, .int 0, .ref a15, .int 0, .int 0, .ref a16, .int 0, .ref a17, .ref a18, .ref a19, .int 0, .ref a20, .ref a21, .long 0, .ref a22, .int 0])), (a5, .inl (G.2 0, 400, .inl (upd (upd f0 16 ((n0 >>> (24 &&& 31)) &&& 255)) 17 ((n0 >>> (16 &&& 31)) &&& 255))))] H := hP
      have hD : va_D A [(a0, .inr (12, [.int 0, .int 0, .ref a1, .ref a2, .ref a3, .ref a4, .int 0, .ref a5, .int 17, .int 0, .int 0, .int 0, .long 0, .int (-1), .int 0, .int 0, .ref a6, .int 0, .ref a7, .ref a8, .int 0, .ref a9, .ref a10, .int 0, .int 0, .ref a11, .ref a12, .int 0, .ref a13, .ref a14, .int 0, .long 0, .long 0, .int 0, .int 0, .int 0, .int 0, .int 0, .ref a15, .int 0, .int 0, .ref a16, .int 0, .ref a17, .ref a18, .ref a19, .int 0, .ref a20, .ref a21, .long 0, .ref a22, .int 0])), (a5, .inl (G.2 0, 400, .inl (upd (upd f0 16 ((n0 >>> (24 &&& 31)) &&& 255)) 17 ((n0 >>> (16 &&& 31)) &&& 255))))] := hD
      refine lv_aload_n hx hb dX12_four_23 rfl (lv_at hl 1 rfl) ?_
      refine lv_dup hx hb dX12_four_24 rfl ?_
      refine va_get (D := G.1) (ci := 12) (v := .int 17) (C := RX12) (T := TX12) (N := 52) hx hb hts inG_X12 hown hK hP 0 rfl rfl 8 (by decide) (hts _ fl_X12_192) (fun _ h9 => h9) rfl dX12_four_25 ?_
      refine lv_iconst (v := 1) hx hb dX12_four_28 (by decide) ?_
      refine lv_iadd hx hb dX12_four_29 ?_
      refine g5_ti (v := 18) (by decide) ?_
      refine va_put (D := G.1) (ci := 12) (v := .int 18) (ty := .int) (C := RX12) (T := TX12) (N := 52) hx hb hts inG_X12 tyX12 tyX12_ok nmX12 hown hK hP hD hS 0 rfl rfl 8 (by decide) (hts _ fl_X12_192) (fun _ h9 => h9) rfl (by decide +kernel) rfl rfl (Nat.le_of_ble_eq_true rfl) dX12_four_30 (fun H locs hP hD hS => ?_)
      have hP : va_P G.1 vwCl [(a0, .inr (12, [.int 0, .int 0, .ref a1, .ref a2, .ref a3, .ref a4, .int 0, .ref a5, .int 18, .int 0, .int 0, .int 0, .long 0, .int (-1), .int 0, .int 0, .ref a6, .int 0, .ref a7, .ref a8, .int 0, .ref a9, .ref a10, .int 0, .int 0, .ref a11, .ref a12, .int 0, .ref a13, .ref a14, .int 0, .long 0, .long 0, .int 0, .int 0, .int 0, .int 0, .int 0, .ref a15, .int 0, .int 0, .ref a16, .int 0, .ref a17, .ref a18, .ref a19, .int 0, .ref a20, .ref a21, .long 0, .ref a22, .int 0])), (a5, .inl (G.2 0, 400, .inl (upd (upd f0 16 ((n0 >>> (24 &&& 31)) &&& 255)) 17 ((n0 >>> (16 &&& 31)) &&& 255))))] H := hP
      have hD : va_D A [(a0, .inr (12, [.int 0, .int 0, .ref a1, .ref a2, .ref a3, .ref a4, .int 0, .ref a5, .int 18, .int 0, .int 0, .int 0, .long 0, .int (-1), .int 0, .int 0, .ref a6, .int 0, .ref a7, .ref a8, .int 0, .ref a9, .ref a10, .int 0, .int 0, .ref a11, .ref a12, .int 0, .ref a13, .ref a14, .int 0, .long 0, .long 0, .int 0, .int 0, .int 0, .int 0, .int 0, .ref a15, .int 0, .int 0, .ref a16, .int 0, .ref a17, .ref a18, .ref a19, .int 0, .ref a20, .ref a21, .long 0, .ref a22, .int 0])), (a5, .inl (G.2 0, 400, .inl (upd (upd f0 16 ((n0 >>> (24 &&& 31)) &&& 255)) 17 ((n0 >>> (16 &&& 31)) &&& 255))))] := hD
      refine lv_iinc (v := 8) (lv' := [(2, .int 8), (0, .ref a0), (1, .int n0)]) hx hb dX12_four_33 hl (k := 0) rfl (by decide) (by decide) rfl (fun ls hl => ?_)
      refine lv_goto (tgt := 3) hx hb dX12_four_36 (by decide) ?_
      refine lv_iload_n hx hb dX12_four_3 rfl (lv_at hl 0 rfl) ?_
      refine lv_if_lt (tgt := 39) hx hb dX12_four_4 (by decide) (fun c_3 => ?_) (fun c_3 => ?_)
      ·
        exact absurd c_3 (by decide)
      ·
        refine lv_aload_n hx hb dX12_four_7 rfl (lv_at hl 1 rfl) ?_
        refine va_get (D := G.1) (ci := 12) (v := .ref a5) (C := RX12) (T := TX12) (N := 52) hx hb hts inG_X12 hown hK hP 0 rfl rfl 7 (by decide) (hts _ fl_X12_23) (fun _ h9 => h9) rfl dX12_four_8 ?_
        refine lv_aload_n hx hb dX12_four_11 rfl (lv_at hl 1 rfl) ?_
        refine va_get (D := G.1) (ci := 12) (v := .int 18) (C := RX12) (T := TX12) (N := 52) hx hb hts inG_X12 hown hK hP 0 rfl rfl 8 (by decide) (hts _ fl_X12_192) (fun _ h9 => h9) rfl dX12_four_12 ?_
        refine lv_iload_n hx hb dX12_four_15 rfl (lv_at hl 2 rfl) ?_
        refine lv_iload_n hx hb dX12_four_16 rfl (lv_at hl 0 rfl) ?_
        refine lv_ishr hx hb dX12_four_17 ?_
        refine lv_sipush (v := 255) hx hb dX12_four_18 (by decide) ?_
        refine lv_iand hx hb dX12_four_21 ?_
        refine va_iast hx hb hK hP hD hS 1 0 rfl rfl (i := 18) (x := ((n0 >>> (8 &&& 31)) &&& 255)) (by unfold vp_in; decide) dX12_four_22 (fun H locs hP hD hS => ?_)
        have hP : va_P G.1 vwCl [(a0, .inr (12, [.int 0, .int 0, .ref a1, .ref a2, .ref a3, .ref a4, .int 0, .ref a5, .int 18, .int 0, .int 0, .int 0, .long 0, .int (-1), .int 0, .int 0, .ref a6, .int 0, .ref a7, .ref a8, .int 0, .ref a9, .ref a10, .int 0, .int 0, .ref a11, .ref a12, .int 0, .ref a13, .ref a14, .int 0, .long 0, .long 0, .int 0, .int 0, .int 0, .int 0, .int 0, .ref a15, .int 0, .int 0, .ref a16, .int 0, .ref a17, .ref a18, .ref a19, .int 0, .ref a20, .ref a21, .long 0, .ref a22, .int 0])), (a5, .inl (G.2 0, 400, .inl (upd (upd (upd f0 16 ((n0 >>> (24 &&& 31)) &&& 255)) 17 ((n0 >>> (16 &&& 31)) &&& 255)) 18 ((n0 >>> (8 &&& 31)) &&& 255))))] H := hP
        have hD : va_D A [(a0, .inr (12, [.int 0, .int 0, .ref a1, .ref a2, .ref a3, .ref a4, .int 0, .ref a5, .int 18, .int 0, .int 0, .int 0, .long 0, .int (-1), .int 0, .int 0, .ref a6, .int 0, .ref a7, .ref a8, .int 0, .ref a9, .ref a10, .int 0, .int 0, .ref a11, .ref a12, .int 0, .ref a13, .ref a14, .int 0, .long 0, .long 0, .int 0, .int 0, .int 0, .int 0, .int 0, .ref a15, .int 0, .int 0, .ref a16, .int 0, .ref a17, .ref a18, .ref a19, .int 0, .ref a20, .ref a21, .long 0, .ref a22, .int 0])), (a5, .inl (G.2 0, 400, .inl (upd (upd (upd f0 16 ((n0 >>> (24 &&& 31)) &&& 255)) 17 ((n0 >>> (16 &&& 31)) &&& 255)) 18 ((n0 >>> (8 &&& 31)) &&& 255))))] := hD
        refine lv_aload_n hx hb dX12_four_23 rfl (lv_at hl 1 rfl) ?_
        refine lv_dup hx hb dX12_four_24 rfl ?_
        refine va_get (D := G.1) (ci := 12) (v := .int 18) (C := RX12) (T := TX12) (N := 52) hx hb hts inG_X12 hown hK hP 0 rfl rfl 8 (by decide) (hts _ fl_X12_192) (fun _ h9 => h9) rfl dX12_four_25 ?_
        refine lv_iconst (v := 1) hx hb dX12_four_28 (by decide) ?_
        refine lv_iadd hx hb dX12_four_29 ?_
        refine g5_ti (v := 19) (by decide) ?_
        refine va_put (D := G.1) (ci := 12) (v := .int 19) (ty := .int) (C := RX12) (T := TX12) (N := 52) hx hb hts inG_X12 tyX12 tyX12_ok nmX12 hown hK hP hD hS 0 rfl rfl 8 (by decide) (hts _ fl_X12_192) (fun _ h9 => h9) rfl (by decide +kernel) rfl rfl (Nat.le_of_ble_eq_true rfl) dX12_four_30 (fun H locs hP hD hS => ?_)
        have hP : va_P G.1 vwCl [(a0, .inr (12, [.int 0, .int 0, .ref a1, .ref a2, .ref a3, .ref a4, .int 0, .ref a5, .int 19, .int 0, .int 0, .int 0, .long 0, .int (-1), .int 0, .int 0, .ref a6, .int 0, .ref a7, .ref a8, .int 0, .ref a9, .ref a10, .int 0, .int 0, .ref a11, .ref a12, .int 0, .ref a13, .ref a14, .int 0, .long 0, .long 0, .int 0, .int 0, .int 0, .int 0, .int 0, .ref a15, .int 0, .int 0, .ref a16, .int 0, .ref a17, .ref a18, .ref a19, .int 0, .ref a20, .ref a21, .long 0, .ref a22, .int 0])), (a5, .inl (G.2 0, 400, .inl (upd (upd (upd f0 16 ((n0 >>> (24 &&& 31)) &&& 255)) 17 ((n0 >>> (16 &&& 31)) &&& 255)) 18 ((n0 >>> (8 &&& 31)) &&& 255))))] H := hP
        have hD : va_D A [(a0, .inr (12, [.int 0, .int 0, .ref a1, .ref a2, .ref a3, .ref a4, .int 0, .ref a5, .int 19, .int 0, .int 0, .int 0, .long 0, .int (-1), .int 0, .int 0, .ref a6, .int 0, .ref a7, .ref a8, .int 0, .ref a9, .ref a10, .int 0, .int 0, .ref a11, .ref a12, .int 0, .ref a13, .ref a14, .int 0, .long 0, .long 0, .int 0, .int 0, .int 0, .int 0, .int 0, .ref a15, .int 0, .int 0, .ref a16, .int 0, .ref a17, .ref a18, .ref a19, .int 0, .ref a20, .ref a21, .long 0, .ref a22, .int 0])), (a5, .inl (G.2 0, 400, .inl (upd (upd (upd f0 16 ((n0 >>> (24 &&& 31)) &&& 255)) 17 ((n0 >>> (16 &&& 31)) &&& 255)) 18 ((n0 >>> (8 &&& 31)) &&& 255))))] := hD
        refine lv_iinc (v := 0) (lv' := [(2, .int 0), (0, .ref a0), (1, .int n0)]) hx hb dX12_four_33 hl (k := 0) rfl (by decide) (by decide) rfl (fun ls hl => ?_)
        refine lv_goto (tgt := 3) hx hb dX12_four_36 (by decide) ?_
        refine lv_iload_n hx hb dX12_four_3 rfl (lv_at hl 0 rfl) ?_
        refine lv_if_lt (tgt := 39) hx hb dX12_four_4 (by decide) (fun c_4 => ?_) (fun c_4 => ?_)
        ·
          exact absurd c_4 (by decide)
        ·
          refine lv_aload_n hx hb dX12_four_7 rfl (lv_at hl 1 rfl) ?_
          refine va_get (D := G.1) (ci := 12) (v := .ref a5) (C := RX12) (T := TX12) (N := 52) hx hb hts inG_X12 hown hK hP 0 rfl rfl 7 (by decide) (hts _ fl_X12_23) (fun _ h9 => h9) rfl dX12_four_8 ?_
          refine lv_aload_n hx hb dX12_four_11 rfl (lv_at hl 1 rfl) ?_
          refine va_get (D := G.1) (ci := 12) (v := .int 19) (C := RX12) (T := TX12) (N := 52) hx hb hts inG_X12 hown hK hP 0 rfl rfl 8 (by decide) (hts _ fl_X12_192) (fun _ h9 => h9) rfl dX12_four_12 ?_
          refine lv_iload_n hx hb dX12_four_15 rfl (lv_at hl 2 rfl) ?_
          refine lv_iload_n hx hb dX12_four_16 rfl (lv_at hl 0 rfl) ?_
          refine lv_ishr hx hb dX12_four_17 ?_
          refine lv_sipush (v := 255) hx hb dX12_four_18 (by decide) ?_
          refine lv_iand hx hb dX12_four_21 ?_
          refine va_iast hx hb hK hP hD hS 1 0 rfl rfl (i := 19) (x := ((n0 >>> (0 &&& 31)) &&& 255)) (by unfold vp_in; decide) dX12_four_22 (fun H locs hP hD hS => ?_)
          have hP : va_P G.1 vwCl [(a0, .inr (12, [.int 0, .int 0, .ref a1, .ref a2, .ref a3, .ref a4, .int 0, .ref a5, .int 19, .int 0, .int 0, .int 0, .long 0, .int (-1), .int 0, .int 0, .ref a6, .int 0, .ref a7, .ref a8, .int 0, .ref a9, .ref a10, .int 0, .int 0, .ref a11, .ref a12, .int 0, .ref a13, .ref a14, .int 0, .long 0, .long 0, .int 0, .int 0, .int 0, .int 0, .int 0, .ref a15, .int 0, .int 0, .ref a16, .int 0, .ref a17, .ref a18, .ref a19, .int 0, .ref a20, .ref a21, .long 0, .ref a22, .int 0])), (a5, .inl (G.2 0, 400, .inl (upd (upd (upd (upd f0 16 ((n0 >>> (24 &&& 31)) &&& 255)) 17 ((n0 >>> (16 &&& 31)) &&& 255)) 18 ((n0 >>> (8 &&& 31)) &&& 255)) 19 ((n0 >>> (0 &&& 31)) &&& 255))))] H := hP
          have hD : va_D A [(a0, .inr (12, [.int 0, .int 0, .ref a1, .ref a2, .ref a3, .ref a4, .int 0, .ref a5, .int 19, .int 0, .int 0, .int 0, .long 0, .int (-1), .int 0, .int 0, .ref a6, .int 0, .ref a7, .ref a8, .int 0, .ref a9, .ref a10, .int 0, .int 0, .ref a11, .ref a12, .int 0, .ref a13, .ref a14, .int 0, .long 0, .long 0, .int 0, .int 0, .int 0, .int 0, .int 0, .ref a15, .int 0, .int 0, .ref a16, .int 0, .ref a17, .ref a18, .ref a19, .int 0, .ref a20, .ref a21, .long 0, .ref a22, .int 0])), (a5, .inl (G.2 0, 400, .inl (upd (upd (upd (upd f0 16 ((n0 >>> (24 &&& 31)) &&& 255)) 17 ((n0 >>> (16 &&& 31)) &&& 255)) 18 ((n0 >>> (8 &&& 31)) &&& 255)) 19 ((n0 >>> (0 &&& 31)) &&& 255))))] := hD
          refine lv_aload_n hx hb dX12_four_23 rfl (lv_at hl 1 rfl) ?_
          refine lv_dup hx hb dX12_four_24 rfl ?_
          refine va_get (D := G.1) (ci := 12) (v := .int 19) (C := RX12) (T := TX12) (N := 52) hx hb hts inG_X12 hown hK hP 0 rfl rfl 8 (by decide) (hts _ fl_X12_192) (fun _ h9 => h9) rfl dX12_four_25 ?_
          refine lv_iconst (v := 1) hx hb dX12_four_28 (by decide) ?_
          refine lv_iadd hx hb dX12_four_29 ?_
          refine g5_ti (v := 20) (by decide) ?_
          refine va_put (D := G.1) (ci := 12) (v := .int 20) (ty := .int) (C := RX12) (T := TX12) (N := 52) hx hb hts inG_X12 tyX12 tyX12_ok nmX12 hown hK hP hD hS 0 rfl rfl 8 (by decide) (hts _ fl_X12_192) (fun _ h9 => h9) rfl (by decide +kernel) rfl rfl (Nat.le_of_ble_eq_true rfl) dX12_four_30 (fun H locs hP hD hS => ?_)
          have hP : va_P G.1 vwCl [(a0, .inr (12, [.int 0, .int 0, .ref a1, .ref a2, .ref a3, .ref a4, .int 0, .ref a5, .int 20, .int 0, .int 0, .int 0, .long 0, .int (-1), .int 0, .int 0, .ref a6, .int 0, .ref a7, .ref a8, .int 0, .ref a9, .ref a10, .int 0, .int 0, .ref a11, .ref a12, .int 0, .ref a13, .ref a14, .int 0, .long 0, .long 0, .int 0, .int 0, .int 0, .int 0, .int 0, .ref a15, .int 0, .int 0, .ref a16, .int 0, .ref a17, .ref a18, .ref a19, .int 0, .ref a20, .ref a21, .long 0, .ref a22, .int 0])), (a5, .inl (G.2 0, 400, .inl (upd (upd (upd (upd f0 16 ((n0 >>> (24 &&& 31)) &&& 255)) 17 ((n0 >>> (16 &&& 31)) &&& 255)) 18 ((n0 >>> (8 &&& 31)) &&& 255)) 19 ((n0 >>> (0 &&& 31)) &&& 255))))] H := hP
          have hD : va_D A [(a0, .inr (12, [.int 0, .int 0, .ref a1, .ref a2, .ref a3, .ref a4, .int 0, .ref a5, .int 20, .int 0, .int 0, .int 0, .long 0, .int (-1), .int 0, .int 0, .ref a6, .int 0, .ref a7, .ref a8, .int 0, .ref a9, .ref a10, .int 0, .int 0, .ref a11, .ref a12, .int 0, .ref a13, .ref a14, .int 0, .long 0, .long 0, .int 0, .int 0, .int 0, .int 0, .int 0, .ref a15, .int 0, .int 0, .ref a16, .int 0, .ref a17, .ref a18, .ref a19, .int 0, .ref a20, .ref a21, .long 0, .ref a22, .int 0])), (a5, .inl (G.2 0, 400, .inl (upd (upd (upd (upd f0 16 ((n0 >>> (24 &&& 31)) &&& 255)) 17 ((n0 >>> (16 &&& 31)) &&& 255)) 18 ((n0 >>> (8 &&& 31)) &&& 255)) 19 ((n0 >>> (0 &&& 31)) &&& 255))))] := hD
          refine lv_iinc (v := (-8)) (lv' := [(2, .int (-8)), (0, .ref a0), (1, .int n0)]) hx hb dX12_four_33 hl (k := 0) rfl (by decide) (by decide) rfl (fun ls hl => ?_)
          refine lv_goto (tgt := 3) hx hb dX12_four_36 (by decide) ?_
          refine lv_iload_n hx hb dX12_four_3 rfl (lv_at hl 0 rfl) ?_
          refine lv_if_lt (tgt := 39) hx hb dX12_four_4 (by decide) (fun c_5 => ?_) (fun c_5 => ?_)
          ·
            exact W.vret hx hb hr (fun t ht hW => ⟨⟨[(a0, .inr (12, [.int 0, .int 0, .ref a1, .ref a2, .ref a3, .ref a4, .int 0, .ref a5, .int 20, .int 0, .int 0, .int 0, .long 0, .int (-1), .int 0, .int 0, .ref a6, .int 0, .ref a7, .ref a8, .int 0, .ref a9, .ref a10, .int 0, .int 0, .ref a11, .ref a12, .int 0, .ref a13, .ref a14, .int 0, .long 0, .long 0, .int 0, .int 0, .int 0, .int 0, .int 0, .ref a15, .int 0, .int 0, .ref a16, .int 0, .ref a17, .ref a18, .ref a19, .int 0, .ref a20, .ref a21, .long 0, .ref a22, .int 0])), (a5, .inl (G.2 0, 400, .inl (upd (upd (upd (upd f0 16 ((n0 >>> (24 &&& 31)) &&& 255)) 17 ((n0 >>> (16 &&& 31)) &&& 255)) 18 ((n0 >>> (8 &&& 31)) &&& 255)) 19 ((n0 >>> (0 &&& 31)) &&& 255))))], rfl, rfl, by rw [ht]; exact hP, hD⟩, hS.F ht⟩) hS.2.2 dX12_four_39
          ·
            exact absurd c_5 (by decide)
theorem dX12_feed_0 : decode cX12_feed 0 = .ok (.aload_n 0, 1) := by decide +kernel
theorem dX12_feed_1 : decode cX12_feed 1 = .ok (.iconst 0, 1) := by decide +kernel
theorem dX12_feed_2 : decode cX12_feed 2 = .ok (.putfield 107, 3) := by decide +kernel
theorem dX12_feed_5 : decode cX12_feed 5 = .ok (.aload_n 0, 1) := by decide +kernel
theorem dX12_feed_6 : decode cX12_feed 6 = .ok (.getfield 192, 3) := by decide +kernel
theorem dX12_feed_9 : decode cX12_feed 9 = .ok (.bipush 20, 2) := by decide +kernel
theorem dX12_feed_11 : decode cX12_feed 11 = .ok (.iadd, 1) := by decide +kernel
theorem dX12_feed_12 : decode cX12_feed 12 = .ok (.sipush 400, 3) := by decide +kernel
theorem dX12_feed_15 : decode cX12_feed 15 = .ok (.if_icmp .le 5, 3) := by decide +kernel
theorem dX12_feed_18 : decode cX12_feed 18 = .ok (.iconst (-1), 1) := by decide +kernel
theorem dX12_feed_19 : decode cX12_feed 19 = .ok (.ireturn, 1) := by decide +kernel
theorem dX12_feed_20 : decode cX12_feed 20 = .ok (.aload_n 0, 1) := by decide +kernel
theorem dX12_feed_21 : decode cX12_feed 21 = .ok (.iload_n 1, 1) := by decide +kernel
theorem dX12_feed_22 : decode cX12_feed 22 = .ok (.invokevirtual 198, 3) := by decide +kernel
theorem dX12_feed_25 : decode cX12_feed 25 = .ok (.aload_n 0, 1) := by decide +kernel
theorem dX12_feed_26 : decode cX12_feed 26 = .ok (.iload_n 2, 1) := by decide +kernel
theorem dX12_feed_27 : decode cX12_feed 27 = .ok (.invokevirtual 198, 3) := by decide +kernel
theorem dX12_feed_30 : decode cX12_feed 30 = .ok (.aload_n 0, 1) := by decide +kernel
theorem dX12_feed_31 : decode cX12_feed 31 = .ok (.iload_n 3, 1) := by decide +kernel
theorem dX12_feed_32 : decode cX12_feed 32 = .ok (.invokevirtual 198, 3) := by decide +kernel
theorem dX12_feed_35 : decode cX12_feed 35 = .ok (.aload_n 0, 1) := by decide +kernel
theorem dX12_feed_36 : decode cX12_feed 36 = .ok (.iload 4, 2) := by decide +kernel
theorem dX12_feed_38 : decode cX12_feed 38 = .ok (.invokevirtual 198, 3) := by decide +kernel
theorem dX12_feed_41 : decode cX12_feed 41 = .ok (.aload_n 0, 1) := by decide +kernel
theorem dX12_feed_42 : decode cX12_feed 42 = .ok (.iload 5, 2) := by decide +kernel
theorem dX12_feed_44 : decode cX12_feed 44 = .ok (.invokevirtual 198, 3) := by decide +kernel
theorem dX12_feed_47 : decode cX12_feed 47 = .ok (.aload_n 0, 1) := by decide +kernel
theorem dX12_feed_48 : decode cX12_feed 48 = .ok (.getfield 192, 3) := by decide +kernel
theorem dX12_feed_51 : decode cX12_feed 51 = .ok (.ireturn, 1) := by decide +kernel
set_option maxHeartbeats 4000000 in
set_option maxRecDepth 100000 in
theorem kX12_feed (l : Launch) (G : g5_G) (a0 a1 a2 a3 a4 a5 a6 a7 a8 a9 a10 a11 a12 a13 a14 a15 a16 a17 a18 a19 a20 a21 a22 : Nat) (sz : Nat) (n0 : Int32) (n1 : Int32) (n2 : Int32) (n3 : Int32) (n4 : Int32) : Met l yX12_feed (wsG yX12_feed cX12_feed 6 (some .int)) ({ frames := 1, cells := 0, slots := 0, locals := 22 }) (va_Pc [.ref a0, .int n0, .int n1, .int n2, .int n3, .int n4] (g5_P G [(a0, .inr (12, [.int 0, .int 0, .ref a1, .ref a2, .ref a3, .ref a4, .int 0, .ref a5, .int 0, .int 0, .int 0, .int 0, .long 0, .int (-1), .int 0, .int 0, .ref a6, .int 0, .ref a7, .ref a8, .int 0, .ref a9, .ref a10, .int 0, .int 0, .ref a11, .ref a12, .int 0, .ref a13, .ref a14, .int 0, .long 0, .long 0, .int 0, .int 0, .int 0, .int 0, .int 0, .ref a15, .int 0, .int 0, .ref a16, .int 0, .ref a17, .ref a18, .ref a19, .int 0, .ref a20, .ref a21, .long 0, .ref a22, .int 0])), (a5, .inl (G.2 0, 400, .inl (fun _ => 0)))] sz)) (va_Qi (fun (r : Int32) (u : va_W) => ((r = 20) ∧ (u = []))) (g5_B G (va_A [(a0, .inr (12, [.int 0, .int 0, .ref a1, .ref a2, .ref a3, .ref a4, .int 0, .ref a5, .int 0, .int 0, .int 0, .int 0, .long 0, .int (-1), .int 0, .int 0, .ref a6, .int 0, .ref a7, .ref a8, .int 0, .ref a9, .ref a10, .int 0, .int 0, .ref a11, .ref a12, .int 0, .ref a13, .ref a14, .int 0, .long 0, .long 0, .int 0, .int 0, .int 0, .int 0, .int 0, .ref a15, .int 0, .int 0, .ref a16, .int 0, .ref a17, .ref a18, .ref a19, .int 0, .ref a20, .ref a21, .long 0, .ref a22, .int 0])), (a5, .inl (G.2 0, 400, .inl (fun _ => 0)))] sz)) (va_A [(a0, .inr (12, [.int 0, .int 0, .ref a1, .ref a2, .ref a3, .ref a4, .int 0, .ref a5, .int 0, .int 0, .int 0, .int 0, .long 0, .int (-1), .int 0, .int 0, .ref a6, .int 0, .ref a7, .ref a8, .int 0, .ref a9, .ref a10, .int 0, .int 0, .ref a11, .ref a12, .int 0, .ref a13, .ref a14, .int 0, .long 0, .long 0, .int 0, .int 0, .int 0, .int 0, .int 0, .ref a15, .int 0, .int 0, .ref a16, .int 0, .ref a17, .ref a18, .ref a19, .int 0, .ref a20, .ref a21, .long 0, .ref a22, .int 0])), (a5, .inl (G.2 0, 400, .inl (fun _ => 0)))] sz)) 0 0 (va_A [(a0, .inr (12, [.int 0, .int 0, .ref a1, .ref a2, .ref a3, .ref a4, .int 0, .ref a5, .int 0, .int 0, .int 0, .int 0, .long 0, .int (-1), .int 0, .int 0, .ref a6, .int 0, .ref a7, .ref a8, .int 0, .ref a9, .ref a10, .int 0, .int 0, .ref a11, .ref a12, .int 0, .ref a13, .ref a14, .int 0, .long 0, .long 0, .int 0, .int 0, .int 0, .int 0, .int 0, .ref a15, .int 0, .int 0, .ref a16, .int 0, .ref a17, .ref a18, .ref a19, .int 0, .ref a20, .ref a21, .long 0, .ref a22, .int 0])), (a5, .inl (G.2 0, 400, .inl (fun _ => 0)))] sz) := by
  refine Met.ofW (cc := cX12_feed) (maxL := 6) (ret := (some .int)) (by decide) rfl ?_
  intro p e s m args below meth c s₁ B hml hv
  obtain ⟨rfl, hsz, hP, hK, hD0, hN, hT⟩ := hv
  have hx := B.exec
  have hb := B.bytes
  have hr := B.returns
  have hts : ∀ w ∈ tblG, w.before _ s = true := fun w h => atoms_spec (ws := (wsG yX12_feed cX12_feed 6 (some .int))) B.pre w (List.mem_cons_of_mem _ h)
  have hown : s.vm.findClass RX12 = some m.cls := findClass_of_methodNamed B.named
  have hlocks := B.notSynchronized
  subst hsz
  have hD := hD0.self (sz := s.heap.size)
  generalize hAe : va_A [(a0, .inr (12, [.int 0, .int 0, .ref a1, .ref a2, .ref a3, .ref a4, .int 0, .ref a5, .int 0, .int 0, .int 0, .int 0, .long 0, .int (-1), .int 0, .int 0, .ref a6, .int 0, .ref a7, .ref a8, .int 0, .ref a9, .ref a10, .int 0, .int 0, .ref a11, .ref a12, .int 0, .ref a13, .ref a14, .int 0, .long 0, .long 0, .int 0, .int 0, .int 0, .int 0, .int 0, .ref a15, .int 0, .int 0, .ref a16, .int 0, .ref a17, .ref a18, .ref a19, .int 0, .ref a20, .ref a21, .long 0, .ref a22, .int 0])), (a5, .inl (G.2 0, 400, .inl (fun _ => 0)))] s.heap.size = A at hD hT ⊢
  have hA : ∀ q : Nat, s.heap.size ≤ q → A q := fun q h => by rw [← hAe]; exact Or.inr h
  have hS : va_S A s.heap s.heap [] := va_S.rf
  have hP : va_P G.1 vwCl [(a0, .inr (12, [.int 0, .int 0, .ref a1, .ref a2, .ref a3, .ref a4, .int 0, .ref a5, .int 0, .int 0, .int 0, .int 0, .long 0, .int (-1), .int 0, .int 0, .ref a6, .int 0, .ref a7, .ref a8, .int 0, .ref a9, .ref a10, .int 0, .int 0, .ref a11, .ref a12, .int 0, .ref a13, .ref a14, .int 0, .long 0, .long 0, .int 0, .int 0, .int 0, .int 0, .int 0, .ref a15, .int 0, .int 0, .ref a16, .int 0, .ref a17, .ref a18, .ref a19, .int 0, .ref a20, .ref a21, .long 0, .ref a22, .int 0])), (a5, .inl (G.2 0, 400, .inl (fun _ => 0)))] s.heap := hP
  have hl := lv_entry ([.ref a0, .int n0, .int n1, .int n2, .int n3, .int n4]) (n := 6) (Nat.le_of_ble_eq_true rfl)
  rw [lg_entry_eq]
  generalize (lg_sl ([.ref a0, .int n0, .int n1, .int n2, .int n3, .int n4]) ++ List.replicate (6 - (lg_sl ([.ref a0, .int n0, .int n1, .int n2, .int n3, .int n4])).length) Slot.unset).toArray = ls at hl ⊢
  have hl : lv_has ls 6 [(0, .ref a0), (1, .int n0), (2, .int n1), (3, .int n2), (4, .int n3), (5, .int n4)] := hl
  refine lv_aload_n hx hb dX12_feed_0 rfl (lv_at hl 0 rfl) ?_
  refine lv_iconst (v := 0) hx hb dX12_feed_1 (by decide) ?_
  refine va_put (D := G.1) (ci := 12) (v := .int 0) (ty := .int) (C := RX12) (T := TX12) (N := 52) hx hb hts inG_X12 tyX12 tyX12_ok nmX12 hown hK hP hD hS 0 rfl rfl 0 (by decide) (hts _ fl_X12_107) (fun _ h9 => h9) rfl (by decide +kernel) rfl rfl (Nat.le_of_ble_eq_true rfl) dX12_feed_2 (fun H locs hP hD hS => ?_)
  have hP : va_P G.1 vwCl [(a0, .inr (12, [.int 0, .int 0, .ref a1, .ref a2, .ref a3, .ref a4, .int 0, .ref a5, .int 0, .int 0, .int 0, .int 0, .long 0, .int (-1), .int 0, .int 0, .ref a6, .int 0, .ref a7, .ref a8, .int 0, .ref a9, .ref a10, .int 0, .int 0, .ref a11, .ref a12, .int 0, .ref a13, .ref a14, .int 0, .long 0, .long 0, .int 0, .int 0, .int 0, .int 0, .int 0, .ref a15, .int 0, .int 0, .ref a16, .int 0, .ref a17, .ref a18, .ref a19, .int 0, .ref a20, .ref a21, .long 0, .ref a22, .int 0])), (a5, .inl (G.2 0, 400, .inl (fun _ => 0)))] H := hP
  have hD : va_D A [(a0, .inr (12, [.int 0, .int 0, .ref a1, .ref a2, .ref a3, .ref a4, .int 0, .ref a5, .int 0, .int 0, .int 0, .int 0, .long 0, .int (-1), .int 0, .int 0, .ref a6, .int 0, .ref a7, .ref a8, .int 0, .ref a9, .ref a10, .int 0, .int 0, .ref a11, .ref a12, .int 0, .ref a13, .ref a14, .int 0, .long 0, .long 0, .int 0, .int 0, .int 0, .int 0, .int 0, .ref a15, .int 0, .int 0, .ref a16, .int 0, .ref a17, .ref a18, .ref a19, .int 0, .ref a20, .ref a21, .long 0, .ref a22, .int 0])), (a5, .inl (G.2 0, 400, .inl (fun _ => 0)))] := hD
  refine lv_aload_n hx hb dX12_feed_5 rfl (lv_at hl 0 rfl) ?_
  refine va_get (D := G.1) (ci := 12) (v := .int 0) (C := RX12) (T := TX12) (N := 52) hx hb hts inG_X12 hown hK hP 0 rfl rfl 8 (by decide) (hts _ fl_X12_192) (fun _ h9 => h9) rfl dX12_feed_6 ?_
  refine lv_bipush (v := 20) hx hb dX12_feed_9 (by decide) ?_
  refine lv_iadd hx hb dX12_feed_11 ?_
  refine g5_ti (v := 20) (by decide) ?_
  refine lv_sipush (v := 400) hx hb dX12_feed_12 (by decide) ?_
  refine lv_icmp_le (tgt := 20) hx hb dX12_feed_15 (by decide) (fun c_1 => ?_) (fun c_1 => ?_)
  ·
    refine lv_aload_n hx hb dX12_feed_20 rfl (lv_at hl 0 rfl) ?_
    refine lv_iload_n hx hb dX12_feed_21 rfl (lv_at hl 1 rfl) ?_
    have hPc := hP.sub (ws' := [(a0, .inr (12, [.int 0, .int 0, .ref a1, .ref a2, .ref a3, .ref a4, .int 0, .ref a5, .int 0, .int 0, .int 0, .int 0, .long 0, .int (-1), .int 0, .int 0, .ref a6, .int 0, .ref a7, .ref a8, .int 0, .ref a9, .ref a10, .int 0, .int 0, .ref a11, .ref a12, .int 0, .ref a13, .ref a14, .int 0, .long 0, .long 0, .int 0, .int 0, .int 0, .int 0, .int 0, .ref a15, .int 0, .int 0, .ref a16, .int 0, .ref a17, .ref a18, .ref a19, .int 0, .ref a20, .ref a21, .long 0, .ref a22, .int 0])), (a5, .inl (G.2 0, 400, .inl (fun _ => 0)))]) [0, 1] rfl
    have hDc := hD.sub (ws' := [(a0, .inr (12, [.int 0, .int 0, .ref a1, .ref a2, .ref a3, .ref a4, .int 0, .ref a5, .int 0, .int 0, .int 0, .int 0, .long 0, .int (-1), .int 0, .int 0, .ref a6, .int 0, .ref a7, .ref a8, .int 0, .ref a9, .ref a10, .int 0, .int 0, .ref a11, .ref a12, .int 0, .ref a13, .ref a14, .int 0, .long 0, .long 0, .int 0, .int 0, .int 0, .int 0, .int 0, .ref a15, .int 0, .int 0, .ref a16, .int 0, .ref a17, .ref a18, .ref a19, .int 0, .ref a20, .ref a21, .long 0, .ref a22, .int 0])), (a5, .inl (G.2 0, 400, .inl (fun _ => 0)))]) [0, 1] (by decide) rfl
    have hFc := va_free (wc := [(a0, .inr (12, [.int 0, .int 0, .ref a1, .ref a2, .ref a3, .ref a4, .int 0, .ref a5, .int 0, .int 0, .int 0, .int 0, .long 0, .int (-1), .int 0, .int 0, .ref a6, .int 0, .ref a7, .ref a8, .int 0, .ref a9, .ref a10, .int 0, .int 0, .ref a11, .ref a12, .int 0, .ref a13, .ref a14, .int 0, .long 0, .long 0, .int 0, .int 0, .int 0, .int 0, .int 0, .ref a15, .int 0, .int 0, .ref a16, .int 0, .ref a17, .ref a18, .ref a19, .int 0, .ref a20, .ref a21, .long 0, .ref a22, .int 0])), (a5, .inl (G.2 0, 400, .inl (fun _ => 0)))]) hD hS hA [0, 1] rfl
    refine va_callv (va_runV (As := [.int n0]) (rest := []) ⟨hx, hb, hml, hown, hts⟩ (kX12_four l G a0 a1 a2 a3 a4 a5 a6 a7 a8 a9 a10 a11 a12 a13 a14 a15 a16 a17 a18 a19 a20 a21 a22 H.size n0) (cwV 1 hts gV_X12_198 rfl rfl rfl hv_X12_four ⟨Nat.le_of_ble_eq_true rfl, Nat.le_of_ble_eq_true rfl⟩) (g5_preV hPc hK hDc hN hT hS hFc (ci := 12) (q0 := 0) rfl rfl) rfl rfl hl.1 rfl (lv_room (Nat.le_of_ble_eq_true rfl)) dX12_feed_22 ⟨Nat.le_of_ble_eq_true rfl, Nat.le_of_ble_eq_true rfl⟩) hS (fun q _ h => hFc q h) hFc (fun u t H1 locs ht hvm hw hB hz1 hk1 hS => ?_)
    obtain ⟨hP1, hD1⟩ := hB
    rw [ht] at hP1
    obtain rfl := hw
    obtain ⟨hP, hD⟩ := va_join (wr := []) (w1 := [(a0, .inr (12, [.int 0, .int 0, .ref a1, .ref a2, .ref a3, .ref a4, .int 0, .ref a5, .int 4, .int 0, .int 0, .int 0, .long 0, .int (-1), .int 0, .int 0, .ref a6, .int 0, .ref a7, .ref a8, .int 0, .ref a9, .ref a10, .int 0, .int 0, .ref a11, .ref a12, .int 0, .ref a13, .ref a14, .int 0, .long 0, .long 0, .int 0, .int 0, .int 0, .int 0, .int 0, .ref a15, .int 0, .int 0, .ref a16, .int 0, .ref a17, .ref a18, .ref a19, .int 0, .ref a20, .ref a21, .long 0, .ref a22, .int 0])), (a5, .inl (G.2 0, 400, .inl (upd (upd (upd (upd (fun _ => 0) 0 ((n0 >>> (24 &&& 31)) &&& 255)) 1 ((n0 >>> (16 &&& 31)) &&& 255)) 2 ((n0 >>> (8 &&& 31)) &&& 255)) 3 ((n0 >>> (0 &&& 31)) &&& 255))))]) hP hD [0, 1] [] rfl rfl (by decide) (by decide) hk1 hFc hP1 hD1
    generalize H1 = H at hP hS ⊢
    have hP : va_P G.1 vwCl [(a0, .inr (12, [.int 0, .int 0, .ref a1, .ref a2, .ref a3, .ref a4, .int 0, .ref a5, .int 4, .int 0, .int 0, .int 0, .long 0, .int (-1), .int 0, .int 0, .ref a6, .int 0, .ref a7, .ref a8, .int 0, .ref a9, .ref a10, .int 0, .int 0, .ref a11, .ref a12, .int 0, .ref a13, .ref a14, .int 0, .long 0, .long 0, .int 0, .int 0, .int 0, .int 0, .int 0, .ref a15, .int 0, .int 0, .ref a16, .int 0, .ref a17, .ref a18, .ref a19, .int 0, .ref a20, .ref a21, .long 0, .ref a22, .int 0])), (a5, .inl (G.2 0, 400, .inl (upd (upd (upd (upd (fun _ => 0) 0 ((n0 >>> (24 &&& 31)) &&& 255)) 1 ((n0 >>> (16 &&& 31)) &&& 255)) 2 ((n0 >>> (8 &&& 31)) &&& 255)) 3 ((n0 >>> (0 &&& 31)) &&& 255))))] H := hP
    have hD : va_D A [(a0, .inr (12, [.int 0, .int 0, .ref a1, .ref a2, .ref a3, .ref a4, .int 0, .ref a5, .int 4, .int 0, .int 0, .int 0, .long 0, .int (-1), .int 0, .int 0, .ref a6, .int 0, .ref a7, .ref a8, .int 0, .ref a9, .ref a10, .int 0, .int 0, .ref a11, .ref a12, .int 0, .ref a13, .ref a14, .int 0, .long 0, .long 0, .int 0, .int 0, .int 0, .int 0, .int 0, .ref a15, .int 0, .int 0, .ref a16, .int 0, .ref a17, .ref a18, .ref a19, .int 0, .ref a20, .ref a21, .long 0, .ref a22, .int 0])), (a5, .inl (G.2 0, 400, .inl (upd (upd (upd (upd (fun _ => 0) 0 ((n0 >>> (24 &&& 31)) &&& 255)) 1 ((n0 >>> (16 &&& 31)) &&& 255)) 2 ((n0 >>> (8 &&& 31)) &&& 255)) 3 ((n0 >>> (0 &&& 31)) &&& 255))))] := hD
    refine lv_aload_n hx hb dX12_feed_25 rfl (lv_at hl 0 rfl) ?_
    refine lv_iload_n hx hb dX12_feed_26 rfl (lv_at hl 2 rfl) ?_
    have hPc := hP.sub (ws' := [(a0, .inr (12, [.int 0, .int 0, .ref a1, .ref a2, .ref a3, .ref a4, .int 0, .ref a5, .int 4, .int 0, .int 0, .int 0, .long 0, .int (-1), .int 0, .int 0, .ref a6, .int 0, .ref a7, .ref a8, .int 0, .ref a9, .ref a10, .int 0, .int 0, .ref a11, .ref a12, .int 0, .ref a13, .ref a14, .int 0, .long 0, .long 0, .int 0, .int 0, .int 0, .int 0, .int 0, .ref a15, .int 0, .int 0, .ref a16, .int 0, .ref a17, .ref a18, .ref a19, .int 0, .ref a20, .ref a21, .long 0, .ref a22, .int 0])), (a5, .inl (G.2 0, 400, .inl (upd (upd (upd (upd (fun _ => 0) 0 ((n0 >>> (24 &&& 31)) &&& 255)) 1 ((n0 >>> (16 &&& 31)) &&& 255)) 2 ((n0 >>> (8 &&& 31)) &&& 255)) 3 ((n0 >>> (0 &&& 31)) &&& 255))))]) [0, 1] rfl
    have hDc := hD.sub (ws' := [(a0, .inr (12, [.int 0, .int 0, .ref a1, .ref a2, .ref a3, .ref a4, .int 0, .ref a5, .int 4, .int 0, .int 0, .int 0, .long 0, .int (-1), .int 0, .int 0, .ref a6, .int 0, .ref a7, .ref a8, .int 0, .ref a9, .ref a10, .int 0, .int 0, .ref a11, .ref a12, .int 0, .ref a13, .ref a14, .int 0, .long 0, .long 0, .int 0, .int 0, .int 0, .int 0, .int 0, .ref a15, .int 0, .int 0, .ref a16, .int 0, .ref a17, .ref a18, .ref a19, .int 0, .ref a20, .ref a21, .long 0, .ref a22, .int 0])), (a5, .inl (G.2 0, 400, .inl (upd (upd (upd (upd (fun _ => 0) 0 ((n0 >>> (24 &&& 31)) &&& 255)) 1 ((n0 >>> (16 &&& 31)) &&& 255)) 2 ((n0 >>> (8 &&& 31)) &&& 255)) 3 ((n0 >>> (0 &&& 31)) &&& 255))))]) [0, 1] (by decide) rfl
    have hFc := va_free (wc := [(a0, .inr (12, [.int 0, .int 0, .ref a1, .ref a2, .ref a3, .ref a4, .int 0, .ref a5, .int 4, .int 0, .int 0, .int 0, .long 0, .int (-1), .int 0, .int 0, .ref a6, .int 0, .ref a7, .ref a8, .int 0, .ref a9, .ref a10, .int 0, .int 0, .ref a11, .ref a12, .int 0, .ref a13, .ref a14, .int 0, .long 0, .long 0, .int 0, .int 0, .int 0, .int 0, .int 0, .ref a15, .int 0, .int 0, .ref a16, .int 0, .ref a17, .ref a18, .ref a19, .int 0, .ref a20, .ref a21, .long 0, .ref a22, .int 0])), (a5, .inl (G.2 0, 400, .inl (upd (upd (upd (upd (fun _ => 0) 0 ((n0 >>> (24 &&& 31)) &&& 255)) 1 ((n0 >>> (16 &&& 31)) &&& 255)) 2 ((n0 >>> (8 &&& 31)) &&& 255)) 3 ((n0 >>> (0 &&& 31)) &&& 255))))]) hD hS hA [0, 1] rfl
    refine va_callv (va_runV (As := [.int n1]) (rest := []) ⟨hx, hb, hml, hown, hts⟩ (kX12_four_2 l G a0 a1 a2 a3 a4 a5 a6 a7 a8 a9 a10 a11 a12 a13 a14 a15 a16 a17 a18 a19 a20 a21 a22 H.size n1 ((n0 >>> (24 &&& 31)) &&& 255) ((n0 >>> (16 &&& 31)) &&& 255) ((n0 >>> (8 &&& 31)) &&& 255) ((n0 >>> (0 &&& 31)) &&& 255)) (cwV 1 hts gV_X12_198 rfl rfl rfl hv_X12_four ⟨Nat.le_of_ble_eq_true rfl, Nat.le_of_ble_eq_true rfl⟩) (g5_preV hPc hK hDc hN hT hS hFc (ci := 12) (q0 := 0) rfl rfl) rfl rfl hl.1 rfl (lv_room (Nat.le_of_ble_eq_true rfl)) dX12_feed_27 ⟨Nat.le_of_ble_eq_true rfl, Nat.le_of_ble_eq_true rfl⟩) hS (fun q _ h => hFc q h) hFc (fun u t H1 locs ht hvm hw hB hz1 hk1 hS => ?_)
    obtain ⟨hP1, hD1⟩ := hB
    rw [ht] at hP1
    obtain rfl := hw
    obtain ⟨hP, hD⟩ := va_join (wr := []) (w1 := [(a0, .inr (12, [.int 0, .int 0, .ref a1, .ref a2, .ref a3, .ref a4, .int 0, .ref a5, .int 8, .int 0, .int 0, .int 0, .long 0, .int (-1), .int 0, .int 0, .ref a6, .int 0, .ref a7, .ref a8, .int 0, .ref a9, .ref a10, .int 0, .int 0, .ref a11, .ref a12, .int 0, .ref a13, .ref a14, .int 0, .long 0, .long 0, .int 0, .int 0, .int 0, .int 0, .int 0, .ref a15, .int 0, .int 0, .ref a16, .int 0, .ref a17, .ref a18, .ref a19, .int 0, .ref a20, .ref a21, .long 0, .ref a22, .int 0])), (a5, .inl (G.2 0, 400, .inl (upd (upd (upd (upd (upd (upd (upd (upd (fun _ => 0) 0 ((n0 >>> (24 &&& 31)) &&& 255)) 1 ((n0 >>> (16 &&& 31)) &&& 255)) 2 ((n0 >>> (8 &&& 31)) &&& 255)) 3 ((n0 >>> (0 &&& 31)) &&& 255)) 4 ((n1 >>> (24 &&& 31)) &&& 255)) 5 ((n1 >>> (16 &&& 31)) &&& 255)) 6 ((n1 >>> (8 &&& 31)) &&& 255)) 7 ((n1 >>> (0 &&& 31)) &&& 255))))]) hP hD [0, 1] [] rfl rfl (by decide) (by decide) hk1 hFc hP1 hD1
    generalize H1 = H at hP hS ⊢
    have hP : va_P G.1 vwCl [(a0, .inr (12, [.int 0, .int 0, .ref a1, .ref a2, .ref a3, .ref a4, .int 0, .ref a5, .int 8, .int 0, .int 0, .int 0, .long 0, .int (-1), .int 0, .int 0, .ref a6, .int 0, .ref a7, .ref a8, .int 0, .ref a9, .ref a10, .int 0, .int 0, .ref a11, .ref a12, .int 0, .ref a13, .ref a14, .int 0, .long 0, .long 0, .int 0, .int 0, .int 0, .int 0, .int 0, .ref a15, .int 0, .int 0, .ref a16, .int 0, .ref a17, .ref a18, .ref a19, .int 0, .ref a20, .ref a21, .long 0, .ref a22, .int 0])), (a5, .inl (G.2 0, 400, .inl (upd (upd (upd (upd (upd (upd (upd (upd (fun _ => 0) 0 ((n0 >>> (24 &&& 31)) &&& 255)) 1 ((n0 >>> (16 &&& 31)) &&& 255)) 2 ((n0 >>> (8 &&& 31)) &&& 255)) 3 ((n0 >>> (0 &&& 31)) &&& 255)) 4 ((n1 >>> (24 &&& 31)) &&& 255)) 5 ((n1 >>> (16 &&& 31)) &&& 255)) 6 ((n1 >>> (8 &&& 31)) &&& 255)) 7 ((n1 >>> (0 &&& 31)) &&& 255))))] H := hP
    have hD : va_D A [(a0, .inr (12, [.int 0, .int 0, .ref a1, .ref a2, .ref a3, .ref a4, .int 0, .ref a5, .int 8, .int 0, .int 0, .int 0, .long 0, .int (-1), .int 0, .int 0, .ref a6, .int 0, .ref a7, .ref a8, .int 0, .ref a9, .ref a10, .int 0, .int 0, .ref a11, .ref a12, .int 0, .ref a13, .ref a14, .int 0, .long 0, .long 0, .int 0, .int 0, .int 0, .int 0, .int 0, .ref a15, .int 0, .int 0, .ref a16, .int 0, .ref a17, .ref a18, .ref a19, .int 0, .ref a20, .ref a21, .long 0, .ref a22, .int 0])), (a5, .inl (G.2 0, 400, .inl (upd (upd (upd (upd (upd (upd (upd (upd (fun _ => 0) 0 ((n0 >>> (24 &&& 31)) &&& 255)) 1 ((n0 >>> (16 &&& 31)) &&& 255)) 2 ((n0 >>> (8 &&& 31)) &&& 255)) 3 ((n0 >>> (0 &&& 31)) &&& 255)) 4 ((n1 >>> (24 &&& 31)) &&& 255)) 5 ((n1 >>> (16 &&& 31)) &&& 255)) 6 ((n1 >>> (8 &&& 31)) &&& 255)) 7 ((n1 >>> (0 &&& 31)) &&& 255))))] := hD
    refine lv_aload_n hx hb dX12_feed_30 rfl (lv_at hl 0 rfl) ?_
    refine lv_iload_n hx hb dX12_feed_31 rfl (lv_at hl 3 rfl) ?_
    have hPc := hP.sub (ws' := [(a0, .inr (12, [.int 0, .int 0, .ref a1, .ref a2, .ref a3, .ref a4, .int 0, .ref a5, .int 8, .int 0, .int 0, .int 0, .long 0, .int (-1), .int 0, .int 0, .ref a6, .int 0, .ref a7, .ref a8, .int 0, .ref a9, .ref a10, .int 0, .int 0, .ref a11, .ref a12, .int 0, .ref a13, .ref a14, .int 0, .long 0, .long 0, .int 0, .int 0, .int 0, .int 0, .int 0, .ref a15, .int 0, .int 0, .ref a16, .int 0, .ref a17, .ref a18, .ref a19, .int 0, .ref a20, .ref a21, .long 0, .ref a22, .int 0])), (a5, .inl (G.2 0, 400, .inl (upd (upd (upd (upd (upd (upd (upd (upd (fun _ => 0) 0 ((n0 >>> (24 &&& 31)) &&& 255)) 1 ((n0 >>> (16 &&& 31)) &&& 255)) 2 ((n0 >>> (8 &&& 31)) &&& 255)) 3 ((n0 >>> (0 &&& 31)) &&& 255)) 4 ((n1 >>> (24 &&& 31)) &&& 255)) 5 ((n1 >>> (16 &&& 31)) &&& 255)) 6 ((n1 >>> (8 &&& 31)) &&& 255)) 7 ((n1 >>> (0 &&& 31)) &&& 255))))]) [0, 1] rfl
    have hDc := hD.sub (ws' := [(a0, .inr (12, [.int 0, .int 0, .ref a1, .ref a2, .ref a3, .ref a4, .int 0, .ref a5, .int 8, .int 0, .int 0, .int 0, .long 0, .int (-1), .int 0, .int 0, .ref a6, .int 0, .ref a7, .ref a8, .int 0, .ref a9, .ref a10, .int 0, .int 0, .ref a11, .ref a12, .int 0, .ref a13, .ref a14, .int 0, .long 0, .long 0, .int 0, .int 0, .int 0, .int 0, .int 0, .ref a15, .int 0, .int 0, .ref a16, .int 0, .ref a17, .ref a18, .ref a19, .int 0, .ref a20, .ref a21, .long 0, .ref a22, .int 0])), (a5, .inl (G.2 0, 400, .inl (upd (upd (upd (upd (upd (upd (upd (upd (fun _ => 0) 0 ((n0 >>> (24 &&& 31)) &&& 255)) 1 ((n0 >>> (16 &&& 31)) &&& 255)) 2 ((n0 >>> (8 &&& 31)) &&& 255)) 3 ((n0 >>> (0 &&& 31)) &&& 255)) 4 ((n1 >>> (24 &&& 31)) &&& 255)) 5 ((n1 >>> (16 &&& 31)) &&& 255)) 6 ((n1 >>> (8 &&& 31)) &&& 255)) 7 ((n1 >>> (0 &&& 31)) &&& 255))))]) [0, 1] (by decide) rfl
    have hFc := va_free (wc := [(a0, .inr (12, [.int 0, .int 0, .ref a1, .ref a2, .ref a3, .ref a4, .int 0, .ref a5, .int 8, .int 0, .int 0, .int 0, .long 0, .int (-1), .int 0, .int 0, .ref a6, .int 0, .ref a7, .ref a8, .int 0, .ref a9, .ref a10, .int 0, .int 0, .ref a11, .ref a12, .int 0, .ref a13, .ref a14, .int 0, .long 0, .long 0, .int 0, .int 0, .int 0, .int 0, .int 0, .ref a15, .int 0, .int 0, .ref a16, .int 0, .ref a17, .ref a18, .ref a19, .int 0, .ref a20, .ref a21, .long 0, .ref a22, .int 0])), (a5, .inl (G.2 0, 400, .inl (upd (upd (upd (upd (upd (upd (upd (upd (fun _ => 0) 0 ((n0 >>> (24 &&& 31)) &&& 255)) 1 ((n0 >>> (16 &&& 31)) &&& 255)) 2 ((n0 >>> (8 &&& 31)) &&& 255)) 3 ((n0 >>> (0 &&& 31)) &&& 255)) 4 ((n1 >>> (24 &&& 31)) &&& 255)) 5 ((n1 >>> (16 &&& 31)) &&& 255)) 6 ((n1 >>> (8 &&& 31)) &&& 255)) 7 ((n1 >>> (0 &&& 31)) &&& 255))))]) hD hS hA [0, 1] rfl
    refine va_callv (va_runV (As := [.int n2]) (rest := []) ⟨hx, hb, hml, hown, hts⟩ (kX12_four_3 l G a0 a1 a2 a3 a4 a5 a6 a7 a8 a9 a10 a11 a12 a13 a14 a15 a16 a17 a18 a19 a20 a21 a22 H.size n2 ((n0 >>> (24 &&& 31)) &&& 255) ((n0 >>> (16 &&& 31)) &&& 255) ((n0 >>> (8 &&& 31)) &&& 255) ((n0 >>> (0 &&& 31)) &&& 255) ((n1 >>> (24 &&& 31)) &&& 255) ((n1 >>> (16 &&& 31)) &&& 255) ((n1 >>> (8 &&& 31)) &&& 255) ((n1 >>> (0 &&& 31)) &&& 255)) (cwV 1 hts gV_X12_198 rfl rfl rfl hv_X12_four ⟨Nat.le_of_ble_eq_true rfl, Nat.le_of_ble_eq_true rfl⟩) (g5_preV hPc hK hDc hN hT hS hFc (ci := 12) (q0 := 0) rfl rfl) rfl rfl hl.1 rfl (lv_room (Nat.le_of_ble_eq_true rfl)) dX12_feed_32 ⟨Nat.le_of_ble_eq_true rfl, Nat.le_of_ble_eq_true rfl⟩) hS (fun q _ h => hFc q h) hFc (fun u t H1 locs ht hvm hw hB hz1 hk1 hS => ?_)
    obtain ⟨hP1, hD1⟩ := hB
    rw [ht] at hP1
    obtain rfl := hw
    obtain ⟨hP, hD⟩ := va_join (wr := []) (w1 := [(a0, .inr (12, [.int 0, .int 0, .ref a1, .ref a2, .ref a3, .ref a4, .int 0, .ref a5, .int 12, .int 0, .int 0, .int 0, .long 0, .int (-1), .int 0, .int 0, .ref a6, .int 0, .ref a7, .ref a8, .int 0, .ref a9, .ref a10, .int 0, .int 0, .ref a11, .ref a12, .int 0, .ref a13, .ref a14, .int 0, .long 0, .long 0, .int 0, .int 0, .int 0, .int 0, .int 0, .ref a15, .int 0, .int 0, .ref a16, .int 0, .ref a17, .ref a18, .ref a19, .int 0, .ref a20, .ref a21, .long 0, .ref a22, .int 0])), (a5, .inl (G.2 0, 400, .inl (upd (upd (upd (upd (upd (upd (upd (upd (upd (upd (upd (upd (fun _ => 0) 0 ((n0 >>> (24 &&& 31)) &&& 255)) 1 ((n0 >>> (16 &&& 31)) &&& 255)) 2 ((n0 >>> (8 &&& 31)) &&& 255)) 3 ((n0 >>> (0 &&& 31)) &&& 255)) 4 ((n1 >>> (24 &&& 31)) &&& 255)) 5 ((n1 >>> (16 &&& 31)) &&& 255)) 6 ((n1 >>> (8 &&& 31)) &&& 255)) 7 ((n1 >>> (0 &&& 31)) &&& 255)) 8 ((n2 >>> (24 &&& 31)) &&& 255)) 9 ((n2 >>> (16 &&& 31)) &&& 255)) 10 ((n2 >>> (8 &&& 31)) &&& 255)) 11 ((n2 >>> (0 &&& 31)) &&& 255))))]) hP hD [0, 1] [] rfl rfl (by decide) (by decide) hk1 hFc hP1 hD1
    generalize H1 = H at hP hS ⊢
    have hP : va_P G.1 vwCl [(a0, .inr (12, [.int 0, .int 0, .ref a1, .ref a2, .ref a3, .ref a4, .int 0, .ref a5, .int 12, .int 0, .int 0, .int 0, .long 0, .int (-1), .int 0, .int 0, .ref a6, .int 0, .ref a7, .ref a8, .int 0, .ref a9, .ref a10, .int 0, .int 0, .ref a11, .ref a12, .int 0, .ref a13, .ref a14, .int 0, .long 0, .long 0, .int 0, .int 0, .int 0, .int 0, .int 0, .ref a15, .int 0, .int 0, .ref a16, .int 0, .ref a17, .ref a18, .ref a19, .int 0, .ref a20, .ref a21, .long 0, .ref a22, .int 0])), (a5, .inl (G.2 0, 400, .inl (upd (upd (upd (upd (upd (upd (upd (upd (upd (upd (upd (upd (fun _ => 0) 0 ((n0 >>> (24 &&& 31)) &&& 255)) 1 ((n0 >>> (16 &&& 31)) &&& 255)) 2 ((n0 >>> (8 &&& 31)) &&& 255)) 3 ((n0 >>> (0 &&& 31)) &&& 255)) 4 ((n1 >>> (24 &&& 31)) &&& 255)) 5 ((n1 >>> (16 &&& 31)) &&& 255)) 6 ((n1 >>> (8 &&& 31)) &&& 255)) 7 ((n1 >>> (0 &&& 31)) &&& 255)) 8 ((n2 >>> (24 &&& 31)) &&& 255)) 9 ((n2 >>> (16 &&& 31)) &&& 255)) 10 ((n2 >>> (8 &&& 31)) &&& 255)) 11 ((n2 >>> (0 &&& 31)) &&& 255))))] H := hP
    have hD : va_D A [(a0, .inr (12, [.int 0, .int 0, .ref a1, .ref a2, .ref a3, .ref a4, .int 0, .ref a5, .int 12, .int 0, .int 0, .int 0, .long 0, .int (-1), .int 0, .int 0, .ref a6, .int 0, .ref a7, .ref a8, .int 0, .ref a9, .ref a10, .int 0, .int 0, .ref a11, .ref a12, .int 0, .ref a13, .ref a14, .int 0, .long 0, .long 0, .int 0, .int 0, .int 0, .int 0, .int 0, .ref a15, .int 0, .int 0, .ref a16, .int 0, .ref a17, .ref a18, .ref a19, .int 0, .ref a20, .ref a21, .long 0, .ref a22, .int 0])), (a5, .inl (G.2 0, 400, .inl (upd (upd (upd (upd (upd (upd (upd (upd (upd (upd (upd (upd (fun _ => 0) 0 ((n0 >>> (24 &&& 31)) &&& 255)) 1 ((n0 >>> (16 &&& 31)) &&& 255)) 2 ((n0 >>> (8 &&& 31)) &&& 255)) 3 ((n0 >>> (0 &&& 31)) &&& 255)) 4 ((n1 >>> (24 &&& 31)) &&& 255)) 5 ((n1 >>> (16 &&& 31)) &&& 255)) 6 ((n1 >>> (8 &&& 31)) &&& 255)) 7 ((n1 >>> (0 &&& 31)) &&& 255)) 8 ((n2 >>> (24 &&& 31)) &&& 255)) 9 ((n2 >>> (16 &&& 31)) &&& 255)) 10 ((n2 >>> (8 &&& 31)) &&& 255)) 11 ((n2 >>> (0 &&& 31)) &&& 255))))] := hD
    refine lv_aload_n hx hb dX12_feed_35 rfl (lv_at hl 0 rfl) ?_
    refine lv_iload hx hb dX12_feed_36 (lv_at hl 4 rfl) ?_
    have hPc := hP.sub (ws' := [(a0, .inr (12, [.int 0, .int 0, .ref a1, .ref a2, .ref a3, .ref a4, .int 0, .ref a5, .int 12, .int 0, .int 0, .int 0, .long 0, .int (-1), .int 0, .int 0, .ref a6, .int 0, .ref a7, .ref a8, .int 0, .ref a9, .ref a10, .int 0, .int 0, .ref a11, .ref a12, .int 0, .ref a13, .ref a14, .int 0, .long 0, .long 0, .int 0, .int 0, .int 0, .int 0, .int 0, .ref a15, .int 0, .int 0, .ref a16, .int 0, .ref a17, .ref a18, .ref a19, .int 0, .ref a20, .ref a21, .long 0, .ref a22, .int 0])), (a5, .inl (G.2 0, 400, .inl (upd (upd (upd (upd (upd (upd (upd (upd (upd (upd (upd (upd (fun _ => 0) 0 ((n0 >>> (24 &&& 31)) &&& 255)) 1 ((n0 >>> (16 &&& 31)) &&& 255)) 2 ((n0 >>> (8 &&& 31)) &&& 255)) 3 ((n0 >>> (0 &&& 31)) &&& 255)) 4 ((n1 >>> (24 &&& 31)) &&& 255)) 5 ((n1 >>> (16 &&& 31)) &&& 255)) 6 ((n1 >>> (8 &&& 31)) &&& 255)) 7 ((n1 >>> (0 &&& 31)) &&& 255)) 8 ((n2 >>> (24 &&& 31)) &&& 255)) 9 ((n2 >>> (16 &&& 31)) &&& 255)) 10 ((n2 >>> (8 &&& 31)) &&& 255)) 11 ((n2 >>> (0 &&& 31)) &&& 255))))]) [0, 1] rfl
    have hDc := hD.sub (ws' := [(a0, .inr (12, [.int 0, .int 0, .ref a1, .ref a2, .ref a3, .ref a4, .int 0, .ref a5, .int 12, .int 0, .int 0, .int 0, .long 0, .int (-1), .int 0, .int 0, .ref a6, .int 0, .ref a7, .ref a8, .int 0, .ref a9, .ref a10, .int 0, .int 0, .ref a11, .ref a12, .int 0, .ref a13, .ref a14, .int 0, .long 0, .long 0, .int 0, .int 0, .int 0, .int 0, .int 0, .ref a15, .int 0, .int 0, .ref a16, .int 0, .ref a17, .ref a18, .ref a19, .int 0, .ref a20, .ref a21, .long 0, .ref a22, .int 0])), (a5, .inl (G.2 0, 400, .inl (upd (upd (upd (upd (upd (upd (upd (upd (upd (upd (upd (upd (fun _ => 0) 0 ((n0 >>> (24 &&& 31)) &&& 255)) 1 ((n0 >>> (16 &&& 31)) &&& 255)) 2 ((n0 >>> (8 &&& 31)) &&& 255)) 3 ((n0 >>> (0 &&& 31)) &&& 255)) 4 ((n1 >>> (24 &&& 31)) &&& 255)) 5 ((n1 >>> (16 &&& 31)) &&& 255)) 6 ((n1 >>> (8 &&& 31)) &&& 255)) 7 ((n1 >>> (0 &&& 31)) &&& 255)) 8 ((n2 >>> (24 &&& 31)) &&& 255)) 9 ((n2 >>> (16 &&& 31)) &&& 255)) 10 ((n2 >>> (8 &&& 31)) &&& 255)) 11 ((n2 >>> (0 &&& 31)) &&& 255))))]) [0, 1] (by decide) rfl
    have hFc := va_free (wc := [(a0, .inr (12, [.int 0, .int 0, .ref a1, .ref a2, .ref a3, .ref a4, .int 0, .ref a5, .int 12, .int 0, .int 0, .int 0, .long 0, .int (-1), .int 0, .int 0, .ref a6, .int 0, .ref a7, .ref a8, .int 0, .ref a9, .ref a10, .int 0, .int 0, .ref a11, .ref a12, .int 0, .ref a13, .ref a14, .int 0, .long 0, .long 0, .int 0, .int 0, .int 0, .int 0, .int 0, .ref a15, .int 0, .int 0, .ref a16, .int 0, .ref a17, .ref a18, .ref a19, .int 0, .ref a20, .ref a21, .long 0, .ref a22, .int 0])), (a5, .inl (G.2 0, 400, .inl (upd (upd (upd (upd (upd (upd (upd (upd (upd (upd (upd (upd (fun _ => 0) 0 ((n0 >>> (24 &&& 31)) &&& 255)) 1 ((n0 >>> (16 &&& 31)) &&& 255)) 2 ((n0 >>> (8 &&& 31)) &&& 255)) 3 ((n0 >>> (0 &&& 31)) &&& 255)) 4 ((n1 >>> (24 &&& 31)) &&& 255)) 5 ((n1 >>> (16 &&& 31)) &&& 255)) 6 ((n1 >>> (8 &&& 31)) &&& 255)) 7 ((n1 >>> (0 &&& 31)) &&& 255)) 8 ((n2 >>> (24 &&& 31)) &&& 255)) 9 ((n2 >>> (16 &&& 31)) &&& 255)) 10 ((n2 >>> (8 &&& 31)) &&& 255)) 11 ((n2 >>> (0 &&& 31)) &&& 255))))]) hD hS hA [0, 1] rfl
    refine va_callv (va_runV (As := [.int n3]) (rest := []) ⟨hx, hb, hml, hown, hts⟩ (kX12_four_4 l G a0 a1 a2 a3 a4 a5 a6 a7 a8 a9 a10 a11 a12 a13 a14 a15 a16 a17 a18 a19 a20 a21 a22 H.size n3 ((n0 >>> (24 &&& 31)) &&& 255) ((n0 >>> (16 &&& 31)) &&& 255) ((n0 >>> (8 &&& 31)) &&& 255) ((n0 >>> (0 &&& 31)) &&& 255) ((n1 >>> (24 &&& 31)) &&& 255) ((n1 >>> (16 &&& 31)) &&& 255) ((n1 >>> (8 &&& 31)) &&& 255) ((n1 >>> (0 &&& 31)) &&& 255) ((n2 >>> (24 &&& 31)) &&& 255) ((n2 >>> (16 &&& 31)) &&& 255) ((n2 >>> (8 &&& 31)) &&& 255) ((n2 >>> (0 &&& 31)) &&& 255)) (cwV 1 hts gV_X12_198 rfl rfl rfl hv_X12_four ⟨Nat.le_of_ble_eq_true rfl, Nat.le_of_ble_eq_true rfl⟩) (g5_preV hPc hK hDc hN hT hS hFc (ci := 12) (q0 := 0) rfl rfl) rfl rfl hl.1 rfl (lv_room (Nat.le_of_ble_eq_true rfl)) dX12_feed_38 ⟨Nat.le_of_ble_eq_true rfl, Nat.le_of_ble_eq_true rfl⟩) hS (fun q _ h => hFc q h) hFc (fun u t H1 locs ht hvm hw hB hz1 hk1 hS => ?_)
    obtain ⟨hP1, hD1⟩ := hB
    rw [ht] at hP1
    obtain rfl := hw
    obtain ⟨hP, hD⟩ := va_join (wr := []) (w1 := [(a0, .inr (12, [.int 0, .int 0, .ref a1, .ref a2, .ref a3, .ref a4, .int 0, .ref a5, .int 16, .int 0, .int 0, .int 0, .long 0, .int (-1), .int 0, .int 0, .ref a6, .int 0, .ref a7, .ref a8, .int 0, .ref a9, .ref a10, .int 0, .int 0, .ref a11, .ref a12, .int 0, .ref a13, .ref a14, .int 0, .long 0, .long 0, .int 0, .int 0, .int 0, .int 0, .int 0, .ref a15, .int 0, .int 0, .ref a16, .int 0, .ref a17, .ref a18, .ref a19, .int 0, .ref a20, .ref a21, .long 0, .ref a22, .int 0])), (a5, .inl (G.2 0, 400, .inl (upd (upd (upd (upd (upd (upd (upd (upd (upd (upd (upd (upd (upd (upd (upd (upd (fun _ => 0) 0 ((n0 >>> (24 &&& 31)) &&& 255)) 1 ((n0 >>> (16 &&& 31)) &&& 255)) 2 ((n0 >>> (8 &&& 31)) &&& 255)) 3 ((n0 >>> (0 &&& 31)) &&& 255)) 4 ((n1 >>> (24 &&& 31)) &&& 255)) 5 ((n1 >>> (16 &&& 31)) &&& 255)) 6 ((n1 >>> (8 &&& 31)) &&& 255)) 7 ((n1 >>> (0 &&& 31)) &&& 255)) 8 ((n2 >>> (24 &&& 31)) &&& 255)) 9 ((n2 >>> (16 &&& 31)) &&& 255)) 10 ((n2 >>> (8 &&& 31)) &&& 255)) 11 ((n2 >>> (0 &&& 31)) &&& 255)) 12 ((n3 >>> (24 &&& 31)) &&& 255)) 13 ((n3 >>> (16 &&& 31)) &&& 255)) 14 ((n3 >>> (8 &&& 31)) &&& 255)) 15 ((n3 >>> (0 &&& 31)) &&& 255))))]) hP hD [0, 1] [] rfl rfl (by decide) (by decide) hk1 hFc hP1 hD1
    generalize H1 = H at hP hS ⊢
    have hP : va_P G.1 vwCl [(a0, .inr (12, [.int 0, .int 0, .ref a1, .ref a2, .ref a3, .ref a4, .int 0, .ref a5, .int 16, .int 0, .int 0, .int 0, .long 0, .int (-1), .int 0, .int 0, .ref a6, .int 0, .ref a7, .ref a8, .int 0, .ref a9, .ref a10, .int 0, .int 0, .ref a11, .ref a12, .int 0, .ref a13, .ref a14, .int 0, .long 0, .long 0, .int 0, .int 0, .int 0, .int 0, .int 0, .ref a15, .int 0, .int 0, .ref a16, .int 0, .ref a17, .ref a18, .ref a19, .int 0, .ref a20, .ref a21, .long 0, .ref a22, .int 0])), (a5, .inl (G.2 0, 400, .inl (upd (upd (upd (upd (upd (upd (upd (upd (upd (upd (upd (upd (upd (upd (upd (upd (fun _ => 0) 0 ((n0 >>> (24 &&& 31)) &&& 255)) 1 ((n0 >>> (16 &&& 31)) &&& 255)) 2 ((n0 >>> (8 &&& 31)) &&& 255)) 3 ((n0 >>> (0 &&& 31)) &&& 255)) 4 ((n1 >>> (24 &&& 31)) &&& 255)) 5 ((n1 >>> (16 &&& 31)) &&& 255)) 6 ((n1 >>> (8 &&& 31)) &&& 255)) 7 ((n1 >>> (0 &&& 31)) &&& 255)) 8 ((n2 >>> (24 &&& 31)) &&& 255)) 9 ((n2 >>> (16 &&& 31)) &&& 255)) 10 ((n2 >>> (8 &&& 31)) &&& 255)) 11 ((n2 >>> (0 &&& 31)) &&& 255)) 12 ((n3 >>> (24 &&& 31)) &&& 255)) 13 ((n3 >>> (16 &&& 31)) &&& 255)) 14 ((n3 >>> (8 &&& 31)) &&& 255)) 15 ((n3 >>> (0 &&& 31)) &&& 255))))] H := hP
    have hD : va_D A [(a0, .inr (12, [.int 0, .int 0, .ref a1, .ref a2, .ref a3, .ref a4, .int 0, .ref a5, .int 16, .int 0, .int 0, .int 0, .long 0, .int (-1), .int 0, .int 0, .ref a6, .int 0, .ref a7, .ref a8, .int 0, .ref a9, .ref a10, .int 0, .int 0, .ref a11, .ref a12, .int 0, .ref a13, .ref a14, .int 0, .long 0, .long 0, .int 0, .int 0, .int 0, .int 0, .int 0, .ref a15, .int 0, .int 0, .ref a16, .int 0, .ref a17, .ref a18, .ref a19, .int 0, .ref a20, .ref a21, .long 0, .ref a22, .int 0])), (a5, .inl (G.2 0, 400, .inl (upd (upd (upd (upd (upd (upd (upd (upd (upd (upd (upd (upd (upd (upd (upd (upd (fun _ => 0) 0 ((n0 >>> (24 &&& 31)) &&& 255)) 1 ((n0 >>> (16 &&& 31)) &&& 255)) 2 ((n0 >>> (8 &&& 31)) &&& 255)) 3 ((n0 >>> (0 &&& 31)) &&& 255)) 4 ((n1 >>> (24 &&& 31)) &&& 255)) 5 ((n1 >>> (16 &&& 31)) &&& 255)) 6 ((n1 >>> (8 &&& 31)) &&& 255)) 7 ((n1 >>> (0 &&& 31)) &&& 255)) 8 ((n2 >>> (24 &&& 31)) &&& 255)) 9 ((n2 >>> (16 &&& 31)) &&& 255)) 10 ((n2 >>> (8 &&& 31)) &&& 255)) 11 ((n2 >>> (0 &&& 31)) &&& 255)) 12 ((n3 >>> (24 &&& 31)) &&& 255)) 13 ((n3 >>> (16 &&& 31)) &&& 255)) 14 ((n3 >>> (8 &&& 31)) &&& 255)) 15 ((n3 >>> (0 &&& 31)) &&& 255))))] := hD
    refine lv_aload_n hx hb dX12_feed_41 rfl (lv_at hl 0 rfl) ?_
    refine lv_iload hx hb dX12_feed_42 (lv_at hl 5 rfl) ?_
    have hPc := hP.sub (ws' := [(a0, .inr (12, [.int 0, .int 0, .ref a1, .ref a2, .ref a3, .ref a4, .int 0, .ref a5, .int 16, .int 0, .int 0, .int 0, .long 0, .int (-1), .int 0, .int 0, .ref a6, .int 0, .ref a7, .ref a8, .int 0, .ref a9, .ref a10, .int 0, .int 0, .ref a11, .ref a12, .int 0, .ref a13, .ref a14, .int 0, .long 0, .long 0, .int 0, .int 0, .int 0, .int 0, .int 0, .ref a15, .int 0, .int 0, .ref a16, .int 0, .ref a17, .ref a18, .ref a19, .int 0, .ref a20, .ref a21, .long 0, .ref a22, .int 0])), (a5, .inl (G.2 0, 400, .inl (upd (upd (upd (upd (upd (upd (upd (upd (upd (upd (upd (upd (upd (upd (upd (upd (fun _ => 0) 0 ((n0 >>> (24 &&& 31)) &&& 255)) 1 ((n0 >>> (16 &&& 31)) &&& 255)) 2 ((n0 >>> (8 &&& 31)) &&& 255)) 3 ((n0 >>> (0 &&& 31)) &&& 255)) 4 ((n1 >>> (24 &&& 31)) &&& 255)) 5 ((n1 >>> (16 &&& 31)) &&& 255)) 6 ((n1 >>> (8 &&& 31)) &&& 255)) 7 ((n1 >>> (0 &&& 31)) &&& 255)) 8 ((n2 >>> (24 &&& 31)) &&& 255)) 9 ((n2 >>> (16 &&& 31)) &&& 255)) 10 ((n2 >>> (8 &&& 31)) &&& 255)) 11 ((n2 >>> (0 &&& 31)) &&& 255)) 12 ((n3 >>> (24 &&& 31)) &&& 255)) 13 ((n3 >>> (16 &&& 31)) &&& 255)) 14 ((n3 >>> (8 &&& 31)) &&& 255)) 15 ((n3 >>> (0 &&& 31)) &&& 255))))]) [0, 1] rfl
    have hDc := hD.sub (ws' := [(a0, .inr (12, [.int 0, .int 0, .ref a1, .ref a2, .ref a3, .ref a4, .int 0, .ref a5, .int 16, .int 0, .int 0, .int 0, .long 0, .int (-1), .int 0, .int 0, .ref a6, .int 0, .ref a7, .ref a8, .int 0, .ref a9, .ref a10, .int 0, .int 0, .ref a11, .ref a12, .int 0, .ref a13, .ref a14, .int 0, .long 0, .long 0, .int 0, .int 0, .int 0, .int 0, .int 0, .ref a15, .int 0, .int 0, .ref a16, .int 0, .ref a17, .ref a18, .ref a19, .int 0, .ref a20, .ref a21, .long 0, .ref a22, .int 0])), (a5, .inl (G.2 0, 400, .inl (upd (upd (upd (upd (upd (upd (upd (upd (upd (upd (upd (upd (upd (upd (upd (upd (fun _ => 0) 0 ((n0 >>> (24 &&& 31)) &&& 255)) 1 ((n0 >>> (16 &&& 31)) &&& 255)) 2 ((n0 >>> (8 &&& 31)) &&& 255)) 3 ((n0 >>> (0 &&& 31)) &&& 255)) 4 ((n1 >>> (24 &&& 31)) &&& 255)) 5 ((n1 >>> (16 &&& 31)) &&& 255)) 6 ((n1 >>> (8 &&& 31)) &&& 255)) 7 ((n1 >>> (0 &&& 31)) &&& 255)) 8 ((n2 >>> (24 &&& 31)) &&& 255)) 9 ((n2 >>> (16 &&& 31)) &&& 255)) 10 ((n2 >>> (8 &&& 31)) &&& 255)) 11 ((n2 >>> (0 &&& 31)) &&& 255)) 12 ((n3 >>> (24 &&& 31)) &&& 255)) 13 ((n3 >>> (16 &&& 31)) &&& 255)) 14 ((n3 >>> (8 &&& 31)) &&& 255)) 15 ((n3 >>> (0 &&& 31)) &&& 255))))]) [0, 1] (by decide) rfl
    have hFc := va_free (wc := [(a0, .inr (12, [.int 0, .int 0, .ref a1, .ref a2, .ref a3, .ref a4, .int 0, .ref a5, .int 16, .int 0, .int 0, .int 0, .long 0, .int (-1), .int 0, .int 0, .ref a6, .int 0, .ref a7, .ref a8, .int 0, .ref a9, .ref a10, .int 0, .int 0, .ref a11, .ref a12, .int 0, .ref a13, .ref a14, .int 0, .long 0, .long 0, .int 0, .int 0, .int 0, .int 0, .int 0, .ref a15, .int 0, .int 0, .ref a16, .int 0, .ref a17, .ref a18, .ref a19, .int 0, .ref a20, .ref a21, .long 0, .ref a22, .int 0])), (a5, .inl (G.2 0, 400, .inl (upd (upd (upd (upd (upd (upd (upd (upd (upd (upd (upd (upd (upd (upd (upd (upd (fun _ => 0) 0 ((n0 >>> (24 &&& 31)) &&& 255)) 1 ((n0 >>> (16 &&& 31)) &&& 255)) 2 ((n0 >>> (8 &&& 31)) &&& 255)) 3 ((n0 >>> (0 &&& 31)) &&& 255)) 4 ((n1 >>> (24 &&& 31)) &&& 255)) 5 ((n1 >>> (16 &&& 31)) &&& 255)) 6 ((n1 >>> (8 &&& 31)) &&& 255)) 7 ((n1 >>> (0 &&& 31)) &&& 255)) 8 ((n2 >>> (24 &&& 31)) &&& 255)) 9 ((n2 >>> (16 &&& 31)) &&& 255)) 10 ((n2 >>> (8 &&& 31)) &&& 255)) 11 ((n2 >>> (0 &&& 31)) &&& 255)) 12 ((n3 >>> (24 &&& 31)) &&& 255)) 13 ((n3 >>> (16 &&& 31)) &&& 255)) 14 ((n3 >>> (8 &&& 31)) &&& 255)) 15 ((n3 >>> (0 &&& 31)) &&& 255))))]) hD hS hA [0, 1] rfl
    refine va_callv (va_runV (As := [.int n4]) (rest := []) ⟨hx, hb, hml, hown, hts⟩ (kX12_four_5 l G a0 a1 a2 a3 a4 a5 a6 a7 a8 a9 a10 a11 a12 a13 a14 a15 a16 a17 a18 a19 a20 a21 a22 H.size n4 (upd (upd (upd (upd (upd (upd (upd (upd (upd (upd (upd (upd (upd (upd (upd (upd (fun _ => 0) 0 ((n0 >>> (24 &&& 31)) &&& 255)) 1 ((n0 >>> (16 &&& 31)) &&& 255)) 2 ((n0 >>> (8 &&& 31)) &&& 255)) 3 ((n0 >>> (0 &&& 31)) &&& 255)) 4 ((n1 >>> (24 &&& 31)) &&& 255)) 5 ((n1 >>> (16 &&& 31)) &&& 255)) 6 ((n1 >>> (8 &&& 31)) &&& 255)) 7 ((n1 >>> (0 &&& 31)) &&& 255)) 8 ((n2 >>> (24 &&& 31)) &&& 255)) 9 ((n2 >>> (16 &&& 31)) &&& 255)) 10 ((n2 >>> (8 &&& 31)) &&& 255)) 11 ((n2 >>> (0 &&& 31)) &&& 255)) 12 ((n3 >>> (24 &&& 31)) &&& 255)) 13 ((n3 >>> (16 &&& 31)) &&& 255)) 14 ((n3 >>> (8 &&& 31)) &&& 255)) 15 ((n3 >>> (0 &&& 31)) &&& 255))) (cwV 1 hts gV_X12_198 rfl rfl rfl hv_X12_four ⟨Nat.le_of_ble_eq_true rfl, Nat.le_of_ble_eq_true rfl⟩) (g5_preV hPc hK hDc hN hT hS hFc (ci := 12) (q0 := 0) rfl rfl) rfl rfl hl.1 rfl (lv_room (Nat.le_of_ble_eq_true rfl)) dX12_feed_44 ⟨Nat.le_of_ble_eq_true rfl, Nat.le_of_ble_eq_true rfl⟩) hS (fun q _ h => hFc q h) hFc (fun u t H1 locs ht hvm hw hB hz1 hk1 hS => ?_)
    obtain ⟨hP1, hD1⟩ := hB
    rw [ht] at hP1
    obtain rfl := hw
    obtain ⟨hP, hD⟩ := va_join (wr := []) (w1 := [(a0, .inr (12, [.int 0, .int 0, .ref a1, .ref a2, .ref a3, .ref a4, .int 0, .ref a5, .int 20, .int 0, .int 0, .int 0, .long 0, .int (-1), .int 0, .int 0, .ref a6, .int 0, .ref a7, .ref a8, .int 0, .ref a9, .ref a10, .int 0, .int 0, .ref a11, .ref a12, .int 0, .ref a13, .ref a14, .int 0, .long 0, .long 0, .int 0, .int 0, .int 0, .int 0, .int 0, .ref a15, .int 0, .int 0, .ref a16, .int 0, .ref a17, .ref a18, .ref a19, .int 0, .ref a20, .ref a21, .long 0, .ref a22, .int 0])), (a5, .inl (G.2 0, 400, .inl (upd (upd (upd (upd (upd (upd (upd (upd (upd (upd (upd (upd (upd (upd (upd (upd (upd (upd (upd (upd (fun _ => 0) 0 ((n0 >>> (24 &&& 31)) &&& 255)) 1 ((n0 >>> (16 &&& 31)) &&& 255)) 2 ((n0 >>> (8 &&& 31)) &&& 255)) 3 ((n0 >>> (0 &&& 31)) &&& 255)) 4 ((n1 >>> (24 &&& 31)) &&& 255)) 5 ((n1 >>> (16 &&& 31)) &&& 255)) 6 ((n1 >>> (8 &&& 31)) &&& 255)) 7 ((n1 >>> (0 &&& 31)) &&& 255)) 8 ((n2 >>> (24 &&& 31)) &&& 255)) 9 ((n2 >>> (16 &&& 31)) &&& 255)) 10 ((n2 >>> (8 &&& 31)) &&& 255)) 11 ((n2 >>> (0 &&& 31)) &&& 255)) 12 ((n3 >>> (24 &&& 31)) &&& 255)) 13 ((n3 >>> (16 &&& 31)) &&& 255)) 14 ((n3 >>> (8 &&& 31)) &&& 255)) 15 ((n3 >>> (0 &&& 31)) &&& 255)) 16 ((n4 >>> (24 &&& 31)) &&& 255)) 17 ((n4 >>> (16 &&& 31)) &&& 255)) 18 ((n4 >>> (8 &&& 31)) &&& 255)) 19 ((n4 >>> (0 &&& 31)) &&& 255))))]) hP hD [0, 1] [] rfl rfl (by decide) (by decide) hk1 hFc hP1 hD1
    generalize H1 = H at hP hS ⊢
    have hP : va_P G.1 vwCl [(a0, .inr (12, [.int 0, .int 0, .ref a1, .ref a2, .ref a3, .ref a4, .int 0, .ref a5, .int 20, .int 0, .int 0, .int 0, .long 0, .int (-1), .int 0, .int 0, .ref a6, .int 0, .ref a7, .ref a8, .int 0, .ref a9, .ref a10, .int 0, .int 0, .ref a11, .ref a12, .int 0, .ref a13, .ref a14, .int 0, .long 0, .long 0, .int 0, .int 0, .int 0, .int 0, .int 0, .ref a15, .int 0, .int 0, .ref a16, .int 0, .ref a17, .ref a18, .ref a19, .int 0, .ref a20, .ref a21, .long 0, .ref a22, .int 0])), (a5, .inl (G.2 0, 400, .inl (upd (upd (upd (upd (upd (upd (upd (upd (upd (upd (upd (upd (upd (upd (upd (upd (upd (upd (upd (upd (fun _ => 0) 0 ((n0 >>> (24 &&& 31)) &&& 255)) 1 ((n0 >>> (16 &&& 31)) &&& 255)) 2 ((n0 >>> (8 &&& 31)) &&& 255)) 3 ((n0 >>> (0 &&& 31)) &&& 255)) 4 ((n1 >>> (24 &&& 31)) &&& 255)) 5 ((n1 >>> (16 &&& 31)) &&& 255)) 6 ((n1 >>> (8 &&& 31)) &&& 255)) 7 ((n1 >>> (0 &&& 31)) &&& 255)) 8 ((n2 >>> (24 &&& 31)) &&& 255)) 9 ((n2 >>> (16 &&& 31)) &&& 255)) 10 ((n2 >>> (8 &&& 31)) &&& 255)) 11 ((n2 >>> (0 &&& 31)) &&& 255)) 12 ((n3 >>> (24 &&& 31)) &&& 255)) 13 ((n3 >>> (16 &&& 31)) &&& 255)) 14 ((n3 >>> (8 &&& 31)) &&& 255)) 15 ((n3 >>> (0 &&& 31)) &&& 255)) 16 ((n4 >>> (24 &&& 31)) &&& 255)) 17 ((n4 >>> (16 &&& 31)) &&& 255)) 18 ((n4 >>> (8 &&& 31)) &&& 255)) 19 ((n4 >>> (0 &&& 31)) &&& 255))))] H := hP
    have hD : va_D A [(a0, .inr (12, [.int 0, .int 0, .ref a1, .ref a2, .ref a3, .ref a4, .int 0, .ref a5, .int 20, .int 0, .int 0, .int 0, .long 0, .int (-1), .int 0, .int 0, .ref a6, .int 0, .ref a7, .ref a8, .int 0, .ref a9, .ref a10, .int 0, .int 0, .ref a11, .ref a12, .int 0, .ref a13, .ref a14, .int 0, .long 0, .long 0, .int 0, .int 0, .int 0, .int 0, .int 0, .ref a15, .int 0, .int 0, .ref a16, .int 0, .ref a17, .ref a18, .ref a19, .int 0, .ref a20, .ref a21, .long 0, .ref a22, .int 0])), (a5, .inl (G.2 0, 400, .inl (upd (upd (upd (upd (upd (upd (upd (upd (upd (upd (upd (upd (upd (upd (upd (upd (upd (upd (upd (upd (fun _ => 0) 0 ((n0 >>> (24 &&& 31)) &&& 255)) 1 ((n0 >>> (16 &&& 31)) &&& 255)) 2 ((n0 >>> (8 &&& 31)) &&& 255)) 3 ((n0 >>> (0 &&& 31)) &&& 255)) 4 ((n1 >>> (24 &&& 31)) &&& 255)) 5 ((n1 >>> (16 &&& 31)) &&& 255)) 6 ((n1 >>> (8 &&& 31)) &&& 255)) 7 ((n1 >>> (0 &&& 31)) &&& 255)) 8 ((n2 >>> (24 &&& 31)) &&& 255)) 9 ((n2 >>> (16 &&& 31)) &&& 255)) 10 ((n2 >>> (8 &&& 31)) &&& 255)) 11 ((n2 >>> (0 &&& 31)) &&& 255)) 12 ((n3 >>> (24 &&& 31)) &&& 255)) 13 ((n3 >>> (16 &&& 31)) &&& 255)) 14 ((n3 >>> (8 &&& 31)) &&& 255)) 15 ((n3 >>> (0 &&& 31)) &&& 255)) 16 ((n4 >>> (24 &&& 31)) &&& 255)) 17 ((n4 >>> (16 &&& 31)) &&& 255)) 18 ((n4 >>> (8 &&& 31)) &&& 255)) 19 ((n4 >>> (0 &&& 31)) &&& 255))))] := hD
    refine lv_aload_n hx hb dX12_feed_47 rfl (lv_at hl 0 rfl) ?_
    refine va_get (D := G.1) (ci := 12) (v := .int 20) (C := RX12) (T := TX12) (N := 52) hx hb hts inG_X12 hown hK hP 0 rfl rfl 8 (by decide) (hts _ fl_X12_192) (fun _ h9 => h9) rfl dX12_feed_48 ?_
    have hP := hP.sub (ws' := []) [] rfl
    have hD := hD.sub (ws' := []) [] (by decide) rfl
    exact W.iret (v := 20) hx hb hr (fun t ht hW => ⟨⟨20, [], rfl, ⟨rfl, rfl⟩, by rw [ht]; exact hP, hD⟩, hS.F ht⟩) hS.2.2 dX12_feed_51
  ·
    exact absurd c_1 (by decide)
theorem dX12_end_0 : decode cX12_end 0 = .ok (.aload_n 0, 1) := by decide +kernel
theorem dX12_end_1 : decode cX12_end 1 = .ok (.iconst 0, 1) := by decide +kernel
theorem dX12_end_2 : decode cX12_end 2 = .ok (.putfield 107, 3) := by decide +kernel
theorem dX12_end_5 : decode cX12_end 5 = .ok (.iload_n 1, 1) := by decide +kernel
theorem dX12_end_6 : decode cX12_end 6 = .ok (.ifCond .lt 11, 3) := by decide +kernel
theorem dX12_end_9 : decode cX12_end 9 = .ok (.iload_n 1, 1) := by decide +kernel
theorem dX12_end_10 : decode cX12_end 10 = .ok (.aload_n 0, 1) := by decide +kernel
theorem dX12_end_11 : decode cX12_end 11 = .ok (.getfield 192, 3) := by decide +kernel
theorem dX12_end_14 : decode cX12_end 14 = .ok (.if_icmp .le 5, 3) := by decide +kernel
theorem dX12_end_17 : decode cX12_end 17 = .ok (.iconst (-1), 1) := by decide +kernel
theorem dX12_end_18 : decode cX12_end 18 = .ok (.ireturn, 1) := by decide +kernel
theorem dX12_end_19 : decode cX12_end 19 = .ok (.aload_n 0, 1) := by decide +kernel
theorem dX12_end_20 : decode cX12_end 20 = .ok (.iload_n 1, 1) := by decide +kernel
theorem dX12_end_21 : decode cX12_end 21 = .ok (.putfield 192, 3) := by decide +kernel
theorem dX12_end_24 : decode cX12_end 24 = .ok (.iload_n 1, 1) := by decide +kernel
theorem dX12_end_25 : decode cX12_end 25 = .ok (.ireturn, 1) := by decide +kernel
set_option maxHeartbeats 4000000 in
set_option maxRecDepth 100000 in
theorem kX12_end (l : Launch) (G : g5_G) (a0 a1 a2 a3 a4 a5 a6 a7 a8 a9 a10 a11 a12 a13 a14 a15 a16 a17 a18 a19 a20 a21 a22 : Nat) (sz : Nat) (n0 : Int32) : Met l yX12_end (wsG yX12_end cX12_end 2 (some .int)) ({ frames := 0, cells := 0, slots := 0, locals := 0 }) (va_Pc [.ref a0, .int n0] (g5_P G [(a0, .inr (12, [.int 0, .int 0, .ref a1, .ref a2, .ref a3, .ref a4, .int 0, .ref a5, .int 0, .int 0, .int 0, .int 0, .long 0, .int (-1), .int 0, .int 0, .ref a6, .int 0, .ref a7, .ref a8, .int 0, .ref a9, .ref a10, .int 0, .int 0, .ref a11, .ref a12, .int 0, .ref a13, .ref a14, .int 0, .long 0, .long 0, .int 0, .int 0, .int 0, .int 0, .int 0, .ref a15, .int 0, .int 0, .ref a16, .int 0, .ref a17, .ref a18, .ref a19, .int 0, .ref a20, .ref a21, .long 0, .ref a22, .int 0]))] sz)) (va_Qi (fun (r : Int32) (u : va_W) => ((n0.toInt < 0) ∧ (r = (-1)) ∧ (u = [])) ∨ ((n0.toInt ≥ 0) ∧ (n0.toInt ≤ 0) ∧ (r = n0) ∧ (u = [])) ∨ ((n0.toInt ≥ 0) ∧ (n0.toInt > 0) ∧ (r = (-1)) ∧ (u = []))) (g5_B G (va_A [(a0, .inr (12, [.int 0, .int 0, .ref a1, .ref a2, .ref a3, .ref a4, .int 0, .ref a5, .int 0, .int 0, .int 0, .int 0, .long 0, .int (-1), .int 0, .int 0, .ref a6, .int 0, .ref a7, .ref a8, .int 0, .ref a9, .ref a10, .int 0, .int 0, .ref a11, .ref a12, .int 0, .ref a13, .ref a14, .int 0, .long 0, .long 0, .int 0, .int 0, .int 0, .int 0, .int 0, .ref a15, .int 0, .int 0, .ref a16, .int 0, .ref a17, .ref a18, .ref a19, .int 0, .ref a20, .ref a21, .long 0, .ref a22, .int 0]))] sz)) (va_A [(a0, .inr (12, [.int 0, .int 0, .ref a1, .ref a2, .ref a3, .ref a4, .int 0, .ref a5, .int 0, .int 0, .int 0, .int 0, .long 0, .int (-1), .int 0, .int 0, .ref a6, .int 0, .ref a7, .ref a8, .int 0, .ref a9, .ref a10, .int 0, .int 0, .ref a11, .ref a12, .int 0, .ref a13, .ref a14, .int 0, .long 0, .long 0, .int 0, .int 0, .int 0, .int 0, .int 0, .ref a15, .int 0, .int 0, .ref a16, .int 0, .ref a17, .ref a18, .ref a19, .int 0, .ref a20, .ref a21, .long 0, .ref a22, .int 0]))] sz)) 0 0 (va_A [(a0, .inr (12, [.int 0, .int 0, .ref a1, .ref a2, .ref a3, .ref a4, .int 0, .ref a5, .int 0, .int 0, .int 0, .int 0, .long 0, .int (-1), .int 0, .int 0, .ref a6, .int 0, .ref a7, .ref a8, .int 0, .ref a9, .ref a10, .int 0, .int 0, .ref a11, .ref a12, .int 0, .ref a13, .ref a14, .int 0, .long 0, .long 0, .int 0, .int 0, .int 0, .int 0, .int 0, .ref a15, .int 0, .int 0, .ref a16, .int 0, .ref a17, .ref a18, .ref a19, .int 0, .ref a20, .ref a21, .long 0, .ref a22, .int 0]))] sz) := by
  refine Met.ofW (cc := cX12_end) (maxL := 2) (ret := (some .int)) (by decide) rfl ?_
  intro p e s m args below meth c s₁ B hml hv
  obtain ⟨rfl, hsz, hP, hK, hD0, hN, hT⟩ := hv
  have hx := B.exec
  have hb := B.bytes
  have hr := B.returns
  have hts : ∀ w ∈ tblG, w.before _ s = true := fun w h => atoms_spec (ws := (wsG yX12_end cX12_end 2 (some .int))) B.pre w (List.mem_cons_of_mem _ h)
  have hown : s.vm.findClass RX12 = some m.cls := findClass_of_methodNamed B.named
  have hlocks := B.notSynchronized
  subst hsz
  have hD := hD0.self (sz := s.heap.size)
  generalize hAe : va_A [(a0, .inr (12, [.int 0, .int 0, .ref a1, .ref a2, .ref a3, .ref a4, .int 0, .ref a5, .int 0, .int 0, .int 0, .int 0, .long 0, .int (-1), .int 0, .int 0, .ref a6, .int 0, .ref a7, .ref a8, .int 0, .ref a9, .ref a10, .int 0, .int 0, .ref a11, .ref a12, .int 0, .ref a13, .ref a14, .int 0, .long 0, .long 0, .int 0, .int 0, .int 0, .int 0, .int 0, .ref a15, .int 0, .int 0, .ref a16, .int 0, .ref a17, .ref a18, .ref a19, .int 0, .ref a20, .ref a21, .long 0, .ref a22, .int 0]))] s.heap.size = A at hD hT ⊢
  have hA : ∀ q : Nat, s.heap.size ≤ q → A q := fun q h => by rw [← hAe]; exact Or.inr h
  have hS : va_S A s.heap s.heap [] := va_S.rf
  have hP : va_P G.1 vwCl [(a0, .inr (12, [.int 0, .int 0, .ref a1, .ref a2, .ref a3, .ref a4, .int 0, .ref a5, .int 0, .int 0, .int 0, .int 0, .long 0, .int (-1), .int 0, .int 0, .ref a6, .int 0, .ref a7, .ref a8, .int 0, .ref a9, .ref a10, .int 0, .int 0, .ref a11, .ref a12, .int 0, .ref a13, .ref a14, .int 0, .long 0, .long 0, .int 0, .int 0, .int 0, .int 0, .int 0, .ref a15, .int 0, .int 0, .ref a16, .int 0, .ref a17, .ref a18, .ref a19, .int 0, .ref a20, .ref a21, .long 0, .ref a22, .int 0]))] s.heap := hP
  have hl := lv_entry ([.ref a0, .int n0]) (n := 2) (Nat.le_of_ble_eq_true rfl)
  rw [lg_entry_eq]
  generalize (lg_sl ([.ref a0, .int n0]) ++ List.replicate (2 - (lg_sl ([.ref a0, .int n0])).length) Slot.unset).toArray = ls at hl ⊢
  have hl : lv_has ls 2 [(0, .ref a0), (1, .int n0)] := hl
  refine lv_aload_n hx hb dX12_end_0 rfl (lv_at hl 0 rfl) ?_
  refine lv_iconst (v := 0) hx hb dX12_end_1 (by decide) ?_
  refine va_put (D := G.1) (ci := 12) (v := .int 0) (ty := .int) (C := RX12) (T := TX12) (N := 52) hx hb hts inG_X12 tyX12 tyX12_ok nmX12 hown hK hP hD hS 0 rfl rfl 0 (by decide) (hts _ fl_X12_107) (fun _ h9 => h9) rfl (by decide +kernel) rfl rfl (Nat.le_of_ble_eq_true rfl) dX12_end_2 (fun H locs hP hD hS => ?_)
  have hP : va_P G.1 vwCl [(a0, .inr (12, [.int 0, .int 0, .ref a1, .ref a2, .ref a3, .ref a4, .int 0, .ref a5, .int 0, .int 0, .int 0, .int 0, .long 0, .int (-1), .int 0, .int 0, .ref a6, .int 0, .ref a7, .ref a8, .int 0, .ref a9, .ref a10, .int 0, .int 0, .ref a11, .ref a12, .int 0, .ref a13, .ref a14, .int 0, .long 0, .long 0, .int 0, .int 0, .int 0, .int 0, .int 0, .ref a15, .int 0, .int 0, .ref a16, .int 0, .ref a17, .ref a18, .ref a19, .int 0, .ref a20, .ref a21, .long 0, .ref a22, .int 0]))] H := hP
  have hD : va_D A [(a0, .inr (12, [.int 0, .int 0, .ref a1, .ref a2, .ref a3, .ref a4, .int 0, .ref a5, .int 0, .int 0, .int 0, .int 0, .long 0, .int (-1), .int 0, .int 0, .ref a6, .int 0, .ref a7, .ref a8, .int 0, .ref a9, .ref a10, .int 0, .int 0, .ref a11, .ref a12, .int 0, .ref a13, .ref a14, .int 0, .long 0, .long 0, .int 0, .int 0, .int 0, .int 0, .int 0, .ref a15, .int 0, .int 0, .ref a16, .int 0, .ref a17, .ref a18, .ref a19, .int 0, .ref a20, .ref a21, .long 0, .ref a22, .int 0]))] := hD
  refine lv_iload_n hx hb dX12_end_5 rfl (lv_at hl 1 rfl) ?_
  refine lv_if_lt (tgt := 17) hx hb dX12_end_6 (by decide) (fun c_1 => ?_) (fun c_1 => ?_)
  ·
    have i_1 : n0.toInt < 0 := by have z := g5_lt (a := n0.toInt) (b := 0) (by rfl) (by decide) c_1; omega
    refine lv_iconst (v := (-1)) hx hb dX12_end_17 (by decide) ?_
    have hP := hP.sub (ws' := []) [] rfl
    have hD := hD.sub (ws' := []) [] (by decide) rfl
    exact W.iret (v := (-1)) hx hb hr (fun t ht hW => ⟨⟨(-1), [], rfl, Or.inl (⟨i_1, rfl, rfl⟩), by rw [ht]; exact hP, hD⟩, hS.F ht⟩) hS.2.2 dX12_end_18
  ·
    have i_1 : n0.toInt ≥ 0 := by have z := g5_ltN (a := n0.toInt) (b := 0) (by rfl) (by decide) c_1; omega
    refine lv_iload_n hx hb dX12_end_9 rfl (lv_at hl 1 rfl) ?_
    refine lv_aload_n hx hb dX12_end_10 rfl (lv_at hl 0 rfl) ?_
    refine va_get (D := G.1) (ci := 12) (v := .int 0) (C := RX12) (T := TX12) (N := 52) hx hb hts inG_X12 hown hK hP 0 rfl rfl 8 (by decide) (hts _ fl_X12_192) (fun _ h9 => h9) rfl dX12_end_11 ?_
    refine lv_icmp_le (tgt := 19) hx hb dX12_end_14 (by decide) (fun c_2 => ?_) (fun c_2 => ?_)
    ·
      have i_2 : n0.toInt ≤ 0 := by have z := g5_le (a := n0.toInt) (b := 0) (by rfl) (by decide) c_2; omega
      refine lv_aload_n hx hb dX12_end_19 rfl (lv_at hl 0 rfl) ?_
      refine lv_iload_n hx hb dX12_end_20 rfl (lv_at hl 1 rfl) ?_
      refine va_put (D := G.1) (ci := 12) (v := .int n0) (ty := .int) (C := RX12) (T := TX12) (N := 52) hx hb hts inG_X12 tyX12 tyX12_ok nmX12 hown hK hP hD hS 0 rfl rfl 8 (by decide) (hts _ fl_X12_192) (fun _ h9 => h9) rfl (by decide +kernel) rfl rfl (Nat.le_of_ble_eq_true rfl) dX12_end_21 (fun H locs hP hD hS => ?_)
      have hP : va_P G.1 vwCl [(a0, .inr (12, [.int 0, .int 0, .ref a1, .ref a2, .ref a3, .ref a4, .int 0, .ref a5, .int n0, .int 0, .int 0, .int 0, .long 0, .int (-1), .int 0, .int 0, .ref a6, .int 0, .ref a7, .ref a8, .int 0, .ref a9, .ref a10, .int 0, .int 0, .ref a11, .ref a12, .int 0, .ref a13, .ref a14, .int 0, .long 0, .long 0, .int 0, .int 0, .int 0, .int 0, .int 0, .ref a15, .int 0, .int 0, .ref a16, .int 0, .ref a17, .ref a18, .ref a19, .int 0, .ref a20, .ref a21, .long 0, .ref a22, .int 0]))] H := hP
      have hD : va_D A [(a0, .inr (12, [.int 0, .int 0, .ref a1, .ref a2, .ref a3, .ref a4, .int 0, .ref a5, .int n0, .int 0, .int 0, .int 0, .long 0, .int (-1), .int 0, .int 0, .ref a6, .int 0, .ref a7, .ref a8, .int 0, .ref a9, .ref a10, .int 0, .int 0, .ref a11, .ref a12, .int 0, .ref a13, .ref a14, .int 0, .long 0, .long 0, .int 0, .int 0, .int 0, .int 0, .int 0, .ref a15, .int 0, .int 0, .ref a16, .int 0, .ref a17, .ref a18, .ref a19, .int 0, .ref a20, .ref a21, .long 0, .ref a22, .int 0]))] := hD
      refine lv_iload_n hx hb dX12_end_24 rfl (lv_at hl 1 rfl) ?_
      have hP := hP.sub (ws' := []) [] rfl
      have hD := hD.sub (ws' := []) [] (by decide) rfl
      exact W.iret (v := n0) hx hb hr (fun t ht hW => ⟨⟨n0, [], rfl, Or.inr (Or.inl (⟨i_1, i_2, rfl, rfl⟩)), by rw [ht]; exact hP, hD⟩, hS.F ht⟩) hS.2.2 dX12_end_25
    ·
      have i_2 : n0.toInt > 0 := by have z := g5_leN (a := n0.toInt) (b := 0) (by rfl) (by decide) c_2; omega
      refine lv_iconst (v := (-1)) hx hb dX12_end_17 (by decide) ?_
      have hP := hP.sub (ws' := []) [] rfl
      have hD := hD.sub (ws' := []) [] (by decide) rfl
      exact W.iret (v := (-1)) hx hb hr (fun t ht hW => ⟨⟨(-1), [], rfl, Or.inr (Or.inr (⟨i_1, i_2, rfl, rfl⟩)), by rw [ht]; exact hP, hD⟩, hS.F ht⟩) hS.2.2 dX12_end_18
set_option maxHeartbeats 4000000 in
set_option maxRecDepth 100000 in
theorem kX12_tell_5 (l : Launch) (G : g5_G) (a0 a1 a2 a3 a4 a5 a6 a7 a8 a9 a10 a11 a12 a13 a14 a15 a16 a17 a18 a19 a20 a21 a22 : Nat) (sz : Nat) : Met l yX12_tell (wsG yX12_tell cX12_tell 2 (some .int)) ({ frames := 0, cells := 0, slots := 0, locals := 0 }) (va_Pc [.ref a0, .int (-6)] (g5_P G [(a0, .inr (12, [.int 0, .int 0, .ref a1, .ref a2, .ref a3, .ref a4, .int 0, .ref a5, .int 0, .int 0, .int 0, .int 0, .long 0, .int (-1), .int 0, .int 0, .ref a6, .int 0, .ref a7, .ref a8, .int 0, .ref a9, .ref a10, .int 0, .int 0, .ref a11, .ref a12, .int 0, .ref a13, .ref a14, .int 0, .long 0, .long 0, .int 0, .int 0, .int 0, .int 0, .int 0, .ref a15, .int 0, .int 0, .ref a16, .int 0, .ref a17, .ref a18, .ref a19, .int 0, .ref a20, .ref a21, .long 0, .ref a22, .int 0])), (a1, .inl (G.2 0, 7, .inl (fun _ => 0)))] sz)) (va_Qi (fun (r : Int32) (u : va_W) => ((r = (-6)) ∧ (u = [(a0, .inr (12, [.int 0, .int (-6), .ref a1, .ref a2, .ref a3, .ref a4, .int 0, .ref a5, .int 0, .int 0, .int 0, .int 0, .long 0, .int (-1), .int 0, .int 0, .ref a6, .int 0, .ref a7, .ref a8, .int 0, .ref a9, .ref a10, .int 0, .int 0, .ref a11, .ref a12, .int 0, .ref a13, .ref a14, .int 0, .long 0, .long 0, .int 0, .int 0, .int 0, .int 0, .int 0, .ref a15, .int 0, .int 0, .ref a16, .int 0, .ref a17, .ref a18, .ref a19, .int 0, .ref a20, .ref a21, .long 0, .ref a22, .int 0])), (a1, .inl (G.2 0, 7, .inl (upd (fun _ => 0) 6 1)))]))) (g5_B G (va_A [(a0, .inr (12, [.int 0, .int 0, .ref a1, .ref a2, .ref a3, .ref a4, .int 0, .ref a5, .int 0, .int 0, .int 0, .int 0, .long 0, .int (-1), .int 0, .int 0, .ref a6, .int 0, .ref a7, .ref a8, .int 0, .ref a9, .ref a10, .int 0, .int 0, .ref a11, .ref a12, .int 0, .ref a13, .ref a14, .int 0, .long 0, .long 0, .int 0, .int 0, .int 0, .int 0, .int 0, .ref a15, .int 0, .int 0, .ref a16, .int 0, .ref a17, .ref a18, .ref a19, .int 0, .ref a20, .ref a21, .long 0, .ref a22, .int 0])), (a1, .inl (G.2 0, 7, .inl (fun _ => 0)))] sz)) (va_A [(a0, .inr (12, [.int 0, .int 0, .ref a1, .ref a2, .ref a3, .ref a4, .int 0, .ref a5, .int 0, .int 0, .int 0, .int 0, .long 0, .int (-1), .int 0, .int 0, .ref a6, .int 0, .ref a7, .ref a8, .int 0, .ref a9, .ref a10, .int 0, .int 0, .ref a11, .ref a12, .int 0, .ref a13, .ref a14, .int 0, .long 0, .long 0, .int 0, .int 0, .int 0, .int 0, .int 0, .ref a15, .int 0, .int 0, .ref a16, .int 0, .ref a17, .ref a18, .ref a19, .int 0, .ref a20, .ref a21, .long 0, .ref a22, .int 0])), (a1, .inl (G.2 0, 7, .inl (fun _ => 0)))] sz)) 0 0 (va_A [(a0, .inr (12, [.int 0, .int 0, .ref a1, .ref a2, .ref a3, .ref a4, .int 0, .ref a5, .int 0, .int 0, .int 0, .int 0, .long 0, .int (-1), .int 0, .int 0, .ref a6, .int 0, .ref a7, .ref a8, .int 0, .ref a9, .ref a10, .int 0, .int 0, .ref a11, .ref a12, .int 0, .ref a13, .ref a14, .int 0, .long 0, .long 0, .int 0, .int 0, .int 0, .int 0, .int 0, .ref a15, .int 0, .int 0, .ref a16, .int 0, .ref a17, .ref a18, .ref a19, .int 0, .ref a20, .ref a21, .long 0, .ref a22, .int 0])), (a1, .inl (G.2 0, 7, .inl (fun _ => 0)))] sz) := by
  refine Met.ofW (cc := cX12_tell) (maxL := 2) (ret := (some .int)) (by decide) rfl ?_
  intro p e s m args below meth c s₁ B hml hv
  obtain ⟨rfl, hsz, hP, hK, hD0, hN, hT⟩ := hv
  have hx := B.exec
  have hb := B.bytes
  have hr := B.returns
  have hts : ∀ w ∈ tblG, w.before _ s = true := fun w h => atoms_spec (ws := (wsG yX12_tell cX12_tell 2 (some .int))) B.pre w (List.mem_cons_of_mem _ h)
  have hown : s.vm.findClass RX12 = some m.cls := findClass_of_methodNamed B.named
  have hlocks := B.notSynchronized
  subst hsz
  have hD := hD0.self (sz := s.heap.size)
  generalize hAe : va_A [(a0, .inr (12, [.int 0, .int 0, .ref a1, .ref a2, .ref a3, .ref a4, .int 0, .ref a5, .int 0, .int 0, .int 0, .int 0, .long 0, .int (-1), .int 0, .int 0, .ref a6, .int 0, .ref a7, .ref a8, .int 0, .ref a9, .ref a10, .int 0, .int 0, .ref a11, .ref a12, .int 0, .ref a13, .ref a14, .int 0, .long 0, .long 0, .int 0, .int 0, .int 0, .int 0, .int 0, .ref a15, .int 0, .int 0, .ref a16, .int 0, .ref a17, .ref a18, .ref a19, .int 0, .ref a20, .ref a21, .long 0, .ref a22, .int 0])), (a1, .inl (G.2 0, 7, .inl (fun _ => 0)))] s.heap.size = A at hD hT ⊢
  have hA : ∀ q : Nat, s.heap.size ≤ q → A q := fun q h => by rw [← hAe]; exact Or.inr h
  have hS : va_S A s.heap s.heap [] := va_S.rf
  have hP : va_P G.1 vwCl [(a0, .inr (12, [.int 0, .int 0, .ref a1, .ref a2, .ref a3, .ref a4, .int 0, .ref a5, .int 0, .int 0, .int 0, .int 0, .long 0, .int (-1), .int 0, .int 0, .ref a6, .int 0, .ref a7, .ref a8, .int 0, .ref a9, .ref a10, .int 0, .int 0, .ref a11, .ref a12, .int 0, .ref a13, .ref a14, .int 0, .long 0, .long 0, .int 0, .int 0, .int 0, .int 0, .int 0, .ref a15, .int 0, .int 0, .ref a16, .int 0, .ref a17, .ref a18, .ref a19, .int 0, .ref a20, .ref a21, .long 0, .ref a22, .int 0])), (a1, .inl (G.2 0, 7, .inl (fun _ => 0)))] s.heap := hP
  have hl := lv_entry ([.ref a0, .int (-6)]) (n := 2) (Nat.le_of_ble_eq_true rfl)
  rw [lg_entry_eq]
  generalize (lg_sl ([.ref a0, .int (-6)]) ++ List.replicate (2 - (lg_sl ([.ref a0, .int (-6)])).length) Slot.unset).toArray = ls at hl ⊢
  have hl : lv_has ls 2 [(0, .ref a0), (1, .int (-6))] := hl
  refine lv_aload_n hx hb dX12_tell_0 rfl (lv_at hl 0 rfl) ?_
  refine lv_iload_n hx hb dX12_tell_1 rfl (lv_at hl 1 rfl) ?_
  refine lv_if_ge (tgt := 9) hx hb dX12_tell_2 (by decide) (fun c_1 => ?_) (fun c_1 => ?_)
  ·
    exact absurd c_1 (by decide)
  ·
    refine lv_iload_n hx hb dX12_tell_5 rfl (lv_at hl 1 rfl) ?_
    refine lv_goto (tgt := 10) hx hb dX12_tell_6 (by decide) ?_
    refine va_put (D := G.1) (ci := 12) (v := .int (-6)) (ty := .int) (C := RX12) (T := TX12) (N := 52) hx hb hts inG_X12 tyX12 tyX12_ok nmX12 hown hK hP hD hS 0 rfl rfl 1 (by decide) (hts _ fl_X12_110) (fun _ h9 => h9) rfl (by decide +kernel) rfl rfl (Nat.le_of_ble_eq_true rfl) dX12_tell_10 (fun H locs hP hD hS => ?_)
    have hP : va_P G.1 vwCl [(a0, .inr (12, [.int 0, .int (-6), .ref a1, .ref a2, .ref a3, .ref a4, .int 0, .ref a5, .int 0, .int 0, .int 0, .int 0, .long 0, .int (-1), .int 0, .int 0, .ref a6, .int 0, .ref a7, .ref a8, .int 0, .ref a9, .ref a10, .int 0, .int 0, .ref a11, .ref a12, .int 0, .ref a13, .ref a14, .int 0, .long 0, .long 0, .int 0, .int 0, .int 0, .int 0, .int 0, .ref a15, .int 0, .int 0, .ref a16, .int 0, .ref a17, .ref a18, .ref a19, .int 0, .ref a20, .ref a21, .long 0, .ref a22, .int 0])), (a1, .inl (G.2 0, 7, .inl (fun _ => 0)))] H := hP
    have hD : va_D A [(a0, .inr (12, [.int 0, .int (-6), .ref a1, .ref a2, .ref a3, .ref a4, .int 0, .ref a5, .int 0, .int 0, .int 0, .int 0, .long 0, .int (-1), .int 0, .int 0, .ref a6, .int 0, .ref a7, .ref a8, .int 0, .ref a9, .ref a10, .int 0, .int 0, .ref a11, .ref a12, .int 0, .ref a13, .ref a14, .int 0, .long 0, .long 0, .int 0, .int 0, .int 0, .int 0, .int 0, .ref a15, .int 0, .int 0, .ref a16, .int 0, .ref a17, .ref a18, .ref a19, .int 0, .ref a20, .ref a21, .long 0, .ref a22, .int 0])), (a1, .inl (G.2 0, 7, .inl (fun _ => 0)))] := hD
    refine lv_aload_n hx hb dX12_tell_13 rfl (lv_at hl 0 rfl) ?_
    refine lv_aload_n hx hb dX12_tell_14 rfl (lv_at hl 0 rfl) ?_
    refine va_get (D := G.1) (ci := 12) (v := .int 0) (C := RX12) (T := TX12) (N := 52) hx hb hts inG_X12 hown hK hP 0 rfl rfl 42 (by decide) (hts _ fl_X12_113) (fun _ h9 => h9) rfl dX12_tell_15 ?_
    refine lv_if_eq (tgt := 29) hx hb dX12_tell_18 (by decide) (fun c_2 => ?_) (fun c_2 => ?_)
    ·
      refine lv_iconst (v := 0) hx hb dX12_tell_29 (by decide) ?_
      refine va_put (D := G.1) (ci := 12) (v := .int 0) (ty := .boolean) (C := RX12) (T := TX12) (N := 52) hx hb hts inG_X12 tyX12 tyX12_ok nmX12 hown hK hP hD hS 0 rfl rfl 42 (by decide) (hts _ fl_X12_113) (fun _ h9 => h9) rfl (by decide +kernel) rfl rfl (Nat.le_of_ble_eq_true rfl) dX12_tell_30 (fun H locs hP hD hS => ?_)
      have hP : va_P G.1 vwCl [(a0, .inr (12, [.int 0, .int (-6), .ref a1, .ref a2, .ref a3, .ref a4, .int 0, .ref a5, .int 0, .int 0, .int 0, .int 0, .long 0, .int (-1), .int 0, .int 0, .ref a6, .int 0, .ref a7, .ref a8, .int 0, .ref a9, .ref a10, .int 0, .int 0, .ref a11, .ref a12, .int 0, .ref a13, .ref a14, .int 0, .long 0, .long 0, .int 0, .int 0, .int 0, .int 0, .int 0, .ref a15, .int 0, .int 0, .ref a16, .int 0, .ref a17, .ref a18, .ref a19, .int 0, .ref a20, .ref a21, .long 0, .ref a22, .int 0])), (a1, .inl (G.2 0, 7, .inl (fun _ => 0)))] H := hP
      have hD : va_D A [(a0, .inr (12, [.int 0, .int (-6), .ref a1, .ref a2, .ref a3, .ref a4, .int 0, .ref a5, .int 0, .int 0, .int 0, .int 0, .long 0, .int (-1), .int 0, .int 0, .ref a6, .int 0, .ref a7, .ref a8, .int 0, .ref a9, .ref a10, .int 0, .int 0, .ref a11, .ref a12, .int 0, .ref a13, .ref a14, .int 0, .long 0, .long 0, .int 0, .int 0, .int 0, .int 0, .int 0, .ref a15, .int 0, .int 0, .ref a16, .int 0, .ref a17, .ref a18, .ref a19, .int 0, .ref a20, .ref a21, .long 0, .ref a22, .int 0])), (a1, .inl (G.2 0, 7, .inl (fun _ => 0)))] := hD
      refine lv_iload_n hx hb dX12_tell_33 rfl (lv_at hl 1 rfl) ?_
      refine lv_if_ge (tgt := 48) hx hb dX12_tell_34 (by decide) (fun c_3 => ?_) (fun c_3 => ?_)
      ·
        exact absurd c_3 (by decide)
      ·
        refine lv_aload_n hx hb dX12_tell_37 rfl (lv_at hl 0 rfl) ?_
        refine va_get (D := G.1) (ci := 12) (v := .ref a1) (C := RX12) (T := TX12) (N := 52) hx hb hts inG_X12 hown hK hP 0 rfl rfl 2 (by decide) (hts _ fl_X12_7) (fun _ h9 => h9) rfl dX12_tell_38 ?_
        refine lv_iload_n hx hb dX12_tell_41 rfl (lv_at hl 1 rfl) ?_
        refine lv_ineg hx hb dX12_tell_42 ?_
        refine g5_ti (v := 6) (by decide) ?_
        refine lv_dup2_11 hx hb dX12_tell_43 rfl rfl ?_
        refine va_iald hx hb hK hP 1 0 rfl rfl (i := 6) (by unfold vp_in; decide) dX12_tell_44 ?_
        refine g5_ti (v := 0) rfl ?_
        refine lv_iconst (v := 1) hx hb dX12_tell_45 (by decide) ?_
        refine lv_iadd hx hb dX12_tell_46 ?_
        refine g5_ti (v := 1) (by decide) ?_
        refine va_iast hx hb hK hP hD hS 1 0 rfl rfl (i := 6) (x := 1) (by unfold vp_in; decide) dX12_tell_47 (fun H locs hP hD hS => ?_)
        have hP : va_P G.1 vwCl [(a0, .inr (12, [.int 0, .int (-6), .ref a1, .ref a2, .ref a3, .ref a4, .int 0, .ref a5, .int 0, .int 0, .int 0, .int 0, .long 0, .int (-1), .int 0, .int 0, .ref a6, .int 0, .ref a7, .ref a8, .int 0, .ref a9, .ref a10, .int 0, .int 0, .ref a11, .ref a12, .int 0, .ref a13, .ref a14, .int 0, .long 0, .long 0, .int 0, .int 0, .int 0, .int 0, .int 0, .ref a15, .int 0, .int 0, .ref a16, .int 0, .ref a17, .ref a18, .ref a19, .int 0, .ref a20, .ref a21, .long 0, .ref a22, .int 0])), (a1, .inl (G.2 0, 7, .inl (upd (fun _ => 0) 6 1)))] H := hP
        have hD : va_D A [(a0, .inr (12, [.int 0, .int (-6), .ref a1, .ref a2, .ref a3, .ref a4, .int 0, .ref a5, .int 0, .int 0, .int 0, .int 0, .long 0, .int (-1), .int 0, .int 0, .ref a6, .int 0, .ref a7, .ref a8, .int 0, .ref a9, .ref a10, .int 0, .int 0, .ref a11, .ref a12, .int 0, .ref a13, .ref a14, .int 0, .long 0, .long 0, .int 0, .int 0, .int 0, .int 0, .int 0, .ref a15, .int 0, .int 0, .ref a16, .int 0, .ref a17, .ref a18, .ref a19, .int 0, .ref a20, .ref a21, .long 0, .ref a22, .int 0])), (a1, .inl (G.2 0, 7, .inl (upd (fun _ => 0) 6 1)))] := hD
        refine lv_iload_n hx hb dX12_tell_48 rfl (lv_at hl 1 rfl) ?_
        exact W.iret (v := (-6)) hx hb hr (fun t ht hW => ⟨⟨(-6), [(a0, .inr (12, [.int 0, .int (-6), .ref a1, .ref a2, .ref a3, .ref a4, .int 0, .ref a5, .int 0, .int 0, .int 0, .int 0, .long 0, .int (-1), .int 0, .int 0, .ref a6, .int 0, .ref a7, .ref a8, .int 0, .ref a9, .ref a10, .int 0, .int 0, .ref a11, .ref a12, .int 0, .ref a13, .ref a14, .int 0, .long 0, .long 0, .int 0, .int 0, .int 0, .int 0, .int 0, .ref a15, .int 0, .int 0, .ref a16, .int 0, .ref a17, .ref a18, .ref a19, .int 0, .ref a20, .ref a21, .long 0, .ref a22, .int 0])), (a1, .inl (G.2 0, 7, .inl (upd (fun _ => 0) 6 1)))], rfl, ⟨rfl, rfl⟩, by rw [ht]; exact hP, hD⟩, hS.F ht⟩) hS.2.2 dX12_tell_49
    ·
      exact absurd c_2 (by decide)
theorem dX12_row_0 : decode cX12_row 0 = .ok (.aload_n 0, 1) := by decide +kernel
theorem dX12_row_1 : decode cX12_row 1 = .ok (.iconst 0, 1) := by decide +kernel
theorem dX12_row_2 : decode cX12_row 2 = .ok (.putfield 107, 3) := by decide +kernel
theorem dX12_row_5 : decode cX12_row 5 = .ok (.aload_n 0, 1) := by decide +kernel
theorem dX12_row_6 : decode cX12_row 6 = .ok (.getfield 192, 3) := by decide +kernel
theorem dX12_row_9 : decode cX12_row 9 = .ok (.istore_n 1, 1) := by decide +kernel
theorem dX12_row_10 : decode cX12_row 10 = .ok (.aload_n 0, 1) := by decide +kernel
theorem dX12_row_11 : decode cX12_row 11 = .ok (.iconst 0, 1) := by decide +kernel
theorem dX12_row_12 : decode cX12_row 12 = .ok (.putfield 192, 3) := by decide +kernel
theorem dX12_row_15 : decode cX12_row 15 = .ok (.iload_n 1, 1) := by decide +kernel
theorem dX12_row_16 : decode cX12_row 16 = .ok (.ifCond .ne 10, 3) := by decide +kernel
theorem dX12_row_19 : decode cX12_row 19 = .ok (.aload_n 0, 1) := by decide +kernel
theorem dX12_row_20 : decode cX12_row 20 = .ok (.bipush (-6), 2) := by decide +kernel
theorem dX12_row_22 : decode cX12_row 22 = .ok (.invokevirtual 125, 3) := by decide +kernel
theorem dX12_row_25 : decode cX12_row 25 = .ok (.ireturn, 1) := by decide +kernel
theorem dX12_row_26 : decode cX12_row 26 = .ok (.aload_n 0, 1) := by decide +kernel
theorem dX12_row_27 : decode cX12_row 27 = .ok (.iconst 0, 1) := by decide +kernel
theorem dX12_row_28 : decode cX12_row 28 = .ok (.putfield 195, 3) := by decide +kernel
theorem dX12_row_31 : decode cX12_row 31 = .ok (.iconst 0, 1) := by decide +kernel
theorem dX12_row_32 : decode cX12_row 32 = .ok (.istore_n 2, 1) := by decide +kernel
theorem dX12_row_33 : decode cX12_row 33 = .ok (.iconst 0, 1) := by decide +kernel
theorem dX12_row_34 : decode cX12_row 34 = .ok (.istore_n 3, 1) := by decide +kernel
theorem dX12_row_35 : decode cX12_row 35 = .ok (.iload_n 3, 1) := by decide +kernel
theorem dX12_row_36 : decode cX12_row 36 = .ok (.iload_n 1, 1) := by decide +kernel
theorem dX12_row_37 : decode cX12_row 37 = .ok (.if_icmp .ge 210, 3) := by decide +kernel
theorem dX12_row_40 : decode cX12_row 40 = .ok (.iload_n 3, 1) := by decide +kernel
theorem dX12_row_41 : decode cX12_row 41 = .ok (.iconst 3, 1) := by decide +kernel
theorem dX12_row_42 : decode cX12_row 42 = .ok (.iadd, 1) := by decide +kernel
theorem dX12_row_43 : decode cX12_row 43 = .ok (.iload_n 1, 1) := by decide +kernel
theorem dX12_row_44 : decode cX12_row 44 = .ok (.if_icmp .ge 67, 3) := by decide +kernel
theorem dX12_row_47 : decode cX12_row 47 = .ok (.aload_n 0, 1) := by decide +kernel
theorem dX12_row_48 : decode cX12_row 48 = .ok (.aload_n 0, 1) := by decide +kernel
theorem dX12_row_49 : decode cX12_row 49 = .ok (.getfield 23, 3) := by decide +kernel
theorem dX12_row_52 : decode cX12_row 52 = .ok (.iload_n 3, 1) := by decide +kernel
theorem dX12_row_53 : decode cX12_row 53 = .ok (.iaload, 1) := by decide +kernel
theorem dX12_row_54 : decode cX12_row 54 = .ok (.invokevirtual 180, 3) := by decide +kernel
theorem dX12_row_57 : decode cX12_row 57 = .ok (.ifCond .eq 54, 3) := by decide +kernel
theorem dX12_row_60 : decode cX12_row 60 = .ok (.aload_n 0, 1) := by decide +kernel
theorem dX12_row_61 : decode cX12_row 61 = .ok (.getfield 23, 3) := by decide +kernel
theorem dX12_row_64 : decode cX12_row 64 = .ok (.iload_n 3, 1) := by decide +kernel
theorem dX12_row_65 : decode cX12_row 65 = .ok (.iconst 1, 1) := by decide +kernel
theorem dX12_row_66 : decode cX12_row 66 = .ok (.iadd, 1) := by decide +kernel
theorem dX12_row_67 : decode cX12_row 67 = .ok (.iaload, 1) := by decide +kernel
theorem dX12_row_68 : decode cX12_row 68 = .ok (.invokestatic 175, 3) := by decide +kernel
theorem dX12_row_71 : decode cX12_row 71 = .ok (.ifCond .eq 40, 3) := by decide +kernel
theorem dX12_row_74 : decode cX12_row 74 = .ok (.aload_n 0, 1) := by decide +kernel
theorem dX12_row_75 : decode cX12_row 75 = .ok (.getfield 23, 3) := by decide +kernel
theorem dX12_row_78 : decode cX12_row 78 = .ok (.iload_n 3, 1) := by decide +kernel
theorem dX12_row_79 : decode cX12_row 79 = .ok (.iconst 2, 1) := by decide +kernel
theorem dX12_row_80 : decode cX12_row 80 = .ok (.iadd, 1) := by decide +kernel
theorem dX12_row_81 : decode cX12_row 81 = .ok (.iaload, 1) := by decide +kernel
theorem dX12_row_82 : decode cX12_row 82 = .ok (.invokestatic 175, 3) := by decide +kernel
theorem dX12_row_85 : decode cX12_row 85 = .ok (.ifCond .eq 26, 3) := by decide +kernel
theorem dX12_row_88 : decode cX12_row 88 = .ok (.aload_n 0, 1) := by decide +kernel
theorem dX12_row_89 : decode cX12_row 89 = .ok (.getfield 23, 3) := by decide +kernel
theorem dX12_row_92 : decode cX12_row 92 = .ok (.iload_n 3, 1) := by decide +kernel
theorem dX12_row_93 : decode cX12_row 93 = .ok (.iconst 2, 1) := by decide +kernel
theorem dX12_row_94 : decode cX12_row 94 = .ok (.iadd, 1) := by decide +kernel
theorem dX12_row_95 : decode cX12_row 95 = .ok (.iaload, 1) := by decide +kernel
theorem dX12_row_96 : decode cX12_row 96 = .ok (.aload_n 0, 1) := by decide +kernel
theorem dX12_row_97 : decode cX12_row 97 = .ok (.getfield 23, 3) := by decide +kernel
theorem dX12_row_100 : decode cX12_row 100 = .ok (.iload_n 3, 1) := by decide +kernel
theorem dX12_row_101 : decode cX12_row 101 = .ok (.iconst 1, 1) := by decide +kernel
theorem dX12_row_102 : decode cX12_row 102 = .ok (.iadd, 1) := by decide +kernel
theorem dX12_row_103 : decode cX12_row 103 = .ok (.iaload, 1) := by decide +kernel
theorem dX12_row_104 : decode cX12_row 104 = .ok (.if_icmp .lt 7, 3) := by decide +kernel
theorem dX12_row_107 : decode cX12_row 107 = .ok (.iconst 1, 1) := by decide +kernel
theorem dX12_row_108 : decode cX12_row 108 = .ok (.goto 4, 3) := by decide +kernel
theorem dX12_row_111 : decode cX12_row 111 = .ok (.iconst 0, 1) := by decide +kernel
theorem dX12_row_112 : decode cX12_row 112 = .ok (.istore 4, 2) := by decide +kernel
theorem dX12_row_114 : decode cX12_row 114 = .ok (.iload 4, 2) := by decide +kernel
theorem dX12_row_116 : decode cX12_row 116 = .ok (.ifCond .eq 49, 3) := by decide +kernel
theorem dX12_row_119 : decode cX12_row 119 = .ok (.aload_n 0, 1) := by decide +kernel
theorem dX12_row_120 : decode cX12_row 120 = .ok (.getfield 23, 3) := by decide +kernel
theorem dX12_row_123 : decode cX12_row 123 = .ok (.iload_n 3, 1) := by decide +kernel
theorem dX12_row_124 : decode cX12_row 124 = .ok (.iconst 3, 1) := by decide +kernel
theorem dX12_row_125 : decode cX12_row 125 = .ok (.iadd, 1) := by decide +kernel
theorem dX12_row_126 : decode cX12_row 126 = .ok (.iaload, 1) := by decide +kernel
theorem dX12_row_127 : decode cX12_row 127 = .ok (.sipush 255, 3) := by decide +kernel
theorem dX12_row_130 : decode cX12_row 130 = .ok (.if_icmp .eq 31, 3) := by decide +kernel
theorem dX12_row_133 : decode cX12_row 133 = .ok (.aload_n 0, 1) := by decide +kernel
theorem dX12_row_134 : decode cX12_row 134 = .ok (.getfield 23, 3) := by decide +kernel
theorem dX12_row_137 : decode cX12_row 137 = .ok (.iload_n 3, 1) := by decide +kernel
theorem dX12_row_138 : decode cX12_row 138 = .ok (.iconst 3, 1) := by decide +kernel
theorem dX12_row_139 : decode cX12_row 139 = .ok (.iadd, 1) := by decide +kernel
theorem dX12_row_140 : decode cX12_row 140 = .ok (.iaload, 1) := by decide +kernel
theorem dX12_row_141 : decode cX12_row 141 = .ok (.bipush 64, 2) := by decide +kernel
theorem dX12_row_143 : decode cX12_row 143 = .ok (.if_icmp .ge 22, 3) := by decide +kernel
theorem dX12_row_146 : decode cX12_row 146 = .ok (.aload_n 0, 1) := by decide +kernel
theorem dX12_row_147 : decode cX12_row 147 = .ok (.aload_n 0, 1) := by decide +kernel
theorem dX12_row_148 : decode cX12_row 148 = .ok (.getfield 23, 3) := by decide +kernel
theorem dX12_row_151 : decode cX12_row 151 = .ok (.iload_n 3, 1) := by decide +kernel
theorem dX12_row_152 : decode cX12_row 152 = .ok (.iconst 3, 1) := by decide +kernel
theorem dX12_row_153 : decode cX12_row 153 = .ok (.iadd, 1) := by decide +kernel
theorem dX12_row_154 : decode cX12_row 154 = .ok (.iaload, 1) := by decide +kernel
theorem dX12_row_155 : decode cX12_row 155 = .ok (.invokevirtual 160, 3) := by decide +kernel
theorem dX12_row_158 : decode cX12_row 158 = .ok (.ifCond .ne 7, 3) := by decide +kernel
theorem dX12_row_161 : decode cX12_row 161 = .ok (.iconst 1, 1) := by decide +kernel
theorem dX12_row_162 : decode cX12_row 162 = .ok (.goto 4, 3) := by decide +kernel
theorem dX12_row_165 : decode cX12_row 165 = .ok (.iconst 0, 1) := by decide +kernel
theorem dX12_row_166 : decode cX12_row 166 = .ok (.istore 4, 2) := by decide +kernel
theorem dX12_row_168 : decode cX12_row 168 = .ok (.iload 4, 2) := by decide +kernel
theorem dX12_row_170 : decode cX12_row 170 = .ok (.ifCond .eq 61, 3) := by decide +kernel
theorem dX12_row_173 : decode cX12_row 173 = .ok (.aload_n 0, 1) := by decide +kernel
theorem dX12_row_174 : decode cX12_row 174 = .ok (.aload_n 0, 1) := by decide +kernel
theorem dX12_row_175 : decode cX12_row 175 = .ok (.getfield 23, 3) := by decide +kernel
theorem dX12_row_178 : decode cX12_row 178 = .ok (.iload_n 3, 1) := by decide +kernel
theorem dX12_row_179 : decode cX12_row 179 = .ok (.iaload, 1) := by decide +kernel
theorem dX12_row_180 : decode cX12_row 180 = .ok (.aload_n 0, 1) := by decide +kernel
theorem dX12_row_181 : decode cX12_row 181 = .ok (.getfield 23, 3) := by decide +kernel
theorem dX12_row_184 : decode cX12_row 184 = .ok (.iload_n 3, 1) := by decide +kernel
theorem dX12_row_185 : decode cX12_row 185 = .ok (.iconst 1, 1) := by decide +kernel
theorem dX12_row_186 : decode cX12_row 186 = .ok (.iadd, 1) := by decide +kernel
theorem dX12_row_187 : decode cX12_row 187 = .ok (.iaload, 1) := by decide +kernel
theorem dX12_row_188 : decode cX12_row 188 = .ok (.aload_n 0, 1) := by decide +kernel
theorem dX12_row_189 : decode cX12_row 189 = .ok (.getfield 23, 3) := by decide +kernel
theorem dX12_row_192 : decode cX12_row 192 = .ok (.iload_n 3, 1) := by decide +kernel
theorem dX12_row_193 : decode cX12_row 193 = .ok (.iconst 2, 1) := by decide +kernel
theorem dX12_row_194 : decode cX12_row 194 = .ok (.iadd, 1) := by decide +kernel
theorem dX12_row_195 : decode cX12_row 195 = .ok (.iaload, 1) := by decide +kernel
theorem dX12_row_196 : decode cX12_row 196 = .ok (.aload_n 0, 1) := by decide +kernel
theorem dX12_row_197 : decode cX12_row 197 = .ok (.getfield 23, 3) := by decide +kernel
theorem dX12_row_200 : decode cX12_row 200 = .ok (.iload_n 3, 1) := by decide +kernel
theorem dX12_row_201 : decode cX12_row 201 = .ok (.iconst 3, 1) := by decide +kernel
theorem dX12_row_202 : decode cX12_row 202 = .ok (.iadd, 1) := by decide +kernel
theorem dX12_row_203 : decode cX12_row 203 = .ok (.iaload, 1) := by decide +kernel
theorem dX12_row_204 : decode cX12_row 204 = .ok (.sipush 255, 3) := by decide +kernel
theorem dX12_row_207 : decode cX12_row 207 = .ok (.if_icmp .ne 7, 3) := by decide +kernel
theorem dX12_row_210 : decode cX12_row 210 = .ok (.iconst (-1), 1) := by decide +kernel
theorem dX12_row_211 : decode cX12_row 211 = .ok (.goto 11, 3) := by decide +kernel
theorem dX12_row_214 : decode cX12_row 214 = .ok (.aload_n 0, 1) := by decide +kernel
theorem dX12_row_215 : decode cX12_row 215 = .ok (.getfield 23, 3) := by decide +kernel
theorem dX12_row_218 : decode cX12_row 218 = .ok (.iload_n 3, 1) := by decide +kernel
theorem dX12_row_219 : decode cX12_row 219 = .ok (.iconst 3, 1) := by decide +kernel
theorem dX12_row_220 : decode cX12_row 220 = .ok (.iadd, 1) := by decide +kernel
theorem dX12_row_221 : decode cX12_row 221 = .ok (.iaload, 1) := by decide +kernel
theorem dX12_row_222 : decode cX12_row 222 = .ok (.invokevirtual 183, 3) := by decide +kernel
theorem dX12_row_225 : decode cX12_row 225 = .ok (.iinc 2 1, 3) := by decide +kernel
theorem dX12_row_228 : decode cX12_row 228 = .ok (.goto 13, 3) := by decide +kernel
theorem dX12_row_231 : decode cX12_row 231 = .ok (.aload_n 0, 1) := by decide +kernel
theorem dX12_row_232 : decode cX12_row 232 = .ok (.dup, 1) := by decide +kernel
theorem dX12_row_233 : decode cX12_row 233 = .ok (.getfield 195, 3) := by decide +kernel
theorem dX12_row_236 : decode cX12_row 236 = .ok (.iconst 1, 1) := by decide +kernel
theorem dX12_row_237 : decode cX12_row 237 = .ok (.iadd, 1) := by decide +kernel
theorem dX12_row_238 : decode cX12_row 238 = .ok (.putfield 195, 3) := by decide +kernel
theorem dX12_row_241 : decode cX12_row 241 = .ok (.iinc 3 4, 3) := by decide +kernel
theorem dX12_row_244 : decode cX12_row 244 = .ok (.goto (-209), 3) := by decide +kernel
theorem dX12_row_247 : decode cX12_row 247 = .ok (.aload_n 0, 1) := by decide +kernel
theorem dX12_row_248 : decode cX12_row 248 = .ok (.iload_n 2, 1) := by decide +kernel
theorem dX12_row_249 : decode cX12_row 249 = .ok (.invokevirtual 125, 3) := by decide +kernel
theorem dX12_row_252 : decode cX12_row 252 = .ok (.ireturn, 1) := by decide +kernel
set_option maxHeartbeats 4000000 in
set_option maxRecDepth 100000 in
theorem kX12_row (l : Launch) (G : g5_G) (a0 a1 a2 a3 a4 a5 a6 a7 a8 a9 a10 a11 a12 a13 a14 a15 a16 a17 a18 a19 a20 a21 a22 : Nat) (sz : Nat) : Met l yX12_row (wsG yX12_row cX12_row 5 (some .int)) ({ frames := 1, cells := 0, slots := 0, locals := 21 }) (va_Pc [.ref a0] (g5_P G [(a0, .inr (12, [.int 0, .int 0, .ref a1, .ref a2, .ref a3, .ref a4, .int 0, .ref a5, .int 0, .int 0, .int 0, .int 0, .long 0, .int (-1), .int 0, .int 0, .ref a6, .int 0, .ref a7, .ref a8, .int 0, .ref a9, .ref a10, .int 0, .int 0, .ref a11, .ref a12, .int 0, .ref a13, .ref a14, .int 0, .long 0, .long 0, .int 0, .int 0, .int 0, .int 0, .int 0, .ref a15, .int 0, .int 0, .ref a16, .int 0, .ref a17, .ref a18, .ref a19, .int 0, .ref a20, .ref a21, .long 0, .ref a22, .int 0])), (a1, .inl (G.2 0, 7, .inl (fun _ => 0)))] sz)) (va_Qi (fun (r : Int32) (u : va_W) => ((r = (-6)) ∧ (u = []))) (g5_B G (va_A [(a0, .inr (12, [.int 0, .int 0, .ref a1, .ref a2, .ref a3, .ref a4, .int 0, .ref a5, .int 0, .int 0, .int 0, .int 0, .long 0, .int (-1), .int 0, .int 0, .ref a6, .int 0, .ref a7, .ref a8, .int 0, .ref a9, .ref a10, .int 0, .int 0, .ref a11, .ref a12, .int 0, .ref a13, .ref a14, .int 0, .long 0, .long 0, .int 0, .int 0, .int 0, .int 0, .int 0, .ref a15, .int 0, .int 0, .ref a16, .int 0, .ref a17, .ref a18, .ref a19, .int 0, .ref a20, .ref a21, .long 0, .ref a22, .int 0])), (a1, .inl (G.2 0, 7, .inl (fun _ => 0)))] sz)) (va_A [(a0, .inr (12, [.int 0, .int 0, .ref a1, .ref a2, .ref a3, .ref a4, .int 0, .ref a5, .int 0, .int 0, .int 0, .int 0, .long 0, .int (-1), .int 0, .int 0, .ref a6, .int 0, .ref a7, .ref a8, .int 0, .ref a9, .ref a10, .int 0, .int 0, .ref a11, .ref a12, .int 0, .ref a13, .ref a14, .int 0, .long 0, .long 0, .int 0, .int 0, .int 0, .int 0, .int 0, .ref a15, .int 0, .int 0, .ref a16, .int 0, .ref a17, .ref a18, .ref a19, .int 0, .ref a20, .ref a21, .long 0, .ref a22, .int 0])), (a1, .inl (G.2 0, 7, .inl (fun _ => 0)))] sz)) 0 0 (va_A [(a0, .inr (12, [.int 0, .int 0, .ref a1, .ref a2, .ref a3, .ref a4, .int 0, .ref a5, .int 0, .int 0, .int 0, .int 0, .long 0, .int (-1), .int 0, .int 0, .ref a6, .int 0, .ref a7, .ref a8, .int 0, .ref a9, .ref a10, .int 0, .int 0, .ref a11, .ref a12, .int 0, .ref a13, .ref a14, .int 0, .long 0, .long 0, .int 0, .int 0, .int 0, .int 0, .int 0, .ref a15, .int 0, .int 0, .ref a16, .int 0, .ref a17, .ref a18, .ref a19, .int 0, .ref a20, .ref a21, .long 0, .ref a22, .int 0])), (a1, .inl (G.2 0, 7, .inl (fun _ => 0)))] sz) := by
  refine Met.ofW (cc := cX12_row) (maxL := 5) (ret := (some .int)) (by decide) rfl ?_
  intro p e s m args below meth c s₁ B hml hv
  obtain ⟨rfl, hsz, hP, hK, hD0, hN, hT⟩ := hv
  have hx := B.exec
  have hb := B.bytes
  have hr := B.returns
  have hts : ∀ w ∈ tblG, w.before _ s = true := fun w h => atoms_spec (ws := (wsG yX12_row cX12_row 5 (some .int))) B.pre w (List.mem_cons_of_mem _ h)
  have hown : s.vm.findClass RX12 = some m.cls := findClass_of_methodNamed B.named
  have hlocks := B.notSynchronized
  subst hsz
  have hD := hD0.self (sz := s.heap.size)
  generalize hAe : va_A [(a0, .inr (12, [.int 0, .int 0, .ref a1, .ref a2, .ref a3, .ref a4, .int 0, .ref a5, .int 0, .int 0, .int 0, .int 0, .long 0, .int (-1), .int 0, .int 0, .ref a6, .int 0, .ref a7, .ref a8, .int 0, .ref a9, .ref a10, .int 0, .int 0, .ref a11, .ref a12, .int 0, .ref a13, .ref a14, .int 0, .long 0, .long 0, .int 0, .int 0, .int 0, .int 0, .int 0, .ref a15, .int 0, .int 0, .ref a16, .int 0, .ref a17, .ref a18, .ref a19, .int 0, .ref a20, .ref a21, .long 0, .ref a22, .int 0])), (a1, .inl (G.2 0, 7, .inl (fun _ => 0)))] s.heap.size = A at hD hT ⊢
  have hA : ∀ q : Nat, s.heap.size ≤ q → A q := fun q h => by rw [← hAe]; exact Or.inr h
  have hS : va_S A s.heap s.heap [] := va_S.rf
  have hP : va_P G.1 vwCl [(a0, .inr (12, [.int 0, .int 0, .ref a1, .ref a2, .ref a3, .ref a4, .int 0, .ref a5, .int 0, .int 0, .int 0, .int 0, .long 0, .int (-1), .int 0, .int 0, .ref a6, .int 0, .ref a7, .ref a8, .int 0, .ref a9, .ref a10, .int 0, .int 0, .ref a11, .ref a12, .int 0, .ref a13, .ref a14, .int 0, .long 0, .long 0, .int 0, .int 0, .int 0, .int 0, .int 0, .ref a15, .int 0, .int 0, .ref a16, .int 0, .ref a17, .ref a18, .ref a19, .int 0, .ref a20, .ref a21, .long 0, .ref a22, .int 0])), (a1, .inl (G.2 0, 7, .inl (fun _ => 0)))] s.heap := hP
  have hl := lv_entry ([.ref a0]) (n := 5) (Nat.le_of_ble_eq_true rfl)
  rw [lg_entry_eq]
  generalize (lg_sl ([.ref a0]) ++ List.replicate (5 - (lg_sl ([.ref a0])).length) Slot.unset).toArray = ls at hl ⊢
  have hl : lv_has ls 5 [(0, .ref a0)] := hl
  refine lv_aload_n hx hb dX12_row_0 rfl (lv_at hl 0 rfl) ?_
  refine lv_iconst (v := 0) hx hb dX12_row_1 (by decide) ?_
  refine va_put (D := G.1) (ci := 12) (v := .int 0) (ty := .int) (C := RX12) (T := TX12) (N := 52) hx hb hts inG_X12 tyX12 tyX12_ok nmX12 hown hK hP hD hS 0 rfl rfl 0 (by decide) (hts _ fl_X12_107) (fun _ h9 => h9) rfl (by decide +kernel) rfl rfl (Nat.le_of_ble_eq_true rfl) dX12_row_2 (fun H locs hP hD hS => ?_)
  have hP : va_P G.1 vwCl [(a0, .inr (12, [.int 0, .int 0, .ref a1, .ref a2, .ref a3, .ref a4, .int 0, .ref a5, .int 0, .int 0, .int 0, .int 0, .long 0, .int (-1), .int 0, .int 0, .ref a6, .int 0, .ref a7, .ref a8, .int 0, .ref a9, .ref a10, .int 0, .int 0, .ref a11, .ref a12, .int 0, .ref a13, .ref a14, .int 0, .long 0, .long 0, .int 0, .int 0, .int 0, .int 0, .int 0, .ref a15, .int 0, .int 0, .ref a16, .int 0, .ref a17, .ref a18, .ref a19, .int 0, .ref a20, .ref a21, .long 0, .ref a22, .int 0])), (a1, .inl (G.2 0, 7, .inl (fun _ => 0)))] H := hP
  have hD : va_D A [(a0, .inr (12, [.int 0, .int 0, .ref a1, .ref a2, .ref a3, .ref a4, .int 0, .ref a5, .int 0, .int 0, .int 0, .int 0, .long 0, .int (-1), .int 0, .int 0, .ref a6, .int 0, .ref a7, .ref a8, .int 0, .ref a9, .ref a10, .int 0, .int 0, .ref a11, .ref a12, .int 0, .ref a13, .ref a14, .int 0, .long 0, .long 0, .int 0, .int 0, .int 0, .int 0, .int 0, .ref a15, .int 0, .int 0, .ref a16, .int 0, .ref a17, .ref a18, .ref a19, .int 0, .ref a20, .ref a21, .long 0, .ref a22, .int 0])), (a1, .inl (G.2 0, 7, .inl (fun _ => 0)))] := hD
  refine lv_aload_n hx hb dX12_row_5 rfl (lv_at hl 0 rfl) ?_
  refine va_get (D := G.1) (ci := 12) (v := .int 0) (C := RX12) (T := TX12) (N := 52) hx hb hts inG_X12 hown hK hP 0 rfl rfl 8 (by decide) (hts _ fl_X12_192) (fun _ h9 => h9) rfl dX12_row_6 ?_
  refine lv_istore_n (lv' := [(1, .int 0), (0, .ref a0)]) hx hb dX12_row_9 rfl hl (by decide) rfl (fun ls hl => ?_)
  refine lv_aload_n hx hb dX12_row_10 rfl (lv_at hl 1 rfl) ?_
  refine lv_iconst (v := 0) hx hb dX12_row_11 (by decide) ?_
  refine va_put (D := G.1) (ci := 12) (v := .int 0) (ty := .int) (C := RX12) (T := TX12) (N := 52) hx hb hts inG_X12 tyX12 tyX12_ok nmX12 hown hK hP hD hS 0 rfl rfl 8 (by decide) (hts _ fl_X12_192) (fun _ h9 => h9) rfl (by decide +kernel) rfl rfl (Nat.le_of_ble_eq_true rfl) dX12_row_12 (fun H locs hP hD hS => ?_)
  have hP : va_P G.1 vwCl [(a0, .inr (12, [.int 0, .int 0, .ref a1, .ref a2, .ref a3, .ref a4, .int 0, .ref a5, .int 0, .int 0, .int 0, .int 0, .long 0, .int (-1), .int 0, .int 0, .ref a6, .int 0, .ref a7, .ref a8, .int 0, .ref a9, .ref a10, .int 0, .int 0, .ref a11, .ref a12, .int 0, .ref a13, .ref a14, .int 0, .long 0, .long 0, .int 0, .int 0, .int 0, .int 0, .int 0, .ref a15, .int 0, .int 0, .ref a16, .int 0, .ref a17, .ref a18, .ref a19, .int 0, .ref a20, .ref a21, .long 0, .ref a22, .int 0])), (a1, .inl (G.2 0, 7, .inl (fun _ => 0)))] H := hP
  have hD : va_D A [(a0, .inr (12, [.int 0, .int 0, .ref a1, .ref a2, .ref a3, .ref a4, .int 0, .ref a5, .int 0, .int 0, .int 0, .int 0, .long 0, .int (-1), .int 0, .int 0, .ref a6, .int 0, .ref a7, .ref a8, .int 0, .ref a9, .ref a10, .int 0, .int 0, .ref a11, .ref a12, .int 0, .ref a13, .ref a14, .int 0, .long 0, .long 0, .int 0, .int 0, .int 0, .int 0, .int 0, .ref a15, .int 0, .int 0, .ref a16, .int 0, .ref a17, .ref a18, .ref a19, .int 0, .ref a20, .ref a21, .long 0, .ref a22, .int 0])), (a1, .inl (G.2 0, 7, .inl (fun _ => 0)))] := hD
  refine lv_iload_n hx hb dX12_row_15 rfl (lv_at hl 0 rfl) ?_
  refine lv_if_ne (tgt := 26) hx hb dX12_row_16 (by decide) (fun c_1 => ?_) (fun c_1 => ?_)
  ·
    exact absurd c_1 (by decide)
  ·
    refine lv_aload_n hx hb dX12_row_19 rfl (lv_at hl 1 rfl) ?_
    refine lv_bipush (v := (-6)) hx hb dX12_row_20 (by decide) ?_
    have hPc := hP.sub (ws' := [(a0, .inr (12, [.int 0, .int 0, .ref a1, .ref a2, .ref a3, .ref a4, .int 0, .ref a5, .int 0, .int 0, .int 0, .int 0, .long 0, .int (-1), .int 0, .int 0, .ref a6, .int 0, .ref a7, .ref a8, .int 0, .ref a9, .ref a10, .int 0, .int 0, .ref a11, .ref a12, .int 0, .ref a13, .ref a14, .int 0, .long 0, .long 0, .int 0, .int 0, .int 0, .int 0, .int 0, .ref a15, .int 0, .int 0, .ref a16, .int 0, .ref a17, .ref a18, .ref a19, .int 0, .ref a20, .ref a21, .long 0, .ref a22, .int 0])), (a1, .inl (G.2 0, 7, .inl (fun _ => 0)))]) [0, 1] rfl
    have hDc := hD.sub (ws' := [(a0, .inr (12, [.int 0, .int 0, .ref a1, .ref a2, .ref a3, .ref a4, .int 0, .ref a5, .int 0, .int 0, .int 0, .int 0, .long 0, .int (-1), .int 0, .int 0, .ref a6, .int 0, .ref a7, .ref a8, .int 0, .ref a9, .ref a10, .int 0, .int 0, .ref a11, .ref a12, .int 0, .ref a13, .ref a14, .int 0, .long 0, .long 0, .int 0, .int 0, .int 0, .int 0, .int 0, .ref a15, .int 0, .int 0, .ref a16, .int 0, .ref a17, .ref a18, .ref a19, .int 0, .ref a20, .ref a21, .long 0, .ref a22, .int 0])), (a1, .inl (G.2 0, 7, .inl (fun _ => 0)))]) [0, 1] (by decide) rfl
    have hFc := va_free (wc := [(a0, .inr (12, [.int 0, .int 0, .ref a1, .ref a2, .ref a3, .ref a4, .int 0, .ref a5, .int 0, .int 0, .int 0, .int 0, .long 0, .int (-1), .int 0, .int 0, .ref a6, .int 0, .ref a7, .ref a8, .int 0, .ref a9, .ref a10, .int 0, .int 0, .ref a11, .ref a12, .int 0, .ref a13, .ref a14, .int 0, .long 0, .long 0, .int 0, .int 0, .int 0, .int 0, .int 0, .ref a15, .int 0, .int 0, .ref a16, .int 0, .ref a17, .ref a18, .ref a19, .int 0, .ref a20, .ref a21, .long 0, .ref a22, .int 0])), (a1, .inl (G.2 0, 7, .inl (fun _ => 0)))]) hD hS hA [0, 1] rfl
    refine va_calli (va_runV (As := [.int (-6)]) (rest := []) ⟨hx, hb, hml, hown, hts⟩ (kX12_tell_5 l G a0 a1 a2 a3 a4 a5 a6 a7 a8 a9 a10 a11 a12 a13 a14 a15 a16 a17 a18 a19 a20 a21 a22 H.size) (cwV 1 hts gV_X12_125 rfl rfl rfl hv_X12_tell ⟨Nat.le_of_ble_eq_true rfl, Nat.le_of_ble_eq_true rfl⟩) (g5_preV hPc hK hDc hN hT hS hFc (ci := 12) (q0 := 0) rfl rfl) rfl rfl hl.1 rfl (lv_room (Nat.le_of_ble_eq_true rfl)) dX12_row_22 ⟨Nat.le_of_ble_eq_true rfl, Nat.le_of_ble_eq_true rfl⟩) hS (fun q _ h => hFc q h) hFc (fun r u t H1 locs ht hvm hw hB hz1 hk1 hS => ?_)
    obtain ⟨hP1, hD1⟩ := hB
    rw [ht] at hP1
    obtain ⟨rfl, rfl⟩ := hw
    obtain ⟨hP, hD⟩ := va_join (wr := []) (w1 := [(a0, .inr (12, [.int 0, .int (-6), .ref a1, .ref a2, .ref a3, .ref a4, .int 0, .ref a5, .int 0, .int 0, .int 0, .int 0, .long 0, .int (-1), .int 0, .int 0, .ref a6, .int 0, .ref a7, .ref a8, .int 0, .ref a9, .ref a10, .int 0, .int 0, .ref a11, .ref a12, .int 0, .ref a13, .ref a14, .int 0, .long 0, .long 0, .int 0, .int 0, .int 0, .int 0, .int 0, .ref a15, .int 0, .int 0, .ref a16, .int 0, .ref a17, .ref a18, .ref a19, .int 0, .ref a20, .ref a21, .long 0, .ref a22, .int 0])), (a1, .inl (G.2 0, 7, .inl (upd (fun _ => 0) 6 1)))]) hP hD [0, 1] [] rfl rfl (by decide) (by decide) hk1 hFc hP1 hD1
    generalize H1 = H at hP hS ⊢
    have hP : va_P G.1 vwCl [(a0, .inr (12, [.int 0, .int (-6), .ref a1, .ref a2, .ref a3, .ref a4, .int 0, .ref a5, .int 0, .int 0, .int 0, .int 0, .long 0, .int (-1), .int 0, .int 0, .ref a6, .int 0, .ref a7, .ref a8, .int 0, .ref a9, .ref a10, .int 0, .int 0, .ref a11, .ref a12, .int 0, .ref a13, .ref a14, .int 0, .long 0, .long 0, .int 0, .int 0, .int 0, .int 0, .int 0, .ref a15, .int 0, .int 0, .ref a16, .int 0, .ref a17, .ref a18, .ref a19, .int 0, .ref a20, .ref a21, .long 0, .ref a22, .int 0])), (a1, .inl (G.2 0, 7, .inl (upd (fun _ => 0) 6 1)))] H := hP
    have hD : va_D A [(a0, .inr (12, [.int 0, .int (-6), .ref a1, .ref a2, .ref a3, .ref a4, .int 0, .ref a5, .int 0, .int 0, .int 0, .int 0, .long 0, .int (-1), .int 0, .int 0, .ref a6, .int 0, .ref a7, .ref a8, .int 0, .ref a9, .ref a10, .int 0, .int 0, .ref a11, .ref a12, .int 0, .ref a13, .ref a14, .int 0, .long 0, .long 0, .int 0, .int 0, .int 0, .int 0, .int 0, .ref a15, .int 0, .int 0, .ref a16, .int 0, .ref a17, .ref a18, .ref a19, .int 0, .ref a20, .ref a21, .long 0, .ref a22, .int 0])), (a1, .inl (G.2 0, 7, .inl (upd (fun _ => 0) 6 1)))] := hD
    have hP := hP.sub (ws' := []) [] rfl
    have hD := hD.sub (ws' := []) [] (by decide) rfl
    exact W.iret (v := (-6)) hx hb hr (fun t ht hW => ⟨⟨(-6), [], rfl, ⟨rfl, rfl⟩, by rw [ht]; exact hP, hD⟩, hS.F ht⟩) hS.2.2 dX12_row_25
theorem fl_X12_195 : Cond.fieldLink RX12 195 "LateGlassModel" "faded" "I" ∈ tblG := tg 1209 (by decide +kernel) (by decide +kernel)
theorem dX12_faded_0 : decode cX12_faded 0 = .ok (.aload_n 0, 1) := by decide +kernel
theorem dX12_faded_1 : decode cX12_faded 1 = .ok (.iconst 0, 1) := by decide +kernel
theorem dX12_faded_2 : decode cX12_faded 2 = .ok (.putfield 107, 3) := by decide +kernel
theorem dX12_faded_5 : decode cX12_faded 5 = .ok (.aload_n 0, 1) := by decide +kernel
theorem dX12_faded_6 : decode cX12_faded 6 = .ok (.getfield 195, 3) := by decide +kernel
theorem dX12_faded_9 : decode cX12_faded 9 = .ok (.ireturn, 1) := by decide +kernel
set_option maxHeartbeats 4000000 in
set_option maxRecDepth 100000 in
theorem kX12_faded (l : Launch) (G : g5_G) (a0 a1 a2 a3 a4 a5 a6 a7 a8 a9 a10 a11 a12 a13 a14 a15 a16 a17 a18 a19 a20 a21 a22 : Nat) (sz : Nat) : Met l yX12_faded (wsG yX12_faded cX12_faded 1 (some .int)) ({ frames := 0, cells := 0, slots := 0, locals := 0 }) (va_Pc [.ref a0] (g5_P G [(a0, .inr (12, [.int 0, .int 0, .ref a1, .ref a2, .ref a3, .ref a4, .int 0, .ref a5, .int 0, .int 0, .int 0, .int 0, .long 0, .int (-1), .int 0, .int 0, .ref a6, .int 0, .ref a7, .ref a8, .int 0, .ref a9, .ref a10, .int 0, .int 0, .ref a11, .ref a12, .int 0, .ref a13, .ref a14, .int 0, .long 0, .long 0, .int 0, .int 0, .int 0, .int 0, .int 0, .ref a15, .int 0, .int 0, .ref a16, .int 0, .ref a17, .ref a18, .ref a19, .int 0, .ref a20, .ref a21, .long 0, .ref a22, .int 0]))] sz)) (va_Qi (fun (r : Int32) (u : va_W) => ((r = 0) ∧ (u = []))) (g5_B G (va_A [(a0, .inr (12, [.int 0, .int 0, .ref a1, .ref a2, .ref a3, .ref a4, .int 0, .ref a5, .int 0, .int 0, .int 0, .int 0, .long 0, .int (-1), .int 0, .int 0, .ref a6, .int 0, .ref a7, .ref a8, .int 0, .ref a9, .ref a10, .int 0, .int 0, .ref a11, .ref a12, .int 0, .ref a13, .ref a14, .int 0, .long 0, .long 0, .int 0, .int 0, .int 0, .int 0, .int 0, .ref a15, .int 0, .int 0, .ref a16, .int 0, .ref a17, .ref a18, .ref a19, .int 0, .ref a20, .ref a21, .long 0, .ref a22, .int 0]))] sz)) (va_A [(a0, .inr (12, [.int 0, .int 0, .ref a1, .ref a2, .ref a3, .ref a4, .int 0, .ref a5, .int 0, .int 0, .int 0, .int 0, .long 0, .int (-1), .int 0, .int 0, .ref a6, .int 0, .ref a7, .ref a8, .int 0, .ref a9, .ref a10, .int 0, .int 0, .ref a11, .ref a12, .int 0, .ref a13, .ref a14, .int 0, .long 0, .long 0, .int 0, .int 0, .int 0, .int 0, .int 0, .ref a15, .int 0, .int 0, .ref a16, .int 0, .ref a17, .ref a18, .ref a19, .int 0, .ref a20, .ref a21, .long 0, .ref a22, .int 0]))] sz)) 0 0 (va_A [(a0, .inr (12, [.int 0, .int 0, .ref a1, .ref a2, .ref a3, .ref a4, .int 0, .ref a5, .int 0, .int 0, .int 0, .int 0, .long 0, .int (-1), .int 0, .int 0, .ref a6, .int 0, .ref a7, .ref a8, .int 0, .ref a9, .ref a10, .int 0, .int 0, .ref a11, .ref a12, .int 0, .ref a13, .ref a14, .int 0, .long 0, .long 0, .int 0, .int 0, .int 0, .int 0, .int 0, .ref a15, .int 0, .int 0, .ref a16, .int 0, .ref a17, .ref a18, .ref a19, .int 0, .ref a20, .ref a21, .long 0, .ref a22, .int 0]))] sz) := by
  refine Met.ofW (cc := cX12_faded) (maxL := 1) (ret := (some .int)) (by decide) rfl ?_
  intro p e s m args below meth c s₁ B hml hv
  obtain ⟨rfl, hsz, hP, hK, hD0, hN, hT⟩ := hv
  have hx := B.exec
  have hb := B.bytes
  have hr := B.returns
  have hts : ∀ w ∈ tblG, w.before _ s = true := fun w h => atoms_spec (ws := (wsG yX12_faded cX12_faded 1 (some .int))) B.pre w (List.mem_cons_of_mem _ h)
  have hown : s.vm.findClass RX12 = some m.cls := findClass_of_methodNamed B.named
  have hlocks := B.notSynchronized
  subst hsz
  have hD := hD0.self (sz := s.heap.size)
  generalize hAe : va_A [(a0, .inr (12, [.int 0, .int 0, .ref a1, .ref a2, .ref a3, .ref a4, .int 0, .ref a5, .int 0, .int 0, .int 0, .int 0, .long 0, .int (-1), .int 0, .int 0, .ref a6, .int 0, .ref a7, .ref a8, .int 0, .ref a9, .ref a10, .int 0, .int 0, .ref a11, .ref a12, .int 0, .ref a13, .ref a14, .int 0, .long 0, .long 0, .int 0, .int 0, .int 0, .int 0, .int 0, .ref a15, .int 0, .int 0, .ref a16, .int 0, .ref a17, .ref a18, .ref a19, .int 0, .ref a20, .ref a21, .long 0, .ref a22, .int 0]))] s.heap.size = A at hD hT ⊢
  have hA : ∀ q : Nat, s.heap.size ≤ q → A q := fun q h => by rw [← hAe]; exact Or.inr h
  have hS : va_S A s.heap s.heap [] := va_S.rf
  have hP : va_P G.1 vwCl [(a0, .inr (12, [.int 0, .int 0, .ref a1, .ref a2, .ref a3, .ref a4, .int 0, .ref a5, .int 0, .int 0, .int 0, .int 0, .long 0, .int (-1), .int 0, .int 0, .ref a6, .int 0, .ref a7, .ref a8, .int 0, .ref a9, .ref a10, .int 0, .int 0, .ref a11, .ref a12, .int 0, .ref a13, .ref a14, .int 0, .long 0, .long 0, .int 0, .int 0, .int 0, .int 0, .int 0, .ref a15, .int 0, .int 0, .ref a16, .int 0, .ref a17, .ref a18, .ref a19, .int 0, .ref a20, .ref a21, .long 0, .ref a22, .int 0]))] s.heap := hP
  have hl := lv_entry ([.ref a0]) (n := 1) (Nat.le_of_ble_eq_true rfl)
  rw [lg_entry_eq]
  generalize (lg_sl ([.ref a0]) ++ List.replicate (1 - (lg_sl ([.ref a0])).length) Slot.unset).toArray = ls at hl ⊢
  have hl : lv_has ls 1 [(0, .ref a0)] := hl
  refine lv_aload_n hx hb dX12_faded_0 rfl (lv_at hl 0 rfl) ?_
  refine lv_iconst (v := 0) hx hb dX12_faded_1 (by decide) ?_
  refine va_put (D := G.1) (ci := 12) (v := .int 0) (ty := .int) (C := RX12) (T := TX12) (N := 52) hx hb hts inG_X12 tyX12 tyX12_ok nmX12 hown hK hP hD hS 0 rfl rfl 0 (by decide) (hts _ fl_X12_107) (fun _ h9 => h9) rfl (by decide +kernel) rfl rfl (Nat.le_of_ble_eq_true rfl) dX12_faded_2 (fun H locs hP hD hS => ?_)
  have hP : va_P G.1 vwCl [(a0, .inr (12, [.int 0, .int 0, .ref a1, .ref a2, .ref a3, .ref a4, .int 0, .ref a5, .int 0, .int 0, .int 0, .int 0, .long 0, .int (-1), .int 0, .int 0, .ref a6, .int 0, .ref a7, .ref a8, .int 0, .ref a9, .ref a10, .int 0, .int 0, .ref a11, .ref a12, .int 0, .ref a13, .ref a14, .int 0, .long 0, .long 0, .int 0, .int 0, .int 0, .int 0, .int 0, .ref a15, .int 0, .int 0, .ref a16, .int 0, .ref a17, .ref a18, .ref a19, .int 0, .ref a20, .ref a21, .long 0, .ref a22, .int 0]))] H := hP
  have hD : va_D A [(a0, .inr (12, [.int 0, .int 0, .ref a1, .ref a2, .ref a3, .ref a4, .int 0, .ref a5, .int 0, .int 0, .int 0, .int 0, .long 0, .int (-1), .int 0, .int 0, .ref a6, .int 0, .ref a7, .ref a8, .int 0, .ref a9, .ref a10, .int 0, .int 0, .ref a11, .ref a12, .int 0, .ref a13, .ref a14, .int 0, .long 0, .long 0, .int 0, .int 0, .int 0, .int 0, .int 0, .ref a15, .int 0, .int 0, .ref a16, .int 0, .ref a17, .ref a18, .ref a19, .int 0, .ref a20, .ref a21, .long 0, .ref a22, .int 0]))] := hD
  refine lv_aload_n hx hb dX12_faded_5 rfl (lv_at hl 0 rfl) ?_
  refine va_get (D := G.1) (ci := 12) (v := .int 0) (C := RX12) (T := TX12) (N := 52) hx hb hts inG_X12 hown hK hP 0 rfl rfl 6 (by decide) (hts _ fl_X12_195) (fun _ h9 => h9) rfl dX12_faded_6 ?_
  have hP := hP.sub (ws' := []) [] rfl
  have hD := hD.sub (ws' := []) [] (by decide) rfl
  exact W.iret (v := 0) hx hb hr (fun t ht hW => ⟨⟨0, [], rfl, ⟨rfl, rfl⟩, by rw [ht]; exact hP, hD⟩, hS.F ht⟩) hS.2.2 dX12_faded_9
theorem fl_X12_202 : Cond.fieldLink RX12 202 "LateGlassModel" "to" "I" ∈ tblG := tg 1213 (by decide +kernel) (by decide +kernel)
theorem fl_X12_205 : Cond.fieldLink RX12 205 "LateGlassModel" "bad" "Z" ∈ tblG := tg 1217 (by decide +kernel) (by decide +kernel)
theorem fl_X12_211 : Cond.fieldLink RX12 211 "LateGlassModel" "from" "I" ∈ tblG := tg 1212 (by decide +kernel) (by decide +kernel)
theorem fl_X12_214 : Cond.fieldLink RX12 214 "LateGlassModel" "worth" "J" ∈ tblG := tg 1215 (by decide +kernel) (by decide +kernel)
theorem fl_X12_224 : Cond.fieldLink RX12 224 "LateGlassModel" "sort" "I" ∈ tblG := tg 1214 (by decide +kernel) (by decide +kernel)
theorem dX12_next_0 : decode cX12_next 0 = .ok (.aload_n 0, 1) := by decide +kernel
theorem dX12_next_1 : decode cX12_next 1 = .ok (.aload_n 0, 1) := by decide +kernel
theorem dX12_next_2 : decode cX12_next 2 = .ok (.getfield 202, 3) := by decide +kernel
theorem dX12_next_5 : decode cX12_next 5 = .ok (.putfield 211, 3) := by decide +kernel
theorem dX12_next_8 : decode cX12_next 8 = .ok (.aload_n 0, 1) := by decide +kernel
theorem dX12_next_9 : decode cX12_next 9 = .ok (.getfield 211, 3) := by decide +kernel
theorem dX12_next_12 : decode cX12_next 12 = .ok (.aload_n 0, 1) := by decide +kernel
theorem dX12_next_13 : decode cX12_next 13 = .ok (.getfield 192, 3) := by decide +kernel
theorem dX12_next_16 : decode cX12_next 16 = .ok (.if_icmp .ge 30, 3) := by decide +kernel
theorem dX12_next_19 : decode cX12_next 19 = .ok (.aload_n 0, 1) := by decide +kernel
theorem dX12_next_20 : decode cX12_next 20 = .ok (.getfield 23, 3) := by decide +kernel
theorem dX12_next_23 : decode cX12_next 23 = .ok (.aload_n 0, 1) := by decide +kernel
theorem dX12_next_24 : decode cX12_next 24 = .ok (.getfield 211, 3) := by decide +kernel
theorem dX12_next_27 : decode cX12_next 27 = .ok (.iaload, 1) := by decide +kernel
theorem dX12_next_28 : decode cX12_next 28 = .ok (.bipush 32, 2) := by decide +kernel
theorem dX12_next_30 : decode cX12_next 30 = .ok (.if_icmp .ne 16, 3) := by decide +kernel
theorem dX12_next_33 : decode cX12_next 33 = .ok (.aload_n 0, 1) := by decide +kernel
theorem dX12_next_34 : decode cX12_next 34 = .ok (.dup, 1) := by decide +kernel
theorem dX12_next_35 : decode cX12_next 35 = .ok (.getfield 211, 3) := by decide +kernel
theorem dX12_next_38 : decode cX12_next 38 = .ok (.iconst 1, 1) := by decide +kernel
theorem dX12_next_39 : decode cX12_next 39 = .ok (.iadd, 1) := by decide +kernel
theorem dX12_next_40 : decode cX12_next 40 = .ok (.putfield 211, 3) := by decide +kernel
theorem dX12_next_43 : decode cX12_next 43 = .ok (.goto (-35), 3) := by decide +kernel
theorem dX12_next_46 : decode cX12_next 46 = .ok (.aload_n 0, 1) := by decide +kernel
theorem dX12_next_47 : decode cX12_next 47 = .ok (.aload_n 0, 1) := by decide +kernel
theorem dX12_next_48 : decode cX12_next 48 = .ok (.getfield 211, 3) := by decide +kernel
theorem dX12_next_51 : decode cX12_next 51 = .ok (.putfield 202, 3) := by decide +kernel
theorem dX12_next_54 : decode cX12_next 54 = .ok (.aload_n 0, 1) := by decide +kernel
theorem dX12_next_55 : decode cX12_next 55 = .ok (.lconst 0, 1) := by decide +kernel
theorem dX12_next_56 : decode cX12_next 56 = .ok (.putfield 214, 3) := by decide +kernel
theorem dX12_next_59 : decode cX12_next 59 = .ok (.aload_n 0, 1) := by decide +kernel
theorem dX12_next_60 : decode cX12_next 60 = .ok (.aload_n 0, 1) := by decide +kernel
theorem dX12_next_61 : decode cX12_next 61 = .ok (.getfield 211, 3) := by decide +kernel
theorem dX12_next_64 : decode cX12_next 64 = .ok (.aload_n 0, 1) := by decide +kernel
theorem dX12_next_65 : decode cX12_next 65 = .ok (.getfield 192, 3) := by decide +kernel
theorem dX12_next_68 : decode cX12_next 68 = .ok (.if_icmp .ne 7, 3) := by decide +kernel
theorem dX12_next_71 : decode cX12_next 71 = .ok (.iconst 0, 1) := by decide +kernel
theorem dX12_next_72 : decode cX12_next 72 = .ok (.goto 42, 3) := by decide +kernel
theorem dX12_next_75 : decode cX12_next 75 = .ok (.aload_n 0, 1) := by decide +kernel
theorem dX12_next_76 : decode cX12_next 76 = .ok (.getfield 23, 3) := by decide +kernel
theorem dX12_next_79 : decode cX12_next 79 = .ok (.aload_n 0, 1) := by decide +kernel
theorem dX12_next_80 : decode cX12_next 80 = .ok (.getfield 211, 3) := by decide +kernel
theorem dX12_next_83 : decode cX12_next 83 = .ok (.iaload, 1) := by decide +kernel
theorem dX12_next_84 : decode cX12_next 84 = .ok (.invokestatic 218, 3) := by decide +kernel
theorem dX12_next_87 : decode cX12_next 87 = .ok (.ifCond .eq 7, 3) := by decide +kernel
theorem dX12_next_90 : decode cX12_next 90 = .ok (.iconst 1, 1) := by decide +kernel
theorem dX12_next_91 : decode cX12_next 91 = .ok (.goto 23, 3) := by decide +kernel
theorem dX12_next_94 : decode cX12_next 94 = .ok (.aload_n 0, 1) := by decide +kernel
theorem dX12_next_95 : decode cX12_next 95 = .ok (.getfield 23, 3) := by decide +kernel
theorem dX12_next_98 : decode cX12_next 98 = .ok (.aload_n 0, 1) := by decide +kernel
theorem dX12_next_99 : decode cX12_next 99 = .ok (.getfield 211, 3) := by decide +kernel
theorem dX12_next_102 : decode cX12_next 102 = .ok (.iaload, 1) := by decide +kernel
theorem dX12_next_103 : decode cX12_next 103 = .ok (.invokestatic 221, 3) := by decide +kernel
theorem dX12_next_106 : decode cX12_next 106 = .ok (.ifCond .eq 7, 3) := by decide +kernel
theorem dX12_next_109 : decode cX12_next 109 = .ok (.iconst 2, 1) := by decide +kernel
theorem dX12_next_110 : decode cX12_next 110 = .ok (.goto 4, 3) := by decide +kernel
theorem dX12_next_113 : decode cX12_next 113 = .ok (.iconst 3, 1) := by decide +kernel
theorem dX12_next_114 : decode cX12_next 114 = .ok (.putfield 224, 3) := by decide +kernel
theorem dX12_next_117 : decode cX12_next 117 = .ok (.aload_n 0, 1) := by decide +kernel
theorem dX12_next_118 : decode cX12_next 118 = .ok (.getfield 224, 3) := by decide +kernel
theorem dX12_next_121 : decode cX12_next 121 = .ok (.iconst 3, 1) := by decide +kernel
theorem dX12_next_122 : decode cX12_next 122 = .ok (.if_icmp .ne 27, 3) := by decide +kernel
theorem dX12_next_125 : decode cX12_next 125 = .ok (.aload_n 0, 1) := by decide +kernel
theorem dX12_next_126 : decode cX12_next 126 = .ok (.aload_n 0, 1) := by decide +kernel
theorem dX12_next_127 : decode cX12_next 127 = .ok (.getfield 23, 3) := by decide +kernel
theorem dX12_next_130 : decode cX12_next 130 = .ok (.aload_n 0, 1) := by decide +kernel
theorem dX12_next_131 : decode cX12_next 131 = .ok (.getfield 211, 3) := by decide +kernel
theorem dX12_next_134 : decode cX12_next 134 = .ok (.iaload, 1) := by decide +kernel
theorem dX12_next_135 : decode cX12_next 135 = .ok (.i2l, 1) := by decide +kernel
theorem dX12_next_136 : decode cX12_next 136 = .ok (.putfield 214, 3) := by decide +kernel
theorem dX12_next_139 : decode cX12_next 139 = .ok (.aload_n 0, 1) := by decide +kernel
theorem dX12_next_140 : decode cX12_next 140 = .ok (.dup, 1) := by decide +kernel
theorem dX12_next_141 : decode cX12_next 141 = .ok (.getfield 202, 3) := by decide +kernel
theorem dX12_next_144 : decode cX12_next 144 = .ok (.iconst 1, 1) := by decide +kernel
theorem dX12_next_145 : decode cX12_next 145 = .ok (.iadd, 1) := by decide +kernel
theorem dX12_next_146 : decode cX12_next 146 = .ok (.putfield 202, 3) := by decide +kernel
theorem dX12_next_149 : decode cX12_next 149 = .ok (.aload_n 0, 1) := by decide +kernel
theorem dX12_next_150 : decode cX12_next 150 = .ok (.getfield 224, 3) := by decide +kernel
theorem dX12_next_153 : decode cX12_next 153 = .ok (.iconst 1, 1) := by decide +kernel
theorem dX12_next_154 : decode cX12_next 154 = .ok (.if_icmp .ne 89, 3) := by decide +kernel
theorem dX12_next_157 : decode cX12_next 157 = .ok (.aload_n 0, 1) := by decide +kernel
theorem dX12_next_158 : decode cX12_next 158 = .ok (.getfield 202, 3) := by decide +kernel
theorem dX12_next_161 : decode cX12_next 161 = .ok (.aload_n 0, 1) := by decide +kernel
theorem dX12_next_162 : decode cX12_next 162 = .ok (.getfield 192, 3) := by decide +kernel
theorem dX12_next_165 : decode cX12_next 165 = .ok (.if_icmp .ge 78, 3) := by decide +kernel
theorem dX12_next_168 : decode cX12_next 168 = .ok (.aload_n 0, 1) := by decide +kernel
theorem dX12_next_169 : decode cX12_next 169 = .ok (.getfield 23, 3) := by decide +kernel
theorem dX12_next_172 : decode cX12_next 172 = .ok (.aload_n 0, 1) := by decide +kernel
theorem dX12_next_173 : decode cX12_next 173 = .ok (.getfield 202, 3) := by decide +kernel
theorem dX12_next_176 : decode cX12_next 176 = .ok (.iaload, 1) := by decide +kernel
theorem dX12_next_177 : decode cX12_next 177 = .ok (.invokestatic 218, 3) := by decide +kernel
theorem dX12_next_180 : decode cX12_next 180 = .ok (.ifCond .eq 63, 3) := by decide +kernel
theorem dX12_next_183 : decode cX12_next 183 = .ok (.aload_n 0, 1) := by decide +kernel
theorem dX12_next_184 : decode cX12_next 184 = .ok (.aload_n 0, 1) := by decide +kernel
theorem dX12_next_185 : decode cX12_next 185 = .ok (.getfield 202, 3) := by decide +kernel
theorem dX12_next_188 : decode cX12_next 188 = .ok (.aload_n 0, 1) := by decide +kernel
theorem dX12_next_189 : decode cX12_next 189 = .ok (.getfield 211, 3) := by decide +kernel
theorem dX12_next_192 : decode cX12_next 192 = .ok (.isub, 1) := by decide +kernel
theorem dX12_next_193 : decode cX12_next 193 = .ok (.bipush 10, 2) := by decide +kernel
theorem dX12_next_195 : decode cX12_next 195 = .ok (.if_icmp .ge 29, 3) := by decide +kernel
theorem dX12_next_198 : decode cX12_next 198 = .ok (.aload_n 0, 1) := by decide +kernel
theorem dX12_next_199 : decode cX12_next 199 = .ok (.getfield 214, 3) := by decide +kernel
theorem dX12_next_202 : decode cX12_next 202 = .ok (.ldc2_w 227, 3) := by decide +kernel
theorem dX12_next_205 : decode cX12_next 205 = .ok (.lmul, 1) := by decide +kernel
theorem dX12_next_206 : decode cX12_next 206 = .ok (.aload_n 0, 1) := by decide +kernel
theorem dX12_next_207 : decode cX12_next 207 = .ok (.getfield 23, 3) := by decide +kernel
theorem dX12_next_210 : decode cX12_next 210 = .ok (.aload_n 0, 1) := by decide +kernel
theorem dX12_next_211 : decode cX12_next 211 = .ok (.getfield 202, 3) := by decide +kernel
theorem dX12_next_214 : decode cX12_next 214 = .ok (.iaload, 1) := by decide +kernel
theorem dX12_next_215 : decode cX12_next 215 = .ok (.i2l, 1) := by decide +kernel
theorem dX12_next_216 : decode cX12_next 216 = .ok (.ladd, 1) := by decide +kernel
theorem dX12_next_217 : decode cX12_next 217 = .ok (.ldc2_w 229, 3) := by decide +kernel
theorem dX12_next_220 : decode cX12_next 220 = .ok (.lsub, 1) := by decide +kernel
theorem dX12_next_221 : decode cX12_next 221 = .ok (.goto 6, 3) := by decide +kernel
theorem dX12_next_224 : decode cX12_next 224 = .ok (.ldc2_w 178, 3) := by decide +kernel
theorem dX12_next_227 : decode cX12_next 227 = .ok (.putfield 214, 3) := by decide +kernel
theorem dX12_next_230 : decode cX12_next 230 = .ok (.aload_n 0, 1) := by decide +kernel
theorem dX12_next_231 : decode cX12_next 231 = .ok (.dup, 1) := by decide +kernel
theorem dX12_next_232 : decode cX12_next 232 = .ok (.getfield 202, 3) := by decide +kernel
theorem dX12_next_235 : decode cX12_next 235 = .ok (.iconst 1, 1) := by decide +kernel
theorem dX12_next_236 : decode cX12_next 236 = .ok (.iadd, 1) := by decide +kernel
theorem dX12_next_237 : decode cX12_next 237 = .ok (.putfield 202, 3) := by decide +kernel
theorem dX12_next_240 : decode cX12_next 240 = .ok (.goto (-91), 3) := by decide +kernel
theorem dX12_next_243 : decode cX12_next 243 = .ok (.aload_n 0, 1) := by decide +kernel
theorem dX12_next_244 : decode cX12_next 244 = .ok (.getfield 224, 3) := by decide +kernel
theorem dX12_next_247 : decode cX12_next 247 = .ok (.iconst 2, 1) := by decide +kernel
theorem dX12_next_248 : decode cX12_next 248 = .ok (.if_icmp .ne 87, 3) := by decide +kernel
theorem dX12_next_251 : decode cX12_next 251 = .ok (.aload_n 0, 1) := by decide +kernel
theorem dX12_next_252 : decode cX12_next 252 = .ok (.getfield 202, 3) := by decide +kernel
theorem dX12_next_255 : decode cX12_next 255 = .ok (.aload_n 0, 1) := by decide +kernel
theorem dX12_next_256 : decode cX12_next 256 = .ok (.getfield 192, 3) := by decide +kernel
theorem dX12_next_259 : decode cX12_next 259 = .ok (.if_icmp .ge 76, 3) := by decide +kernel
theorem dX12_next_262 : decode cX12_next 262 = .ok (.aload_n 0, 1) := by decide +kernel
theorem dX12_next_263 : decode cX12_next 263 = .ok (.getfield 23, 3) := by decide +kernel
theorem dX12_next_266 : decode cX12_next 266 = .ok (.aload_n 0, 1) := by decide +kernel
theorem dX12_next_267 : decode cX12_next 267 = .ok (.getfield 202, 3) := by decide +kernel
theorem dX12_next_270 : decode cX12_next 270 = .ok (.iaload, 1) := by decide +kernel
theorem dX12_next_271 : decode cX12_next 271 = .ok (.invokestatic 221, 3) := by decide +kernel
theorem dX12_next_274 : decode cX12_next 274 = .ok (.ifCond .eq 61, 3) := by decide +kernel
theorem dX12_next_277 : decode cX12_next 277 = .ok (.aload_n 0, 1) := by decide +kernel
theorem dX12_next_278 : decode cX12_next 278 = .ok (.aload_n 0, 1) := by decide +kernel
theorem dX12_next_279 : decode cX12_next 279 = .ok (.getfield 214, 3) := by decide +kernel
theorem dX12_next_282 : decode cX12_next 282 = .ok (.ldc2_w 190, 3) := by decide +kernel
theorem dX12_next_285 : decode cX12_next 285 = .ok (.lcmp, 1) := by decide +kernel
theorem dX12_next_286 : decode cX12_next 286 = .ok (.ifCond .le 10, 3) := by decide +kernel
theorem dX12_next_289 : decode cX12_next 289 = .ok (.aload_n 0, 1) := by decide +kernel
theorem dX12_next_290 : decode cX12_next 290 = .ok (.getfield 214, 3) := by decide +kernel
theorem dX12_next_293 : decode cX12_next 293 = .ok (.goto 26, 3) := by decide +kernel
theorem dX12_next_296 : decode cX12_next 296 = .ok (.aload_n 0, 1) := by decide +kernel
theorem dX12_next_297 : decode cX12_next 297 = .ok (.getfield 214, 3) := by decide +kernel
theorem dX12_next_300 : decode cX12_next 300 = .ok (.ldc2_w 156, 3) := by decide +kernel
theorem dX12_next_303 : decode cX12_next 303 = .ok (.lmul, 1) := by decide +kernel
theorem dX12_next_304 : decode cX12_next 304 = .ok (.aload_n 0, 1) := by decide +kernel
theorem dX12_next_305 : decode cX12_next 305 = .ok (.getfield 23, 3) := by decide +kernel
theorem dX12_next_308 : decode cX12_next 308 = .ok (.aload_n 0, 1) := by decide +kernel
theorem dX12_next_309 : decode cX12_next 309 = .ok (.getfield 202, 3) := by decide +kernel
theorem dX12_next_312 : decode cX12_next 312 = .ok (.iaload, 1) := by decide +kernel
theorem dX12_next_313 : decode cX12_next 313 = .ok (.i2l, 1) := by decide +kernel
theorem dX12_next_314 : decode cX12_next 314 = .ok (.ladd, 1) := by decide +kernel
theorem dX12_next_315 : decode cX12_next 315 = .ok (.ldc2_w 231, 3) := by decide +kernel
theorem dX12_next_318 : decode cX12_next 318 = .ok (.lsub, 1) := by decide +kernel
theorem dX12_next_319 : decode cX12_next 319 = .ok (.putfield 214, 3) := by decide +kernel
theorem dX12_next_322 : decode cX12_next 322 = .ok (.aload_n 0, 1) := by decide +kernel
theorem dX12_next_323 : decode cX12_next 323 = .ok (.dup, 1) := by decide +kernel
theorem dX12_next_324 : decode cX12_next 324 = .ok (.getfield 202, 3) := by decide +kernel
theorem dX12_next_327 : decode cX12_next 327 = .ok (.iconst 1, 1) := by decide +kernel
theorem dX12_next_328 : decode cX12_next 328 = .ok (.iadd, 1) := by decide +kernel
theorem dX12_next_329 : decode cX12_next 329 = .ok (.putfield 202, 3) := by decide +kernel
theorem dX12_next_332 : decode cX12_next 332 = .ok (.goto (-89), 3) := by decide +kernel
theorem dX12_next_335 : decode cX12_next 335 = .ok (.return_, 1) := by decide +kernel
set_option maxHeartbeats 4000000 in
set_option maxRecDepth 100000 in
theorem kX12_next (l : Launch) (G : g5_G) (a0 a1 a2 a3 a4 a5 a6 a7 a8 a9 a10 a11 a12 a13 a14 a15 a16 a17 a18 a19 a20 a21 a22 : Nat) (sz : Nat) : Met l yX12_next (wsG yX12_next cX12_next 1 none) ({ frames := 0, cells := 0, slots := 0, locals := 0 }) (va_Pc [.ref a0] (g5_P G [(a0, .inr (12, [.int 0, .int 0, .ref a1, .ref a2, .ref a3, .ref a4, .int 0, .ref a5, .int 0, .int 0, .int 0, .int 0, .long 0, .int (-1), .int 0, .int 0, .ref a6, .int 0, .ref a7, .ref a8, .int 0, .ref a9, .ref a10, .int 0, .int 0, .ref a11, .ref a12, .int 0, .ref a13, .ref a14, .int 0, .long 0, .long 0, .int 0, .int 0, .int 0, .int 0, .int 0, .ref a15, .int 0, .int 0, .ref a16, .int 0, .ref a17, .ref a18, .ref a19, .int 0, .ref a20, .ref a21, .long 0, .ref a22, .int 0]))] sz)) (va_Qv (fun (u : va_W) => ((u = [(a0, .inr (12, [.int 0, .int 0, .ref a1, .ref a2, .ref a3, .ref a4, .int 0, .ref a5, .int 0, .int 0, .int 0, .int 0, .long 0, .int (-1), .int 0, .int 0, .ref a6, .int 0, .ref a7, .ref a8, .int 0, .ref a9, .ref a10, .int 0, .int 0, .ref a11, .ref a12, .int 0, .ref a13, .ref a14, .int 0, .long 0, .long 0, .int 0, .int 0, .int 0, .int 0, .int 0, .ref a15, .int 0, .int 0, .ref a16, .int 0, .ref a17, .ref a18, .ref a19, .int 0, .ref a20, .ref a21, .long 0, .ref a22, .int 0]))]))) (g5_B G (va_A [(a0, .inr (12, [.int 0, .int 0, .ref a1, .ref a2, .ref a3, .ref a4, .int 0, .ref a5, .int 0, .int 0, .int 0, .int 0, .long 0, .int (-1), .int 0, .int 0, .ref a6, .int 0, .ref a7, .ref a8, .int 0, .ref a9, .ref a10, .int 0, .int 0, .ref a11, .ref a12, .int 0, .ref a13, .ref a14, .int 0, .long 0, .long 0, .int 0, .int 0, .int 0, .int 0, .int 0, .ref a15, .int 0, .int 0, .ref a16, .int 0, .ref a17, .ref a18, .ref a19, .int 0, .ref a20, .ref a21, .long 0, .ref a22, .int 0]))] sz)) (va_A [(a0, .inr (12, [.int 0, .int 0, .ref a1, .ref a2, .ref a3, .ref a4, .int 0, .ref a5, .int 0, .int 0, .int 0, .int 0, .long 0, .int (-1), .int 0, .int 0, .ref a6, .int 0, .ref a7, .ref a8, .int 0, .ref a9, .ref a10, .int 0, .int 0, .ref a11, .ref a12, .int 0, .ref a13, .ref a14, .int 0, .long 0, .long 0, .int 0, .int 0, .int 0, .int 0, .int 0, .ref a15, .int 0, .int 0, .ref a16, .int 0, .ref a17, .ref a18, .ref a19, .int 0, .ref a20, .ref a21, .long 0, .ref a22, .int 0]))] sz)) 0 0 (va_A [(a0, .inr (12, [.int 0, .int 0, .ref a1, .ref a2, .ref a3, .ref a4, .int 0, .ref a5, .int 0, .int 0, .int 0, .int 0, .long 0, .int (-1), .int 0, .int 0, .ref a6, .int 0, .ref a7, .ref a8, .int 0, .ref a9, .ref a10, .int 0, .int 0, .ref a11, .ref a12, .int 0, .ref a13, .ref a14, .int 0, .long 0, .long 0, .int 0, .int 0, .int 0, .int 0, .int 0, .ref a15, .int 0, .int 0, .ref a16, .int 0, .ref a17, .ref a18, .ref a19, .int 0, .ref a20, .ref a21, .long 0, .ref a22, .int 0]))] sz) := by
  refine Met.ofW (cc := cX12_next) (maxL := 1) (ret := none) (by decide) rfl ?_
  intro p e s m args below meth c s₁ B hml hv
  obtain ⟨rfl, hsz, hP, hK, hD0, hN, hT⟩ := hv
  have hx := B.exec
  have hb := B.bytes
  have hr := B.returns
  have hts : ∀ w ∈ tblG, w.before _ s = true := fun w h => atoms_spec (ws := (wsG yX12_next cX12_next 1 none)) B.pre w (List.mem_cons_of_mem _ h)
  have hown : s.vm.findClass RX12 = some m.cls := findClass_of_methodNamed B.named
  have hlocks := B.notSynchronized
  subst hsz
  have hD := hD0.self (sz := s.heap.size)
  generalize hAe : va_A [(a0, .inr (12, [.int 0, .int 0, .ref a1, .ref a2, .ref a3, .ref a4, .int 0, .ref a5, .int 0, .int 0, .int 0, .int 0, .long 0, .int (-1), .int 0, .int 0, .ref a6, .int 0, .ref a7, .ref a8, .int 0, .ref a9, .ref a10, .int 0, .int 0, .ref a11, .ref a12, .int 0, .ref a13, .ref a14, .int 0, .long 0, .long 0, .int 0, .int 0, .int 0, .int 0, .int 0, .ref a15, .int 0, .int 0, .ref a16, .int 0, .ref a17, .ref a18, .ref a19, .int 0, .ref a20, .ref a21, .long 0, .ref a22, .int 0]))] s.heap.size = A at hD hT ⊢
  have hA : ∀ q : Nat, s.heap.size ≤ q → A q := fun q h => by rw [← hAe]; exact Or.inr h
  have hS : va_S A s.heap s.heap [] := va_S.rf
  have hP : va_P G.1 vwCl [(a0, .inr (12, [.int 0, .int 0, .ref a1, .ref a2, .ref a3, .ref a4, .int 0, .ref a5, .int 0, .int 0, .int 0, .int 0, .long 0, .int (-1), .int 0, .int 0, .ref a6, .int 0, .ref a7, .ref a8, .int 0, .ref a9, .ref a10, .int 0, .int 0, .ref a11, .ref a12, .int 0, .ref a13, .ref a14, .int 0, .long 0, .long 0, .int 0, .int 0, .int 0, .int 0, .int 0, .ref a15, .int 0, .int 0, .ref a16, .int 0, .ref a17, .ref a18, .ref a19, .int 0, .ref a20, .ref a21, .long 0, .ref a22, .int 0]))] s.heap := hP
  have hl := lv_entry ([.ref a0]) (n := 1) (Nat.le_of_ble_eq_true rfl)
  rw [lg_entry_eq]
  generalize (lg_sl ([.ref a0]) ++ List.replicate (1 - (lg_sl ([.ref a0])).length) Slot.unset).toArray = ls at hl ⊢
  have hl : lv_has ls 1 [(0, .ref a0)] := hl
  refine lv_aload_n hx hb dX12_next_0 rfl (lv_at hl 0 rfl) ?_
  refine lv_aload_n hx hb dX12_next_1 rfl (lv_at hl 0 rfl) ?_
  refine va_get (D := G.1) (ci := 12) (v := .int 0) (C := RX12) (T := TX12) (N := 52) hx hb hts inG_X12 hown hK hP 0 rfl rfl 10 (by decide) (hts _ fl_X12_202) (fun _ h9 => h9) rfl dX12_next_2 ?_
  refine va_put (D := G.1) (ci := 12) (v := .int 0) (ty := .int) (C := RX12) (T := TX12) (N := 52) hx hb hts inG_X12 tyX12 tyX12_ok nmX12 hown hK hP hD hS 0 rfl rfl 9 (by decide) (hts _ fl_X12_211) (fun _ h9 => h9) rfl (by decide +kernel) rfl rfl (Nat.le_of_ble_eq_true rfl) dX12_next_5 (fun H locs hP hD hS => ?_)
  have hP : va_P G.1 vwCl [(a0, .inr (12, [.int 0, .int 0, .ref a1, .ref a2, .ref a3, .ref a4, .int 0, .ref a5, .int 0, .int 0, .int 0, .int 0, .long 0, .int (-1), .int 0, .int 0, .ref a6, .int 0, .ref a7, .ref a8, .int 0, .ref a9, .ref a10, .int 0, .int 0, .ref a11, .ref a12, .int 0, .ref a13, .ref a14, .int 0, .long 0, .long 0, .int 0, .int 0, .int 0, .int 0, .int 0, .ref a15, .int 0, .int 0, .ref a16, .int 0, .ref a17, .ref a18, .ref a19, .int 0, .ref a20, .ref a21, .long 0, .ref a22, .int 0]))] H := hP
  have hD : va_D A [(a0, .inr (12, [.int 0, .int 0, .ref a1, .ref a2, .ref a3, .ref a4, .int 0, .ref a5, .int 0, .int 0, .int 0, .int 0, .long 0, .int (-1), .int 0, .int 0, .ref a6, .int 0, .ref a7, .ref a8, .int 0, .ref a9, .ref a10, .int 0, .int 0, .ref a11, .ref a12, .int 0, .ref a13, .ref a14, .int 0, .long 0, .long 0, .int 0, .int 0, .int 0, .int 0, .int 0, .ref a15, .int 0, .int 0, .ref a16, .int 0, .ref a17, .ref a18, .ref a19, .int 0, .ref a20, .ref a21, .long 0, .ref a22, .int 0]))] := hD
  refine lv_aload_n hx hb dX12_next_8 rfl (lv_at hl 0 rfl) ?_
  refine va_get (D := G.1) (ci := 12) (v := .int 0) (C := RX12) (T := TX12) (N := 52) hx hb hts inG_X12 hown hK hP 0 rfl rfl 9 (by decide) (hts _ fl_X12_211) (fun _ h9 => h9) rfl dX12_next_9 ?_
  refine lv_aload_n hx hb dX12_next_12 rfl (lv_at hl 0 rfl) ?_
  refine va_get (D := G.1) (ci := 12) (v := .int 0) (C := RX12) (T := TX12) (N := 52) hx hb hts inG_X12 hown hK hP 0 rfl rfl 8 (by decide) (hts _ fl_X12_192) (fun _ h9 => h9) rfl dX12_next_13 ?_
  refine lv_icmp_ge (tgt := 46) hx hb dX12_next_16 (by decide) (fun c_1 => ?_) (fun c_1 => ?_)
  ·
    refine lv_aload_n hx hb dX12_next_46 rfl (lv_at hl 0 rfl) ?_
    refine lv_aload_n hx hb dX12_next_47 rfl (lv_at hl 0 rfl) ?_
    refine va_get (D := G.1) (ci := 12) (v := .int 0) (C := RX12) (T := TX12) (N := 52) hx hb hts inG_X12 hown hK hP 0 rfl rfl 9 (by decide) (hts _ fl_X12_211) (fun _ h9 => h9) rfl dX12_next_48 ?_
    refine va_put (D := G.1) (ci := 12) (v := .int 0) (ty := .int) (C := RX12) (T := TX12) (N := 52) hx hb hts inG_X12 tyX12 tyX12_ok nmX12 hown hK hP hD hS 0 rfl rfl 10 (by decide) (hts _ fl_X12_202) (fun _ h9 => h9) rfl (by decide +kernel) rfl rfl (Nat.le_of_ble_eq_true rfl) dX12_next_51 (fun H locs hP hD hS => ?_)
    have hP : va_P G.1 vwCl [(a0, .inr (12, [.int 0, .int 0, .ref a1, .ref a2, .ref a3, .ref a4, .int 0, .ref a5, .int 0, .int 0, .int 0, .int 0, .long 0, .int (-1), .int 0, .int 0, .ref a6, .int 0, .ref a7, .ref a8, .int 0, .ref a9, .ref a10, .int 0, .int 0, .ref a11, .ref a12, .int 0, .ref a13, .ref a14, .int 0, .long 0, .long 0, .int 0, .int 0, .int 0, .int 0, .int 0, .ref a15, .int 0, .int 0, .ref a16, .int 0, .ref a17, .ref a18, .ref a19, .int 0, .ref a20, .ref a21, .long 0, .ref a22, .int 0]))] H := hP
    have hD : va_D A [(a0, .inr (12, [.int 0, .int 0, .ref a1, .ref a2, .ref a3, .ref a4, .int 0, .ref a5, .int 0, .int 0, .int 0, .int 0, .long 0, .int (-1), .int 0, .int 0, .ref a6, .int 0, .ref a7, .ref a8, .int 0, .ref a9, .ref a10, .int 0, .int 0, .ref a11, .ref a12, .int 0, .ref a13, .ref a14, .int 0, .long 0, .long 0, .int 0, .int 0, .int 0, .int 0, .int 0, .ref a15, .int 0, .int 0, .ref a16, .int 0, .ref a17, .ref a18, .ref a19, .int 0, .ref a20, .ref a21, .long 0, .ref a22, .int 0]))] := hD
    refine lv_aload_n hx hb dX12_next_54 rfl (lv_at hl 0 rfl) ?_
    refine lv_lconst (v := 0) hx hb dX12_next_55 (by decide) ?_
    refine va_put (D := G.1) (ci := 12) (v := .long 0) (ty := .long) (C := RX12) (T := TX12) (N := 52) hx hb hts inG_X12 tyX12 tyX12_ok nmX12 hown hK hP hD hS 0 rfl rfl 12 (by decide) (hts _ fl_X12_214) (fun _ h9 => h9) rfl (by decide +kernel) rfl rfl (Nat.le_of_ble_eq_true rfl) dX12_next_56 (fun H locs hP hD hS => ?_)
    have hP : va_P G.1 vwCl [(a0, .inr (12, [.int 0, .int 0, .ref a1, .ref a2, .ref a3, .ref a4, .int 0, .ref a5, .int 0, .int 0, .int 0, .int 0, .long 0, .int (-1), .int 0, .int 0, .ref a6, .int 0, .ref a7, .ref a8, .int 0, .ref a9, .ref a10, .int 0, .int 0, .ref a11, .ref a12, .int 0, .ref a13, .ref a14, .int 0, .long 0, .long 0, .int 0, .int 0, .int 0, .int 0, .int 0, .ref a15, .int 0, .int 0, .ref a16, .int 0, .ref a17, .ref a18, .ref a19, .int 0, .ref a20, .ref a21, .long 0, .ref a22, .int 0]))] H := hP
    have hD : va_D A [(a0, .inr (12, [.int 0, .int 0, .ref a1, .ref a2, .ref a3, .ref a4, .int 0, .ref a5, .int 0, .int 0, .int 0, .int 0, .long 0, .int (-1), .int 0, .int 0, .ref a6, .int 0, .ref a7, .ref a8, .int 0, .ref a9, .ref a10, .int 0, .int 0, .ref a11, .ref a12, .int 0, .ref a13, .ref a14, .int 0, .long 0, .long 0, .int 0, .int 0, .int 0, .int 0, .int 0, .ref a15, .int 0, .int 0, .ref a16, .int 0, .ref a17, .ref a18, .ref a19, .int 0, .ref a20, .ref a21, .long 0, .ref a22, .int 0]))] := hD
    refine lv_aload_n hx hb dX12_next_59 rfl (lv_at hl 0 rfl) ?_
    refine lv_aload_n hx hb dX12_next_60 rfl (lv_at hl 0 rfl) ?_
    refine va_get (D := G.1) (ci := 12) (v := .int 0) (C := RX12) (T := TX12) (N := 52) hx hb hts inG_X12 hown hK hP 0 rfl rfl 9 (by decide) (hts _ fl_X12_211) (fun _ h9 => h9) rfl dX12_next_61 ?_
    refine lv_aload_n hx hb dX12_next_64 rfl (lv_at hl 0 rfl) ?_
    refine va_get (D := G.1) (ci := 12) (v := .int 0) (C := RX12) (T := TX12) (N := 52) hx hb hts inG_X12 hown hK hP 0 rfl rfl 8 (by decide) (hts _ fl_X12_192) (fun _ h9 => h9) rfl dX12_next_65 ?_
    refine lv_icmp_ne (tgt := 75) hx hb dX12_next_68 (by decide) (fun c_2 => ?_) (fun c_2 => ?_)
    ·
      exact absurd c_2 (by decide)
    ·
      refine lv_iconst (v := 0) hx hb dX12_next_71 (by decide) ?_
      refine lv_goto (tgt := 114) hx hb dX12_next_72 (by decide) ?_
      refine va_put (D := G.1) (ci := 12) (v := .int 0) (ty := .int) (C := RX12) (T := TX12) (N := 52) hx hb hts inG_X12 tyX12 tyX12_ok nmX12 hown hK hP hD hS 0 rfl rfl 11 (by decide) (hts _ fl_X12_224) (fun _ h9 => h9) rfl (by decide +kernel) rfl rfl (Nat.le_of_ble_eq_true rfl) dX12_next_114 (fun H locs hP hD hS => ?_)
      have hP : va_P G.1 vwCl [(a0, .inr (12, [.int 0, .int 0, .ref a1, .ref a2, .ref a3, .ref a4, .int 0, .ref a5, .int 0, .int 0, .int 0, .int 0, .long 0, .int (-1), .int 0, .int 0, .ref a6, .int 0, .ref a7, .ref a8, .int 0, .ref a9, .ref a10, .int 0, .int 0, .ref a11, .ref a12, .int 0, .ref a13, .ref a14, .int 0, .long 0, .long 0, .int 0, .int 0, .int 0, .int 0, .int 0, .ref a15, .int 0, .int 0, .ref a16, .int 0, .ref a17, .ref a18, .ref a19, .int 0, .ref a20, .ref a21, .long 0, .ref a22, .int 0]))] H := hP
      have hD : va_D A [(a0, .inr (12, [.int 0, .int 0, .ref a1, .ref a2, .ref a3, .ref a4, .int 0, .ref a5, .int 0, .int 0, .int 0, .int 0, .long 0, .int (-1), .int 0, .int 0, .ref a6, .int 0, .ref a7, .ref a8, .int 0, .ref a9, .ref a10, .int 0, .int 0, .ref a11, .ref a12, .int 0, .ref a13, .ref a14, .int 0, .long 0, .long 0, .int 0, .int 0, .int 0, .int 0, .int 0, .ref a15, .int 0, .int 0, .ref a16, .int 0, .ref a17, .ref a18, .ref a19, .int 0, .ref a20, .ref a21, .long 0, .ref a22, .int 0]))] := hD
      refine lv_aload_n hx hb dX12_next_117 rfl (lv_at hl 0 rfl) ?_
      refine va_get (D := G.1) (ci := 12) (v := .int 0) (C := RX12) (T := TX12) (N := 52) hx hb hts inG_X12 hown hK hP 0 rfl rfl 11 (by decide) (hts _ fl_X12_224) (fun _ h9 => h9) rfl dX12_next_118 ?_
      refine lv_iconst (v := 3) hx hb dX12_next_121 (by decide) ?_
      refine lv_icmp_ne (tgt := 149) hx hb dX12_next_122 (by decide) (fun c_3 => ?_) (fun c_3 => ?_)
      ·
        refine lv_aload_n hx hb dX12_next_149 rfl (lv_at hl 0 rfl) ?_
        refine va_get (D := G.1) (ci := 12) (v := .int 0) (C := RX12) (T := TX12) (N := 52) hx hb hts inG_X12 hown hK hP 0 rfl rfl 11 (by decide) (hts _ fl_X12_224) (fun _ h9 => h9) rfl dX12_next_150 ?_
        refine lv_iconst (v := 1) hx hb dX12_next_153 (by decide) ?_
        refine lv_icmp_ne (tgt := 243) hx hb dX12_next_154 (by decide) (fun c_4 => ?_) (fun c_4 => ?_)
        ·
          refine lv_aload_n hx hb dX12_next_243 rfl (lv_at hl 0 rfl) ?_
          refine va_get (D := G.1) (ci := 12) (v := .int 0) (C := RX12) (T := TX12) (N := 52) hx hb hts inG_X12 hown hK hP 0 rfl rfl 11 (by decide) (hts _ fl_X12_224) (fun _ h9 => h9) rfl dX12_next_244 ?_
          refine lv_iconst (v := 2) hx hb dX12_next_247 (by decide) ?_
          refine lv_icmp_ne (tgt := 335) hx hb dX12_next_248 (by decide) (fun c_5 => ?_) (fun c_5 => ?_)
          ·
            exact W.vret hx hb hr (fun t ht hW => ⟨⟨[(a0, .inr (12, [.int 0, .int 0, .ref a1, .ref a2, .ref a3, .ref a4, .int 0, .ref a5, .int 0, .int 0, .int 0, .int 0, .long 0, .int (-1), .int 0, .int 0, .ref a6, .int 0, .ref a7, .ref a8, .int 0, .ref a9, .ref a10, .int 0, .int 0, .ref a11, .ref a12, .int 0, .ref a13, .ref a14, .int 0, .long 0, .long 0, .int 0, .int 0, .int 0, .int 0, .int 0, .ref a15, .int 0, .int 0, .ref a16, .int 0, .ref a17, .ref a18, .ref a19, .int 0, .ref a20, .ref a21, .long 0, .ref a22, .int 0]))], rfl, rfl, by rw [ht]; exact hP, hD⟩, hS.F ht⟩) hS.2.2 dX12_next_335
          ·
            exact absurd c_5 (by decide)
        ·
          exact absurd c_4 (by decide)
      ·
        exact absurd c_3 (by decide)
  ·
    exact absurd c_1 (by decide)
theorem ml_X12_208 : Cond.methodLink RX12 208 yX12_next ∈ tblG := tg 1504 (by decide +kernel) (by decide +kernel)
theorem im_X12_next : Cond.instanceMethod yX12_next ∈ tblG := tg 1506 (by decide +kernel) (by decide +kernel)
theorem se_X12_next : Cond.selects RX12 yX12_next yX12_next ∈ tblG := tg 44 (by decide +kernel) (by decide +kernel)
theorem cd_X12_next : Cond.code yX12_next cX12_next 1 none ∈ tblG := tg 1507 (by decide +kernel) (by decide +kernel)
theorem gW_X12_next : GoodIn tblG (wsG yX12_next cX12_next 1 none) := tgi cd_X12_next
theorem gV_X12_208 : GoodIn tblG (wsV RX12 208 RX12 yX12_next (wsG yX12_next cX12_next 1 none)) := tgV ml_X12_208 im_X12_next se_X12_next ini_X12 gW_X12_next
theorem hv_X12_next : yX12_next.cls = RX12 ∧ yX12_next.cls ≠ "java/lang/invoke/MethodHandle" ∧ yX12_next.cls ≠ "java/lang/invoke/VarHandle" ∧ (parseMethodDescriptor yX12_next.desc).map (fun d => d.parameters.length) = some 0 := by decide +kernel
theorem dX12_begin_0 : decode cX12_begin 0 = .ok (.aload_n 0, 1) := by decide +kernel
theorem dX12_begin_1 : decode cX12_begin 1 = .ok (.iconst 0, 1) := by decide +kernel
theorem dX12_begin_2 : decode cX12_begin 2 = .ok (.putfield 202, 3) := by decide +kernel
theorem dX12_begin_5 : decode cX12_begin 5 = .ok (.aload_n 0, 1) := by decide +kernel
theorem dX12_begin_6 : decode cX12_begin 6 = .ok (.iconst 0, 1) := by decide +kernel
theorem dX12_begin_7 : decode cX12_begin 7 = .ok (.putfield 205, 3) := by decide +kernel
theorem dX12_begin_10 : decode cX12_begin 10 = .ok (.aload_n 0, 1) := by decide +kernel
theorem dX12_begin_11 : decode cX12_begin 11 = .ok (.iconst (-1), 1) := by decide +kernel
theorem dX12_begin_12 : decode cX12_begin 12 = .ok (.putfield 26, 3) := by decide +kernel
theorem dX12_begin_15 : decode cX12_begin 15 = .ok (.aload_n 0, 1) := by decide +kernel
theorem dX12_begin_16 : decode cX12_begin 16 = .ok (.invokevirtual 208, 3) := by decide +kernel
theorem dX12_begin_19 : decode cX12_begin 19 = .ok (.return_, 1) := by decide +kernel
set_option maxHeartbeats 4000000 in
set_option maxRecDepth 100000 in
theorem kX12_begin (l : Launch) (G : g5_G) (a0 a1 a2 a3 a4 a5 a6 a7 a8 a9 a10 a11 a12 a13 a14 a15 a16 a17 a18 a19 a20 a21 a22 : Nat) (sz : Nat) : Met l yX12_begin (wsG yX12_begin cX12_begin 1 none) ({ frames := 1, cells := 0, slots := 0, locals := 20 }) (va_Pc [.ref a0] (g5_P G [(a0, .inr (12, [.int 0, .int 0, .ref a1, .ref a2, .ref a3, .ref a4, .int 0, .ref a5, .int 0, .int 0, .int 0, .int 0, .long 0, .int (-1), .int 0, .int 0, .ref a6, .int 0, .ref a7, .ref a8, .int 0, .ref a9, .ref a10, .int 0, .int 0, .ref a11, .ref a12, .int 0, .ref a13, .ref a14, .int 0, .long 0, .long 0, .int 0, .int 0, .int 0, .int 0, .int 0, .ref a15, .int 0, .int 0, .ref a16, .int 0, .ref a17, .ref a18, .ref a19, .int 0, .ref a20, .ref a21, .long 0, .ref a22, .int 0]))] sz)) (va_Qv (fun (u : va_W) => ((u = [(a0, .inr (12, [.int 0, .int 0, .ref a1, .ref a2, .ref a3, .ref a4, .int 0, .ref a5, .int 0, .int 0, .int 0, .int 0, .long 0, .int (-1), .int 0, .int 0, .ref a6, .int 0, .ref a7, .ref a8, .int 0, .ref a9, .ref a10, .int 0, .int 0, .ref a11, .ref a12, .int 0, .ref a13, .ref a14, .int 0, .long 0, .long 0, .int 0, .int 0, .int 0, .int 0, .int 0, .ref a15, .int 0, .int 0, .ref a16, .int 0, .ref a17, .ref a18, .ref a19, .int 0, .ref a20, .ref a21, .long 0, .ref a22, .int 0]))]))) (g5_B G (va_A [(a0, .inr (12, [.int 0, .int 0, .ref a1, .ref a2, .ref a3, .ref a4, .int 0, .ref a5, .int 0, .int 0, .int 0, .int 0, .long 0, .int (-1), .int 0, .int 0, .ref a6, .int 0, .ref a7, .ref a8, .int 0, .ref a9, .ref a10, .int 0, .int 0, .ref a11, .ref a12, .int 0, .ref a13, .ref a14, .int 0, .long 0, .long 0, .int 0, .int 0, .int 0, .int 0, .int 0, .ref a15, .int 0, .int 0, .ref a16, .int 0, .ref a17, .ref a18, .ref a19, .int 0, .ref a20, .ref a21, .long 0, .ref a22, .int 0]))] sz)) (va_A [(a0, .inr (12, [.int 0, .int 0, .ref a1, .ref a2, .ref a3, .ref a4, .int 0, .ref a5, .int 0, .int 0, .int 0, .int 0, .long 0, .int (-1), .int 0, .int 0, .ref a6, .int 0, .ref a7, .ref a8, .int 0, .ref a9, .ref a10, .int 0, .int 0, .ref a11, .ref a12, .int 0, .ref a13, .ref a14, .int 0, .long 0, .long 0, .int 0, .int 0, .int 0, .int 0, .int 0, .ref a15, .int 0, .int 0, .ref a16, .int 0, .ref a17, .ref a18, .ref a19, .int 0, .ref a20, .ref a21, .long 0, .ref a22, .int 0]))] sz)) 0 0 (va_A [(a0, .inr (12, [.int 0, .int 0, .ref a1, .ref a2, .ref a3, .ref a4, .int 0, .ref a5, .int 0, .int 0, .int 0, .int 0, .long 0, .int (-1), .int 0, .int 0, .ref a6, .int 0, .ref a7, .ref a8, .int 0, .ref a9, .ref a10, .int 0, .int 0, .ref a11, .ref a12, .int 0, .ref a13, .ref a14, .int 0, .long 0, .long 0, .int 0, .int 0, .int 0, .int 0, .int 0, .ref a15, .int 0, .int 0, .ref a16, .int 0, .ref a17, .ref a18, .ref a19, .int 0, .ref a20, .ref a21, .long 0, .ref a22, .int 0]))] sz) := by
  refine Met.ofW (cc := cX12_begin) (maxL := 1) (ret := none) (by decide) rfl ?_
  intro p e s m args below meth c s₁ B hml hv
  obtain ⟨rfl, hsz, hP, hK, hD0, hN, hT⟩ := hv
  have hx := B.exec
  have hb := B.bytes
  have hr := B.returns
  have hts : ∀ w ∈ tblG, w.before _ s = true := fun w h => atoms_spec (ws := (wsG yX12_begin cX12_begin 1 none)) B.pre w (List.mem_cons_of_mem _ h)
  have hown : s.vm.findClass RX12 = some m.cls := findClass_of_methodNamed B.named
  have hlocks := B.notSynchronized
  subst hsz
  have hD := hD0.self (sz := s.heap.size)
  generalize hAe : va_A [(a0, .inr (12, [.int 0, .int 0, .ref a1, .ref a2, .ref a3, .ref a4, .int 0, .ref a5, .int 0, .int 0, .int 0, .int 0, .long 0, .int (-1), .int 0, .int 0, .ref a6, .int 0, .ref a7, .ref a8, .int 0, .ref a9, .ref a10, .int 0, .int 0, .ref a11, .ref a12, .int 0, .ref a13, .ref a14, .int 0, .long 0, .long 0, .int 0, .int 0, .int 0, .int 0, .int 0, .ref a15, .int 0, .int 0, .ref a16, .int 0, .ref a17, .ref a18, .ref a19, .int 0, .ref a20, .ref a21, .long 0, .ref a22, .int 0]))] s.heap.size = A at hD hT ⊢
  have hA : ∀ q : Nat, s.heap.size ≤ q → A q := fun q h => by rw [← hAe]; exact Or.inr h
  have hS : va_S A s.heap s.heap [] := va_S.rf
  have hP : va_P G.1 vwCl [(a0, .inr (12, [.int 0, .int 0, .ref a1, .ref a2, .ref a3, .ref a4, .int 0, .ref a5, .int 0, .int 0, .int 0, .int 0, .long 0, .int (-1), .int 0, .int 0, .ref a6, .int 0, .ref a7, .ref a8, .int 0, .ref a9, .ref a10, .int 0, .int 0, .ref a11, .ref a12, .int 0, .ref a13, .ref a14, .int 0, .long 0, .long 0, .int 0, .int 0, .int 0, .int 0, .int 0, .ref a15, .int 0, .int 0, .ref a16, .int 0, .ref a17, .ref a18, .ref a19, .int 0, .ref a20, .ref a21, .long 0, .ref a22, .int 0]))] s.heap := hP
  have hl := lv_entry ([.ref a0]) (n := 1) (Nat.le_of_ble_eq_true rfl)
  rw [lg_entry_eq]
  generalize (lg_sl ([.ref a0]) ++ List.replicate (1 - (lg_sl ([.ref a0])).length) Slot.unset).toArray = ls at hl ⊢
  have hl : lv_has ls 1 [(0, .ref a0)] := hl
  refine lv_aload_n hx hb dX12_begin_0 rfl (lv_at hl 0 rfl) ?_
  refine lv_iconst (v := 0) hx hb dX12_begin_1 (by decide) ?_
  refine va_put (D := G.1) (ci := 12) (v := .int 0) (ty := .int) (C := RX12) (T := TX12) (N := 52) hx hb hts inG_X12 tyX12 tyX12_ok nmX12 hown hK hP hD hS 0 rfl rfl 10 (by decide) (hts _ fl_X12_202) (fun _ h9 => h9) rfl (by decide +kernel) rfl rfl (Nat.le_of_ble_eq_true rfl) dX12_begin_2 (fun H locs hP hD hS => ?_)
  have hP : va_P G.1 vwCl [(a0, .inr (12, [.int 0, .int 0, .ref a1, .ref a2, .ref a3, .ref a4, .int 0, .ref a5, .int 0, .int 0, .int 0, .int 0, .long 0, .int (-1), .int 0, .int 0, .ref a6, .int 0, .ref a7, .ref a8, .int 0, .ref a9, .ref a10, .int 0, .int 0, .ref a11, .ref a12, .int 0, .ref a13, .ref a14, .int 0, .long 0, .long 0, .int 0, .int 0, .int 0, .int 0, .int 0, .ref a15, .int 0, .int 0, .ref a16, .int 0, .ref a17, .ref a18, .ref a19, .int 0, .ref a20, .ref a21, .long 0, .ref a22, .int 0]))] H := hP
  have hD : va_D A [(a0, .inr (12, [.int 0, .int 0, .ref a1, .ref a2, .ref a3, .ref a4, .int 0, .ref a5, .int 0, .int 0, .int 0, .int 0, .long 0, .int (-1), .int 0, .int 0, .ref a6, .int 0, .ref a7, .ref a8, .int 0, .ref a9, .ref a10, .int 0, .int 0, .ref a11, .ref a12, .int 0, .ref a13, .ref a14, .int 0, .long 0, .long 0, .int 0, .int 0, .int 0, .int 0, .int 0, .ref a15, .int 0, .int 0, .ref a16, .int 0, .ref a17, .ref a18, .ref a19, .int 0, .ref a20, .ref a21, .long 0, .ref a22, .int 0]))] := hD
  refine lv_aload_n hx hb dX12_begin_5 rfl (lv_at hl 0 rfl) ?_
  refine lv_iconst (v := 0) hx hb dX12_begin_6 (by decide) ?_
  refine va_put (D := G.1) (ci := 12) (v := .int 0) (ty := .boolean) (C := RX12) (T := TX12) (N := 52) hx hb hts inG_X12 tyX12 tyX12_ok nmX12 hown hK hP hD hS 0 rfl rfl 14 (by decide) (hts _ fl_X12_205) (fun _ h9 => h9) rfl (by decide +kernel) rfl rfl (Nat.le_of_ble_eq_true rfl) dX12_begin_7 (fun H locs hP hD hS => ?_)
  have hP : va_P G.1 vwCl [(a0, .inr (12, [.int 0, .int 0, .ref a1, .ref a2, .ref a3, .ref a4, .int 0, .ref a5, .int 0, .int 0, .int 0, .int 0, .long 0, .int (-1), .int 0, .int 0, .ref a6, .int 0, .ref a7, .ref a8, .int 0, .ref a9, .ref a10, .int 0, .int 0, .ref a11, .ref a12, .int 0, .ref a13, .ref a14, .int 0, .long 0, .long 0, .int 0, .int 0, .int 0, .int 0, .int 0, .ref a15, .int 0, .int 0, .ref a16, .int 0, .ref a17, .ref a18, .ref a19, .int 0, .ref a20, .ref a21, .long 0, .ref a22, .int 0]))] H := hP
  have hD : va_D A [(a0, .inr (12, [.int 0, .int 0, .ref a1, .ref a2, .ref a3, .ref a4, .int 0, .ref a5, .int 0, .int 0, .int 0, .int 0, .long 0, .int (-1), .int 0, .int 0, .ref a6, .int 0, .ref a7, .ref a8, .int 0, .ref a9, .ref a10, .int 0, .int 0, .ref a11, .ref a12, .int 0, .ref a13, .ref a14, .int 0, .long 0, .long 0, .int 0, .int 0, .int 0, .int 0, .int 0, .ref a15, .int 0, .int 0, .ref a16, .int 0, .ref a17, .ref a18, .ref a19, .int 0, .ref a20, .ref a21, .long 0, .ref a22, .int 0]))] := hD
  refine lv_aload_n hx hb dX12_begin_10 rfl (lv_at hl 0 rfl) ?_
  refine lv_iconst (v := (-1)) hx hb dX12_begin_11 (by decide) ?_
  refine va_put (D := G.1) (ci := 12) (v := .int (-1)) (ty := .int) (C := RX12) (T := TX12) (N := 52) hx hb hts inG_X12 tyX12 tyX12_ok nmX12 hown hK hP hD hS 0 rfl rfl 13 (by decide) (hts _ fl_X12_26) (fun _ h9 => h9) rfl (by decide +kernel) rfl rfl (Nat.le_of_ble_eq_true rfl) dX12_begin_12 (fun H locs hP hD hS => ?_)
  have hP : va_P G.1 vwCl [(a0, .inr (12, [.int 0, .int 0, .ref a1, .ref a2, .ref a3, .ref a4, .int 0, .ref a5, .int 0, .int 0, .int 0, .int 0, .long 0, .int (-1), .int 0, .int 0, .ref a6, .int 0, .ref a7, .ref a8, .int 0, .ref a9, .ref a10, .int 0, .int 0, .ref a11, .ref a12, .int 0, .ref a13, .ref a14, .int 0, .long 0, .long 0, .int 0, .int 0, .int 0, .int 0, .int 0, .ref a15, .int 0, .int 0, .ref a16, .int 0, .ref a17, .ref a18, .ref a19, .int 0, .ref a20, .ref a21, .long 0, .ref a22, .int 0]))] H := hP
  have hD : va_D A [(a0, .inr (12, [.int 0, .int 0, .ref a1, .ref a2, .ref a3, .ref a4, .int 0, .ref a5, .int 0, .int 0, .int 0, .int 0, .long 0, .int (-1), .int 0, .int 0, .ref a6, .int 0, .ref a7, .ref a8, .int 0, .ref a9, .ref a10, .int 0, .int 0, .ref a11, .ref a12, .int 0, .ref a13, .ref a14, .int 0, .long 0, .long 0, .int 0, .int 0, .int 0, .int 0, .int 0, .ref a15, .int 0, .int 0, .ref a16, .int 0, .ref a17, .ref a18, .ref a19, .int 0, .ref a20, .ref a21, .long 0, .ref a22, .int 0]))] := hD
  refine lv_aload_n hx hb dX12_begin_15 rfl (lv_at hl 0 rfl) ?_
  have hPc := hP.sub (ws' := [(a0, .inr (12, [.int 0, .int 0, .ref a1, .ref a2, .ref a3, .ref a4, .int 0, .ref a5, .int 0, .int 0, .int 0, .int 0, .long 0, .int (-1), .int 0, .int 0, .ref a6, .int 0, .ref a7, .ref a8, .int 0, .ref a9, .ref a10, .int 0, .int 0, .ref a11, .ref a12, .int 0, .ref a13, .ref a14, .int 0, .long 0, .long 0, .int 0, .int 0, .int 0, .int 0, .int 0, .ref a15, .int 0, .int 0, .ref a16, .int 0, .ref a17, .ref a18, .ref a19, .int 0, .ref a20, .ref a21, .long 0, .ref a22, .int 0]))]) [0] rfl
  have hDc := hD.sub (ws' := [(a0, .inr (12, [.int 0, .int 0, .ref a1, .ref a2, .ref a3, .ref a4, .int 0, .ref a5, .int 0, .int 0, .int 0, .int 0, .long 0, .int (-1), .int 0, .int 0, .ref a6, .int 0, .ref a7, .ref a8, .int 0, .ref a9, .ref a10, .int 0, .int 0, .ref a11, .ref a12, .int 0, .ref a13, .ref a14, .int 0, .long 0, .long 0, .int 0, .int 0, .int 0, .int 0, .int 0, .ref a15, .int 0, .int 0, .ref a16, .int 0, .ref a17, .ref a18, .ref a19, .int 0, .ref a20, .ref a21, .long 0, .ref a22, .int 0]))]) [0] (by decide) rfl
  have hFc := va_free (wc := [(a0, .inr (12, [.int 0, .int 0, .ref a1, .ref a2, .ref a3, .ref a4, .int 0, .ref a5, .int 0, .int 0, .int 0, .int 0, .long 0, .int (-1), .int 0, .int 0, .ref a6, .int 0, .ref a7, .ref a8, .int 0, .ref a9, .ref a10, .int 0, .int 0, .ref a11, .ref a12, .int 0, .ref a13, .ref a14, .int 0, .long 0, .long 0, .int 0, .int 0, .int 0, .int 0, .int 0, .ref a15, .int 0, .int 0, .ref a16, .int 0, .ref a17, .ref a18, .ref a19, .int 0, .ref a20, .ref a21, .long 0, .ref a22, .int 0]))]) hD hS hA [0] rfl
  refine va_callv (va_runV (As := []) (rest := []) ⟨hx, hb, hml, hown, hts⟩ (kX12_next l G a0 a1 a2 a3 a4 a5 a6 a7 a8 a9 a10 a11 a12 a13 a14 a15 a16 a17 a18 a19 a20 a21 a22 H.size) (cwV 0 hts gV_X12_208 rfl rfl rfl hv_X12_next ⟨Nat.le_of_ble_eq_true rfl, Nat.le_of_ble_eq_true rfl⟩) (g5_preV hPc hK hDc hN hT hS hFc (ci := 12) (q0 := 0) rfl rfl) rfl rfl hl.1 rfl (lv_room (Nat.le_of_ble_eq_true rfl)) dX12_begin_16 ⟨Nat.le_of_ble_eq_true rfl, Nat.le_of_ble_eq_true rfl⟩) hS (fun q _ h => hFc q h) hFc (fun u t H1 locs ht hvm hw hB hz1 hk1 hS => ?_)
  obtain ⟨hP1, hD1⟩ := hB
  rw [ht] at hP1
  obtain rfl := hw
  obtain ⟨hP, hD⟩ := va_join (wr := []) (w1 := [(a0, .inr (12, [.int 0, .int 0, .ref a1, .ref a2, .ref a3, .ref a4, .int 0, .ref a5, .int 0, .int 0, .int 0, .int 0, .long 0, .int (-1), .int 0, .int 0, .ref a6, .int 0, .ref a7, .ref a8, .int 0, .ref a9, .ref a10, .int 0, .int 0, .ref a11, .ref a12, .int 0, .ref a13, .ref a14, .int 0, .long 0, .long 0, .int 0, .int 0, .int 0, .int 0, .int 0, .ref a15, .int 0, .int 0, .ref a16, .int 0, .ref a17, .ref a18, .ref a19, .int 0, .ref a20, .ref a21, .long 0, .ref a22, .int 0]))]) hP hD [0] [] rfl rfl (by decide) (by decide) hk1 hFc hP1 hD1
  generalize H1 = H at hP hS ⊢
  have hP : va_P G.1 vwCl [(a0, .inr (12, [.int 0, .int 0, .ref a1, .ref a2, .ref a3, .ref a4, .int 0, .ref a5, .int 0, .int 0, .int 0, .int 0, .long 0, .int (-1), .int 0, .int 0, .ref a6, .int 0, .ref a7, .ref a8, .int 0, .ref a9, .ref a10, .int 0, .int 0, .ref a11, .ref a12, .int 0, .ref a13, .ref a14, .int 0, .long 0, .long 0, .int 0, .int 0, .int 0, .int 0, .int 0, .ref a15, .int 0, .int 0, .ref a16, .int 0, .ref a17, .ref a18, .ref a19, .int 0, .ref a20, .ref a21, .long 0, .ref a22, .int 0]))] H := hP
  have hD : va_D A [(a0, .inr (12, [.int 0, .int 0, .ref a1, .ref a2, .ref a3, .ref a4, .int 0, .ref a5, .int 0, .int 0, .int 0, .int 0, .long 0, .int (-1), .int 0, .int 0, .ref a6, .int 0, .ref a7, .ref a8, .int 0, .ref a9, .ref a10, .int 0, .int 0, .ref a11, .ref a12, .int 0, .ref a13, .ref a14, .int 0, .long 0, .long 0, .int 0, .int 0, .int 0, .int 0, .int 0, .ref a15, .int 0, .int 0, .ref a16, .int 0, .ref a17, .ref a18, .ref a19, .int 0, .ref a20, .ref a21, .long 0, .ref a22, .int 0]))] := hD
  exact W.vret hx hb hr (fun t ht hW => ⟨⟨[(a0, .inr (12, [.int 0, .int 0, .ref a1, .ref a2, .ref a3, .ref a4, .int 0, .ref a5, .int 0, .int 0, .int 0, .int 0, .long 0, .int (-1), .int 0, .int 0, .ref a6, .int 0, .ref a7, .ref a8, .int 0, .ref a9, .ref a10, .int 0, .int 0, .ref a11, .ref a12, .int 0, .ref a13, .ref a14, .int 0, .long 0, .long 0, .int 0, .int 0, .int 0, .int 0, .int 0, .ref a15, .int 0, .int 0, .ref a16, .int 0, .ref a17, .ref a18, .ref a19, .int 0, .ref a20, .ref a21, .long 0, .ref a22, .int 0]))], rfl, rfl, by rw [ht]; exact hP, hD⟩, hS.F ht⟩) hS.2.2 dX12_begin_19
theorem ml_X12_320 : Cond.methodLink RX12 320 yX12_begin ∈ tblG := tg 1500 (by decide +kernel) (by decide +kernel)
theorem im_X12_begin : Cond.instanceMethod yX12_begin ∈ tblG := tg 1502 (by decide +kernel) (by decide +kernel)
theorem se_X12_begin : Cond.selects RX12 yX12_begin yX12_begin ∈ tblG := tg 43 (by decide +kernel) (by decide +kernel)
theorem cd_X12_begin : Cond.code yX12_begin cX12_begin 1 none ∈ tblG := tg 1503 (by decide +kernel) (by decide +kernel)
theorem gW_X12_begin : GoodIn tblG (wsG yX12_begin cX12_begin 1 none) := tgi cd_X12_begin
theorem gV_X12_320 : GoodIn tblG (wsV RX12 320 RX12 yX12_begin (wsG yX12_begin cX12_begin 1 none)) := tgV ml_X12_320 im_X12_begin se_X12_begin ini_X12 gW_X12_begin
theorem hv_X12_begin : yX12_begin.cls = RX12 ∧ yX12_begin.cls ≠ "java/lang/invoke/MethodHandle" ∧ yX12_begin.cls ≠ "java/lang/invoke/VarHandle" ∧ (parseMethodDescriptor yX12_begin.desc).map (fun d => d.parameters.length) = some 0 := by decide +kernel
theorem fl_X12_312 : Cond.fieldLink RX12 312 "LateGlassModel" "nClauses" "I" ∈ tblG := tg 1218 (by decide +kernel) (by decide +kernel)
theorem fl_X12_237 : Cond.fieldLink RX12 237 "LateGlassModel" "nCode" "I" ∈ tblG := tg 1220 (by decide +kernel) (by decide +kernel)
theorem fl_X12_264 : Cond.fieldLink RX12 264 "LateGlassModel" "nLeaves" "I" ∈ tblG := tg 1223 (by decide +kernel) (by decide +kernel)
theorem dX12_isWord_0 : decode cX12_isWord 0 = .ok (.aload_n 0, 1) := by decide +kernel
theorem dX12_isWord_1 : decode cX12_isWord 1 = .ok (.getfield 224, 3) := by decide +kernel
theorem dX12_isWord_4 : decode cX12_isWord 4 = .ok (.iconst 1, 1) := by decide +kernel
theorem dX12_isWord_5 : decode cX12_isWord 5 = .ok (.if_icmp .ne 16, 3) := by decide +kernel
theorem dX12_isWord_8 : decode cX12_isWord 8 = .ok (.aload_n 0, 1) := by decide +kernel
theorem dX12_isWord_9 : decode cX12_isWord 9 = .ok (.getfield 214, 3) := by decide +kernel
theorem dX12_isWord_12 : decode cX12_isWord 12 = .ok (.lload_n 1, 1) := by decide +kernel
theorem dX12_isWord_13 : decode cX12_isWord 13 = .ok (.lcmp, 1) := by decide +kernel
theorem dX12_isWord_14 : decode cX12_isWord 14 = .ok (.ifCond .ne 7, 3) := by decide +kernel
theorem dX12_isWord_17 : decode cX12_isWord 17 = .ok (.iconst 1, 1) := by decide +kernel
theorem dX12_isWord_18 : decode cX12_isWord 18 = .ok (.goto 4, 3) := by decide +kernel
theorem dX12_isWord_21 : decode cX12_isWord 21 = .ok (.iconst 0, 1) := by decide +kernel
theorem dX12_isWord_22 : decode cX12_isWord 22 = .ok (.ireturn, 1) := by decide +kernel
set_option maxHeartbeats 4000000 in
set_option maxRecDepth 100000 in
theorem kX12_isWord (l : Launch) (G : g5_G) (a0 a1 a2 a3 a4 a5 a6 a7 a8 a9 a10 a11 a12 a13 a14 a15 a16 a17 a18 a19 a20 a21 a22 : Nat) (sz : Nat) : Met l yX12_isWord (wsG yX12_isWord cX12_isWord 3 (some .boolean)) ({ frames := 0, cells := 0, slots := 0, locals := 0 }) (va_Pc [.ref a0, .long 394885] (g5_P G [(a0, .inr (12, [.int 0, .int 0, .ref a1, .ref a2, .ref a3, .ref a4, .int 0, .ref a5, .int 0, .int 0, .int 0, .int 0, .long 0, .int (-1), .int 0, .int 0, .ref a6, .int 0, .ref a7, .ref a8, .int 0, .ref a9, .ref a10, .int 0, .int 0, .ref a11, .ref a12, .int 0, .ref a13, .ref a14, .int 0, .long 0, .long 0, .int 0, .int 0, .int 0, .int 0, .int 0, .ref a15, .int 0, .int 0, .ref a16, .int 0, .ref a17, .ref a18, .ref a19, .int 0, .ref a20, .ref a21, .long 0, .ref a22, .int 0]))] sz)) (va_Qi (fun (r : Int32) (u : va_W) => ((r = 0) ∧ (u = [(a0, .inr (12, [.int 0, .int 0, .ref a1, .ref a2, .ref a3, .ref a4, .int 0, .ref a5, .int 0, .int 0, .int 0, .int 0, .long 0, .int (-1), .int 0, .int 0, .ref a6, .int 0, .ref a7, .ref a8, .int 0, .ref a9, .ref a10, .int 0, .int 0, .ref a11, .ref a12, .int 0, .ref a13, .ref a14, .int 0, .long 0, .long 0, .int 0, .int 0, .int 0, .int 0, .int 0, .ref a15, .int 0, .int 0, .ref a16, .int 0, .ref a17, .ref a18, .ref a19, .int 0, .ref a20, .ref a21, .long 0, .ref a22, .int 0]))]))) (g5_B G (va_A [(a0, .inr (12, [.int 0, .int 0, .ref a1, .ref a2, .ref a3, .ref a4, .int 0, .ref a5, .int 0, .int 0, .int 0, .int 0, .long 0, .int (-1), .int 0, .int 0, .ref a6, .int 0, .ref a7, .ref a8, .int 0, .ref a9, .ref a10, .int 0, .int 0, .ref a11, .ref a12, .int 0, .ref a13, .ref a14, .int 0, .long 0, .long 0, .int 0, .int 0, .int 0, .int 0, .int 0, .ref a15, .int 0, .int 0, .ref a16, .int 0, .ref a17, .ref a18, .ref a19, .int 0, .ref a20, .ref a21, .long 0, .ref a22, .int 0]))] sz)) (va_A [(a0, .inr (12, [.int 0, .int 0, .ref a1, .ref a2, .ref a3, .ref a4, .int 0, .ref a5, .int 0, .int 0, .int 0, .int 0, .long 0, .int (-1), .int 0, .int 0, .ref a6, .int 0, .ref a7, .ref a8, .int 0, .ref a9, .ref a10, .int 0, .int 0, .ref a11, .ref a12, .int 0, .ref a13, .ref a14, .int 0, .long 0, .long 0, .int 0, .int 0, .int 0, .int 0, .int 0, .ref a15, .int 0, .int 0, .ref a16, .int 0, .ref a17, .ref a18, .ref a19, .int 0, .ref a20, .ref a21, .long 0, .ref a22, .int 0]))] sz)) 0 0 (va_A [(a0, .inr (12, [.int 0, .int 0, .ref a1, .ref a2, .ref a3, .ref a4, .int 0, .ref a5, .int 0, .int 0, .int 0, .int 0, .long 0, .int (-1), .int 0, .int 0, .ref a6, .int 0, .ref a7, .ref a8, .int 0, .ref a9, .ref a10, .int 0, .int 0, .ref a11, .ref a12, .int 0, .ref a13, .ref a14, .int 0, .long 0, .long 0, .int 0, .int 0, .int 0, .int 0, .int 0, .ref a15, .int 0, .int 0, .ref a16, .int 0, .ref a17, .ref a18, .ref a19, .int 0, .ref a20, .ref a21, .long 0, .ref a22, .int 0]))] sz) := by
  refine Met.ofW (cc := cX12_isWord) (maxL := 3) (ret := (some .boolean)) (by decide) rfl ?_
  intro p e s m args below meth c s₁ B hml hv
  obtain ⟨rfl, hsz, hP, hK, hD0, hN, hT⟩ := hv
  have hx := B.exec
  have hb := B.bytes
  have hr := B.returns
  have hts : ∀ w ∈ tblG, w.before _ s = true := fun w h => atoms_spec (ws := (wsG yX12_isWord cX12_isWord 3 (some .boolean))) B.pre w (List.mem_cons_of_mem _ h)
  have hown : s.vm.findClass RX12 = some m.cls := findClass_of_methodNamed B.named
  have hlocks := B.notSynchronized
  subst hsz
  have hD := hD0.self (sz := s.heap.size)
  generalize hAe : va_A [(a0, .inr (12, [.int 0, .int 0, .ref a1, .ref a2, .ref a3, .ref a4, .int 0, .ref a5, .int 0, .int 0, .int 0, .int 0, .long 0, .int (-1), .int 0, .int 0, .ref a6, .int 0, .ref a7, .ref a8, .int 0, .ref a9, .ref a10, .int 0, .int 0, .ref a11, .ref a12, .int 0, .ref a13, .ref a14, .int 0, .long 0, .long 0, .int 0, .int 0, .int 0, .int 0, .int 0, .ref a15, .int 0, .int 0, .ref a16, .int 0, .ref a17, .ref a18, .ref a19, .int 0, .ref a20, .ref a21, .long 0, .ref a22, .int 0]))] s.heap.size = A at hD hT ⊢
  have hA : ∀ q : Nat, s.heap.size ≤ q → A q := fun q h => by rw [← hAe]; exact Or.inr h
  have hS : va_S A s.heap s.heap [] := va_S.rf
  have hP : va_P G.1 vwCl [(a0, .inr (12, [.int 0, .int 0, .ref a1, .ref a2, .ref a3, .ref a4, .int 0, .ref a5, .int 0, .int 0, .int 0, .int 0, .long 0, .int (-1), .int 0, .int 0, .ref a6, .int 0, .ref a7, .ref a8, .int 0, .ref a9, .ref a10, .int 0, .int 0, .ref a11, .ref a12, .int 0, .ref a13, .ref a14, .int 0, .long 0, .long 0, .int 0, .int 0, .int 0, .int 0, .int 0, .ref a15, .int 0, .int 0, .ref a16, .int 0, .ref a17, .ref a18, .ref a19, .int 0, .ref a20, .ref a21, .long 0, .ref a22, .int 0]))] s.heap := hP
  have hl := lv_entry ([.ref a0, .long 394885]) (n := 3) (Nat.le_of_ble_eq_true rfl)
  rw [lg_entry_eq]
  generalize (lg_sl ([.ref a0, .long 394885]) ++ List.replicate (3 - (lg_sl ([.ref a0, .long 394885])).length) Slot.unset).toArray = ls at hl ⊢
  have hl : lv_has ls 3 [(0, .ref a0), (1, .long 394885)] := hl
  refine lv_aload_n hx hb dX12_isWord_0 rfl (lv_at hl 0 rfl) ?_
  refine va_get (D := G.1) (ci := 12) (v := .int 0) (C := RX12) (T := TX12) (N := 52) hx hb hts inG_X12 hown hK hP 0 rfl rfl 11 (by decide) (hts _ fl_X12_224) (fun _ h9 => h9) rfl dX12_isWord_1 ?_
  refine lv_iconst (v := 1) hx hb dX12_isWord_4 (by decide) ?_
  refine lv_icmp_ne (tgt := 21) hx hb dX12_isWord_5 (by decide) (fun c_1 => ?_) (fun c_1 => ?_)
  ·
    refine lv_iconst (v := 0) hx hb dX12_isWord_21 (by decide) ?_
    exact W.zret (v := 0) hx hb hr rfl (fun t ht hW => ⟨⟨0, [(a0, .inr (12, [.int 0, .int 0, .ref a1, .ref a2, .ref a3, .ref a4, .int 0, .ref a5, .int 0, .int 0, .int 0, .int 0, .long 0, .int (-1), .int 0, .int 0, .ref a6, .int 0, .ref a7, .ref a8, .int 0, .ref a9, .ref a10, .int 0, .int 0, .ref a11, .ref a12, .int 0, .ref a13, .ref a14, .int 0, .long 0, .long 0, .int 0, .int 0, .int 0, .int 0, .int 0, .ref a15, .int 0, .int 0, .ref a16, .int 0, .ref a17, .ref a18, .ref a19, .int 0, .ref a20, .ref a21, .long 0, .ref a22, .int 0]))], rfl, ⟨rfl, rfl⟩, by rw [ht]; exact hP, hD⟩, hS.F ht⟩) hS.2.2 dX12_isWord_22
  ·
    exact absurd c_1 (by decide)
theorem ml_X12_254 : Cond.methodLink RX12 254 yX12_isWord ∈ tblG := tg 1521 (by decide +kernel) (by decide +kernel)
theorem im_X12_isWord : Cond.instanceMethod yX12_isWord ∈ tblG := tg 1523 (by decide +kernel) (by decide +kernel)
theorem se_X12_isWord : Cond.selects RX12 yX12_isWord yX12_isWord ∈ tblG := tg 46 (by decide +kernel) (by decide +kernel)
theorem cd_X12_isWord : Cond.code yX12_isWord cX12_isWord 3 (some .boolean) ∈ tblG := tg 1524 (by decide +kernel) (by decide +kernel)
theorem gW_X12_isWord : GoodIn tblG (wsG yX12_isWord cX12_isWord 3 (some .boolean)) := tgi cd_X12_isWord
theorem gV_X12_254 : GoodIn tblG (wsV RX12 254 RX12 yX12_isWord (wsG yX12_isWord cX12_isWord 3 (some .boolean))) := tgV ml_X12_254 im_X12_isWord se_X12_isWord ini_X12 gW_X12_isWord
theorem hv_X12_isWord : yX12_isWord.cls = RX12 ∧ yX12_isWord.cls ≠ "java/lang/invoke/MethodHandle" ∧ yX12_isWord.cls ≠ "java/lang/invoke/VarHandle" ∧ (parseMethodDescriptor yX12_isWord.desc).map (fun d => d.parameters.length) = some 1 := by decide +kernel
set_option maxHeartbeats 4000000 in
set_option maxRecDepth 100000 in
theorem kX12_isWord_2 (l : Launch) (G : g5_G) (a0 a1 a2 a3 a4 a5 a6 a7 a8 a9 a10 a11 a12 a13 a14 a15 a16 a17 a18 a19 a20 a21 a22 : Nat) (sz : Nat) : Met l yX12_isWord (wsG yX12_isWord cX12_isWord 3 (some .boolean)) ({ frames := 0, cells := 0, slots := 0, locals := 0 }) (va_Pc [.ref a0, .long 153204] (g5_P G [(a0, .inr (12, [.int 0, .int 0, .ref a1, .ref a2, .ref a3, .ref a4, .int 0, .ref a5, .int 0, .int 0, .int 0, .int 0, .long 0, .int (-1), .int 0, .int 0, .ref a6, .int 0, .ref a7, .ref a8, .int 0, .ref a9, .ref a10, .int 0, .int 0, .ref a11, .ref a12, .int 0, .ref a13, .ref a14, .int 0, .long 0, .long 0, .int 0, .int 0, .int 0, .int 0, .int 0, .ref a15, .int 0, .int 0, .ref a16, .int 0, .ref a17, .ref a18, .ref a19, .int 0, .ref a20, .ref a21, .long 0, .ref a22, .int 0]))] sz)) (va_Qi (fun (r : Int32) (u : va_W) => ((r = 0) ∧ (u = [(a0, .inr (12, [.int 0, .int 0, .ref a1, .ref a2, .ref a3, .ref a4, .int 0, .ref a5, .int 0, .int 0, .int 0, .int 0, .long 0, .int (-1), .int 0, .int 0, .ref a6, .int 0, .ref a7, .ref a8, .int 0, .ref a9, .ref a10, .int 0, .int 0, .ref a11, .ref a12, .int 0, .ref a13, .ref a14, .int 0, .long 0, .long 0, .int 0, .int 0, .int 0, .int 0, .int 0, .ref a15, .int 0, .int 0, .ref a16, .int 0, .ref a17, .ref a18, .ref a19, .int 0, .ref a20, .ref a21, .long 0, .ref a22, .int 0]))]))) (g5_B G (va_A [(a0, .inr (12, [.int 0, .int 0, .ref a1, .ref a2, .ref a3, .ref a4, .int 0, .ref a5, .int 0, .int 0, .int 0, .int 0, .long 0, .int (-1), .int 0, .int 0, .ref a6, .int 0, .ref a7, .ref a8, .int 0, .ref a9, .ref a10, .int 0, .int 0, .ref a11, .ref a12, .int 0, .ref a13, .ref a14, .int 0, .long 0, .long 0, .int 0, .int 0, .int 0, .int 0, .int 0, .ref a15, .int 0, .int 0, .ref a16, .int 0, .ref a17, .ref a18, .ref a19, .int 0, .ref a20, .ref a21, .long 0, .ref a22, .int 0]))] sz)) (va_A [(a0, .inr (12, [.int 0, .int 0, .ref a1, .ref a2, .ref a3, .ref a4, .int 0, .ref a5, .int 0, .int 0, .int 0, .int 0, .long 0, .int (-1), .int 0, .int 0, .ref a6, .int 0, .ref a7, .ref a8, .int 0, .ref a9, .ref a10, .int 0, .int 0, .ref a11, .ref a12, .int 0, .ref a13, .ref a14, .int 0, .long 0, .long 0, .int 0, .int 0, .int 0, .int 0, .int 0, .ref a15, .int 0, .int 0, .ref a16, .int 0, .ref a17, .ref a18, .ref a19, .int 0, .ref a20, .ref a21, .long 0, .ref a22, .int 0]))] sz)) 0 0 (va_A [(a0, .inr (12, [.int 0, .int 0, .ref a1, .ref a2, .ref a3, .ref a4, .int 0, .ref a5, .int 0, .int 0, .int 0, .int 0, .long 0, .int (-1), .int 0, .int 0, .ref a6, .int 0, .ref a7, .ref a8, .int 0, .ref a9, .ref a10, .int 0, .int 0, .ref a11, .ref a12, .int 0, .ref a13, .ref a14, .int 0, .long 0, .long 0, .int 0, .int 0, .int 0, .int 0, .int 0, .ref a15, .int 0, .int 0, .ref a16, .int 0, .ref a17, .ref a18, .ref a19, .int 0, .ref a20, .ref a21, .long 0, .ref a22, .int 0]))] sz) := by
  refine Met.ofW (cc := cX12_isWord) (maxL := 3) (ret := (some .boolean)) (by decide) rfl ?_
  intro p e s m args below meth c s₁ B hml hv
  obtain ⟨rfl, hsz, hP, hK, hD0, hN, hT⟩ := hv
  have hx := B.exec
  have hb := B.bytes
  have hr := B.returns
  have hts : ∀ w ∈ tblG, w.before _ s = true := fun w h => atoms_spec (ws := (wsG yX12_isWord cX12_isWord 3 (some .boolean))) B.pre w (List.mem_cons_of_mem _ h)
  have hown : s.vm.findClass RX12 = some m.cls := findClass_of_methodNamed B.named
  have hlocks := B.notSynchronized
  subst hsz
  have hD := hD0.self (sz := s.heap.size)
  generalize hAe : va_A [(a0, .inr (12, [.int 0, .int 0, .ref a1, .ref a2, .ref a3, .ref a4, .int 0, .ref a5, .int 0, .int 0, .int 0, .int 0, .long 0, .int (-1), .int 0, .int 0, .ref a6, .int 0, .ref a7, .ref a8, .int 0, .ref a9, .ref a10, .int 0, .int 0, .ref a11, .ref a12, .int 0, .ref a13, .ref a14, .int 0, .long 0, .long 0, .int 0, .int 0, .int 0, .int 0, .int 0, .ref a15, .int 0, .int 0, .ref a16, .int 0, .ref a17, .ref a18, .ref a19, .int 0, .ref a20, .ref a21, .long 0, .ref a22, .int 0]))] s.heap.size = A at hD hT ⊢
  have hA : ∀ q : Nat, s.heap.size ≤ q → A q := fun q h => by rw [← hAe]; exact Or.inr h
  have hS : va_S A s.heap s.heap [] := va_S.rf
  have hP : va_P G.1 vwCl [(a0, .inr (12, [.int 0, .int 0, .ref a1, .ref a2, .ref a3, .ref a4, .int 0, .ref a5, .int 0, .int 0, .int 0, .int 0, .long 0, .int (-1), .int 0, .int 0, .ref a6, .int 0, .ref a7, .ref a8, .int 0, .ref a9, .ref a10, .int 0, .int 0, .ref a11, .ref a12, .int 0, .ref a13, .ref a14, .int 0, .long 0, .long 0, .int 0, .int 0, .int 0, .int 0, .int 0, .ref a15, .int 0, .int 0, .ref a16, .int 0, .ref a17, .ref a18, .ref a19, .int 0, .ref a20, .ref a21, .long 0, .ref a22, .int 0]))] s.heap := hP
  have hl := lv_entry ([.ref a0, .long 153204]) (n := 3) (Nat.le_of_ble_eq_true rfl)
  rw [lg_entry_eq]
  generalize (lg_sl ([.ref a0, .long 153204]) ++ List.replicate (3 - (lg_sl ([.ref a0, .long 153204])).length) Slot.unset).toArray = ls at hl ⊢
  have hl : lv_has ls 3 [(0, .ref a0), (1, .long 153204)] := hl
  refine lv_aload_n hx hb dX12_isWord_0 rfl (lv_at hl 0 rfl) ?_
  refine va_get (D := G.1) (ci := 12) (v := .int 0) (C := RX12) (T := TX12) (N := 52) hx hb hts inG_X12 hown hK hP 0 rfl rfl 11 (by decide) (hts _ fl_X12_224) (fun _ h9 => h9) rfl dX12_isWord_1 ?_
  refine lv_iconst (v := 1) hx hb dX12_isWord_4 (by decide) ?_
  refine lv_icmp_ne (tgt := 21) hx hb dX12_isWord_5 (by decide) (fun c_1 => ?_) (fun c_1 => ?_)
  ·
    refine lv_iconst (v := 0) hx hb dX12_isWord_21 (by decide) ?_
    exact W.zret (v := 0) hx hb hr rfl (fun t ht hW => ⟨⟨0, [(a0, .inr (12, [.int 0, .int 0, .ref a1, .ref a2, .ref a3, .ref a4, .int 0, .ref a5, .int 0, .int 0, .int 0, .int 0, .long 0, .int (-1), .int 0, .int 0, .ref a6, .int 0, .ref a7, .ref a8, .int 0, .ref a9, .ref a10, .int 0, .int 0, .ref a11, .ref a12, .int 0, .ref a13, .ref a14, .int 0, .long 0, .long 0, .int 0, .int 0, .int 0, .int 0, .int 0, .ref a15, .int 0, .int 0, .ref a16, .int 0, .ref a17, .ref a18, .ref a19, .int 0, .ref a20, .ref a21, .long 0, .ref a22, .int 0]))], rfl, ⟨rfl, rfl⟩, by rw [ht]; exact hP, hD⟩, hS.F ht⟩) hS.2.2 dX12_isWord_22
  ·
    exact absurd c_1 (by decide)
set_option maxHeartbeats 4000000 in
set_option maxRecDepth 100000 in
theorem kX12_isWord_3 (l : Launch) (G : g5_G) (a0 a1 a2 a3 a4 a5 a6 a7 a8 a9 a10 a11 a12 a13 a14 a15 a16 a17 a18 a19 a20 a21 a22 : Nat) (sz : Nat) : Met l yX12_isWord (wsG yX12_isWord cX12_isWord 3 (some .boolean)) ({ frames := 0, cells := 0, slots := 0, locals := 0 }) (va_Pc [.ref a0, .long 117118547] (g5_P G [(a0, .inr (12, [.int 0, .int 0, .ref a1, .ref a2, .ref a3, .ref a4, .int 0, .ref a5, .int 0, .int 0, .int 0, .int 0, .long 0, .int (-1), .int 0, .int 0, .ref a6, .int 0, .ref a7, .ref a8, .int 0, .ref a9, .ref a10, .int 0, .int 0, .ref a11, .ref a12, .int 0, .ref a13, .ref a14, .int 0, .long 0, .long 0, .int 0, .int 0, .int 0, .int 0, .int 0, .ref a15, .int 0, .int 0, .ref a16, .int 0, .ref a17, .ref a18, .ref a19, .int 0, .ref a20, .ref a21, .long 0, .ref a22, .int 0]))] sz)) (va_Qi (fun (r : Int32) (u : va_W) => ((r = 0) ∧ (u = [(a0, .inr (12, [.int 0, .int 0, .ref a1, .ref a2, .ref a3, .ref a4, .int 0, .ref a5, .int 0, .int 0, .int 0, .int 0, .long 0, .int (-1), .int 0, .int 0, .ref a6, .int 0, .ref a7, .ref a8, .int 0, .ref a9, .ref a10, .int 0, .int 0, .ref a11, .ref a12, .int 0, .ref a13, .ref a14, .int 0, .long 0, .long 0, .int 0, .int 0, .int 0, .int 0, .int 0, .ref a15, .int 0, .int 0, .ref a16, .int 0, .ref a17, .ref a18, .ref a19, .int 0, .ref a20, .ref a21, .long 0, .ref a22, .int 0]))]))) (g5_B G (va_A [(a0, .inr (12, [.int 0, .int 0, .ref a1, .ref a2, .ref a3, .ref a4, .int 0, .ref a5, .int 0, .int 0, .int 0, .int 0, .long 0, .int (-1), .int 0, .int 0, .ref a6, .int 0, .ref a7, .ref a8, .int 0, .ref a9, .ref a10, .int 0, .int 0, .ref a11, .ref a12, .int 0, .ref a13, .ref a14, .int 0, .long 0, .long 0, .int 0, .int 0, .int 0, .int 0, .int 0, .ref a15, .int 0, .int 0, .ref a16, .int 0, .ref a17, .ref a18, .ref a19, .int 0, .ref a20, .ref a21, .long 0, .ref a22, .int 0]))] sz)) (va_A [(a0, .inr (12, [.int 0, .int 0, .ref a1, .ref a2, .ref a3, .ref a4, .int 0, .ref a5, .int 0, .int 0, .int 0, .int 0, .long 0, .int (-1), .int 0, .int 0, .ref a6, .int 0, .ref a7, .ref a8, .int 0, .ref a9, .ref a10, .int 0, .int 0, .ref a11, .ref a12, .int 0, .ref a13, .ref a14, .int 0, .long 0, .long 0, .int 0, .int 0, .int 0, .int 0, .int 0, .ref a15, .int 0, .int 0, .ref a16, .int 0, .ref a17, .ref a18, .ref a19, .int 0, .ref a20, .ref a21, .long 0, .ref a22, .int 0]))] sz)) 0 0 (va_A [(a0, .inr (12, [.int 0, .int 0, .ref a1, .ref a2, .ref a3, .ref a4, .int 0, .ref a5, .int 0, .int 0, .int 0, .int 0, .long 0, .int (-1), .int 0, .int 0, .ref a6, .int 0, .ref a7, .ref a8, .int 0, .ref a9, .ref a10, .int 0, .int 0, .ref a11, .ref a12, .int 0, .ref a13, .ref a14, .int 0, .long 0, .long 0, .int 0, .int 0, .int 0, .int 0, .int 0, .ref a15, .int 0, .int 0, .ref a16, .int 0, .ref a17, .ref a18, .ref a19, .int 0, .ref a20, .ref a21, .long 0, .ref a22, .int 0]))] sz) := by
  refine Met.ofW (cc := cX12_isWord) (maxL := 3) (ret := (some .boolean)) (by decide) rfl ?_
  intro p e s m args below meth c s₁ B hml hv
  obtain ⟨rfl, hsz, hP, hK, hD0, hN, hT⟩ := hv
  have hx := B.exec
  have hb := B.bytes
  have hr := B.returns
  have hts : ∀ w ∈ tblG, w.before _ s = true := fun w h => atoms_spec (ws := (wsG yX12_isWord cX12_isWord 3 (some .boolean))) B.pre w (List.mem_cons_of_mem _ h)
  have hown : s.vm.findClass RX12 = some m.cls := findClass_of_methodNamed B.named
  have hlocks := B.notSynchronized
  subst hsz
  have hD := hD0.self (sz := s.heap.size)
  generalize hAe : va_A [(a0, .inr (12, [.int 0, .int 0, .ref a1, .ref a2, .ref a3, .ref a4, .int 0, .ref a5, .int 0, .int 0, .int 0, .int 0, .long 0, .int (-1), .int 0, .int 0, .ref a6, .int 0, .ref a7, .ref a8, .int 0, .ref a9, .ref a10, .int 0, .int 0, .ref a11, .ref a12, .int 0, .ref a13, .ref a14, .int 0, .long 0, .long 0, .int 0, .int 0, .int 0, .int 0, .int 0, .ref a15, .int 0, .int 0, .ref a16, .int 0, .ref a17, .ref a18, .ref a19, .int 0, .ref a20, .ref a21, .long 0, .ref a22, .int 0]))] s.heap.size = A at hD hT ⊢
  have hA : ∀ q : Nat, s.heap.size ≤ q → A q := fun q h => by rw [← hAe]; exact Or.inr h
  have hS : va_S A s.heap s.heap [] := va_S.rf
  have hP : va_P G.1 vwCl [(a0, .inr (12, [.int 0, .int 0, .ref a1, .ref a2, .ref a3, .ref a4, .int 0, .ref a5, .int 0, .int 0, .int 0, .int 0, .long 0, .int (-1), .int 0, .int 0, .ref a6, .int 0, .ref a7, .ref a8, .int 0, .ref a9, .ref a10, .int 0, .int 0, .ref a11, .ref a12, .int 0, .ref a13, .ref a14, .int 0, .long 0, .long 0, .int 0, .int 0, .int 0, .int 0, .int 0, .ref a15, .int 0, .int 0, .ref a16, .int 0, .ref a17, .ref a18, .ref a19, .int 0, .ref a20, .ref a21, .long 0, .ref a22, .int 0]))] s.heap := hP
  have hl := lv_entry ([.ref a0, .long 117118547]) (n := 3) (Nat.le_of_ble_eq_true rfl)
  rw [lg_entry_eq]
  generalize (lg_sl ([.ref a0, .long 117118547]) ++ List.replicate (3 - (lg_sl ([.ref a0, .long 117118547])).length) Slot.unset).toArray = ls at hl ⊢
  have hl : lv_has ls 3 [(0, .ref a0), (1, .long 117118547)] := hl
  refine lv_aload_n hx hb dX12_isWord_0 rfl (lv_at hl 0 rfl) ?_
  refine va_get (D := G.1) (ci := 12) (v := .int 0) (C := RX12) (T := TX12) (N := 52) hx hb hts inG_X12 hown hK hP 0 rfl rfl 11 (by decide) (hts _ fl_X12_224) (fun _ h9 => h9) rfl dX12_isWord_1 ?_
  refine lv_iconst (v := 1) hx hb dX12_isWord_4 (by decide) ?_
  refine lv_icmp_ne (tgt := 21) hx hb dX12_isWord_5 (by decide) (fun c_1 => ?_) (fun c_1 => ?_)
  ·
    refine lv_iconst (v := 0) hx hb dX12_isWord_21 (by decide) ?_
    exact W.zret (v := 0) hx hb hr rfl (fun t ht hW => ⟨⟨0, [(a0, .inr (12, [.int 0, .int 0, .ref a1, .ref a2, .ref a3, .ref a4, .int 0, .ref a5, .int 0, .int 0, .int 0, .int 0, .long 0, .int (-1), .int 0, .int 0, .ref a6, .int 0, .ref a7, .ref a8, .int 0, .ref a9, .ref a10, .int 0, .int 0, .ref a11, .ref a12, .int 0, .ref a13, .ref a14, .int 0, .long 0, .long 0, .int 0, .int 0, .int 0, .int 0, .int 0, .ref a15, .int 0, .int 0, .ref a16, .int 0, .ref a17, .ref a18, .ref a19, .int 0, .ref a20, .ref a21, .long 0, .ref a22, .int 0]))], rfl, ⟨rfl, rfl⟩, by rw [ht]; exact hP, hD⟩, hS.F ht⟩) hS.2.2 dX12_isWord_22
  ·
    exact absurd c_1 (by decide)
set_option maxHeartbeats 4000000 in
set_option maxRecDepth 100000 in
theorem kX12_isWord_4 (l : Launch) (G : g5_G) (a0 a1 a2 a3 a4 a5 a6 a7 a8 a9 a10 a11 a12 a13 a14 a15 a16 a17 a18 a19 a20 a21 a22 : Nat) (sz : Nat) : Met l yX12_isWord (wsG yX12_isWord cX12_isWord 3 (some .boolean)) ({ frames := 0, cells := 0, slots := 0, locals := 0 }) (va_Pc [.ref a0, .long 3544114] (g5_P G [(a0, .inr (12, [.int 0, .int 0, .ref a1, .ref a2, .ref a3, .ref a4, .int 0, .ref a5, .int 0, .int 0, .int 0, .int 0, .long 0, .int (-1), .int 0, .int 0, .ref a6, .int 0, .ref a7, .ref a8, .int 0, .ref a9, .ref a10, .int 0, .int 0, .ref a11, .ref a12, .int 0, .ref a13, .ref a14, .int 0, .long 0, .long 0, .int 0, .int 0, .int 0, .int 0, .int 0, .ref a15, .int 0, .int 0, .ref a16, .int 0, .ref a17, .ref a18, .ref a19, .int 0, .ref a20, .ref a21, .long 0, .ref a22, .int 0]))] sz)) (va_Qi (fun (r : Int32) (u : va_W) => ((r = 0) ∧ (u = [(a0, .inr (12, [.int 0, .int 0, .ref a1, .ref a2, .ref a3, .ref a4, .int 0, .ref a5, .int 0, .int 0, .int 0, .int 0, .long 0, .int (-1), .int 0, .int 0, .ref a6, .int 0, .ref a7, .ref a8, .int 0, .ref a9, .ref a10, .int 0, .int 0, .ref a11, .ref a12, .int 0, .ref a13, .ref a14, .int 0, .long 0, .long 0, .int 0, .int 0, .int 0, .int 0, .int 0, .ref a15, .int 0, .int 0, .ref a16, .int 0, .ref a17, .ref a18, .ref a19, .int 0, .ref a20, .ref a21, .long 0, .ref a22, .int 0]))]))) (g5_B G (va_A [(a0, .inr (12, [.int 0, .int 0, .ref a1, .ref a2, .ref a3, .ref a4, .int 0, .ref a5, .int 0, .int 0, .int 0, .int 0, .long 0, .int (-1), .int 0, .int 0, .ref a6, .int 0, .ref a7, .ref a8, .int 0, .ref a9, .ref a10, .int 0, .int 0, .ref a11, .ref a12, .int 0, .ref a13, .ref a14, .int 0, .long 0, .long 0, .int 0, .int 0, .int 0, .int 0, .int 0, .ref a15, .int 0, .int 0, .ref a16, .int 0, .ref a17, .ref a18, .ref a19, .int 0, .ref a20, .ref a21, .long 0, .ref a22, .int 0]))] sz)) (va_A [(a0, .inr (12, [.int 0, .int 0, .ref a1, .ref a2, .ref a3, .ref a4, .int 0, .ref a5, .int 0, .int 0, .int 0, .int 0, .long 0, .int (-1), .int 0, .int 0, .ref a6, .int 0, .ref a7, .ref a8, .int 0, .ref a9, .ref a10, .int 0, .int 0, .ref a11, .ref a12, .int 0, .ref a13, .ref a14, .int 0, .long 0, .long 0, .int 0, .int 0, .int 0, .int 0, .int 0, .ref a15, .int 0, .int 0, .ref a16, .int 0, .ref a17, .ref a18, .ref a19, .int 0, .ref a20, .ref a21, .long 0, .ref a22, .int 0]))] sz)) 0 0 (va_A [(a0, .inr (12, [.int 0, .int 0, .ref a1, .ref a2, .ref a3, .ref a4, .int 0, .ref a5, .int 0, .int 0, .int 0, .int 0, .long 0, .int (-1), .int 0, .int 0, .ref a6, .int 0, .ref a7, .ref a8, .int 0, .ref a9, .ref a10, .int 0, .int 0, .ref a11, .ref a12, .int 0, .ref a13, .ref a14, .int 0, .long 0, .long 0, .int 0, .int 0, .int 0, .int 0, .int 0, .ref a15, .int 0, .int 0, .ref a16, .int 0, .ref a17, .ref a18, .ref a19, .int 0, .ref a20, .ref a21, .long 0, .ref a22, .int 0]))] sz) := by
  refine Met.ofW (cc := cX12_isWord) (maxL := 3) (ret := (some .boolean)) (by decide) rfl ?_
  intro p e s m args below meth c s₁ B hml hv
  obtain ⟨rfl, hsz, hP, hK, hD0, hN, hT⟩ := hv
  have hx := B.exec
  have hb := B.bytes
  have hr := B.returns
  have hts : ∀ w ∈ tblG, w.before _ s = true := fun w h => atoms_spec (ws := (wsG yX12_isWord cX12_isWord 3 (some .boolean))) B.pre w (List.mem_cons_of_mem _ h)
  have hown : s.vm.findClass RX12 = some m.cls := findClass_of_methodNamed B.named
  have hlocks := B.notSynchronized
  subst hsz
  have hD := hD0.self (sz := s.heap.size)
  generalize hAe : va_A [(a0, .inr (12, [.int 0, .int 0, .ref a1, .ref a2, .ref a3, .ref a4, .int 0, .ref a5, .int 0, .int 0, .int 0, .int 0, .long 0, .int (-1), .int 0, .int 0, .ref a6, .int 0, .ref a7, .ref a8, .int 0, .ref a9, .ref a10, .int 0, .int 0, .ref a11, .ref a12, .int 0, .ref a13, .ref a14, .int 0, .long 0, .long 0, .int 0, .int 0, .int 0, .int 0, .int 0, .ref a15, .int 0, .int 0, .ref a16, .int 0, .ref a17, .ref a18, .ref a19, .int 0, .ref a20, .ref a21, .long 0, .ref a22, .int 0]))] s.heap.size = A at hD hT ⊢
  have hA : ∀ q : Nat, s.heap.size ≤ q → A q := fun q h => by rw [← hAe]; exact Or.inr h
  have hS : va_S A s.heap s.heap [] := va_S.rf
  have hP : va_P G.1 vwCl [(a0, .inr (12, [.int 0, .int 0, .ref a1, .ref a2, .ref a3, .ref a4, .int 0, .ref a5, .int 0, .int 0, .int 0, .int 0, .long 0, .int (-1), .int 0, .int 0, .ref a6, .int 0, .ref a7, .ref a8, .int 0, .ref a9, .ref a10, .int 0, .int 0, .ref a11, .ref a12, .int 0, .ref a13, .ref a14, .int 0, .long 0, .long 0, .int 0, .int 0, .int 0, .int 0, .int 0, .ref a15, .int 0, .int 0, .ref a16, .int 0, .ref a17, .ref a18, .ref a19, .int 0, .ref a20, .ref a21, .long 0, .ref a22, .int 0]))] s.heap := hP
  have hl := lv_entry ([.ref a0, .long 3544114]) (n := 3) (Nat.le_of_ble_eq_true rfl)
  rw [lg_entry_eq]
  generalize (lg_sl ([.ref a0, .long 3544114]) ++ List.replicate (3 - (lg_sl ([.ref a0, .long 3544114])).length) Slot.unset).toArray = ls at hl ⊢
  have hl : lv_has ls 3 [(0, .ref a0), (1, .long 3544114)] := hl
  refine lv_aload_n hx hb dX12_isWord_0 rfl (lv_at hl 0 rfl) ?_
  refine va_get (D := G.1) (ci := 12) (v := .int 0) (C := RX12) (T := TX12) (N := 52) hx hb hts inG_X12 hown hK hP 0 rfl rfl 11 (by decide) (hts _ fl_X12_224) (fun _ h9 => h9) rfl dX12_isWord_1 ?_
  refine lv_iconst (v := 1) hx hb dX12_isWord_4 (by decide) ?_
  refine lv_icmp_ne (tgt := 21) hx hb dX12_isWord_5 (by decide) (fun c_1 => ?_) (fun c_1 => ?_)
  ·
    refine lv_iconst (v := 0) hx hb dX12_isWord_21 (by decide) ?_
    exact W.zret (v := 0) hx hb hr rfl (fun t ht hW => ⟨⟨0, [(a0, .inr (12, [.int 0, .int 0, .ref a1, .ref a2, .ref a3, .ref a4, .int 0, .ref a5, .int 0, .int 0, .int 0, .int 0, .long 0, .int (-1), .int 0, .int 0, .ref a6, .int 0, .ref a7, .ref a8, .int 0, .ref a9, .ref a10, .int 0, .int 0, .ref a11, .ref a12, .int 0, .ref a13, .ref a14, .int 0, .long 0, .long 0, .int 0, .int 0, .int 0, .int 0, .int 0, .ref a15, .int 0, .int 0, .ref a16, .int 0, .ref a17, .ref a18, .ref a19, .int 0, .ref a20, .ref a21, .long 0, .ref a22, .int 0]))], rfl, ⟨rfl, rfl⟩, by rw [ht]; exact hP, hD⟩, hS.F ht⟩) hS.2.2 dX12_isWord_22
  ·
    exact absurd c_1 (by decide)
theorem dX12_must_0 : decode cX12_must 0 = .ok (.aload_n 0, 1) := by decide +kernel
theorem dX12_must_1 : decode cX12_must 1 = .ok (.getfield 205, 3) := by decide +kernel
theorem dX12_must_4 : decode cX12_must 4 = .ok (.ifCond .ne 20, 3) := by decide +kernel
theorem dX12_must_7 : decode cX12_must 7 = .ok (.iload_n 1, 1) := by decide +kernel
theorem dX12_must_8 : decode cX12_must 8 = .ok (.ifCond .ne 16, 3) := by decide +kernel
theorem dX12_must_11 : decode cX12_must 11 = .ok (.aload_n 0, 1) := by decide +kernel
theorem dX12_must_12 : decode cX12_must 12 = .ok (.iconst 1, 1) := by decide +kernel
theorem dX12_must_13 : decode cX12_must 13 = .ok (.putfield 205, 3) := by decide +kernel
theorem dX12_must_16 : decode cX12_must 16 = .ok (.aload_n 0, 1) := by decide +kernel
theorem dX12_must_17 : decode cX12_must 17 = .ok (.aload_n 0, 1) := by decide +kernel
theorem dX12_must_18 : decode cX12_must 18 = .ok (.getfield 211, 3) := by decide +kernel
theorem dX12_must_21 : decode cX12_must 21 = .ok (.putfield 26, 3) := by decide +kernel
theorem dX12_must_24 : decode cX12_must 24 = .ok (.aload_n 0, 1) := by decide +kernel
theorem dX12_must_25 : decode cX12_must 25 = .ok (.getfield 205, 3) := by decide +kernel
theorem dX12_must_28 : decode cX12_must 28 = .ok (.ifCond .ne 7, 3) := by decide +kernel
theorem dX12_must_31 : decode cX12_must 31 = .ok (.aload_n 0, 1) := by decide +kernel
theorem dX12_must_32 : decode cX12_must 32 = .ok (.invokevirtual 208, 3) := by decide +kernel
theorem dX12_must_35 : decode cX12_must 35 = .ok (.return_, 1) := by decide +kernel
set_option maxHeartbeats 4000000 in
set_option maxRecDepth 100000 in
theorem kX12_must (l : Launch) (G : g5_G) (a0 a1 a2 a3 a4 a5 a6 a7 a8 a9 a10 a11 a12 a13 a14 a15 a16 a17 a18 a19 a20 a21 a22 : Nat) (sz : Nat) : Met l yX12_must (wsG yX12_must cX12_must 2 none) ({ frames := 0, cells := 0, slots := 0, locals := 0 }) (va_Pc [.ref a0, .int 0] (g5_P G [(a0, .inr (12, [.int 0, .int 0, .ref a1, .ref a2, .ref a3, .ref a4, .int 0, .ref a5, .int 0, .int 0, .int 0, .int 0, .long 0, .int (-1), .int 0, .int 0, .ref a6, .int 0, .ref a7, .ref a8, .int 0, .ref a9, .ref a10, .int 0, .int 0, .ref a11, .ref a12, .int 0, .ref a13, .ref a14, .int 0, .long 0, .long 0, .int 0, .int 0, .int 0, .int 0, .int 0, .ref a15, .int 0, .int 0, .ref a16, .int 0, .ref a17, .ref a18, .ref a19, .int 0, .ref a20, .ref a21, .long 0, .ref a22, .int 0]))] sz)) (va_Qv (fun (u : va_W) => ((u = [(a0, .inr (12, [.int 0, .int 0, .ref a1, .ref a2, .ref a3, .ref a4, .int 0, .ref a5, .int 0, .int 0, .int 0, .int 0, .long 0, .int 0, .int 1, .int 0, .ref a6, .int 0, .ref a7, .ref a8, .int 0, .ref a9, .ref a10, .int 0, .int 0, .ref a11, .ref a12, .int 0, .ref a13, .ref a14, .int 0, .long 0, .long 0, .int 0, .int 0, .int 0, .int 0, .int 0, .ref a15, .int 0, .int 0, .ref a16, .int 0, .ref a17, .ref a18, .ref a19, .int 0, .ref a20, .ref a21, .long 0, .ref a22, .int 0]))]))) (g5_B G (va_A [(a0, .inr (12, [.int 0, .int 0, .ref a1, .ref a2, .ref a3, .ref a4, .int 0, .ref a5, .int 0, .int 0, .int 0, .int 0, .long 0, .int (-1), .int 0, .int 0, .ref a6, .int 0, .ref a7, .ref a8, .int 0, .ref a9, .ref a10, .int 0, .int 0, .ref a11, .ref a12, .int 0, .ref a13, .ref a14, .int 0, .long 0, .long 0, .int 0, .int 0, .int 0, .int 0, .int 0, .ref a15, .int 0, .int 0, .ref a16, .int 0, .ref a17, .ref a18, .ref a19, .int 0, .ref a20, .ref a21, .long 0, .ref a22, .int 0]))] sz)) (va_A [(a0, .inr (12, [.int 0, .int 0, .ref a1, .ref a2, .ref a3, .ref a4, .int 0, .ref a5, .int 0, .int 0, .int 0, .int 0, .long 0, .int (-1), .int 0, .int 0, .ref a6, .int 0, .ref a7, .ref a8, .int 0, .ref a9, .ref a10, .int 0, .int 0, .ref a11, .ref a12, .int 0, .ref a13, .ref a14, .int 0, .long 0, .long 0, .int 0, .int 0, .int 0, .int 0, .int 0, .ref a15, .int 0, .int 0, .ref a16, .int 0, .ref a17, .ref a18, .ref a19, .int 0, .ref a20, .ref a21, .long 0, .ref a22, .int 0]))] sz)) 0 0 (va_A [(a0, .inr (12, [.int 0, .int 0, .ref a1, .ref a2, .ref a3, .ref a4, .int 0, .ref a5, .int 0, .int 0, .int 0, .int 0, .long 0, .int (-1), .int 0, .int 0, .ref a6, .int 0, .ref a7, .ref a8, .int 0, .ref a9, .ref a10, .int 0, .int 0, .ref a11, .ref a12, .int 0, .ref a13, .ref a14, .int 0, .long 0, .long 0, .int 0, .int 0, .int 0, .int 0, .int 0, .ref a15, .int 0, .int 0, .ref a16, .int 0, .ref a17, .ref a18, .ref a19, .int 0, .ref a20, .ref a21, .long 0, .ref a22, .int 0]))] sz) := by
  refine Met.ofW (cc := cX12_must) (maxL := 2) (ret := none) (by decide) rfl ?_
  intro p e s m args below meth c s₁ B hml hv
  obtain ⟨rfl, hsz, hP, hK, hD0, hN, hT⟩ := hv
  have hx := B.exec
  have hb := B.bytes
  have hr := B.returns
  have hts : ∀ w ∈ tblG, w.before _ s = true := fun w h => atoms_spec (ws := (wsG yX12_must cX12_must 2 none)) B.pre w (List.mem_cons_of_mem _ h)
  have hown : s.vm.findClass RX12 = some m.cls := findClass_of_methodNamed B.named
  have hlocks := B.notSynchronized
  subst hsz
  have hD := hD0.self (sz := s.heap.size)
  generalize hAe : va_A [(a0, .inr (12, [.int 0, .int 0, .ref a1, .ref a2, .ref a3, .ref a4, .int 0, .ref a5, .int 0, .int 0, .int 0, .int 0, .long 0, .int (-1), .int 0, .int 0, .ref a6, .int 0, .ref a7, .ref a8, .int 0, .ref a9, .ref a10, .int 0, .int 0, .ref a11, .ref a12, .int 0, .ref a13, .ref a14, .int 0, .long 0, .long 0, .int 0, .int 0, .int 0, .int 0, .int 0, .ref a15, .int 0, .int 0, .ref a16, .int 0, .ref a17, .ref a18, .ref a19, .int 0, .ref a20, .ref a21, .long 0, .ref a22, .int 0]))] s.heap.size = A at hD hT ⊢
  have hA : ∀ q : Nat, s.heap.size ≤ q → A q := fun q h => by rw [← hAe]; exact Or.inr h
  have hS : va_S A s.heap s.heap [] := va_S.rf
  have hP : va_P G.1 vwCl [(a0, .inr (12, [.int 0, .int 0, .ref a1, .ref a2, .ref a3, .ref a4, .int 0, .ref a5, .int 0, .int 0, .int 0, .int 0, .long 0, .int (-1), .int 0, .int 0, .ref a6, .int 0, .ref a7, .ref a8, .int 0, .ref a9, .ref a10, .int 0, .int 0, .ref a11, .ref a12, .int 0, .ref a13, .ref a14, .int 0, .long 0, .long 0, .int 0, .int 0, .int 0, .int 0, .int 0, .ref a15, .int 0, .int 0, .ref a16, .int 0, .ref a17, .ref a18, .ref a19, .int 0, .ref a20, .ref a21, .long 0, .ref a22, .int 0]))] s.heap := hP
  have hl := lv_entry ([.ref a0, .int 0]) (n := 2) (Nat.le_of_ble_eq_true rfl)
  rw [lg_entry_eq]
  generalize (lg_sl ([.ref a0, .int 0]) ++ List.replicate (2 - (lg_sl ([.ref a0, .int 0])).length) Slot.unset).toArray = ls at hl ⊢
  have hl : lv_has ls 2 [(0, .ref a0), (1, .int 0)] := hl
  refine lv_aload_n hx hb dX12_must_0 rfl (lv_at hl 0 rfl) ?_
  refine va_get (D := G.1) (ci := 12) (v := .int 0) (C := RX12) (T := TX12) (N := 52) hx hb hts inG_X12 hown hK hP 0 rfl rfl 14 (by decide) (hts _ fl_X12_205) (fun _ h9 => h9) rfl dX12_must_1 ?_
  refine lv_if_ne (tgt := 24) hx hb dX12_must_4 (by decide) (fun c_1 => ?_) (fun c_1 => ?_)
  ·
    exact absurd c_1 (by decide)
  ·
    refine lv_iload_n hx hb dX12_must_7 rfl (lv_at hl 1 rfl) ?_
    refine lv_if_ne (tgt := 24) hx hb dX12_must_8 (by decide) (fun c_2 => ?_) (fun c_2 => ?_)
    ·
      exact absurd c_2 (by decide)
    ·
      refine lv_aload_n hx hb dX12_must_11 rfl (lv_at hl 0 rfl) ?_
      refine lv_iconst (v := 1) hx hb dX12_must_12 (by decide) ?_
      refine va_put (D := G.1) (ci := 12) (v := .int 1) (ty := .boolean) (C := RX12) (T := TX12) (N := 52) hx hb hts inG_X12 tyX12 tyX12_ok nmX12 hown hK hP hD hS 0 rfl rfl 14 (by decide) (hts _ fl_X12_205) (fun _ h9 => h9) rfl (by decide +kernel) rfl rfl (Nat.le_of_ble_eq_true rfl) dX12_must_13 (fun H locs hP hD hS => ?_)
      have hP : va_P G.1 vwCl [(a0, .inr (12, [.int 0, .int 0, .ref a1, .ref a2, .ref a3, .ref a4, .int 0, .ref a5, .int 0, .int 0, .int 0, .int 0, .long 0, .int (-1), .int 1, .int 0, .ref a6, .int 0, .ref a7, .ref a8, .int 0, .ref a9, .ref a10, .int 0, .int 0, .ref a11, .ref a12, .int 0, .ref a13, .ref a14, .int 0, .long 0, .long 0, .int 0, .int 0, .int 0, .int 0, .int 0, .ref a15, .int 0, .int 0, .ref a16, .int 0, .ref a17, .ref a18, .ref a19, .int 0, .ref a20, .ref a21, .long 0, .ref a22, .int 0]))] H := hP
      have hD : va_D A [(a0, .inr (12, [.int 0, .int 0, .ref a1, .ref a2, .ref a3, .ref a4, .int 0, .ref a5, .int 0, .int 0, .int 0, .int 0, .long 0, .int (-1), .int 1, .int 0, .ref a6, .int 0, .ref a7, .ref a8, .int 0, .ref a9, .ref a10, .int 0, .int 0, .ref a11, .ref a12, .int 0, .ref a13, .ref a14, .int 0, .long 0, .long 0, .int 0, .int 0, .int 0, .int 0, .int 0, .ref a15, .int 0, .int 0, .ref a16, .int 0, .ref a17, .ref a18, .ref a19, .int 0, .ref a20, .ref a21, .long 0, .ref a22, .int 0]))] := hD
      refine lv_aload_n hx hb dX12_must_16 rfl (lv_at hl 0 rfl) ?_
      refine lv_aload_n hx hb dX12_must_17 rfl (lv_at hl 0 rfl) ?_
      refine va_get (D := G.1) (ci := 12) (v := .int 0) (C := RX12) (T := TX12) (N := 52) hx hb hts inG_X12 hown hK hP 0 rfl rfl 9 (by decide) (hts _ fl_X12_211) (fun _ h9 => h9) rfl dX12_must_18 ?_
      refine va_put (D := G.1) (ci := 12) (v := .int 0) (ty := .int) (C := RX12) (T := TX12) (N := 52) hx hb hts inG_X12 tyX12 tyX12_ok nmX12 hown hK hP hD hS 0 rfl rfl 13 (by decide) (hts _ fl_X12_26) (fun _ h9 => h9) rfl (by decide +kernel) rfl rfl (Nat.le_of_ble_eq_true rfl) dX12_must_21 (fun H locs hP hD hS => ?_)
      have hP : va_P G.1 vwCl [(a0, .inr (12, [.int 0, .int 0, .ref a1, .ref a2, .ref a3, .ref a4, .int 0, .ref a5, .int 0, .int 0, .int 0, .int 0, .long 0, .int 0, .int 1, .int 0, .ref a6, .int 0, .ref a7, .ref a8, .int 0, .ref a9, .ref a10, .int 0, .int 0, .ref a11, .ref a12, .int 0, .ref a13, .ref a14, .int 0, .long 0, .long 0, .int 0, .int 0, .int 0, .int 0, .int 0, .ref a15, .int 0, .int 0, .ref a16, .int 0, .ref a17, .ref a18, .ref a19, .int 0, .ref a20, .ref a21, .long 0, .ref a22, .int 0]))] H := hP
      have hD : va_D A [(a0, .inr (12, [.int 0, .int 0, .ref a1, .ref a2, .ref a3, .ref a4, .int 0, .ref a5, .int 0, .int 0, .int 0, .int 0, .long 0, .int 0, .int 1, .int 0, .ref a6, .int 0, .ref a7, .ref a8, .int 0, .ref a9, .ref a10, .int 0, .int 0, .ref a11, .ref a12, .int 0, .ref a13, .ref a14, .int 0, .long 0, .long 0, .int 0, .int 0, .int 0, .int 0, .int 0, .ref a15, .int 0, .int 0, .ref a16, .int 0, .ref a17, .ref a18, .ref a19, .int 0, .ref a20, .ref a21, .long 0, .ref a22, .int 0]))] := hD
      refine lv_aload_n hx hb dX12_must_24 rfl (lv_at hl 0 rfl) ?_
      refine va_get (D := G.1) (ci := 12) (v := .int 1) (C := RX12) (T := TX12) (N := 52) hx hb hts inG_X12 hown hK hP 0 rfl rfl 14 (by decide) (hts _ fl_X12_205) (fun _ h9 => h9) rfl dX12_must_25 ?_
      refine lv_if_ne (tgt := 35) hx hb dX12_must_28 (by decide) (fun c_3 => ?_) (fun c_3 => ?_)
      ·
        exact W.vret hx hb hr (fun t ht hW => ⟨⟨[(a0, .inr (12, [.int 0, .int 0, .ref a1, .ref a2, .ref a3, .ref a4, .int 0, .ref a5, .int 0, .int 0, .int 0, .int 0, .long 0, .int 0, .int 1, .int 0, .ref a6, .int 0, .ref a7, .ref a8, .int 0, .ref a9, .ref a10, .int 0, .int 0, .ref a11, .ref a12, .int 0, .ref a13, .ref a14, .int 0, .long 0, .long 0, .int 0, .int 0, .int 0, .int 0, .int 0, .ref a15, .int 0, .int 0, .ref a16, .int 0, .ref a17, .ref a18, .ref a19, .int 0, .ref a20, .ref a21, .long 0, .ref a22, .int 0]))], rfl, rfl, by rw [ht]; exact hP, hD⟩, hS.F ht⟩) hS.2.2 dX12_must_35
      ·
        exact absurd c_3 (by decide)
theorem ml_X12_233 : Cond.methodLink RX12 233 yX12_must ∈ tblG := tg 1525 (by decide +kernel) (by decide +kernel)
theorem im_X12_must : Cond.instanceMethod yX12_must ∈ tblG := tg 1527 (by decide +kernel) (by decide +kernel)
theorem se_X12_must : Cond.selects RX12 yX12_must yX12_must ∈ tblG := tg 47 (by decide +kernel) (by decide +kernel)
theorem cd_X12_must : Cond.code yX12_must cX12_must 2 none ∈ tblG := tg 1528 (by decide +kernel) (by decide +kernel)
theorem gW_X12_must : GoodIn tblG (wsG yX12_must cX12_must 2 none) := tgi cd_X12_must
theorem gV_X12_233 : GoodIn tblG (wsV RX12 233 RX12 yX12_must (wsG yX12_must cX12_must 2 none)) := tgV ml_X12_233 im_X12_must se_X12_must ini_X12 gW_X12_must
theorem hv_X12_must : yX12_must.cls = RX12 ∧ yX12_must.cls ≠ "java/lang/invoke/MethodHandle" ∧ yX12_must.cls ≠ "java/lang/invoke/VarHandle" ∧ (parseMethodDescriptor yX12_must.desc).map (fun d => d.parameters.length) = some 1 := by decide +kernel
theorem dX12_readClause_0 : decode cX12_readClause 0 = .ok (.iconst (-1), 1) := by decide +kernel
theorem dX12_readClause_1 : decode cX12_readClause 1 = .ok (.istore_n 1, 1) := by decide +kernel
theorem dX12_readClause_2 : decode cX12_readClause 2 = .ok (.iconst 0, 1) := by decide +kernel
theorem dX12_readClause_3 : decode cX12_readClause 3 = .ok (.istore_n 2, 1) := by decide +kernel
theorem dX12_readClause_4 : decode cX12_readClause 4 = .ok (.iload_n 2, 1) := by decide +kernel
theorem dX12_readClause_5 : decode cX12_readClause 5 = .ok (.iconst 4, 1) := by decide +kernel
theorem dX12_readClause_6 : decode cX12_readClause 6 = .ok (.if_icmp .ge 28, 3) := by decide +kernel
theorem dX12_readClause_9 : decode cX12_readClause 9 = .ok (.aload_n 0, 1) := by decide +kernel
theorem dX12_readClause_10 : decode cX12_readClause 10 = .ok (.aload_n 0, 1) := by decide +kernel
theorem dX12_readClause_11 : decode cX12_readClause 11 = .ok (.getfield 73, 3) := by decide +kernel
theorem dX12_readClause_14 : decode cX12_readClause 14 = .ok (.iload_n 2, 1) := by decide +kernel
theorem dX12_readClause_15 : decode cX12_readClause 15 = .ok (.laload, 1) := by decide +kernel
theorem dX12_readClause_16 : decode cX12_readClause 16 = .ok (.invokevirtual 254, 3) := by decide +kernel
theorem dX12_readClause_19 : decode cX12_readClause 19 = .ok (.ifCond .eq 7, 3) := by decide +kernel
theorem dX12_readClause_22 : decode cX12_readClause 22 = .ok (.iload_n 2, 1) := by decide +kernel
theorem dX12_readClause_23 : decode cX12_readClause 23 = .ok (.goto 4, 3) := by decide +kernel
theorem dX12_readClause_26 : decode cX12_readClause 26 = .ok (.iload_n 1, 1) := by decide +kernel
theorem dX12_readClause_27 : decode cX12_readClause 27 = .ok (.istore_n 1, 1) := by decide +kernel
theorem dX12_readClause_28 : decode cX12_readClause 28 = .ok (.iinc 2 1, 3) := by decide +kernel
theorem dX12_readClause_31 : decode cX12_readClause 31 = .ok (.goto (-27), 3) := by decide +kernel
theorem dX12_readClause_34 : decode cX12_readClause 34 = .ok (.aload_n 0, 1) := by decide +kernel
theorem dX12_readClause_35 : decode cX12_readClause 35 = .ok (.iload_n 1, 1) := by decide +kernel
theorem dX12_readClause_36 : decode cX12_readClause 36 = .ok (.iconst (-1), 1) := by decide +kernel
theorem dX12_readClause_37 : decode cX12_readClause 37 = .ok (.if_icmp .eq 16, 3) := by decide +kernel
theorem dX12_readClause_40 : decode cX12_readClause 40 = .ok (.aload_n 0, 1) := by decide +kernel
theorem dX12_readClause_41 : decode cX12_readClause 41 = .ok (.getfield 312, 3) := by decide +kernel
theorem dX12_readClause_44 : decode cX12_readClause 44 = .ok (.bipush 12, 2) := by decide +kernel
theorem dX12_readClause_46 : decode cX12_readClause 46 = .ok (.if_icmp .ge 7, 3) := by decide +kernel
theorem dX12_readClause_49 : decode cX12_readClause 49 = .ok (.iconst 1, 1) := by decide +kernel
theorem dX12_readClause_50 : decode cX12_readClause 50 = .ok (.goto 4, 3) := by decide +kernel
theorem dX12_readClause_53 : decode cX12_readClause 53 = .ok (.iconst 0, 1) := by decide +kernel
theorem dX12_readClause_54 : decode cX12_readClause 54 = .ok (.invokevirtual 233, 3) := by decide +kernel
theorem dX12_readClause_57 : decode cX12_readClause 57 = .ok (.aload_n 0, 1) := by decide +kernel
theorem dX12_readClause_58 : decode cX12_readClause 58 = .ok (.getfield 205, 3) := by decide +kernel
theorem dX12_readClause_61 : decode cX12_readClause 61 = .ok (.ifCond .eq 4, 3) := by decide +kernel
theorem dX12_readClause_64 : decode cX12_readClause 64 = .ok (.return_, 1) := by decide +kernel
theorem dX12_readClause_65 : decode cX12_readClause 65 = .ok (.bipush 8, 2) := by decide +kernel
theorem dX12_readClause_67 : decode cX12_readClause 67 = .ok (.aload_n 0, 1) := by decide +kernel
theorem dX12_readClause_68 : decode cX12_readClause 68 = .ok (.getfield 312, 3) := by decide +kernel
theorem dX12_readClause_71 : decode cX12_readClause 71 = .ok (.imul, 1) := by decide +kernel
theorem dX12_readClause_72 : decode cX12_readClause 72 = .ok (.istore_n 2, 1) := by decide +kernel
theorem dX12_readClause_73 : decode cX12_readClause 73 = .ok (.iconst 0, 1) := by decide +kernel
theorem dX12_readClause_74 : decode cX12_readClause 74 = .ok (.istore_n 3, 1) := by decide +kernel
theorem dX12_readClause_75 : decode cX12_readClause 75 = .ok (.iload_n 3, 1) := by decide +kernel
theorem dX12_readClause_76 : decode cX12_readClause 76 = .ok (.bipush 8, 2) := by decide +kernel
theorem dX12_readClause_78 : decode cX12_readClause 78 = .ok (.if_icmp .ge 18, 3) := by decide +kernel
theorem dX12_readClause_81 : decode cX12_readClause 81 = .ok (.aload_n 0, 1) := by decide +kernel
theorem dX12_readClause_82 : decode cX12_readClause 82 = .ok (.getfield 30, 3) := by decide +kernel
theorem dX12_readClause_85 : decode cX12_readClause 85 = .ok (.iload_n 2, 1) := by decide +kernel
theorem dX12_readClause_86 : decode cX12_readClause 86 = .ok (.iload_n 3, 1) := by decide +kernel
theorem dX12_readClause_87 : decode cX12_readClause 87 = .ok (.iadd, 1) := by decide +kernel
theorem dX12_readClause_88 : decode cX12_readClause 88 = .ok (.iconst 0, 1) := by decide +kernel
theorem dX12_readClause_89 : decode cX12_readClause 89 = .ok (.iastore, 1) := by decide +kernel
theorem dX12_readClause_90 : decode cX12_readClause 90 = .ok (.iinc 3 1, 3) := by decide +kernel
theorem dX12_readClause_93 : decode cX12_readClause 93 = .ok (.goto (-18), 3) := by decide +kernel
theorem dX12_readClause_96 : decode cX12_readClause 96 = .ok (.aload_n 0, 1) := by decide +kernel
theorem dX12_readClause_97 : decode cX12_readClause 97 = .ok (.getfield 30, 3) := by decide +kernel
theorem dX12_readClause_100 : decode cX12_readClause 100 = .ok (.iload_n 2, 1) := by decide +kernel
theorem dX12_readClause_101 : decode cX12_readClause 101 = .ok (.iload_n 1, 1) := by decide +kernel
theorem dX12_readClause_102 : decode cX12_readClause 102 = .ok (.iastore, 1) := by decide +kernel
theorem dX12_readClause_103 : decode cX12_readClause 103 = .ok (.aload_n 0, 1) := by decide +kernel
theorem dX12_readClause_104 : decode cX12_readClause 104 = .ok (.dup, 1) := by decide +kernel
theorem dX12_readClause_105 : decode cX12_readClause 105 = .ok (.getfield 312, 3) := by decide +kernel
theorem dX12_readClause_108 : decode cX12_readClause 108 = .ok (.iconst 1, 1) := by decide +kernel
theorem dX12_readClause_109 : decode cX12_readClause 109 = .ok (.iadd, 1) := by decide +kernel
theorem dX12_readClause_110 : decode cX12_readClause 110 = .ok (.putfield 312, 3) := by decide +kernel
theorem dX12_readClause_113 : decode cX12_readClause 113 = .ok (.aload_n 0, 1) := by decide +kernel
theorem dX12_readClause_114 : decode cX12_readClause 114 = .ok (.getfield 30, 3) := by decide +kernel
theorem dX12_readClause_117 : decode cX12_readClause 117 = .ok (.iload_n 2, 1) := by decide +kernel
theorem dX12_readClause_118 : decode cX12_readClause 118 = .ok (.iconst 3, 1) := by decide +kernel
theorem dX12_readClause_119 : decode cX12_readClause 119 = .ok (.iadd, 1) := by decide +kernel
theorem dX12_readClause_120 : decode cX12_readClause 120 = .ok (.aload_n 0, 1) := by decide +kernel
theorem dX12_readClause_121 : decode cX12_readClause 121 = .ok (.getfield 237, 3) := by decide +kernel
theorem dX12_readClause_124 : decode cX12_readClause 124 = .ok (.iastore, 1) := by decide +kernel
theorem dX12_readClause_125 : decode cX12_readClause 125 = .ok (.iload_n 1, 1) := by decide +kernel
theorem dX12_readClause_126 : decode cX12_readClause 126 = .ok (.iconst 2, 1) := by decide +kernel
theorem dX12_readClause_127 : decode cX12_readClause 127 = .ok (.if_icmp .ge 8, 3) := by decide +kernel
theorem dX12_readClause_130 : decode cX12_readClause 130 = .ok (.aload_n 0, 1) := by decide +kernel
theorem dX12_readClause_131 : decode cX12_readClause 131 = .ok (.iconst 0, 1) := by decide +kernel
theorem dX12_readClause_132 : decode cX12_readClause 132 = .ok (.invokevirtual 315, 3) := by decide +kernel
theorem dX12_readClause_135 : decode cX12_readClause 135 = .ok (.aload_n 0, 1) := by decide +kernel
theorem dX12_readClause_136 : decode cX12_readClause 136 = .ok (.getfield 30, 3) := by decide +kernel
theorem dX12_readClause_139 : decode cX12_readClause 139 = .ok (.iload_n 2, 1) := by decide +kernel
theorem dX12_readClause_140 : decode cX12_readClause 140 = .ok (.iconst 4, 1) := by decide +kernel
theorem dX12_readClause_141 : decode cX12_readClause 141 = .ok (.iadd, 1) := by decide +kernel
theorem dX12_readClause_142 : decode cX12_readClause 142 = .ok (.aload_n 0, 1) := by decide +kernel
theorem dX12_readClause_143 : decode cX12_readClause 143 = .ok (.getfield 237, 3) := by decide +kernel
theorem dX12_readClause_146 : decode cX12_readClause 146 = .ok (.iastore, 1) := by decide +kernel
theorem dX12_readClause_147 : decode cX12_readClause 147 = .ok (.aload_n 0, 1) := by decide +kernel
theorem dX12_readClause_148 : decode cX12_readClause 148 = .ok (.getfield 30, 3) := by decide +kernel
theorem dX12_readClause_151 : decode cX12_readClause 151 = .ok (.iload_n 2, 1) := by decide +kernel
theorem dX12_readClause_152 : decode cX12_readClause 152 = .ok (.iconst 5, 1) := by decide +kernel
theorem dX12_readClause_153 : decode cX12_readClause 153 = .ok (.iadd, 1) := by decide +kernel
theorem dX12_readClause_154 : decode cX12_readClause 154 = .ok (.aload_n 0, 1) := by decide +kernel
theorem dX12_readClause_155 : decode cX12_readClause 155 = .ok (.getfield 237, 3) := by decide +kernel
theorem dX12_readClause_158 : decode cX12_readClause 158 = .ok (.iastore, 1) := by decide +kernel
theorem dX12_readClause_159 : decode cX12_readClause 159 = .ok (.aload_n 0, 1) := by decide +kernel
theorem dX12_readClause_160 : decode cX12_readClause 160 = .ok (.getfield 205, 3) := by decide +kernel
theorem dX12_readClause_163 : decode cX12_readClause 163 = .ok (.ifCond .ne 22, 3) := by decide +kernel
theorem dX12_readClause_166 : decode cX12_readClause 166 = .ok (.aload_n 0, 1) := by decide +kernel
theorem dX12_readClause_167 : decode cX12_readClause 167 = .ok (.ldc2_w 318, 3) := by decide +kernel
theorem dX12_readClause_170 : decode cX12_readClause 170 = .ok (.invokevirtual 254, 3) := by decide +kernel
theorem dX12_readClause_173 : decode cX12_readClause 173 = .ok (.ifCond .eq 12, 3) := by decide +kernel
theorem dX12_readClause_176 : decode cX12_readClause 176 = .ok (.aload_n 0, 1) := by decide +kernel
theorem dX12_readClause_177 : decode cX12_readClause 177 = .ok (.invokevirtual 208, 3) := by decide +kernel
theorem dX12_readClause_180 : decode cX12_readClause 180 = .ok (.aload_n 0, 1) := by decide +kernel
theorem dX12_readClause_181 : decode cX12_readClause 181 = .ok (.iconst 1, 1) := by decide +kernel
theorem dX12_readClause_182 : decode cX12_readClause 182 = .ok (.invokevirtual 315, 3) := by decide +kernel
theorem dX12_readClause_185 : decode cX12_readClause 185 = .ok (.aload_n 0, 1) := by decide +kernel
theorem dX12_readClause_186 : decode cX12_readClause 186 = .ok (.getfield 30, 3) := by decide +kernel
theorem dX12_readClause_189 : decode cX12_readClause 189 = .ok (.iload_n 2, 1) := by decide +kernel
theorem dX12_readClause_190 : decode cX12_readClause 190 = .ok (.bipush 6, 2) := by decide +kernel
theorem dX12_readClause_192 : decode cX12_readClause 192 = .ok (.iadd, 1) := by decide +kernel
theorem dX12_readClause_193 : decode cX12_readClause 193 = .ok (.aload_n 0, 1) := by decide +kernel
theorem dX12_readClause_194 : decode cX12_readClause 194 = .ok (.getfield 237, 3) := by decide +kernel
theorem dX12_readClause_197 : decode cX12_readClause 197 = .ok (.iastore, 1) := by decide +kernel
theorem dX12_readClause_198 : decode cX12_readClause 198 = .ok (.return_, 1) := by decide +kernel
