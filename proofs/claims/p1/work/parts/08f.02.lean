set_option maxHeartbeats 4000000 in
set_option maxRecDepth 100000 in
theorem k_pathA {p : Program} {l : Launch} {e : Env} {s : State} {m : MethodId} {args : Array Value} {below : List Frame} {meth : Method} {c : Code} {Q : State → Prop} {A : Nat → Prop} {H : Heap} {locs : List Loc} {ls : Array Slot} (G : g5_G) (a_y a_2 a_19 a_17 a_18 a_1 a_3 a_4 a_5 a_6 a_7 a_8 a_9 a_10 a_11 a_12 a_13 a_14 a_15 a_16 a_20 a_21 a_22 : Nat) (e_cell : Int32) (e_hour : Int32) (e_way : Int32) (e_bright : Int32) (e_points : Int32) (e_through : Int32) (e_seen : Int32) (f_e : Nat → Int64) (f_d : Nat → Int64) (p_h : Int32) (hx : p.tables.exec = Jvm.exec) (hb : c.code = cX12_path) (hml : c.maxLocals = 8) (hown : s.vm.findClass RX12 = some m.cls) (hts : ∀ w ∈ tblG, w.before args s = true) (hK : va_K G.1 vwCl (T5 G) s) (hN : g5_N s) (hT : g5_S A s s.heap) (hA : ∀ q : Nat, s.heap.size ≤ q → A q) (hP : va_P G.1 vwCl [(a_y, .inr (12, [.int 0, .int 0, .ref a_1, .ref a_2, .ref a_3, .ref a_4, .int 0, .ref a_5, .int 0, .int 0, .int 0, .int 0, .long 0, .int (-1), .int 0, .int 0, .ref a_6, .int 0, .ref a_7, .ref a_8, .int 0, .ref a_9, .ref a_10, .int 0, .int 0, .ref a_11, .ref a_12, .int 0, .ref a_13, .ref a_14, .int 0, .long 0, .long 0, .int e_cell, .int e_hour, .int e_way, .int e_bright, .int e_points, .ref a_15, .int e_through, .int e_seen, .ref a_16, .int 1, .ref a_17, .ref a_18, .ref a_19, .int 0, .ref a_20, .ref a_21, .long 0, .ref a_22, .int 0])), (a_2, .inl (G.2 0, 5740, .inl (upd (upd (upd (fun _ => 0) 3 (-1)) 4 1000) 6 (-1)))), (a_19, .inl (G.2 0, 1536, .inl (fun _ => 0))), (a_17, .inl (G.2 1, 49152, .inr (.inl f_e))), (a_18, .inl (G.2 1, 49152, .inr (.inl f_d)))] H) (hD : va_D A [(a_y, .inr (12, [.int 0, .int 0, .ref a_1, .ref a_2, .ref a_3, .ref a_4, .int 0, .ref a_5, .int 0, .int 0, .int 0, .int 0, .long 0, .int (-1), .int 0, .int 0, .ref a_6, .int 0, .ref a_7, .ref a_8, .int 0, .ref a_9, .ref a_10, .int 0, .int 0, .ref a_11, .ref a_12, .int 0, .ref a_13, .ref a_14, .int 0, .long 0, .long 0, .int e_cell, .int e_hour, .int e_way, .int e_bright, .int e_points, .ref a_15, .int e_through, .int e_seen, .ref a_16, .int 1, .ref a_17, .ref a_18, .ref a_19, .int 0, .ref a_20, .ref a_21, .long 0, .ref a_22, .int 0])), (a_2, .inl (G.2 0, 5740, .inl (upd (upd (upd (fun _ => 0) 3 (-1)) 4 1000) 6 (-1)))), (a_19, .inl (G.2 0, 1536, .inl (fun _ => 0))), (a_17, .inl (G.2 1, 49152, .inr (.inl f_e))), (a_18, .inl (G.2 1, 49152, .inr (.inl f_d)))]) (hS : va_S A s.heap H locs) (hl : lv_has ls 8 [(4, .int 0), (2, .int (-1)), (3, .int 0), (1, .int p_h), (0, .ref a_y)]) (e_e : isE (fun _ => 0) f_e) (e_d : isD (fun _ => 0) f_d) (kk : ∀  (ls : Array Slot) (H : Heap) (locs : List Loc), lv_has ls 8 [(4, .int 1), (2, .int 0), (3, .int 0), (1, .int p_h), (0, .ref a_y)] → va_P G.1 vwCl [(a_y, .inr (12, [.int 0, .int 0, .ref a_1, .ref a_2, .ref a_3, .ref a_4, .int 0, .ref a_5, .int 0, .int 0, .int 0, .int 0, .long 0, .int (-1), .int 0, .int 0, .ref a_6, .int 0, .ref a_7, .ref a_8, .int 0, .ref a_9, .ref a_10, .int 0, .int 0, .ref a_11, .ref a_12, .int 0, .ref a_13, .ref a_14, .int 0, .long 0, .long 0, .int e_cell, .int e_hour, .int e_way, .int e_bright, .int e_points, .ref a_15, .int e_through, .int e_seen, .ref a_16, .int 1, .ref a_17, .ref a_18, .ref a_19, .int 0, .ref a_20, .ref a_21, .long 0, .ref a_22, .int 0])), (a_2, .inl (G.2 0, 5740, .inl (upd (upd (upd (fun _ => 0) 3 (-1)) 4 1000) 6 (-1)))), (a_19, .inl (G.2 0, 1536, .inl (fun _ => 0))), (a_17, .inl (G.2 1, 49152, .inr (.inl f_e))), (a_18, .inl (G.2 1, 49152, .inr (.inl f_d)))] H → va_D A [(a_y, .inr (12, [.int 0, .int 0, .ref a_1, .ref a_2, .ref a_3, .ref a_4, .int 0, .ref a_5, .int 0, .int 0, .int 0, .int 0, .long 0, .int (-1), .int 0, .int 0, .ref a_6, .int 0, .ref a_7, .ref a_8, .int 0, .ref a_9, .ref a_10, .int 0, .int 0, .ref a_11, .ref a_12, .int 0, .ref a_13, .ref a_14, .int 0, .long 0, .long 0, .int e_cell, .int e_hour, .int e_way, .int e_bright, .int e_points, .ref a_15, .int e_through, .int e_seen, .ref a_16, .int 1, .ref a_17, .ref a_18, .ref a_19, .int 0, .ref a_20, .ref a_21, .long 0, .ref a_22, .int 0])), (a_2, .inl (G.2 0, 5740, .inl (upd (upd (upd (fun _ => 0) 3 (-1)) 4 1000) 6 (-1)))), (a_19, .inl (G.2 0, 1536, .inl (fun _ => 0))), (a_17, .inl (G.2 1, 49152, .inr (.inl f_e))), (a_18, .inl (G.2 1, 49152, .inr (.inl f_d)))] → va_S A s.heap H locs → W p l e ({ frames := 12, cells := 0, slots := 0, locals := 500 } : Room) s m args below meth c H locs 0 0 Q (F0 m 25 ls [])) : W p l e ({ frames := 12, cells := 0, slots := 0, locals := 500 } : Room) s m args below meth c H locs 0 0 Q (F0 m 31 ls []) := by
  refine lv_iconst (v := (-1)) hx hb dX12_path_31 (by decide) ?_
  refine lv_istore (lv' := [(5, .int (-1)), (4, .int 0), (2, .int (-1)), (3, .int 0), (1, .int p_h), (0, .ref a_y)]) hx hb dX12_path_32 hl (by decide) rfl (fun ls hl => ?_)
  refine lv_bipush (v := 63) hx hb dX12_path_34 (by decide) ?_
  refine lv_istore (lv' := [(6, .int 63), (5, .int (-1)), (4, .int 0), (2, .int (-1)), (3, .int 0), (1, .int p_h), (0, .ref a_y)]) hx hb dX12_path_36 hl (by decide) rfl (fun ls hl => ?_)
  refine g5_loop (α := (Int32) × (Int32)) (fun (q : (Int32) × (Int32)) (ls : Array Slot) (H : Heap) (locs : List Loc) => match q with | (k_c, k_i) => lv_has ls 8 [(5, .int k_i), (6, .int k_c), (4, .int 0), (2, .int (-1)), (3, .int 0), (1, .int p_h), (0, .ref a_y)] ∧ va_P G.1 vwCl [(a_y, .inr (12, [.int 0, .int 0, .ref a_1, .ref a_2, .ref a_3, .ref a_4, .int 0, .ref a_5, .int 0, .int 0, .int 0, .int 0, .long 0, .int (-1), .int 0, .int 0, .ref a_6, .int 0, .ref a_7, .ref a_8, .int 0, .ref a_9, .ref a_10, .int 0, .int 0, .ref a_11, .ref a_12, .int 0, .ref a_13, .ref a_14, .int 0, .long 0, .long 0, .int e_cell, .int e_hour, .int e_way, .int e_bright, .int e_points, .ref a_15, .int e_through, .int e_seen, .ref a_16, .int 1, .ref a_17, .ref a_18, .ref a_19, .int 0, .ref a_20, .ref a_21, .long 0, .ref a_22, .int 0])), (a_2, .inl (G.2 0, 5740, .inl (upd (upd (upd (fun _ => 0) 3 (-1)) 4 1000) 6 (-1)))), (a_19, .inl (G.2 0, 1536, .inl (fun _ => 0))), (a_17, .inl (G.2 1, 49152, .inr (.inl f_e))), (a_18, .inl (G.2 1, 49152, .inr (.inl f_d)))] H ∧ va_D A [(a_y, .inr (12, [.int 0, .int 0, .ref a_1, .ref a_2, .ref a_3, .ref a_4, .int 0, .ref a_5, .int 0, .int 0, .int 0, .int 0, .long 0, .int (-1), .int 0, .int 0, .ref a_6, .int 0, .ref a_7, .ref a_8, .int 0, .ref a_9, .ref a_10, .int 0, .int 0, .ref a_11, .ref a_12, .int 0, .ref a_13, .ref a_14, .int 0, .long 0, .long 0, .int e_cell, .int e_hour, .int e_way, .int e_bright, .int e_points, .ref a_15, .int e_through, .int e_seen, .ref a_16, .int 1, .ref a_17, .ref a_18, .ref a_19, .int 0, .ref a_20, .ref a_21, .long 0, .ref a_22, .int 0])), (a_2, .inl (G.2 0, 5740, .inl (upd (upd (upd (fun _ => 0) 3 (-1)) 4 1000) 6 (-1)))), (a_19, .inl (G.2 0, 1536, .inl (fun _ => 0))), (a_17, .inl (G.2 1, 49152, .inr (.inl f_e))), (a_18, .inl (G.2 1, 49152, .inr (.inl f_d)))] ∧ va_S A s.heap H locs ∧ ((-1) ≤ k_c.toInt ∧ k_c.toInt ≤ 63) ∧ ((-1) ≤ k_i.toInt ∧ k_i.toInt ≤ 63) ∧ (k_c.toInt < 0 → k_i.toInt = 0)) (fun (q : (Int32) × (Int32)) => match q with | (k_c, k_i) => Int.toNat (k_c.toInt + 1)) (63, (-1)) ⟨lv_sub hl [1, 0, 2, 3, 4, 5, 6] rfl, hP, hD, hS, ⟨by decide, by decide⟩, ⟨by decide, by decide⟩, fun h => absurd h (by decide)⟩ ?_
  rintro ⟨k_c, k_i⟩ ls H locs ⟨hl, hP, hD, hS, i_1, i_2, i_3⟩ ih_38_4
  have hl : lv_has ls 8 [(5, .int k_i), (6, .int k_c), (4, .int 0), (2, .int (-1)), (3, .int 0), (1, .int p_h), (0, .ref a_y)] := hl
  have i_1 : (-1) ≤ k_c.toInt ∧ k_c.toInt ≤ 63 := i_1
  have i_2 : (-1) ≤ k_i.toInt ∧ k_i.toInt ≤ 63 := i_2
  have i_3 : k_c.toInt < 0 → k_i.toInt = 0 := i_3
  have hP : va_P G.1 vwCl [(a_y, .inr (12, [.int 0, .int 0, .ref a_1, .ref a_2, .ref a_3, .ref a_4, .int 0, .ref a_5, .int 0, .int 0, .int 0, .int 0, .long 0, .int (-1), .int 0, .int 0, .ref a_6, .int 0, .ref a_7, .ref a_8, .int 0, .ref a_9, .ref a_10, .int 0, .int 0, .ref a_11, .ref a_12, .int 0, .ref a_13, .ref a_14, .int 0, .long 0, .long 0, .int e_cell, .int e_hour, .int e_way, .int e_bright, .int e_points, .ref a_15, .int e_through, .int e_seen, .ref a_16, .int 1, .ref a_17, .ref a_18, .ref a_19, .int 0, .ref a_20, .ref a_21, .long 0, .ref a_22, .int 0])), (a_2, .inl (G.2 0, 5740, .inl (upd (upd (upd (fun _ => 0) 3 (-1)) 4 1000) 6 (-1)))), (a_19, .inl (G.2 0, 1536, .inl (fun _ => 0))), (a_17, .inl (G.2 1, 49152, .inr (.inl f_e))), (a_18, .inl (G.2 1, 49152, .inr (.inl f_d)))] H := hP
  have hD : va_D A [(a_y, .inr (12, [.int 0, .int 0, .ref a_1, .ref a_2, .ref a_3, .ref a_4, .int 0, .ref a_5, .int 0, .int 0, .int 0, .int 0, .long 0, .int (-1), .int 0, .int 0, .ref a_6, .int 0, .ref a_7, .ref a_8, .int 0, .ref a_9, .ref a_10, .int 0, .int 0, .ref a_11, .ref a_12, .int 0, .ref a_13, .ref a_14, .int 0, .long 0, .long 0, .int e_cell, .int e_hour, .int e_way, .int e_bright, .int e_points, .ref a_15, .int e_through, .int e_seen, .ref a_16, .int 1, .ref a_17, .ref a_18, .ref a_19, .int 0, .ref a_20, .ref a_21, .long 0, .ref a_22, .int 0])), (a_2, .inl (G.2 0, 5740, .inl (upd (upd (upd (fun _ => 0) 3 (-1)) 4 1000) 6 (-1)))), (a_19, .inl (G.2 0, 1536, .inl (fun _ => 0))), (a_17, .inl (G.2 1, 49152, .inr (.inl f_e))), (a_18, .inl (G.2 1, 49152, .inr (.inl f_d)))] := hD
  refine lv_iload hx hb dX12_path_38 (lv_at hl 1 rfl) ?_
  refine lv_if_lt (tgt := 162) hx hb dX12_path_40 (by decide) (fun c_5 => ?_) (fun c_5 => ?_)
  ·
    have i_5 : k_c.toInt < 0 := by have z := g5_lt (a := k_c.toInt) (b := 0) (by rfl) (by decide) c_5; omega
    have hi0 : k_i.toInt = 0 := i_3 (by omega)
    refine lv_iload hx hb dX12_path_162 (lv_at hl 0 rfl) ?_
    refine g5_ti (v := 0) (g5_toc (n := 0) (by decide) (hi0)) ?_
    refine lv_iconst (v := (-1)) hx hb dX12_path_164 (by decide) ?_
    refine lv_icmp_ne (tgt := 170) hx hb dX12_path_165 (by decide) (fun c_6 => ?_) (fun c_6 => ?_)
    ·
      refine lv_iload hx hb dX12_path_170 (lv_at hl 0 rfl) ?_
      refine g5_ti (v := 0) (g5_toc (n := 0) (by decide) (hi0)) ?_
      refine lv_istore_n (lv' := [(2, .int 0), (5, .int k_i), (6, .int k_c), (4, .int 0), (3, .int 0), (1, .int p_h), (0, .ref a_y)]) hx hb dX12_path_172 rfl hl (by decide) rfl (fun ls hl => ?_)
      refine lv_iload_n hx hb dX12_path_173 rfl (lv_at hl 4 rfl) ?_
      refine lv_aload_n hx hb dX12_path_174 rfl (lv_at hl 6 rfl) ?_
      refine va_get (D := G.1) (ci := 12) (v := .ref a_19) (C := RX12) (T := TX12) (N := 52) hx hb hts inG_X12 hown hK hP 0 rfl rfl 45 (by decide) (hts _ fl_X12_95) (fun _ h9 => h9) rfl dX12_path_175 ?_
      refine lv_bipush (v := 64) hx hb dX12_path_178 (by decide) ?_
      refine lv_iload hx hb dX12_path_180 (lv_at hl 3 rfl) ?_
      refine lv_imul hx hb dX12_path_182 ?_
      refine g5_ti (v := 0) (by decide) ?_
      refine lv_iload_n hx hb dX12_path_183 rfl (lv_at hl 0 rfl) ?_
      refine lv_iadd hx hb dX12_path_184 ?_
      refine g5_ti (v := 0) (by decide) ?_
      refine va_iald hx hb hK hP 2 0 rfl rfl (i := 0) (by unfold vp_in; decide) dX12_path_185 ?_
      refine g5_ti (v := 0) rfl ?_
      refine lv_ior hx hb dX12_path_186 ?_
      refine g5_ti (v := 0) (by decide) ?_
      refine lv_istore_n (lv' := [(3, .int 0), (2, .int 0), (5, .int k_i), (6, .int k_c), (4, .int 0), (1, .int p_h), (0, .ref a_y)]) hx hb dX12_path_187 rfl hl (by decide) rfl (fun ls hl => ?_)
      refine lv_iinc (v := 1) (lv' := [(4, .int 1), (3, .int 0), (2, .int 0), (5, .int k_i), (6, .int k_c), (1, .int p_h), (0, .ref a_y)]) hx hb dX12_path_188 hl (k := 4) rfl (by decide) (by decide) rfl (fun ls hl => ?_)
      refine lv_goto (tgt := 25) hx hb dX12_path_191 (by decide) ?_
      exact kk  ls H locs (lv_sub hl [0, 2, 1, 5, 6] rfl) hP hD hS 
    ·
      exact absurd c_6 (by decide)
  ·
    have i_5 : k_c.toInt ≥ 0 := by have z := g5_ltN (a := k_c.toInt) (b := 0) (by rfl) (by decide) c_5; omega
    refine lv_iload hx hb dX12_path_43 (lv_at hl 2 rfl) ?_
    refine lv_if_ne (tgt := 68) hx hb dX12_path_45 (by decide) (fun c_7 => ?_) (fun c_7 => ?_)
    ·
      exact absurd c_7 (by decide)
    ·
      refine lv_aload_n hx hb dX12_path_48 rfl (lv_at hl 6 rfl) ?_
      refine lv_iconst (v := 0) hx hb dX12_path_49 (by decide) ?_
      refine lv_iload hx hb dX12_path_50 (lv_at hl 1 rfl) ?_
      have hPc := hP.sub (ws' := [(a_y, .inr (12, [.int 0, .int 0, .ref a_1, .ref a_2, .ref a_3, .ref a_4, .int 0, .ref a_5, .int 0, .int 0, .int 0, .int 0, .long 0, .int (-1), .int 0, .int 0, .ref a_6, .int 0, .ref a_7, .ref a_8, .int 0, .ref a_9, .ref a_10, .int 0, .int 0, .ref a_11, .ref a_12, .int 0, .ref a_13, .ref a_14, .int 0, .long 0, .long 0, .int e_cell, .int e_hour, .int e_way, .int e_bright, .int e_points, .ref a_15, .int e_through, .int e_seen, .ref a_16, .int 1, .ref a_17, .ref a_18, .ref a_19, .int 0, .ref a_20, .ref a_21, .long 0, .ref a_22, .int 0])), (a_17, .inl (G.2 1, 49152, .inr (.inl f_e))), (a_18, .inl (G.2 1, 49152, .inr (.inl f_d)))]) [0, 3, 4] rfl
      have hDc := hD.sub (ws' := [(a_y, .inr (12, [.int 0, .int 0, .ref a_1, .ref a_2, .ref a_3, .ref a_4, .int 0, .ref a_5, .int 0, .int 0, .int 0, .int 0, .long 0, .int (-1), .int 0, .int 0, .ref a_6, .int 0, .ref a_7, .ref a_8, .int 0, .ref a_9, .ref a_10, .int 0, .int 0, .ref a_11, .ref a_12, .int 0, .ref a_13, .ref a_14, .int 0, .long 0, .long 0, .int e_cell, .int e_hour, .int e_way, .int e_bright, .int e_points, .ref a_15, .int e_through, .int e_seen, .ref a_16, .int 1, .ref a_17, .ref a_18, .ref a_19, .int 0, .ref a_20, .ref a_21, .long 0, .ref a_22, .int 0])), (a_17, .inl (G.2 1, 49152, .inr (.inl f_e))), (a_18, .inl (G.2 1, 49152, .inr (.inl f_d)))]) [0, 3, 4] (by decide) rfl
      have hFc := va_free (wc := [(a_y, .inr (12, [.int 0, .int 0, .ref a_1, .ref a_2, .ref a_3, .ref a_4, .int 0, .ref a_5, .int 0, .int 0, .int 0, .int 0, .long 0, .int (-1), .int 0, .int 0, .ref a_6, .int 0, .ref a_7, .ref a_8, .int 0, .ref a_9, .ref a_10, .int 0, .int 0, .ref a_11, .ref a_12, .int 0, .ref a_13, .ref a_14, .int 0, .long 0, .long 0, .int e_cell, .int e_hour, .int e_way, .int e_bright, .int e_points, .ref a_15, .int e_through, .int e_seen, .ref a_16, .int 1, .ref a_17, .ref a_18, .ref a_19, .int 0, .ref a_20, .ref a_21, .long 0, .ref a_22, .int 0])), (a_17, .inl (G.2 1, 49152, .inr (.inl f_e))), (a_18, .inl (G.2 1, 49152, .inr (.inl f_d)))]) hD hS hA [0, 3, 4] rfl
      refine va_calll (va_runV (As := [.int 0, .int k_c]) (rest := []) ⟨hx, hb, hml, hown, hts⟩ (k_rowsAt l G a_y a_17 a_18 a_1 a_2 a_3 a_4 a_5 a_6 a_7 a_8 a_9 a_10 a_11 a_12 a_13 a_14 a_15 a_16 a_19 a_20 a_21 a_22 H.size e_cell e_hour e_way e_bright e_points e_through e_seen 1 0 k_c f_e f_d ⟨by decide, by decide⟩ ⟨by decide, by decide⟩ ⟨by omega, by omega⟩) (cwV 2 hts gV_X12_440 rfl rfl rfl hv_X12_rowsAt ⟨Nat.le_of_ble_eq_true rfl, Nat.le_of_ble_eq_true rfl⟩) (g5_preV hPc hK hDc hN hT hS hFc (ci := 12) (q0 := 0) rfl rfl) rfl rfl hl.1 rfl (lv_room (Nat.le_of_ble_eq_true rfl)) dX12_path_52 ⟨Nat.le_of_ble_eq_true rfl, Nat.le_of_ble_eq_true rfl⟩) hS (fun q _ h => hFc q h) hFc (fun r u t H1 locs ht hvm hw hB hz1 hk1 hS => ?_)
      obtain ⟨hP1, hD1⟩ := hB
      rw [ht] at hP1
      obtain ⟨z9, i_8, y10, rfl⟩ := hw
      have i_8 : z9 = rwF f_e f_d (32 * (64 * (0 : Int32).toInt + k_c.toInt)) 32 := i_8
      obtain ⟨hP, hD⟩ := va_join (wr := [(a_2, .inl (G.2 0, 5740, .inl (upd (upd (upd (fun _ => 0) 3 (-1)) 4 1000) 6 (-1)))), (a_19, .inl (G.2 0, 1536, .inl (fun _ => 0)))]) (w1 := [(a_y, .inr (12, [.int 0, .int 0, .ref a_1, .ref a_2, .ref a_3, .ref a_4, .int 0, .ref a_5, .int 0, .int 0, .int 0, .int 0, .long 0, .int (-1), .int 0, .int 0, .ref a_6, .int 0, .ref a_7, .ref a_8, .int 0, .ref a_9, .ref a_10, .int 0, .int 0, .ref a_11, .ref a_12, .int 0, .ref a_13, .ref a_14, .int 0, .long 0, .long 0, .int e_cell, .int e_hour, .int e_way, .int e_bright, .int e_points, .ref a_15, .int e_through, .int e_seen, .ref a_16, .int 1, .ref a_17, .ref a_18, .ref a_19, .int 0, .ref a_20, .ref a_21, .long 0, .ref a_22, .int 0])), (a_17, .inl (G.2 1, 49152, .inr (.inl f_e))), (a_18, .inl (G.2 1, 49152, .inr (.inl f_d)))]) hP hD [0, 3, 4] [1, 2] rfl rfl (by decide) (by decide) hk1 hFc hP1 hD1
      generalize H1 = H at hP hS ⊢
      have hP : va_P G.1 vwCl [(a_2, .inl (G.2 0, 5740, .inl (upd (upd (upd (fun _ => 0) 3 (-1)) 4 1000) 6 (-1)))), (a_19, .inl (G.2 0, 1536, .inl (fun _ => 0))), (a_y, .inr (12, [.int 0, .int 0, .ref a_1, .ref a_2, .ref a_3, .ref a_4, .int 0, .ref a_5, .int 0, .int 0, .int 0, .int 0, .long 0, .int (-1), .int 0, .int 0, .ref a_6, .int 0, .ref a_7, .ref a_8, .int 0, .ref a_9, .ref a_10, .int 0, .int 0, .ref a_11, .ref a_12, .int 0, .ref a_13, .ref a_14, .int 0, .long 0, .long 0, .int e_cell, .int e_hour, .int e_way, .int e_bright, .int e_points, .ref a_15, .int e_through, .int e_seen, .ref a_16, .int 1, .ref a_17, .ref a_18, .ref a_19, .int 0, .ref a_20, .ref a_21, .long 0, .ref a_22, .int 0])), (a_17, .inl (G.2 1, 49152, .inr (.inl f_e))), (a_18, .inl (G.2 1, 49152, .inr (.inl f_d)))] H := hP
      have hD : va_D A [(a_2, .inl (G.2 0, 5740, .inl (upd (upd (upd (fun _ => 0) 3 (-1)) 4 1000) 6 (-1)))), (a_19, .inl (G.2 0, 1536, .inl (fun _ => 0))), (a_y, .inr (12, [.int 0, .int 0, .ref a_1, .ref a_2, .ref a_3, .ref a_4, .int 0, .ref a_5, .int 0, .int 0, .int 0, .int 0, .long 0, .int (-1), .int 0, .int 0, .ref a_6, .int 0, .ref a_7, .ref a_8, .int 0, .ref a_9, .ref a_10, .int 0, .int 0, .ref a_11, .ref a_12, .int 0, .ref a_13, .ref a_14, .int 0, .long 0, .long 0, .int e_cell, .int e_hour, .int e_way, .int e_bright, .int e_points, .ref a_15, .int e_through, .int e_seen, .ref a_16, .int 1, .ref a_17, .ref a_18, .ref a_19, .int 0, .ref a_20, .ref a_21, .long 0, .ref a_22, .int 0])), (a_17, .inl (G.2 1, 49152, .inr (.inl f_e))), (a_18, .inl (G.2 1, 49152, .inr (.inl f_d)))] := hD
      refine g5_tl (v := z9) y10 ?_
      refine lv_lconst (v := 0) hx hb dX12_path_55 (by decide) ?_
      refine W.lcmp hx hb dX12_path_56 ?_
      refine g5_ti (v := 1) (g5_toc (n := 1) (by decide) (g5_cmppos (g5_rwpos e_e e_d i_8 (by have z0 : (0 : Int32).toInt = 0 := (by decide); omega) (by have z0 : (0 : Int32).toInt = 0 := (by decide); omega) (by omega) (by omega)))) ?_
      refine lv_if_le (tgt := 64) hx hb dX12_path_57 (by decide) (fun c_11 => ?_) (fun c_11 => ?_)
      ·
        exact absurd c_11 (by decide)
      ·
        refine lv_iconst (v := 1) hx hb dX12_path_60 (by decide) ?_
        refine lv_goto (tgt := 140) hx hb dX12_path_61 (by decide) ?_
        refine lv_istore (lv' := [(7, .int 1), (5, .int k_i), (6, .int k_c), (4, .int 0), (2, .int (-1)), (3, .int 0), (1, .int p_h), (0, .ref a_y)]) hx hb dX12_path_140 hl (by decide) rfl (fun ls hl => ?_)
        refine lv_iload hx hb dX12_path_142 (lv_at hl 0 rfl) ?_
        refine lv_if_eq (tgt := 152) hx hb dX12_path_144 (by decide) (fun c_12 => ?_) (fun c_12 => ?_)
        ·
          exact absurd c_12 (by decide)
        ·
          refine lv_iload hx hb dX12_path_147 (lv_at hl 2 rfl) ?_
          refine lv_goto (tgt := 154) hx hb dX12_path_149 (by decide) ?_
          refine lv_istore (lv' := [(5, .int k_c), (7, .int 1), (6, .int k_c), (4, .int 0), (2, .int (-1)), (3, .int 0), (1, .int p_h), (0, .ref a_y)]) hx hb dX12_path_154 hl (by decide) rfl (fun ls hl => ?_)
          refine lv_iinc (v := (k_c + (-1))) (lv' := [(6, .int (k_c + (-1))), (5, .int k_c), (7, .int 1), (4, .int 0), (2, .int (-1)), (3, .int 0), (1, .int p_h), (0, .ref a_y)]) hx hb dX12_path_156 hl (k := 2) rfl rfl (by decide) rfl (fun ls hl => ?_)
          have t_13 : (k_c + (-1)).toInt = k_c.toInt + (-1) := g5_iadd (a := k_c.toInt) (b := (-1)) rfl (by decide) (by omega) (by omega)
          refine lv_goto (tgt := 38) hx hb dX12_path_159 (by decide) ?_
          try clear i_3
          exact ih_38_4 ((k_c + (-1)), k_c) ls H locs (show Int.toNat ((k_c + (-1)).toInt + 1) < Int.toNat (k_c.toInt + 1) from g5_dec rfl t_13 (by omega)) ⟨lv_sub hl [1, 0, 3, 4, 5, 6, 7] rfl, hP.sub [2, 0, 1, 3, 4] rfl, hD.sub [2, 0, 1, 3, 4] (by decide) rfl, hS, ⟨by omega, by omega⟩, ⟨by omega, by omega⟩, fun _ => by omega⟩
theorem ml_X12_454 : Cond.methodLink RX12 454 yX12_isStep ∈ tblG := tg 1768 (by decide +kernel) (by decide +kernel)
theorem st_X12_isStep : Cond.static yX12_isStep ∈ tblG := tg 1769 (by decide +kernel) (by decide +kernel)
theorem cd_X12_isStep : Cond.code yX12_isStep cX12_isStep 4 (some .boolean) ∈ tblG := tg 1770 (by decide +kernel) (by decide +kernel)
theorem gW_X12_isStep : GoodIn tblG (wsG yX12_isStep cX12_isStep 4 (some .boolean)) := tgi cd_X12_isStep
theorem gS_X12_454 : GoodIn tblG (va_wsS RX12 454 yX12_isStep (wsG yX12_isStep cX12_isStep 4 (some .boolean))) := tgS ml_X12_454 st_X12_isStep ini_X12 gW_X12_isStep
theorem hs_X12_isStep : yX12_isStep.cls ≠ "java/lang/invoke/MethodHandle" ∧ yX12_isStep.cls ≠ "java/lang/invoke/VarHandle" ∧ (parseMethodDescriptor yX12_isStep.desc).map (fun d => d.parameters.length) = some 2 := by decide +kernel
set_option maxHeartbeats 4000000 in
set_option maxRecDepth 100000 in
theorem k_pathB {p : Program} {l : Launch} {e : Env} {s : State} {m : MethodId} {args : Array Value} {below : List Frame} {meth : Method} {c : Code} {Q : State → Prop} {A : Nat → Prop} {H : Heap} {locs : List Loc} {ls : Array Slot} (G : g5_G) (a_y a_2 a_19 a_17 a_18 a_1 a_3 a_4 a_5 a_6 a_7 a_8 a_9 a_10 a_11 a_12 a_13 a_14 a_15 a_16 a_20 a_21 a_22 : Nat) (e_cell : Int32) (e_hour : Int32) (e_way : Int32) (e_bright : Int32) (e_points : Int32) (e_through : Int32) (e_seen : Int32) (f_e : Nat → Int64) (f_d : Nat → Int64) (p_h : Int32) (k_h : Int32) (hx : p.tables.exec = Jvm.exec) (hb : c.code = cX12_path) (hml : c.maxLocals = 8) (hown : s.vm.findClass RX12 = some m.cls) (hts : ∀ w ∈ tblG, w.before args s = true) (hK : va_K G.1 vwCl (T5 G) s) (hN : g5_N s) (hT : g5_S A s s.heap) (hA : ∀ q : Nat, s.heap.size ≤ q → A q) (hP : va_P G.1 vwCl [(a_y, .inr (12, [.int 0, .int 0, .ref a_1, .ref a_2, .ref a_3, .ref a_4, .int 0, .ref a_5, .int 0, .int 0, .int 0, .int 0, .long 0, .int (-1), .int 0, .int 0, .ref a_6, .int 0, .ref a_7, .ref a_8, .int 0, .ref a_9, .ref a_10, .int 0, .int 0, .ref a_11, .ref a_12, .int 0, .ref a_13, .ref a_14, .int 0, .long 0, .long 0, .int e_cell, .int e_hour, .int e_way, .int e_bright, .int e_points, .ref a_15, .int e_through, .int e_seen, .ref a_16, .int 1, .ref a_17, .ref a_18, .ref a_19, .int 0, .ref a_20, .ref a_21, .long 0, .ref a_22, .int 0])), (a_2, .inl (G.2 0, 5740, .inl (upd (upd (upd (fun _ => 0) 3 (-1)) 4 1000) 6 (-1)))), (a_19, .inl (G.2 0, 1536, .inl (fun _ => 0))), (a_17, .inl (G.2 1, 49152, .inr (.inl f_e))), (a_18, .inl (G.2 1, 49152, .inr (.inl f_d)))] H) (hD : va_D A [(a_y, .inr (12, [.int 0, .int 0, .ref a_1, .ref a_2, .ref a_3, .ref a_4, .int 0, .ref a_5, .int 0, .int 0, .int 0, .int 0, .long 0, .int (-1), .int 0, .int 0, .ref a_6, .int 0, .ref a_7, .ref a_8, .int 0, .ref a_9, .ref a_10, .int 0, .int 0, .ref a_11, .ref a_12, .int 0, .ref a_13, .ref a_14, .int 0, .long 0, .long 0, .int e_cell, .int e_hour, .int e_way, .int e_bright, .int e_points, .ref a_15, .int e_through, .int e_seen, .ref a_16, .int 1, .ref a_17, .ref a_18, .ref a_19, .int 0, .ref a_20, .ref a_21, .long 0, .ref a_22, .int 0])), (a_2, .inl (G.2 0, 5740, .inl (upd (upd (upd (fun _ => 0) 3 (-1)) 4 1000) 6 (-1)))), (a_19, .inl (G.2 0, 1536, .inl (fun _ => 0))), (a_17, .inl (G.2 1, 49152, .inr (.inl f_e))), (a_18, .inl (G.2 1, 49152, .inr (.inl f_d)))]) (hS : va_S A s.heap H locs) (hl : lv_has ls 8 [(4, .int k_h), (2, .int 0), (3, .int 0), (1, .int p_h), (0, .ref a_y)]) (h_k_h : 1 ≤ k_h.toInt ∧ k_h.toInt ≤ 23) (e_e : isE (fun _ => 0) f_e) (e_d : isD (fun _ => 0) f_d) (kk : ∀  (ls : Array Slot) (H : Heap) (locs : List Loc), lv_has ls 8 [(4, .int (k_h + 1)), (2, .int 0), (3, .int 0), (1, .int p_h), (0, .ref a_y)] → va_P G.1 vwCl [(a_y, .inr (12, [.int 0, .int 0, .ref a_1, .ref a_2, .ref a_3, .ref a_4, .int 0, .ref a_5, .int 0, .int 0, .int 0, .int 0, .long 0, .int (-1), .int 0, .int 0, .ref a_6, .int 0, .ref a_7, .ref a_8, .int 0, .ref a_9, .ref a_10, .int 0, .int 0, .ref a_11, .ref a_12, .int 0, .ref a_13, .ref a_14, .int 0, .long 0, .long 0, .int e_cell, .int e_hour, .int e_way, .int e_bright, .int e_points, .ref a_15, .int e_through, .int e_seen, .ref a_16, .int 1, .ref a_17, .ref a_18, .ref a_19, .int 0, .ref a_20, .ref a_21, .long 0, .ref a_22, .int 0])), (a_2, .inl (G.2 0, 5740, .inl (upd (upd (upd (fun _ => 0) 3 (-1)) 4 1000) 6 (-1)))), (a_19, .inl (G.2 0, 1536, .inl (fun _ => 0))), (a_17, .inl (G.2 1, 49152, .inr (.inl f_e))), (a_18, .inl (G.2 1, 49152, .inr (.inl f_d)))] H → va_D A [(a_y, .inr (12, [.int 0, .int 0, .ref a_1, .ref a_2, .ref a_3, .ref a_4, .int 0, .ref a_5, .int 0, .int 0, .int 0, .int 0, .long 0, .int (-1), .int 0, .int 0, .ref a_6, .int 0, .ref a_7, .ref a_8, .int 0, .ref a_9, .ref a_10, .int 0, .int 0, .ref a_11, .ref a_12, .int 0, .ref a_13, .ref a_14, .int 0, .long 0, .long 0, .int e_cell, .int e_hour, .int e_way, .int e_bright, .int e_points, .ref a_15, .int e_through, .int e_seen, .ref a_16, .int 1, .ref a_17, .ref a_18, .ref a_19, .int 0, .ref a_20, .ref a_21, .long 0, .ref a_22, .int 0])), (a_2, .inl (G.2 0, 5740, .inl (upd (upd (upd (fun _ => 0) 3 (-1)) 4 1000) 6 (-1)))), (a_19, .inl (G.2 0, 1536, .inl (fun _ => 0))), (a_17, .inl (G.2 1, 49152, .inr (.inl f_e))), (a_18, .inl (G.2 1, 49152, .inr (.inl f_d)))] → va_S A s.heap H locs → W p l e ({ frames := 12, cells := 0, slots := 0, locals := 500 } : Room) s m args below meth c H locs 0 0 Q (F0 m 25 ls [])) : W p l e ({ frames := 12, cells := 0, slots := 0, locals := 500 } : Room) s m args below meth c H locs 0 0 Q (F0 m 31 ls []) := by
  refine lv_iconst (v := (-1)) hx hb dX12_path_31 (by decide) ?_
  refine lv_istore (lv' := [(5, .int (-1)), (4, .int k_h), (2, .int 0), (3, .int 0), (1, .int p_h), (0, .ref a_y)]) hx hb dX12_path_32 hl (by decide) rfl (fun ls hl => ?_)
  refine lv_bipush (v := 63) hx hb dX12_path_34 (by decide) ?_
  refine lv_istore (lv' := [(6, .int 63), (5, .int (-1)), (4, .int k_h), (2, .int 0), (3, .int 0), (1, .int p_h), (0, .ref a_y)]) hx hb dX12_path_36 hl (by decide) rfl (fun ls hl => ?_)
  refine g5_loop (α := (Int32) × (Int32)) (fun (q : (Int32) × (Int32)) (ls : Array Slot) (H : Heap) (locs : List Loc) => match q with | (k_c, k_i) => lv_has ls 8 [(5, .int k_i), (6, .int k_c), (4, .int k_h), (2, .int 0), (3, .int 0), (1, .int p_h), (0, .ref a_y)] ∧ va_P G.1 vwCl [(a_y, .inr (12, [.int 0, .int 0, .ref a_1, .ref a_2, .ref a_3, .ref a_4, .int 0, .ref a_5, .int 0, .int 0, .int 0, .int 0, .long 0, .int (-1), .int 0, .int 0, .ref a_6, .int 0, .ref a_7, .ref a_8, .int 0, .ref a_9, .ref a_10, .int 0, .int 0, .ref a_11, .ref a_12, .int 0, .ref a_13, .ref a_14, .int 0, .long 0, .long 0, .int e_cell, .int e_hour, .int e_way, .int e_bright, .int e_points, .ref a_15, .int e_through, .int e_seen, .ref a_16, .int 1, .ref a_17, .ref a_18, .ref a_19, .int 0, .ref a_20, .ref a_21, .long 0, .ref a_22, .int 0])), (a_2, .inl (G.2 0, 5740, .inl (upd (upd (upd (fun _ => 0) 3 (-1)) 4 1000) 6 (-1)))), (a_19, .inl (G.2 0, 1536, .inl (fun _ => 0))), (a_17, .inl (G.2 1, 49152, .inr (.inl f_e))), (a_18, .inl (G.2 1, 49152, .inr (.inl f_d)))] H ∧ va_D A [(a_y, .inr (12, [.int 0, .int 0, .ref a_1, .ref a_2, .ref a_3, .ref a_4, .int 0, .ref a_5, .int 0, .int 0, .int 0, .int 0, .long 0, .int (-1), .int 0, .int 0, .ref a_6, .int 0, .ref a_7, .ref a_8, .int 0, .ref a_9, .ref a_10, .int 0, .int 0, .ref a_11, .ref a_12, .int 0, .ref a_13, .ref a_14, .int 0, .long 0, .long 0, .int e_cell, .int e_hour, .int e_way, .int e_bright, .int e_points, .ref a_15, .int e_through, .int e_seen, .ref a_16, .int 1, .ref a_17, .ref a_18, .ref a_19, .int 0, .ref a_20, .ref a_21, .long 0, .ref a_22, .int 0])), (a_2, .inl (G.2 0, 5740, .inl (upd (upd (upd (fun _ => 0) 3 (-1)) 4 1000) 6 (-1)))), (a_19, .inl (G.2 0, 1536, .inl (fun _ => 0))), (a_17, .inl (G.2 1, 49152, .inr (.inl f_e))), (a_18, .inl (G.2 1, 49152, .inr (.inl f_d)))] ∧ va_S A s.heap H locs ∧ ((-1) ≤ k_c.toInt ∧ k_c.toInt ≤ 63) ∧ ((-1) ≤ k_i.toInt ∧ k_i.toInt ≤ 63) ∧ (k_c.toInt < 0 → k_i.toInt = 0)) (fun (q : (Int32) × (Int32)) => match q with | (k_c, k_i) => Int.toNat (k_c.toInt + 1)) (63, (-1)) ⟨lv_sub hl [1, 0, 2, 3, 4, 5, 6] rfl, hP, hD, hS, ⟨by decide, by decide⟩, ⟨by decide, by decide⟩, fun h => absurd h (by decide)⟩ ?_
  rintro ⟨k_c, k_i⟩ ls H locs ⟨hl, hP, hD, hS, i_1, i_2, i_3⟩ ih_38_4
  have hl : lv_has ls 8 [(5, .int k_i), (6, .int k_c), (4, .int k_h), (2, .int 0), (3, .int 0), (1, .int p_h), (0, .ref a_y)] := hl
  have i_1 : (-1) ≤ k_c.toInt ∧ k_c.toInt ≤ 63 := i_1
  have i_2 : (-1) ≤ k_i.toInt ∧ k_i.toInt ≤ 63 := i_2
  have i_3 : k_c.toInt < 0 → k_i.toInt = 0 := i_3
  have hP : va_P G.1 vwCl [(a_y, .inr (12, [.int 0, .int 0, .ref a_1, .ref a_2, .ref a_3, .ref a_4, .int 0, .ref a_5, .int 0, .int 0, .int 0, .int 0, .long 0, .int (-1), .int 0, .int 0, .ref a_6, .int 0, .ref a_7, .ref a_8, .int 0, .ref a_9, .ref a_10, .int 0, .int 0, .ref a_11, .ref a_12, .int 0, .ref a_13, .ref a_14, .int 0, .long 0, .long 0, .int e_cell, .int e_hour, .int e_way, .int e_bright, .int e_points, .ref a_15, .int e_through, .int e_seen, .ref a_16, .int 1, .ref a_17, .ref a_18, .ref a_19, .int 0, .ref a_20, .ref a_21, .long 0, .ref a_22, .int 0])), (a_2, .inl (G.2 0, 5740, .inl (upd (upd (upd (fun _ => 0) 3 (-1)) 4 1000) 6 (-1)))), (a_19, .inl (G.2 0, 1536, .inl (fun _ => 0))), (a_17, .inl (G.2 1, 49152, .inr (.inl f_e))), (a_18, .inl (G.2 1, 49152, .inr (.inl f_d)))] H := hP
  have hD : va_D A [(a_y, .inr (12, [.int 0, .int 0, .ref a_1, .ref a_2, .ref a_3, .ref a_4, .int 0, .ref a_5, .int 0, .int 0, .int 0, .int 0, .long 0, .int (-1), .int 0, .int 0, .ref a_6, .int 0, .ref a_7, .ref a_8, .int 0, .ref a_9, .ref a_10, .int 0, .int 0, .ref a_11, .ref a_12, .int 0, .ref a_13, .ref a_14, .int 0, .long 0, .long 0, .int e_cell, .int e_hour, .int e_way, .int e_bright, .int e_points, .ref a_15, .int e_through, .int e_seen, .ref a_16, .int 1, .ref a_17, .ref a_18, .ref a_19, .int 0, .ref a_20, .ref a_21, .long 0, .ref a_22, .int 0])), (a_2, .inl (G.2 0, 5740, .inl (upd (upd (upd (fun _ => 0) 3 (-1)) 4 1000) 6 (-1)))), (a_19, .inl (G.2 0, 1536, .inl (fun _ => 0))), (a_17, .inl (G.2 1, 49152, .inr (.inl f_e))), (a_18, .inl (G.2 1, 49152, .inr (.inl f_d)))] := hD
  refine lv_iload hx hb dX12_path_38 (lv_at hl 1 rfl) ?_
  refine lv_if_lt (tgt := 162) hx hb dX12_path_40 (by decide) (fun c_5 => ?_) (fun c_5 => ?_)
  ·
    have i_5 : k_c.toInt < 0 := by have z := g5_lt (a := k_c.toInt) (b := 0) (by rfl) (by decide) c_5; omega
    have hi0 : k_i.toInt = 0 := i_3 (by omega)
    refine lv_iload hx hb dX12_path_162 (lv_at hl 0 rfl) ?_
    refine g5_ti (v := 0) (g5_toc (n := 0) (by decide) (hi0)) ?_
    refine lv_iconst (v := (-1)) hx hb dX12_path_164 (by decide) ?_
    refine lv_icmp_ne (tgt := 170) hx hb dX12_path_165 (by decide) (fun c_6 => ?_) (fun c_6 => ?_)
    ·
      refine lv_iload hx hb dX12_path_170 (lv_at hl 0 rfl) ?_
      refine g5_ti (v := 0) (g5_toc (n := 0) (by decide) (hi0)) ?_
      refine lv_istore_n (lv' := [(2, .int 0), (5, .int k_i), (6, .int k_c), (4, .int k_h), (3, .int 0), (1, .int p_h), (0, .ref a_y)]) hx hb dX12_path_172 rfl hl (by decide) rfl (fun ls hl => ?_)
      refine lv_iload_n hx hb dX12_path_173 rfl (lv_at hl 4 rfl) ?_
      refine lv_aload_n hx hb dX12_path_174 rfl (lv_at hl 6 rfl) ?_
      refine va_get (D := G.1) (ci := 12) (v := .ref a_19) (C := RX12) (T := TX12) (N := 52) hx hb hts inG_X12 hown hK hP 0 rfl rfl 45 (by decide) (hts _ fl_X12_95) (fun _ h9 => h9) rfl dX12_path_175 ?_
      refine lv_bipush (v := 64) hx hb dX12_path_178 (by decide) ?_
      refine lv_iload hx hb dX12_path_180 (lv_at hl 3 rfl) ?_
      refine lv_imul hx hb dX12_path_182 ?_
      have t_7 : (64 * k_h).toInt = 64 * k_h.toInt := g5_imul (a := 64) (b := k_h.toInt) (by decide) (by rfl) (by omega) (by omega)
      refine lv_iload_n hx hb dX12_path_183 rfl (lv_at hl 0 rfl) ?_
      refine lv_iadd hx hb dX12_path_184 ?_
      refine g5_ti (v := (64 * k_h)) (by simp) ?_
      refine va_iald hx hb hK hP 2 0 rfl rfl (i := (64 * k_h)) (vp_in_iff.mpr ⟨by omega, by omega⟩) dX12_path_185 ?_
      refine g5_ti (v := 0) rfl ?_
      refine lv_ior hx hb dX12_path_186 ?_
      refine g5_ti (v := 0) (by decide) ?_
      refine lv_istore_n (lv' := [(3, .int 0), (2, .int 0), (5, .int k_i), (6, .int k_c), (4, .int k_h), (1, .int p_h), (0, .ref a_y)]) hx hb dX12_path_187 rfl hl (by decide) rfl (fun ls hl => ?_)
      refine lv_iinc (v := (k_h + 1)) (lv' := [(4, .int (k_h + 1)), (3, .int 0), (2, .int 0), (5, .int k_i), (6, .int k_c), (1, .int p_h), (0, .ref a_y)]) hx hb dX12_path_188 hl (k := 4) rfl rfl (by decide) rfl (fun ls hl => ?_)
      have t_8 : (k_h + 1).toInt = k_h.toInt + 1 := g5_iadd (a := k_h.toInt) (b := 1) rfl (by decide) (by omega) (by omega)
      refine lv_goto (tgt := 25) hx hb dX12_path_191 (by decide) ?_
      exact kk  ls H locs (lv_sub hl [0, 2, 1, 5, 6] rfl) hP hD hS 
    ·
      exact absurd c_6 (by decide)
  ·
    have i_5 : k_c.toInt ≥ 0 := by have z := g5_ltN (a := k_c.toInt) (b := 0) (by rfl) (by decide) c_5; omega
    refine lv_iload hx hb dX12_path_43 (lv_at hl 2 rfl) ?_
    refine lv_if_ne (tgt := 68) hx hb dX12_path_45 (by decide) (fun c_9 => ?_) (fun c_9 => ?_)
    ·
      have i_9 : k_h.toInt ≠ 0 := by have z := g5_ne (a := k_h.toInt) (b := 0) (by rfl) (by decide) c_9; omega
      refine lv_iload_n hx hb dX12_path_68 rfl (lv_at hl 3 rfl) ?_
      refine lv_iload hx hb dX12_path_69 (lv_at hl 1 rfl) ?_
      have hPc := hP.sub (ws' := []) [] rfl
      have hDc := hD.sub (ws' := []) [] (by decide) rfl
      have hFc := va_free (wc := []) hD hS hA [] rfl
      refine va_calli (va_runS (As := [.int 0, .int k_c]) (rest := []) ⟨hx, hb, hml, hown, hts⟩ (k_misStep l G H.size k_c ⟨by omega, by omega⟩) (va_cwS 2 hts gS_X12_454 rfl rfl rfl hs_X12_isStep ⟨Nat.le_of_ble_eq_true rfl, Nat.le_of_ble_eq_true rfl⟩) (g5_preS hPc hK hDc hN hT hS hFc) rfl rfl hl.1 rfl (lv_room (Nat.le_of_ble_eq_true rfl)) dX12_path_71 ⟨Nat.le_of_ble_eq_true rfl, Nat.le_of_ble_eq_true rfl⟩) hS (fun q _ h => hFc q h) hFc (fun r u t H1 locs ht hvm hw hB hz1 hk1 hS => ?_)
      obtain ⟨hP1, hD1⟩ := hB
      rw [ht] at hP1
      obtain ⟨z12, i_10, i_11, y13, rfl⟩ := hw
      have i_10 : 0 ≤ z12.toInt ∧ z12.toInt ≤ 1 := i_10
      have i_11 : k_c.toInt ≠ 0 ∨ z12.toInt = 1 := i_11
      have hP := g5_same hP hk1
      generalize H1 = H at hP hS ⊢
      refine g5_ti (v := z12) y13 ?_
      refine lv_if_eq (tgt := 139) hx hb dX12_path_74 (by decide) (fun c_14 => ?_) (fun c_14 => ?_)
      ·
        have i_14 : z12.toInt = 0 := by have z := g5_eq (a := z12.toInt) (b := 0) (by rfl) (by decide) c_14; omega
        refine lv_iconst (v := 0) hx hb dX12_path_139 (by decide) ?_
        refine lv_istore (lv' := [(7, .int 0), (5, .int k_i), (6, .int k_c), (4, .int k_h), (2, .int 0), (3, .int 0), (1, .int p_h), (0, .ref a_y)]) hx hb dX12_path_140 hl (by decide) rfl (fun ls hl => ?_)
        refine lv_iload hx hb dX12_path_142 (lv_at hl 0 rfl) ?_
        refine lv_if_eq (tgt := 152) hx hb dX12_path_144 (by decide) (fun c_15 => ?_) (fun c_15 => ?_)
        ·
          refine lv_iload hx hb dX12_path_152 (lv_at hl 1 rfl) ?_
          refine lv_istore (lv' := [(5, .int k_i), (7, .int 0), (6, .int k_c), (4, .int k_h), (2, .int 0), (3, .int 0), (1, .int p_h), (0, .ref a_y)]) hx hb dX12_path_154 hl (by decide) rfl (fun ls hl => ?_)
          refine lv_iinc (v := (k_c + (-1))) (lv' := [(6, .int (k_c + (-1))), (5, .int k_i), (7, .int 0), (4, .int k_h), (2, .int 0), (3, .int 0), (1, .int p_h), (0, .ref a_y)]) hx hb dX12_path_156 hl (k := 2) rfl rfl (by decide) rfl (fun ls hl => ?_)
          have t_16 : (k_c + (-1)).toInt = k_c.toInt + (-1) := g5_iadd (a := k_c.toInt) (b := (-1)) rfl (by decide) (by omega) (by omega)
          refine lv_goto (tgt := 38) hx hb dX12_path_159 (by decide) ?_
          try clear t_7
          try clear t_8
          try clear i_9
          try clear i_3
          exact ih_38_4 ((k_c + (-1)), k_i) ls H locs (show Int.toNat ((k_c + (-1)).toInt + 1) < Int.toNat (k_c.toInt + 1) from g5_dec rfl t_16 (by omega)) ⟨lv_sub hl [1, 0, 3, 4, 5, 6, 7] rfl, hP, hD, hS, ⟨by omega, by omega⟩, ⟨by omega, by omega⟩, fun _ => by omega⟩
        ·
          exact absurd c_15 (by decide)
      ·
        have i_14 : z12.toInt ≠ 0 := by have z := g5_eqN (a := z12.toInt) (b := 0) (by rfl) (by decide) c_14; omega
        refine lv_aload_n hx hb dX12_path_77 rfl (lv_at hl 6 rfl) ?_
        refine va_get (D := G.1) (ci := 12) (v := .ref a_19) (C := RX12) (T := TX12) (N := 52) hx hb hts inG_X12 hown hK hP 0 rfl rfl 45 (by decide) (hts _ fl_X12_95) (fun _ h9 => h9) rfl dX12_path_78 ?_
        refine lv_bipush (v := 64) hx hb dX12_path_81 (by decide) ?_
        refine lv_iload hx hb dX12_path_83 (lv_at hl 2 rfl) ?_
        refine lv_imul hx hb dX12_path_85 ?_
        have t_17 : (64 * k_h).toInt = 64 * k_h.toInt := g5_imul (a := 64) (b := k_h.toInt) (by decide) (by rfl) (by omega) (by omega)
        refine lv_iload hx hb dX12_path_86 (lv_at hl 1 rfl) ?_
        refine lv_iadd hx hb dX12_path_88 ?_
        have t_18 : ((64 * k_h) + k_c).toInt = (64 * k_h).toInt + k_c.toInt := g5_iadd (a := (64 * k_h).toInt) (b := k_c.toInt) (by rfl) (by rfl) (by omega) (by omega)
        refine va_iald hx hb hK hP 2 0 rfl rfl (i := ((64 * k_h) + k_c)) (vp_in_iff.mpr ⟨by omega, by omega⟩) dX12_path_89 ?_
        refine g5_ti (v := 0) rfl ?_
        refine lv_bipush (v := 64) hx hb dX12_path_90 (by decide) ?_
        refine lv_icmp_ge (tgt := 139) hx hb dX12_path_92 (by decide) (fun c_19 => ?_) (fun c_19 => ?_)
        ·
          exact absurd c_19 (by decide)
        ·
          refine lv_aload_n hx hb dX12_path_95 rfl (lv_at hl 6 rfl) ?_
          refine va_get (D := G.1) (ci := 12) (v := .ref a_18) (C := RX12) (T := TX12) (N := 52) hx hb hts inG_X12 hown hK hP 0 rfl rfl 44 (by decide) (hts _ fl_X12_92) (fun _ h9 => h9) rfl dX12_path_96 ?_
          refine lv_bipush (v := 32) hx hb dX12_path_99 (by decide) ?_
          refine lv_bipush (v := 64) hx hb dX12_path_101 (by decide) ?_
          refine lv_iload hx hb dX12_path_103 (lv_at hl 2 rfl) ?_
          refine lv_imul hx hb dX12_path_105 ?_
          have t_20 : (64 * k_h).toInt = 64 * k_h.toInt := g5_imul (a := 64) (b := k_h.toInt) (by decide) (by rfl) (by omega) (by omega)
          refine lv_iload hx hb dX12_path_106 (lv_at hl 1 rfl) ?_
          refine lv_iadd hx hb dX12_path_108 ?_
          have t_21 : ((64 * k_h) + k_c).toInt = (64 * k_h).toInt + k_c.toInt := g5_iadd (a := (64 * k_h).toInt) (b := k_c.toInt) (by rfl) (by rfl) (by omega) (by omega)
          refine lv_imul hx hb dX12_path_109 ?_
          have t_22 : (32 * ((64 * k_h) + k_c)).toInt = 32 * ((64 * k_h) + k_c).toInt := g5_imul (a := 32) (b := ((64 * k_h) + k_c).toInt) (by decide) (by rfl) (by omega) (by omega)
          refine lv_iload_n hx hb dX12_path_110 rfl (lv_at hl 4 rfl) ?_
          refine lv_aload_n hx hb dX12_path_111 rfl (lv_at hl 6 rfl) ?_
          refine va_get (D := G.1) (ci := 12) (v := .ref a_19) (C := RX12) (T := TX12) (N := 52) hx hb hts inG_X12 hown hK hP 0 rfl rfl 45 (by decide) (hts _ fl_X12_95) (fun _ h9 => h9) rfl dX12_path_112 ?_
          refine lv_bipush (v := 64) hx hb dX12_path_115 (by decide) ?_
          refine lv_iload hx hb dX12_path_117 (lv_at hl 2 rfl) ?_
          refine lv_imul hx hb dX12_path_119 ?_
          have t_23 : (64 * k_h).toInt = 64 * k_h.toInt := g5_imul (a := 64) (b := k_h.toInt) (by decide) (by rfl) (by omega) (by omega)
          refine lv_iload hx hb dX12_path_120 (lv_at hl 1 rfl) ?_
          refine lv_iadd hx hb dX12_path_122 ?_
          have t_24 : ((64 * k_h) + k_c).toInt = (64 * k_h).toInt + k_c.toInt := g5_iadd (a := (64 * k_h).toInt) (b := k_c.toInt) (by rfl) (by rfl) (by omega) (by omega)
          refine va_iald hx hb hK hP 2 0 rfl rfl (i := ((64 * k_h) + k_c)) (vp_in_iff.mpr ⟨by omega, by omega⟩) dX12_path_123 ?_
          refine g5_ti (v := 0) rfl ?_
          refine lv_bipush (v := 31) hx hb dX12_path_124 (by decide) ?_
          refine lv_iand hx hb dX12_path_126 ?_
          refine g5_ti (v := 0) (by decide) ?_
          refine lv_ior hx hb dX12_path_127 ?_
          refine g5_ti (v := 0) (by decide) ?_
          refine lv_iadd hx hb dX12_path_128 ?_
          refine g5_ti (v := (32 * ((64 * k_h) + k_c))) (by simp) ?_
          refine va_lald hx hb hK hP 4 1 rfl rfl (i := (32 * ((64 * k_h) + k_c))) (vp_in_iff.mpr ⟨by omega, by omega⟩) dX12_path_129 ?_
          refine lv_lconst (v := 0) hx hb dX12_path_130 (by decide) ?_
          refine W.lcmp hx hb dX12_path_131 ?_
          refine g5_ti (v := 1) (g5_toc (n := 1) (by decide) (g5_cmppos (g5_bpos (h := k_h.toInt) (c := k_c.toInt) e_d (by omega) (by omega) (by omega) (by omega) (by omega)))) ?_
          refine lv_if_le (tgt := 139) hx hb dX12_path_132 (by decide) (fun c_25 => ?_) (fun c_25 => ?_)
          ·
            exact absurd c_25 (by decide)
          ·
            refine lv_iconst (v := 1) hx hb dX12_path_135 (by decide) ?_
            refine lv_goto (tgt := 140) hx hb dX12_path_136 (by decide) ?_
            refine lv_istore (lv' := [(7, .int 1), (5, .int k_i), (6, .int k_c), (4, .int k_h), (2, .int 0), (3, .int 0), (1, .int p_h), (0, .ref a_y)]) hx hb dX12_path_140 hl (by decide) rfl (fun ls hl => ?_)
            refine lv_iload hx hb dX12_path_142 (lv_at hl 0 rfl) ?_
            refine lv_if_eq (tgt := 152) hx hb dX12_path_144 (by decide) (fun c_26 => ?_) (fun c_26 => ?_)
            ·
              exact absurd c_26 (by decide)
            ·
              refine lv_iload hx hb dX12_path_147 (lv_at hl 2 rfl) ?_
              refine lv_goto (tgt := 154) hx hb dX12_path_149 (by decide) ?_
              refine lv_istore (lv' := [(5, .int k_c), (7, .int 1), (6, .int k_c), (4, .int k_h), (2, .int 0), (3, .int 0), (1, .int p_h), (0, .ref a_y)]) hx hb dX12_path_154 hl (by decide) rfl (fun ls hl => ?_)
              refine lv_iinc (v := (k_c + (-1))) (lv' := [(6, .int (k_c + (-1))), (5, .int k_c), (7, .int 1), (4, .int k_h), (2, .int 0), (3, .int 0), (1, .int p_h), (0, .ref a_y)]) hx hb dX12_path_156 hl (k := 2) rfl rfl (by decide) rfl (fun ls hl => ?_)
              have t_27 : (k_c + (-1)).toInt = k_c.toInt + (-1) := g5_iadd (a := k_c.toInt) (b := (-1)) rfl (by decide) (by omega) (by omega)
              refine lv_goto (tgt := 38) hx hb dX12_path_159 (by decide) ?_
              try clear t_7
              try clear t_8
              try clear t_16
              try clear t_17
              try clear t_18
              try clear t_20
              try clear t_21
              try clear t_22
              try clear t_23
              try clear t_24
              try clear i_9
              try clear i_14
              try clear i_11
              try clear i_3
              exact ih_38_4 ((k_c + (-1)), k_c) ls H locs (show Int.toNat ((k_c + (-1)).toInt + 1) < Int.toNat (k_c.toInt + 1) from g5_dec rfl t_27 (by omega)) ⟨lv_sub hl [1, 0, 3, 4, 5, 6, 7] rfl, hP, hD, hS, ⟨by omega, by omega⟩, ⟨by omega, by omega⟩, fun _ => by omega⟩
    ·
      have i_9 : k_h.toInt = 0 := by have z := g5_neN (a := k_h.toInt) (b := 0) (by rfl) (by decide) c_9; omega
      omega
set_option maxHeartbeats 4000000 in
set_option maxRecDepth 100000 in
theorem k_mpath (l : Launch) (G : g5_G) (a_y a_2 a_19 a_17 a_18 a_1 a_3 a_4 a_5 a_6 a_7 a_8 a_9 a_10 a_11 a_12 a_13 a_14 a_15 a_16 a_20 a_21 a_22 : Nat) (sz : Nat) (p_h : Int32) : Met l yX12_path (wsG yX12_path cX12_path 8 (some .int)) ({ frames := 12, cells := 0, slots := 0, locals := 500 }) (va_Pc [.ref a_y, .int p_h] (g5_P G [(a_y, .inr (12, [.int 0, .int 0, .ref a_1, .ref a_2, .ref a_3, .ref a_4, .int 0, .ref a_5, .int 0, .int 0, .int 0, .int 0, .long 0, .int (-1), .int 0, .int 0, .ref a_6, .int 0, .ref a_7, .ref a_8, .int 0, .ref a_9, .ref a_10, .int 0, .int 0, .ref a_11, .ref a_12, .int 0, .ref a_13, .ref a_14, .int 0, .long 0, .long 0, .int 0, .int 0, .int 0, .int 0, .int 0, .ref a_15, .int 0, .int 0, .ref a_16, .int 0, .ref a_17, .ref a_18, .ref a_19, .int 0, .ref a_20, .ref a_21, .long 0, .ref a_22, .int 0])), (a_2, .inl (G.2 0, 5740, .inl (upd (upd (upd (fun _ => 0) 3 (-1)) 4 1000) 6 (-1)))), (a_19, .inl (G.2 0, 1536, .inl (fun _ => 0))), (a_17, .inl (G.2 1, 49152, .inr (.inl (fun _ => 0)))), (a_18, .inl (G.2 1, 49152, .inr (.inl (fun _ => 0))))] sz)) (va_Qi (fun (r : Int32) (u : va_W) => (∃ (o_r : Int32), (o_r.toInt = sp_path p_h.toInt) ∧ (r = o_r) ∧ (u = []))) (g5_B G (va_A [(a_y, .inr (12, [.int 0, .int 0, .ref a_1, .ref a_2, .ref a_3, .ref a_4, .int 0, .ref a_5, .int 0, .int 0, .int 0, .int 0, .long 0, .int (-1), .int 0, .int 0, .ref a_6, .int 0, .ref a_7, .ref a_8, .int 0, .ref a_9, .ref a_10, .int 0, .int 0, .ref a_11, .ref a_12, .int 0, .ref a_13, .ref a_14, .int 0, .long 0, .long 0, .int 0, .int 0, .int 0, .int 0, .int 0, .ref a_15, .int 0, .int 0, .ref a_16, .int 0, .ref a_17, .ref a_18, .ref a_19, .int 0, .ref a_20, .ref a_21, .long 0, .ref a_22, .int 0])), (a_2, .inl (G.2 0, 5740, .inl (upd (upd (upd (fun _ => 0) 3 (-1)) 4 1000) 6 (-1)))), (a_19, .inl (G.2 0, 1536, .inl (fun _ => 0))), (a_17, .inl (G.2 1, 49152, .inr (.inl (fun _ => 0)))), (a_18, .inl (G.2 1, 49152, .inr (.inl (fun _ => 0))))] sz)) (va_A [(a_y, .inr (12, [.int 0, .int 0, .ref a_1, .ref a_2, .ref a_3, .ref a_4, .int 0, .ref a_5, .int 0, .int 0, .int 0, .int 0, .long 0, .int (-1), .int 0, .int 0, .ref a_6, .int 0, .ref a_7, .ref a_8, .int 0, .ref a_9, .ref a_10, .int 0, .int 0, .ref a_11, .ref a_12, .int 0, .ref a_13, .ref a_14, .int 0, .long 0, .long 0, .int 0, .int 0, .int 0, .int 0, .int 0, .ref a_15, .int 0, .int 0, .ref a_16, .int 0, .ref a_17, .ref a_18, .ref a_19, .int 0, .ref a_20, .ref a_21, .long 0, .ref a_22, .int 0])), (a_2, .inl (G.2 0, 5740, .inl (upd (upd (upd (fun _ => 0) 3 (-1)) 4 1000) 6 (-1)))), (a_19, .inl (G.2 0, 1536, .inl (fun _ => 0))), (a_17, .inl (G.2 1, 49152, .inr (.inl (fun _ => 0)))), (a_18, .inl (G.2 1, 49152, .inr (.inl (fun _ => 0))))] sz)) 0 0 (va_A [(a_y, .inr (12, [.int 0, .int 0, .ref a_1, .ref a_2, .ref a_3, .ref a_4, .int 0, .ref a_5, .int 0, .int 0, .int 0, .int 0, .long 0, .int (-1), .int 0, .int 0, .ref a_6, .int 0, .ref a_7, .ref a_8, .int 0, .ref a_9, .ref a_10, .int 0, .int 0, .ref a_11, .ref a_12, .int 0, .ref a_13, .ref a_14, .int 0, .long 0, .long 0, .int 0, .int 0, .int 0, .int 0, .int 0, .ref a_15, .int 0, .int 0, .ref a_16, .int 0, .ref a_17, .ref a_18, .ref a_19, .int 0, .ref a_20, .ref a_21, .long 0, .ref a_22, .int 0])), (a_2, .inl (G.2 0, 5740, .inl (upd (upd (upd (fun _ => 0) 3 (-1)) 4 1000) 6 (-1)))), (a_19, .inl (G.2 0, 1536, .inl (fun _ => 0))), (a_17, .inl (G.2 1, 49152, .inr (.inl (fun _ => 0)))), (a_18, .inl (G.2 1, 49152, .inr (.inl (fun _ => 0))))] sz) := by
  refine Met.ofW (cc := cX12_path) (maxL := 8) (ret := (some .int)) (by decide) rfl ?_
  intro p e s m args below meth c s₁ B hml hv
  obtain ⟨rfl, hsz, hP, hK, hD0, hN, hT⟩ := hv
  have hx := B.exec
  have hb := B.bytes
  have hr := B.returns
  have hts : ∀ w ∈ tblG, w.before _ s = true := fun w h => atoms_spec (ws := (wsG yX12_path cX12_path 8 (some .int))) B.pre w (List.mem_cons_of_mem _ h)
  have hown : s.vm.findClass RX12 = some m.cls := findClass_of_methodNamed B.named
  have hlocks := B.notSynchronized
  subst hsz
  have hD := hD0.self (sz := s.heap.size)
  generalize hAe : va_A [(a_y, .inr (12, [.int 0, .int 0, .ref a_1, .ref a_2, .ref a_3, .ref a_4, .int 0, .ref a_5, .int 0, .int 0, .int 0, .int 0, .long 0, .int (-1), .int 0, .int 0, .ref a_6, .int 0, .ref a_7, .ref a_8, .int 0, .ref a_9, .ref a_10, .int 0, .int 0, .ref a_11, .ref a_12, .int 0, .ref a_13, .ref a_14, .int 0, .long 0, .long 0, .int 0, .int 0, .int 0, .int 0, .int 0, .ref a_15, .int 0, .int 0, .ref a_16, .int 0, .ref a_17, .ref a_18, .ref a_19, .int 0, .ref a_20, .ref a_21, .long 0, .ref a_22, .int 0])), (a_2, .inl (G.2 0, 5740, .inl (upd (upd (upd (fun _ => 0) 3 (-1)) 4 1000) 6 (-1)))), (a_19, .inl (G.2 0, 1536, .inl (fun _ => 0))), (a_17, .inl (G.2 1, 49152, .inr (.inl (fun _ => 0)))), (a_18, .inl (G.2 1, 49152, .inr (.inl (fun _ => 0))))] s.heap.size = A at hD hT ⊢
  have hA : ∀ q : Nat, s.heap.size ≤ q → A q := fun q h => by rw [← hAe]; exact Or.inr h
  have hS : va_S A s.heap s.heap [] := va_S.rf
  have hP : va_P G.1 vwCl [(a_y, .inr (12, [.int 0, .int 0, .ref a_1, .ref a_2, .ref a_3, .ref a_4, .int 0, .ref a_5, .int 0, .int 0, .int 0, .int 0, .long 0, .int (-1), .int 0, .int 0, .ref a_6, .int 0, .ref a_7, .ref a_8, .int 0, .ref a_9, .ref a_10, .int 0, .int 0, .ref a_11, .ref a_12, .int 0, .ref a_13, .ref a_14, .int 0, .long 0, .long 0, .int 0, .int 0, .int 0, .int 0, .int 0, .ref a_15, .int 0, .int 0, .ref a_16, .int 0, .ref a_17, .ref a_18, .ref a_19, .int 0, .ref a_20, .ref a_21, .long 0, .ref a_22, .int 0])), (a_2, .inl (G.2 0, 5740, .inl (upd (upd (upd (fun _ => 0) 3 (-1)) 4 1000) 6 (-1)))), (a_19, .inl (G.2 0, 1536, .inl (fun _ => 0))), (a_17, .inl (G.2 1, 49152, .inr (.inl (fun _ => 0)))), (a_18, .inl (G.2 1, 49152, .inr (.inl (fun _ => 0))))] s.heap := hP
  have hl := lv_entry ([.ref a_y, .int p_h]) (n := 8) (Nat.le_of_ble_eq_true rfl)
  rw [lg_entry_eq]
  generalize (lg_sl ([.ref a_y, .int p_h]) ++ List.replicate (8 - (lg_sl ([.ref a_y, .int p_h])).length) Slot.unset).toArray = ls at hl ⊢
  have hl : lv_has ls 8 [(0, .ref a_y), (1, .int p_h)] := hl
  refine lv_aload_n hx hb dX12_path_0 rfl (lv_at hl 0 rfl) ?_
  refine lv_iconst (v := 0) hx hb dX12_path_1 (by decide) ?_
  refine va_put (D := G.1) (ci := 12) (v := .int 0) (ty := .int) (C := RX12) (T := TX12) (N := 52) hx hb hts inG_X12 tyX12 tyX12_ok nmX12 hown hK hP hD hS 0 rfl rfl 0 (by decide) (hts _ fl_X12_107) (fun _ h9 => h9) rfl (by decide +kernel) rfl rfl (Nat.le_of_ble_eq_true rfl) dX12_path_2 (fun H locs hP hD hS => ?_)
  have hP : va_P G.1 vwCl [(a_y, .inr (12, [.int 0, .int 0, .ref a_1, .ref a_2, .ref a_3, .ref a_4, .int 0, .ref a_5, .int 0, .int 0, .int 0, .int 0, .long 0, .int (-1), .int 0, .int 0, .ref a_6, .int 0, .ref a_7, .ref a_8, .int 0, .ref a_9, .ref a_10, .int 0, .int 0, .ref a_11, .ref a_12, .int 0, .ref a_13, .ref a_14, .int 0, .long 0, .long 0, .int 0, .int 0, .int 0, .int 0, .int 0, .ref a_15, .int 0, .int 0, .ref a_16, .int 0, .ref a_17, .ref a_18, .ref a_19, .int 0, .ref a_20, .ref a_21, .long 0, .ref a_22, .int 0])), (a_2, .inl (G.2 0, 5740, .inl (upd (upd (upd (fun _ => 0) 3 (-1)) 4 1000) 6 (-1)))), (a_19, .inl (G.2 0, 1536, .inl (fun _ => 0))), (a_17, .inl (G.2 1, 49152, .inr (.inl (fun _ => 0)))), (a_18, .inl (G.2 1, 49152, .inr (.inl (fun _ => 0))))] H := hP
  have hD : va_D A [(a_y, .inr (12, [.int 0, .int 0, .ref a_1, .ref a_2, .ref a_3, .ref a_4, .int 0, .ref a_5, .int 0, .int 0, .int 0, .int 0, .long 0, .int (-1), .int 0, .int 0, .ref a_6, .int 0, .ref a_7, .ref a_8, .int 0, .ref a_9, .ref a_10, .int 0, .int 0, .ref a_11, .ref a_12, .int 0, .ref a_13, .ref a_14, .int 0, .long 0, .long 0, .int 0, .int 0, .int 0, .int 0, .int 0, .ref a_15, .int 0, .int 0, .ref a_16, .int 0, .ref a_17, .ref a_18, .ref a_19, .int 0, .ref a_20, .ref a_21, .long 0, .ref a_22, .int 0])), (a_2, .inl (G.2 0, 5740, .inl (upd (upd (upd (fun _ => 0) 3 (-1)) 4 1000) 6 (-1)))), (a_19, .inl (G.2 0, 1536, .inl (fun _ => 0))), (a_17, .inl (G.2 1, 49152, .inr (.inl (fun _ => 0)))), (a_18, .inl (G.2 1, 49152, .inr (.inl (fun _ => 0))))] := hD
  refine lv_iload_n hx hb dX12_path_5 rfl (lv_at hl 1 rfl) ?_
  have hPc := hP.sub (ws' := []) [] rfl
  have hDc := hD.sub (ws' := []) [] (by decide) rfl
  have hFc := va_free (wc := []) hD hS hA [] rfl
  refine va_calli (va_runS (As := [.int p_h]) (rest := []) ⟨hx, hb, hml, hown, hts⟩ (kX12_isHour l G H.size p_h) (va_cwS 1 hts gS_X12_175 rfl rfl rfl hs_X12_isHour ⟨Nat.le_of_ble_eq_true rfl, Nat.le_of_ble_eq_true rfl⟩) (g5_preS hPc hK hDc hN hT hS hFc) rfl rfl hl.1 rfl (lv_room (Nat.le_of_ble_eq_true rfl)) dX12_path_6 ⟨Nat.le_of_ble_eq_true rfl, Nat.le_of_ble_eq_true rfl⟩) hS (fun q _ h => hFc q h) hFc (fun r u t H1 locs ht hvm hw hB hz1 hk1 hS => ?_)
  obtain ⟨hP1, hD1⟩ := hB
  rw [ht] at hP1
  rcases hw with ⟨i_1, rfl, rfl⟩ | ⟨i_2, rfl, rfl⟩
  ·
    have hP := g5_same hP hk1
    generalize H1 = H at hP hS ⊢
    refine lv_if_ne (tgt := 14) hx hb dX12_path_9 (by decide) (fun c_3 => ?_) (fun c_3 => ?_)
    ·
      exact absurd c_3 (by decide)
    ·
      refine lv_iconst (v := (-1)) hx hb dX12_path_12 (by decide) ?_
      exact W.iret (v := (-1)) hx hb hr (fun t ht hW => ⟨⟨(-1), [], rfl, ⟨(-1), by have z : ((-1) : Int32).toInt = (-1) := (by decide); unfold sp_path; omega, rfl, rfl⟩, by rw [ht]; exact hP.sub [] rfl, hD.sub [] (by decide) rfl⟩, hS.F ht⟩) hS.2.2 dX12_path_13
  ·
    have hP := g5_same hP hk1
    generalize H1 = H at hP hS ⊢
    refine lv_if_ne (tgt := 14) hx hb dX12_path_9 (by decide) (fun c_4 => ?_) (fun c_4 => ?_)
    ·
      refine lv_aload_n hx hb dX12_path_14 rfl (lv_at hl 0 rfl) ?_
      have hPc := hP.sub (ws' := [(a_y, .inr (12, [.int 0, .int 0, .ref a_1, .ref a_2, .ref a_3, .ref a_4, .int 0, .ref a_5, .int 0, .int 0, .int 0, .int 0, .long 0, .int (-1), .int 0, .int 0, .ref a_6, .int 0, .ref a_7, .ref a_8, .int 0, .ref a_9, .ref a_10, .int 0, .int 0, .ref a_11, .ref a_12, .int 0, .ref a_13, .ref a_14, .int 0, .long 0, .long 0, .int 0, .int 0, .int 0, .int 0, .int 0, .ref a_15, .int 0, .int 0, .ref a_16, .int 0, .ref a_17, .ref a_18, .ref a_19, .int 0, .ref a_20, .ref a_21, .long 0, .ref a_22, .int 0])), (a_2, .inl (G.2 0, 5740, .inl (upd (upd (upd (fun _ => 0) 3 (-1)) 4 1000) 6 (-1)))), (a_19, .inl (G.2 0, 1536, .inl (fun _ => 0))), (a_17, .inl (G.2 1, 49152, .inr (.inl (fun _ => 0)))), (a_18, .inl (G.2 1, 49152, .inr (.inl (fun _ => 0))))]) [0, 1, 2, 3, 4] rfl
      have hDc := hD.sub (ws' := [(a_y, .inr (12, [.int 0, .int 0, .ref a_1, .ref a_2, .ref a_3, .ref a_4, .int 0, .ref a_5, .int 0, .int 0, .int 0, .int 0, .long 0, .int (-1), .int 0, .int 0, .ref a_6, .int 0, .ref a_7, .ref a_8, .int 0, .ref a_9, .ref a_10, .int 0, .int 0, .ref a_11, .ref a_12, .int 0, .ref a_13, .ref a_14, .int 0, .long 0, .long 0, .int 0, .int 0, .int 0, .int 0, .int 0, .ref a_15, .int 0, .int 0, .ref a_16, .int 0, .ref a_17, .ref a_18, .ref a_19, .int 0, .ref a_20, .ref a_21, .long 0, .ref a_22, .int 0])), (a_2, .inl (G.2 0, 5740, .inl (upd (upd (upd (fun _ => 0) 3 (-1)) 4 1000) 6 (-1)))), (a_19, .inl (G.2 0, 1536, .inl (fun _ => 0))), (a_17, .inl (G.2 1, 49152, .inr (.inl (fun _ => 0)))), (a_18, .inl (G.2 1, 49152, .inr (.inl (fun _ => 0))))]) [0, 1, 2, 3, 4] (by decide) rfl
      have hFc := va_free (wc := [(a_y, .inr (12, [.int 0, .int 0, .ref a_1, .ref a_2, .ref a_3, .ref a_4, .int 0, .ref a_5, .int 0, .int 0, .int 0, .int 0, .long 0, .int (-1), .int 0, .int 0, .ref a_6, .int 0, .ref a_7, .ref a_8, .int 0, .ref a_9, .ref a_10, .int 0, .int 0, .ref a_11, .ref a_12, .int 0, .ref a_13, .ref a_14, .int 0, .long 0, .long 0, .int 0, .int 0, .int 0, .int 0, .int 0, .ref a_15, .int 0, .int 0, .ref a_16, .int 0, .ref a_17, .ref a_18, .ref a_19, .int 0, .ref a_20, .ref a_21, .long 0, .ref a_22, .int 0])), (a_2, .inl (G.2 0, 5740, .inl (upd (upd (upd (fun _ => 0) 3 (-1)) 4 1000) 6 (-1)))), (a_19, .inl (G.2 0, 1536, .inl (fun _ => 0))), (a_17, .inl (G.2 1, 49152, .inr (.inl (fun _ => 0)))), (a_18, .inl (G.2 1, 49152, .inr (.inl (fun _ => 0))))]) hD hS hA [0, 1, 2, 3, 4] rfl
      refine va_callv (va_runV (As := []) (rest := []) ⟨hx, hb, hml, hown, hts⟩ (k_mcountRows l G a_y a_2 a_19 a_17 a_18 a_1 a_3 a_4 a_5 a_6 a_7 a_8 a_9 a_10 a_11 a_12 a_13 a_14 a_15 a_16 a_20 a_21 a_22 H.size 0 0 0 0 0 0 0 (fun _ => 0) (fun _ => 0) (fun _ => 0)) (cwV 0 hts gV_X12_444 rfl rfl rfl hv_X12_countRows ⟨Nat.le_of_ble_eq_true rfl, Nat.le_of_ble_eq_true rfl⟩) (g5_preV hPc hK hDc hN hT hS hFc (ci := 12) (q0 := 0) rfl rfl) rfl rfl hl.1 rfl (lv_room (Nat.le_of_ble_eq_true rfl)) dX12_path_15 ⟨Nat.le_of_ble_eq_true rfl, Nat.le_of_ble_eq_true rfl⟩) hS (fun q _ h => hFc q h) hFc (fun u t H1 locs ht hvm hw hB hz1 hk1 hS => ?_)
      obtain ⟨hP1, hD1⟩ := hB
      rw [ht] at hP1
      obtain ⟨z7, z8, i_5, i_6, rfl⟩ := hw
      have i_5 : isE (fun _ => 0) z7 := i_5
      have i_6 : isD (fun _ => 0) z8 := i_6
      obtain ⟨hP, hD⟩ := va_join (wr := []) (w1 := [(a_y, .inr (12, [.int 0, .int 0, .ref a_1, .ref a_2, .ref a_3, .ref a_4, .int 0, .ref a_5, .int 0, .int 0, .int 0, .int 0, .long 0, .int (-1), .int 0, .int 0, .ref a_6, .int 0, .ref a_7, .ref a_8, .int 0, .ref a_9, .ref a_10, .int 0, .int 0, .ref a_11, .ref a_12, .int 0, .ref a_13, .ref a_14, .int 0, .long 0, .long 0, .int 0, .int 0, .int 0, .int 0, .int 0, .ref a_15, .int 0, .int 0, .ref a_16, .int 1, .ref a_17, .ref a_18, .ref a_19, .int 0, .ref a_20, .ref a_21, .long 0, .ref a_22, .int 0])), (a_2, .inl (G.2 0, 5740, .inl (upd (upd (upd (fun _ => 0) 3 (-1)) 4 1000) 6 (-1)))), (a_19, .inl (G.2 0, 1536, .inl (fun _ => 0))), (a_17, .inl (G.2 1, 49152, .inr (.inl z7))), (a_18, .inl (G.2 1, 49152, .inr (.inl z8)))]) hP hD [0, 1, 2, 3, 4] [] rfl rfl (by decide) (by decide) hk1 hFc hP1 hD1
      generalize H1 = H at hP hS ⊢
      have hP : va_P G.1 vwCl [(a_y, .inr (12, [.int 0, .int 0, .ref a_1, .ref a_2, .ref a_3, .ref a_4, .int 0, .ref a_5, .int 0, .int 0, .int 0, .int 0, .long 0, .int (-1), .int 0, .int 0, .ref a_6, .int 0, .ref a_7, .ref a_8, .int 0, .ref a_9, .ref a_10, .int 0, .int 0, .ref a_11, .ref a_12, .int 0, .ref a_13, .ref a_14, .int 0, .long 0, .long 0, .int 0, .int 0, .int 0, .int 0, .int 0, .ref a_15, .int 0, .int 0, .ref a_16, .int 1, .ref a_17, .ref a_18, .ref a_19, .int 0, .ref a_20, .ref a_21, .long 0, .ref a_22, .int 0])), (a_2, .inl (G.2 0, 5740, .inl (upd (upd (upd (fun _ => 0) 3 (-1)) 4 1000) 6 (-1)))), (a_19, .inl (G.2 0, 1536, .inl (fun _ => 0))), (a_17, .inl (G.2 1, 49152, .inr (.inl z7))), (a_18, .inl (G.2 1, 49152, .inr (.inl z8)))] H := hP
      have hD : va_D A [(a_y, .inr (12, [.int 0, .int 0, .ref a_1, .ref a_2, .ref a_3, .ref a_4, .int 0, .ref a_5, .int 0, .int 0, .int 0, .int 0, .long 0, .int (-1), .int 0, .int 0, .ref a_6, .int 0, .ref a_7, .ref a_8, .int 0, .ref a_9, .ref a_10, .int 0, .int 0, .ref a_11, .ref a_12, .int 0, .ref a_13, .ref a_14, .int 0, .long 0, .long 0, .int 0, .int 0, .int 0, .int 0, .int 0, .ref a_15, .int 0, .int 0, .ref a_16, .int 1, .ref a_17, .ref a_18, .ref a_19, .int 0, .ref a_20, .ref a_21, .long 0, .ref a_22, .int 0])), (a_2, .inl (G.2 0, 5740, .inl (upd (upd (upd (fun _ => 0) 3 (-1)) 4 1000) 6 (-1)))), (a_19, .inl (G.2 0, 1536, .inl (fun _ => 0))), (a_17, .inl (G.2 1, 49152, .inr (.inl z7))), (a_18, .inl (G.2 1, 49152, .inr (.inl z8)))] := hD
      refine lv_iconst (v := (-1)) hx hb dX12_path_18 (by decide) ?_
      refine lv_istore_n (lv' := [(2, .int (-1)), (0, .ref a_y), (1, .int p_h)]) hx hb dX12_path_19 rfl hl (by decide) rfl (fun ls hl => ?_)
      refine lv_iconst (v := 0) hx hb dX12_path_20 (by decide) ?_
      refine lv_istore_n (lv' := [(3, .int 0), (2, .int (-1)), (0, .ref a_y), (1, .int p_h)]) hx hb dX12_path_21 rfl hl (by decide) rfl (fun ls hl => ?_)
      refine lv_iconst (v := 0) hx hb dX12_path_22 (by decide) ?_
      refine lv_istore (lv' := [(4, .int 0), (3, .int 0), (2, .int (-1)), (0, .ref a_y), (1, .int p_h)]) hx hb dX12_path_23 hl (by decide) rfl (fun ls hl => ?_)
      refine lv_iload hx hb dX12_path_25 (lv_at hl 0 rfl) ?_
      refine lv_iload_n hx hb dX12_path_27 rfl (lv_at hl 4 rfl) ?_
      refine lv_icmp_gt (tgt := 194) hx hb dX12_path_28 (by decide) (fun c_9 => ?_) (fun c_9 => ?_)
      ·
        have i_9 : 0 > p_h.toInt := by have z := g5_gt (a := 0) (b := p_h.toInt) (by decide) (by rfl) c_9; omega
        omega
      ·
        have i_9 : 0 ≤ p_h.toInt := by have z := g5_gtN (a := 0) (b := p_h.toInt) (by decide) (by rfl) c_9; omega
        refine k_pathA G a_y a_2 a_19 a_17 a_18 a_1 a_3 a_4 a_5 a_6 a_7 a_8 a_9 a_10 a_11 a_12 a_13 a_14 a_15 a_16 a_20 a_21 a_22 0 0 0 0 0 0 0 z7 z8 p_h hx hb hml hown hts hK hN hT hA hP hD hS (lv_sub hl [0, 2, 1, 4, 3] rfl) (i_5) (i_6) (fun  ls H locs hl hP hD hS  => ?_)
        have hl : lv_has ls 8 [(4, .int 1), (2, .int 0), (3, .int 0), (1, .int p_h), (0, .ref a_y)] := hl
        have hP : va_P G.1 vwCl [(a_y, .inr (12, [.int 0, .int 0, .ref a_1, .ref a_2, .ref a_3, .ref a_4, .int 0, .ref a_5, .int 0, .int 0, .int 0, .int 0, .long 0, .int (-1), .int 0, .int 0, .ref a_6, .int 0, .ref a_7, .ref a_8, .int 0, .ref a_9, .ref a_10, .int 0, .int 0, .ref a_11, .ref a_12, .int 0, .ref a_13, .ref a_14, .int 0, .long 0, .long 0, .int 0, .int 0, .int 0, .int 0, .int 0, .ref a_15, .int 0, .int 0, .ref a_16, .int 1, .ref a_17, .ref a_18, .ref a_19, .int 0, .ref a_20, .ref a_21, .long 0, .ref a_22, .int 0])), (a_2, .inl (G.2 0, 5740, .inl (upd (upd (upd (fun _ => 0) 3 (-1)) 4 1000) 6 (-1)))), (a_19, .inl (G.2 0, 1536, .inl (fun _ => 0))), (a_17, .inl (G.2 1, 49152, .inr (.inl z7))), (a_18, .inl (G.2 1, 49152, .inr (.inl z8)))] H := hP
        have hD : va_D A [(a_y, .inr (12, [.int 0, .int 0, .ref a_1, .ref a_2, .ref a_3, .ref a_4, .int 0, .ref a_5, .int 0, .int 0, .int 0, .int 0, .long 0, .int (-1), .int 0, .int 0, .ref a_6, .int 0, .ref a_7, .ref a_8, .int 0, .ref a_9, .ref a_10, .int 0, .int 0, .ref a_11, .ref a_12, .int 0, .ref a_13, .ref a_14, .int 0, .long 0, .long 0, .int 0, .int 0, .int 0, .int 0, .int 0, .ref a_15, .int 0, .int 0, .ref a_16, .int 1, .ref a_17, .ref a_18, .ref a_19, .int 0, .ref a_20, .ref a_21, .long 0, .ref a_22, .int 0])), (a_2, .inl (G.2 0, 5740, .inl (upd (upd (upd (fun _ => 0) 3 (-1)) 4 1000) 6 (-1)))), (a_19, .inl (G.2 0, 1536, .inl (fun _ => 0))), (a_17, .inl (G.2 1, 49152, .inr (.inl z7))), (a_18, .inl (G.2 1, 49152, .inr (.inl z8)))] := hD
        refine g5_loop (α := (Int32)) (fun (k_h : (Int32)) (ls : Array Slot) (H : Heap) (locs : List Loc) => lv_has ls 8 [(4, .int k_h), (2, .int 0), (3, .int 0), (1, .int p_h), (0, .ref a_y)] ∧ va_P G.1 vwCl [(a_y, .inr (12, [.int 0, .int 0, .ref a_1, .ref a_2, .ref a_3, .ref a_4, .int 0, .ref a_5, .int 0, .int 0, .int 0, .int 0, .long 0, .int (-1), .int 0, .int 0, .ref a_6, .int 0, .ref a_7, .ref a_8, .int 0, .ref a_9, .ref a_10, .int 0, .int 0, .ref a_11, .ref a_12, .int 0, .ref a_13, .ref a_14, .int 0, .long 0, .long 0, .int 0, .int 0, .int 0, .int 0, .int 0, .ref a_15, .int 0, .int 0, .ref a_16, .int 1, .ref a_17, .ref a_18, .ref a_19, .int 0, .ref a_20, .ref a_21, .long 0, .ref a_22, .int 0])), (a_2, .inl (G.2 0, 5740, .inl (upd (upd (upd (fun _ => 0) 3 (-1)) 4 1000) 6 (-1)))), (a_19, .inl (G.2 0, 1536, .inl (fun _ => 0))), (a_17, .inl (G.2 1, 49152, .inr (.inl z7))), (a_18, .inl (G.2 1, 49152, .inr (.inl z8)))] H ∧ va_D A [(a_y, .inr (12, [.int 0, .int 0, .ref a_1, .ref a_2, .ref a_3, .ref a_4, .int 0, .ref a_5, .int 0, .int 0, .int 0, .int 0, .long 0, .int (-1), .int 0, .int 0, .ref a_6, .int 0, .ref a_7, .ref a_8, .int 0, .ref a_9, .ref a_10, .int 0, .int 0, .ref a_11, .ref a_12, .int 0, .ref a_13, .ref a_14, .int 0, .long 0, .long 0, .int 0, .int 0, .int 0, .int 0, .int 0, .ref a_15, .int 0, .int 0, .ref a_16, .int 1, .ref a_17, .ref a_18, .ref a_19, .int 0, .ref a_20, .ref a_21, .long 0, .ref a_22, .int 0])), (a_2, .inl (G.2 0, 5740, .inl (upd (upd (upd (fun _ => 0) 3 (-1)) 4 1000) 6 (-1)))), (a_19, .inl (G.2 0, 1536, .inl (fun _ => 0))), (a_17, .inl (G.2 1, 49152, .inr (.inl z7))), (a_18, .inl (G.2 1, 49152, .inr (.inl z8)))] ∧ va_S A s.heap H locs ∧ (1 ≤ k_h.toInt ∧ k_h.toInt ≤ 24) ∧ (k_h.toInt ≤ p_h.toInt + 1)) (fun (k_h : (Int32)) => Int.toNat (24 - k_h.toInt)) 1 ⟨lv_sub hl [0, 1, 2, 3, 4] rfl, hP, hD, hS, ⟨by decide, by decide⟩, by have z : (1 : Int32).toInt = 1 := (by decide); omega⟩ ?_
        rintro k_h ls H locs ⟨hl, hP, hD, hS, i_10, i_11⟩ ih_25_12
        have hl : lv_has ls 8 [(4, .int k_h), (2, .int 0), (3, .int 0), (1, .int p_h), (0, .ref a_y)] := hl
        have i_10 : 1 ≤ k_h.toInt ∧ k_h.toInt ≤ 24 := i_10
        have i_11 : k_h.toInt ≤ p_h.toInt + 1 := i_11
        have hP : va_P G.1 vwCl [(a_y, .inr (12, [.int 0, .int 0, .ref a_1, .ref a_2, .ref a_3, .ref a_4, .int 0, .ref a_5, .int 0, .int 0, .int 0, .int 0, .long 0, .int (-1), .int 0, .int 0, .ref a_6, .int 0, .ref a_7, .ref a_8, .int 0, .ref a_9, .ref a_10, .int 0, .int 0, .ref a_11, .ref a_12, .int 0, .ref a_13, .ref a_14, .int 0, .long 0, .long 0, .int 0, .int 0, .int 0, .int 0, .int 0, .ref a_15, .int 0, .int 0, .ref a_16, .int 1, .ref a_17, .ref a_18, .ref a_19, .int 0, .ref a_20, .ref a_21, .long 0, .ref a_22, .int 0])), (a_2, .inl (G.2 0, 5740, .inl (upd (upd (upd (fun _ => 0) 3 (-1)) 4 1000) 6 (-1)))), (a_19, .inl (G.2 0, 1536, .inl (fun _ => 0))), (a_17, .inl (G.2 1, 49152, .inr (.inl z7))), (a_18, .inl (G.2 1, 49152, .inr (.inl z8)))] H := hP
        have hD : va_D A [(a_y, .inr (12, [.int 0, .int 0, .ref a_1, .ref a_2, .ref a_3, .ref a_4, .int 0, .ref a_5, .int 0, .int 0, .int 0, .int 0, .long 0, .int (-1), .int 0, .int 0, .ref a_6, .int 0, .ref a_7, .ref a_8, .int 0, .ref a_9, .ref a_10, .int 0, .int 0, .ref a_11, .ref a_12, .int 0, .ref a_13, .ref a_14, .int 0, .long 0, .long 0, .int 0, .int 0, .int 0, .int 0, .int 0, .ref a_15, .int 0, .int 0, .ref a_16, .int 1, .ref a_17, .ref a_18, .ref a_19, .int 0, .ref a_20, .ref a_21, .long 0, .ref a_22, .int 0])), (a_2, .inl (G.2 0, 5740, .inl (upd (upd (upd (fun _ => 0) 3 (-1)) 4 1000) 6 (-1)))), (a_19, .inl (G.2 0, 1536, .inl (fun _ => 0))), (a_17, .inl (G.2 1, 49152, .inr (.inl z7))), (a_18, .inl (G.2 1, 49152, .inr (.inl z8)))] := hD
        refine lv_iload hx hb dX12_path_25 (lv_at hl 0 rfl) ?_
        refine lv_iload_n hx hb dX12_path_27 rfl (lv_at hl 3 rfl) ?_
        refine lv_icmp_gt (tgt := 194) hx hb dX12_path_28 (by decide) (fun c_13 => ?_) (fun c_13 => ?_)
        ·
          have i_13 : k_h.toInt > p_h.toInt := by have z := g5_gt (a := k_h.toInt) (b := p_h.toInt) (by rfl) (by rfl) c_13; omega
          refine lv_iload_n hx hb dX12_path_194 rfl (lv_at hl 1 rfl) ?_
          exact W.iret (v := 0) hx hb hr (fun t ht hW => ⟨⟨0, [], rfl, ⟨0, by have z : (0 : Int32).toInt = 0 := (by decide); unfold sp_path; omega, rfl, rfl⟩, by rw [ht]; exact hP.sub [] rfl, hD.sub [] (by decide) rfl⟩, hS.F ht⟩) hS.2.2 dX12_path_195
        ·
          have i_13 : k_h.toInt ≤ p_h.toInt := by have z := g5_gtN (a := k_h.toInt) (b := p_h.toInt) (by rfl) (by rfl) c_13; omega
          refine k_pathB G a_y a_2 a_19 a_17 a_18 a_1 a_3 a_4 a_5 a_6 a_7 a_8 a_9 a_10 a_11 a_12 a_13 a_14 a_15 a_16 a_20 a_21 a_22 0 0 0 0 0 0 0 z7 z8 p_h k_h hx hb hml hown hts hK hN hT hA hP hD hS (lv_sub hl [0, 1, 2, 3, 4] rfl) (⟨by omega, by omega⟩) (i_5) (i_6) (fun  ls H locs hl hP hD hS  => ?_)
          have hl : lv_has ls 8 [(4, .int (k_h + 1)), (2, .int 0), (3, .int 0), (1, .int p_h), (0, .ref a_y)] := hl
          have hP : va_P G.1 vwCl [(a_y, .inr (12, [.int 0, .int 0, .ref a_1, .ref a_2, .ref a_3, .ref a_4, .int 0, .ref a_5, .int 0, .int 0, .int 0, .int 0, .long 0, .int (-1), .int 0, .int 0, .ref a_6, .int 0, .ref a_7, .ref a_8, .int 0, .ref a_9, .ref a_10, .int 0, .int 0, .ref a_11, .ref a_12, .int 0, .ref a_13, .ref a_14, .int 0, .long 0, .long 0, .int 0, .int 0, .int 0, .int 0, .int 0, .ref a_15, .int 0, .int 0, .ref a_16, .int 1, .ref a_17, .ref a_18, .ref a_19, .int 0, .ref a_20, .ref a_21, .long 0, .ref a_22, .int 0])), (a_2, .inl (G.2 0, 5740, .inl (upd (upd (upd (fun _ => 0) 3 (-1)) 4 1000) 6 (-1)))), (a_19, .inl (G.2 0, 1536, .inl (fun _ => 0))), (a_17, .inl (G.2 1, 49152, .inr (.inl z7))), (a_18, .inl (G.2 1, 49152, .inr (.inl z8)))] H := hP
          have hD : va_D A [(a_y, .inr (12, [.int 0, .int 0, .ref a_1, .ref a_2, .ref a_3, .ref a_4, .int 0, .ref a_5, .int 0, .int 0, .int 0, .int 0, .long 0, .int (-1), .int 0, .int 0, .ref a_6, .int 0, .ref a_7, .ref a_8, .int 0, .ref a_9, .ref a_10, .int 0, .int 0, .ref a_11, .ref a_12, .int 0, .ref a_13, .ref a_14, .int 0, .long 0, .long 0, .int 0, .int 0, .int 0, .int 0, .int 0, .ref a_15, .int 0, .int 0, .ref a_16, .int 1, .ref a_17, .ref a_18, .ref a_19, .int 0, .ref a_20, .ref a_21, .long 0, .ref a_22, .int 0])), (a_2, .inl (G.2 0, 5740, .inl (upd (upd (upd (fun _ => 0) 3 (-1)) 4 1000) 6 (-1)))), (a_19, .inl (G.2 0, 1536, .inl (fun _ => 0))), (a_17, .inl (G.2 1, 49152, .inr (.inl z7))), (a_18, .inl (G.2 1, 49152, .inr (.inl z8)))] := hD
          have t_14 : (k_h + 1).toInt = k_h.toInt + 1 := g5_iadd (a := k_h.toInt) (b := 1) rfl (by decide) (by omega) (by omega)
          exact ih_25_12 (k_h + 1) ls H locs (show Int.toNat (24 - (k_h + 1).toInt) < Int.toNat (24 - k_h.toInt) by omega) ⟨lv_sub hl [0, 1, 2, 3, 4] rfl, hP, hD, hS, ⟨by omega, by omega⟩, by omega⟩
    ·
      exact absurd c_4 (by decide)
theorem dX12_core_0 : decode cX12_core 0 = .ok (.aload_n 0, 1) := by decide +kernel
theorem dX12_core_1 : decode cX12_core 1 = .ok (.iconst 0, 1) := by decide +kernel
theorem dX12_core_2 : decode cX12_core 2 = .ok (.putfield 107, 3) := by decide +kernel
theorem dX12_core_5 : decode cX12_core 5 = .ok (.iconst 1, 1) := by decide +kernel
theorem dX12_core_6 : decode cX12_core 6 = .ok (.aload_n 0, 1) := by decide +kernel
theorem dX12_core_7 : decode cX12_core 7 = .ok (.getfield 13, 3) := by decide +kernel
theorem dX12_core_10 : decode cX12_core 10 = .ok (.iconst 5, 1) := by decide +kernel
theorem dX12_core_11 : decode cX12_core 11 = .ok (.iaload, 1) := by decide +kernel
theorem dX12_core_12 : decode cX12_core 12 = .ok (.ishl, 1) := by decide +kernel
theorem dX12_core_13 : decode cX12_core 13 = .ok (.iconst 1, 1) := by decide +kernel
theorem dX12_core_14 : decode cX12_core 14 = .ok (.isub, 1) := by decide +kernel
theorem dX12_core_15 : decode cX12_core 15 = .ok (.istore_n 1, 1) := by decide +kernel
theorem dX12_core_16 : decode cX12_core 16 = .ok (.aload_n 0, 1) := by decide +kernel
theorem dX12_core_17 : decode cX12_core 17 = .ok (.iload_n 1, 1) := by decide +kernel
theorem dX12_core_18 : decode cX12_core 18 = .ok (.invokevirtual 451, 3) := by decide +kernel
theorem dX12_core_21 : decode cX12_core 21 = .ok (.ifCond .eq 5, 3) := by decide +kernel
theorem dX12_core_24 : decode cX12_core 24 = .ok (.iconst 0, 1) := by decide +kernel
theorem dX12_core_25 : decode cX12_core 25 = .ok (.ireturn, 1) := by decide +kernel
theorem dX12_core_26 : decode cX12_core 26 = .ok (.aload_n 0, 1) := by decide +kernel
theorem dX12_core_27 : decode cX12_core 27 = .ok (.iconst 0, 1) := by decide +kernel
theorem dX12_core_28 : decode cX12_core 28 = .ok (.invokevirtual 451, 3) := by decide +kernel
theorem dX12_core_31 : decode cX12_core 31 = .ok (.ifCond .ne 5, 3) := by decide +kernel
theorem dX12_core_34 : decode cX12_core 34 = .ok (.iconst (-1), 1) := by decide +kernel
theorem dX12_core_35 : decode cX12_core 35 = .ok (.ireturn, 1) := by decide +kernel
theorem dX12_core_36 : decode cX12_core 36 = .ok (.iconst 0, 1) := by decide +kernel
theorem dX12_core_37 : decode cX12_core 37 = .ok (.istore_n 2, 1) := by decide +kernel
theorem dX12_core_38 : decode cX12_core 38 = .ok (.iload_n 2, 1) := by decide +kernel
theorem dX12_core_39 : decode cX12_core 39 = .ok (.aload_n 0, 1) := by decide +kernel
theorem dX12_core_40 : decode cX12_core 40 = .ok (.getfield 13, 3) := by decide +kernel
theorem dX12_core_43 : decode cX12_core 43 = .ok (.iconst 5, 1) := by decide +kernel
theorem dX12_core_44 : decode cX12_core 44 = .ok (.iaload, 1) := by decide +kernel
theorem dX12_core_45 : decode cX12_core 45 = .ok (.if_icmp .ge 35, 3) := by decide +kernel
theorem dX12_core_48 : decode cX12_core 48 = .ok (.aload_n 0, 1) := by decide +kernel
theorem dX12_core_49 : decode cX12_core 49 = .ok (.iload_n 1, 1) := by decide +kernel
theorem dX12_core_50 : decode cX12_core 50 = .ok (.iconst 1, 1) := by decide +kernel
theorem dX12_core_51 : decode cX12_core 51 = .ok (.iload_n 2, 1) := by decide +kernel
theorem dX12_core_52 : decode cX12_core 52 = .ok (.ishl, 1) := by decide +kernel
theorem dX12_core_53 : decode cX12_core 53 = .ok (.iconst (-1), 1) := by decide +kernel
theorem dX12_core_54 : decode cX12_core 54 = .ok (.ixor, 1) := by decide +kernel
theorem dX12_core_55 : decode cX12_core 55 = .ok (.iand, 1) := by decide +kernel
theorem dX12_core_56 : decode cX12_core 56 = .ok (.invokevirtual 451, 3) := by decide +kernel
theorem dX12_core_59 : decode cX12_core 59 = .ok (.ifCond .eq 7, 3) := by decide +kernel
theorem dX12_core_62 : decode cX12_core 62 = .ok (.iload_n 1, 1) := by decide +kernel
theorem dX12_core_63 : decode cX12_core 63 = .ok (.goto 10, 3) := by decide +kernel
theorem dX12_core_66 : decode cX12_core 66 = .ok (.iload_n 1, 1) := by decide +kernel
theorem dX12_core_67 : decode cX12_core 67 = .ok (.iconst 1, 1) := by decide +kernel
theorem dX12_core_68 : decode cX12_core 68 = .ok (.iload_n 2, 1) := by decide +kernel
theorem dX12_core_69 : decode cX12_core 69 = .ok (.ishl, 1) := by decide +kernel
theorem dX12_core_70 : decode cX12_core 70 = .ok (.iconst (-1), 1) := by decide +kernel
theorem dX12_core_71 : decode cX12_core 71 = .ok (.ixor, 1) := by decide +kernel
theorem dX12_core_72 : decode cX12_core 72 = .ok (.iand, 1) := by decide +kernel
theorem dX12_core_73 : decode cX12_core 73 = .ok (.istore_n 1, 1) := by decide +kernel
theorem dX12_core_74 : decode cX12_core 74 = .ok (.iinc 2 1, 3) := by decide +kernel
theorem dX12_core_77 : decode cX12_core 77 = .ok (.goto (-39), 3) := by decide +kernel
theorem dX12_core_80 : decode cX12_core 80 = .ok (.iload_n 1, 1) := by decide +kernel
theorem dX12_core_81 : decode cX12_core 81 = .ok (.ireturn, 1) := by decide +kernel
theorem ml_X12_451 : Cond.methodLink RX12 451 yX12_canFit ∈ tblG := tg 1748 (by decide +kernel) (by decide +kernel)
theorem im_X12_canFit : Cond.instanceMethod yX12_canFit ∈ tblG := tg 1750 (by decide +kernel) (by decide +kernel)
theorem se_X12_canFit : Cond.selects RX12 yX12_canFit yX12_canFit ∈ tblG := tg 83 (by decide +kernel) (by decide +kernel)
theorem cd_X12_canFit : Cond.code yX12_canFit cX12_canFit 2 (some .boolean) ∈ tblG := tg 1751 (by decide +kernel) (by decide +kernel)
theorem gW_X12_canFit : GoodIn tblG (wsG yX12_canFit cX12_canFit 2 (some .boolean)) := tgi cd_X12_canFit
theorem gV_X12_451 : GoodIn tblG (wsV RX12 451 RX12 yX12_canFit (wsG yX12_canFit cX12_canFit 2 (some .boolean))) := tgV ml_X12_451 im_X12_canFit se_X12_canFit ini_X12 gW_X12_canFit
theorem hv_X12_canFit : yX12_canFit.cls = RX12 ∧ yX12_canFit.cls ≠ "java/lang/invoke/MethodHandle" ∧ yX12_canFit.cls ≠ "java/lang/invoke/VarHandle" ∧ (parseMethodDescriptor yX12_canFit.desc).map (fun d => d.parameters.length) = some 1 := by decide +kernel
set_option maxHeartbeats 4000000 in
set_option maxRecDepth 100000 in
theorem k_mcore (l : Launch) (G : g5_G) (a_y a_2 a_19 a_17 a_18 a_1 a_3 a_4 a_5 a_6 a_7 a_8 a_9 a_10 a_11 a_12 a_13 a_14 a_15 a_16 a_20 a_21 a_22 : Nat) (sz : Nat) : Met l yX12_core (wsG yX12_core cX12_core 3 (some .int)) ({ frames := 10, cells := 0, slots := 0, locals := 447 }) (va_Pc [.ref a_y] (g5_P G [(a_y, .inr (12, [.int 0, .int 0, .ref a_1, .ref a_2, .ref a_3, .ref a_4, .int 0, .ref a_5, .int 0, .int 0, .int 0, .int 0, .long 0, .int (-1), .int 0, .int 0, .ref a_6, .int 0, .ref a_7, .ref a_8, .int 0, .ref a_9, .ref a_10, .int 0, .int 0, .ref a_11, .ref a_12, .int 0, .ref a_13, .ref a_14, .int 0, .long 0, .long 0, .int 0, .int 0, .int 0, .int 0, .int 0, .ref a_15, .int 0, .int 0, .ref a_16, .int 0, .ref a_17, .ref a_18, .ref a_19, .int 0, .ref a_20, .ref a_21, .long 0, .ref a_22, .int 0])), (a_2, .inl (G.2 0, 5740, .inl (upd (upd (upd (fun _ => 0) 3 (-1)) 4 1000) 6 (-1)))), (a_19, .inl (G.2 0, 1536, .inl (fun _ => 0))), (a_17, .inl (G.2 1, 49152, .inr (.inl (fun _ => 0)))), (a_18, .inl (G.2 1, 49152, .inr (.inl (fun _ => 0))))] sz)) (va_Qi (fun (r : Int32) (u : va_W) => (∃ (o_r : Int32), (o_r.toInt = sp_core) ∧ (r = o_r) ∧ (u = []))) (g5_B G (va_A [(a_y, .inr (12, [.int 0, .int 0, .ref a_1, .ref a_2, .ref a_3, .ref a_4, .int 0, .ref a_5, .int 0, .int 0, .int 0, .int 0, .long 0, .int (-1), .int 0, .int 0, .ref a_6, .int 0, .ref a_7, .ref a_8, .int 0, .ref a_9, .ref a_10, .int 0, .int 0, .ref a_11, .ref a_12, .int 0, .ref a_13, .ref a_14, .int 0, .long 0, .long 0, .int 0, .int 0, .int 0, .int 0, .int 0, .ref a_15, .int 0, .int 0, .ref a_16, .int 0, .ref a_17, .ref a_18, .ref a_19, .int 0, .ref a_20, .ref a_21, .long 0, .ref a_22, .int 0])), (a_2, .inl (G.2 0, 5740, .inl (upd (upd (upd (fun _ => 0) 3 (-1)) 4 1000) 6 (-1)))), (a_19, .inl (G.2 0, 1536, .inl (fun _ => 0))), (a_17, .inl (G.2 1, 49152, .inr (.inl (fun _ => 0)))), (a_18, .inl (G.2 1, 49152, .inr (.inl (fun _ => 0))))] sz)) (va_A [(a_y, .inr (12, [.int 0, .int 0, .ref a_1, .ref a_2, .ref a_3, .ref a_4, .int 0, .ref a_5, .int 0, .int 0, .int 0, .int 0, .long 0, .int (-1), .int 0, .int 0, .ref a_6, .int 0, .ref a_7, .ref a_8, .int 0, .ref a_9, .ref a_10, .int 0, .int 0, .ref a_11, .ref a_12, .int 0, .ref a_13, .ref a_14, .int 0, .long 0, .long 0, .int 0, .int 0, .int 0, .int 0, .int 0, .ref a_15, .int 0, .int 0, .ref a_16, .int 0, .ref a_17, .ref a_18, .ref a_19, .int 0, .ref a_20, .ref a_21, .long 0, .ref a_22, .int 0])), (a_2, .inl (G.2 0, 5740, .inl (upd (upd (upd (fun _ => 0) 3 (-1)) 4 1000) 6 (-1)))), (a_19, .inl (G.2 0, 1536, .inl (fun _ => 0))), (a_17, .inl (G.2 1, 49152, .inr (.inl (fun _ => 0)))), (a_18, .inl (G.2 1, 49152, .inr (.inl (fun _ => 0))))] sz)) 0 0 (va_A [(a_y, .inr (12, [.int 0, .int 0, .ref a_1, .ref a_2, .ref a_3, .ref a_4, .int 0, .ref a_5, .int 0, .int 0, .int 0, .int 0, .long 0, .int (-1), .int 0, .int 0, .ref a_6, .int 0, .ref a_7, .ref a_8, .int 0, .ref a_9, .ref a_10, .int 0, .int 0, .ref a_11, .ref a_12, .int 0, .ref a_13, .ref a_14, .int 0, .long 0, .long 0, .int 0, .int 0, .int 0, .int 0, .int 0, .ref a_15, .int 0, .int 0, .ref a_16, .int 0, .ref a_17, .ref a_18, .ref a_19, .int 0, .ref a_20, .ref a_21, .long 0, .ref a_22, .int 0])), (a_2, .inl (G.2 0, 5740, .inl (upd (upd (upd (fun _ => 0) 3 (-1)) 4 1000) 6 (-1)))), (a_19, .inl (G.2 0, 1536, .inl (fun _ => 0))), (a_17, .inl (G.2 1, 49152, .inr (.inl (fun _ => 0)))), (a_18, .inl (G.2 1, 49152, .inr (.inl (fun _ => 0))))] sz) := by
  refine Met.ofW (cc := cX12_core) (maxL := 3) (ret := (some .int)) (by decide) rfl ?_
  intro p e s m args below meth c s₁ B hml hv
  obtain ⟨rfl, hsz, hP, hK, hD0, hN, hT⟩ := hv
  have hx := B.exec
  have hb := B.bytes
  have hr := B.returns
  have hts : ∀ w ∈ tblG, w.before _ s = true := fun w h => atoms_spec (ws := (wsG yX12_core cX12_core 3 (some .int))) B.pre w (List.mem_cons_of_mem _ h)
  have hown : s.vm.findClass RX12 = some m.cls := findClass_of_methodNamed B.named
  have hlocks := B.notSynchronized
  subst hsz
  have hD := hD0.self (sz := s.heap.size)
  generalize hAe : va_A [(a_y, .inr (12, [.int 0, .int 0, .ref a_1, .ref a_2, .ref a_3, .ref a_4, .int 0, .ref a_5, .int 0, .int 0, .int 0, .int 0, .long 0, .int (-1), .int 0, .int 0, .ref a_6, .int 0, .ref a_7, .ref a_8, .int 0, .ref a_9, .ref a_10, .int 0, .int 0, .ref a_11, .ref a_12, .int 0, .ref a_13, .ref a_14, .int 0, .long 0, .long 0, .int 0, .int 0, .int 0, .int 0, .int 0, .ref a_15, .int 0, .int 0, .ref a_16, .int 0, .ref a_17, .ref a_18, .ref a_19, .int 0, .ref a_20, .ref a_21, .long 0, .ref a_22, .int 0])), (a_2, .inl (G.2 0, 5740, .inl (upd (upd (upd (fun _ => 0) 3 (-1)) 4 1000) 6 (-1)))), (a_19, .inl (G.2 0, 1536, .inl (fun _ => 0))), (a_17, .inl (G.2 1, 49152, .inr (.inl (fun _ => 0)))), (a_18, .inl (G.2 1, 49152, .inr (.inl (fun _ => 0))))] s.heap.size = A at hD hT ⊢
  have hA : ∀ q : Nat, s.heap.size ≤ q → A q := fun q h => by rw [← hAe]; exact Or.inr h
  have hS : va_S A s.heap s.heap [] := va_S.rf
  have hP : va_P G.1 vwCl [(a_y, .inr (12, [.int 0, .int 0, .ref a_1, .ref a_2, .ref a_3, .ref a_4, .int 0, .ref a_5, .int 0, .int 0, .int 0, .int 0, .long 0, .int (-1), .int 0, .int 0, .ref a_6, .int 0, .ref a_7, .ref a_8, .int 0, .ref a_9, .ref a_10, .int 0, .int 0, .ref a_11, .ref a_12, .int 0, .ref a_13, .ref a_14, .int 0, .long 0, .long 0, .int 0, .int 0, .int 0, .int 0, .int 0, .ref a_15, .int 0, .int 0, .ref a_16, .int 0, .ref a_17, .ref a_18, .ref a_19, .int 0, .ref a_20, .ref a_21, .long 0, .ref a_22, .int 0])), (a_2, .inl (G.2 0, 5740, .inl (upd (upd (upd (fun _ => 0) 3 (-1)) 4 1000) 6 (-1)))), (a_19, .inl (G.2 0, 1536, .inl (fun _ => 0))), (a_17, .inl (G.2 1, 49152, .inr (.inl (fun _ => 0)))), (a_18, .inl (G.2 1, 49152, .inr (.inl (fun _ => 0))))] s.heap := hP
  have hl := lv_entry ([.ref a_y]) (n := 3) (Nat.le_of_ble_eq_true rfl)
  rw [lg_entry_eq]
  generalize (lg_sl ([.ref a_y]) ++ List.replicate (3 - (lg_sl ([.ref a_y])).length) Slot.unset).toArray = ls at hl ⊢
  have hl : lv_has ls 3 [(0, .ref a_y)] := hl
  refine lv_aload_n hx hb dX12_core_0 rfl (lv_at hl 0 rfl) ?_
  refine lv_iconst (v := 0) hx hb dX12_core_1 (by decide) ?_
  refine va_put (D := G.1) (ci := 12) (v := .int 0) (ty := .int) (C := RX12) (T := TX12) (N := 52) hx hb hts inG_X12 tyX12 tyX12_ok nmX12 hown hK hP hD hS 0 rfl rfl 0 (by decide) (hts _ fl_X12_107) (fun _ h9 => h9) rfl (by decide +kernel) rfl rfl (Nat.le_of_ble_eq_true rfl) dX12_core_2 (fun H locs hP hD hS => ?_)
  have hP : va_P G.1 vwCl [(a_y, .inr (12, [.int 0, .int 0, .ref a_1, .ref a_2, .ref a_3, .ref a_4, .int 0, .ref a_5, .int 0, .int 0, .int 0, .int 0, .long 0, .int (-1), .int 0, .int 0, .ref a_6, .int 0, .ref a_7, .ref a_8, .int 0, .ref a_9, .ref a_10, .int 0, .int 0, .ref a_11, .ref a_12, .int 0, .ref a_13, .ref a_14, .int 0, .long 0, .long 0, .int 0, .int 0, .int 0, .int 0, .int 0, .ref a_15, .int 0, .int 0, .ref a_16, .int 0, .ref a_17, .ref a_18, .ref a_19, .int 0, .ref a_20, .ref a_21, .long 0, .ref a_22, .int 0])), (a_2, .inl (G.2 0, 5740, .inl (upd (upd (upd (fun _ => 0) 3 (-1)) 4 1000) 6 (-1)))), (a_19, .inl (G.2 0, 1536, .inl (fun _ => 0))), (a_17, .inl (G.2 1, 49152, .inr (.inl (fun _ => 0)))), (a_18, .inl (G.2 1, 49152, .inr (.inl (fun _ => 0))))] H := hP
  have hD : va_D A [(a_y, .inr (12, [.int 0, .int 0, .ref a_1, .ref a_2, .ref a_3, .ref a_4, .int 0, .ref a_5, .int 0, .int 0, .int 0, .int 0, .long 0, .int (-1), .int 0, .int 0, .ref a_6, .int 0, .ref a_7, .ref a_8, .int 0, .ref a_9, .ref a_10, .int 0, .int 0, .ref a_11, .ref a_12, .int 0, .ref a_13, .ref a_14, .int 0, .long 0, .long 0, .int 0, .int 0, .int 0, .int 0, .int 0, .ref a_15, .int 0, .int 0, .ref a_16, .int 0, .ref a_17, .ref a_18, .ref a_19, .int 0, .ref a_20, .ref a_21, .long 0, .ref a_22, .int 0])), (a_2, .inl (G.2 0, 5740, .inl (upd (upd (upd (fun _ => 0) 3 (-1)) 4 1000) 6 (-1)))), (a_19, .inl (G.2 0, 1536, .inl (fun _ => 0))), (a_17, .inl (G.2 1, 49152, .inr (.inl (fun _ => 0)))), (a_18, .inl (G.2 1, 49152, .inr (.inl (fun _ => 0))))] := hD
  refine lv_iconst (v := 1) hx hb dX12_core_5 (by decide) ?_
  refine lv_aload_n hx hb dX12_core_6 rfl (lv_at hl 0 rfl) ?_
  refine va_get (D := G.1) (ci := 12) (v := .ref a_2) (C := RX12) (T := TX12) (N := 52) hx hb hts inG_X12 hown hK hP 0 rfl rfl 3 (by decide) (hts _ fl_X12_13) (fun _ h9 => h9) rfl dX12_core_7 ?_
  refine lv_iconst (v := 5) hx hb dX12_core_10 (by decide) ?_
  refine va_iald hx hb hK hP 1 0 rfl rfl (i := 5) (by unfold vp_in; decide) dX12_core_11 ?_
  refine g5_ti (v := 0) rfl ?_
  refine lv_ishl hx hb dX12_core_12 ?_
  refine g5_ti (v := 1) (by decide) ?_
  refine lv_iconst (v := 1) hx hb dX12_core_13 (by decide) ?_
  refine lv_isub hx hb dX12_core_14 ?_
  refine g5_ti (v := 0) (by decide) ?_
  refine lv_istore_n (lv' := [(1, .int 0), (0, .ref a_y)]) hx hb dX12_core_15 rfl hl (by decide) rfl (fun ls hl => ?_)
  refine lv_aload_n hx hb dX12_core_16 rfl (lv_at hl 1 rfl) ?_
  refine lv_iload_n hx hb dX12_core_17 rfl (lv_at hl 0 rfl) ?_
  have hPc := hP.sub (ws' := [(a_y, .inr (12, [.int 0, .int 0, .ref a_1, .ref a_2, .ref a_3, .ref a_4, .int 0, .ref a_5, .int 0, .int 0, .int 0, .int 0, .long 0, .int (-1), .int 0, .int 0, .ref a_6, .int 0, .ref a_7, .ref a_8, .int 0, .ref a_9, .ref a_10, .int 0, .int 0, .ref a_11, .ref a_12, .int 0, .ref a_13, .ref a_14, .int 0, .long 0, .long 0, .int 0, .int 0, .int 0, .int 0, .int 0, .ref a_15, .int 0, .int 0, .ref a_16, .int 0, .ref a_17, .ref a_18, .ref a_19, .int 0, .ref a_20, .ref a_21, .long 0, .ref a_22, .int 0])), (a_2, .inl (G.2 0, 5740, .inl (upd (upd (upd (fun _ => 0) 3 (-1)) 4 1000) 6 (-1)))), (a_19, .inl (G.2 0, 1536, .inl (fun _ => 0))), (a_17, .inl (G.2 1, 49152, .inr (.inl (fun _ => 0)))), (a_18, .inl (G.2 1, 49152, .inr (.inl (fun _ => 0))))]) [0, 1, 2, 3, 4] rfl
  have hDc := hD.sub (ws' := [(a_y, .inr (12, [.int 0, .int 0, .ref a_1, .ref a_2, .ref a_3, .ref a_4, .int 0, .ref a_5, .int 0, .int 0, .int 0, .int 0, .long 0, .int (-1), .int 0, .int 0, .ref a_6, .int 0, .ref a_7, .ref a_8, .int 0, .ref a_9, .ref a_10, .int 0, .int 0, .ref a_11, .ref a_12, .int 0, .ref a_13, .ref a_14, .int 0, .long 0, .long 0, .int 0, .int 0, .int 0, .int 0, .int 0, .ref a_15, .int 0, .int 0, .ref a_16, .int 0, .ref a_17, .ref a_18, .ref a_19, .int 0, .ref a_20, .ref a_21, .long 0, .ref a_22, .int 0])), (a_2, .inl (G.2 0, 5740, .inl (upd (upd (upd (fun _ => 0) 3 (-1)) 4 1000) 6 (-1)))), (a_19, .inl (G.2 0, 1536, .inl (fun _ => 0))), (a_17, .inl (G.2 1, 49152, .inr (.inl (fun _ => 0)))), (a_18, .inl (G.2 1, 49152, .inr (.inl (fun _ => 0))))]) [0, 1, 2, 3, 4] (by decide) rfl
  have hFc := va_free (wc := [(a_y, .inr (12, [.int 0, .int 0, .ref a_1, .ref a_2, .ref a_3, .ref a_4, .int 0, .ref a_5, .int 0, .int 0, .int 0, .int 0, .long 0, .int (-1), .int 0, .int 0, .ref a_6, .int 0, .ref a_7, .ref a_8, .int 0, .ref a_9, .ref a_10, .int 0, .int 0, .ref a_11, .ref a_12, .int 0, .ref a_13, .ref a_14, .int 0, .long 0, .long 0, .int 0, .int 0, .int 0, .int 0, .int 0, .ref a_15, .int 0, .int 0, .ref a_16, .int 0, .ref a_17, .ref a_18, .ref a_19, .int 0, .ref a_20, .ref a_21, .long 0, .ref a_22, .int 0])), (a_2, .inl (G.2 0, 5740, .inl (upd (upd (upd (fun _ => 0) 3 (-1)) 4 1000) 6 (-1)))), (a_19, .inl (G.2 0, 1536, .inl (fun _ => 0))), (a_17, .inl (G.2 1, 49152, .inr (.inl (fun _ => 0)))), (a_18, .inl (G.2 1, 49152, .inr (.inl (fun _ => 0))))]) hD hS hA [0, 1, 2, 3, 4] rfl
  refine va_calli (va_runV (As := [.int 0]) (rest := []) ⟨hx, hb, hml, hown, hts⟩ (k_mcanFit l G a_y a_2 a_19 a_17 a_18 a_1 a_3 a_4 a_5 a_6 a_7 a_8 a_9 a_10 a_11 a_12 a_13 a_14 a_15 a_16 a_20 a_21 a_22 H.size 0 0 0 0 0 0 0 0 (fun _ => 0) (fun _ => 0) (fun _ => 0)) (cwV 1 hts gV_X12_451 rfl rfl rfl hv_X12_canFit ⟨Nat.le_of_ble_eq_true rfl, Nat.le_of_ble_eq_true rfl⟩) (g5_preV hPc hK hDc hN hT hS hFc (ci := 12) (q0 := 0) rfl rfl) rfl rfl hl.1 rfl (lv_room (Nat.le_of_ble_eq_true rfl)) dX12_core_18 ⟨Nat.le_of_ble_eq_true rfl, Nat.le_of_ble_eq_true rfl⟩) hS (fun q _ h => hFc q h) hFc (fun r u t H1 locs ht hvm hw hB hz1 hk1 hS => ?_)
  obtain ⟨hP1, hD1⟩ := hB
  rw [ht] at hP1
  obtain ⟨rfl, rfl⟩ := hw
  obtain ⟨hP, hD⟩ := va_join (wr := []) (w1 := []) hP hD [0, 1, 2, 3, 4] [] rfl rfl (by decide) (by decide) hk1 hFc hP1 hD1
  generalize H1 = H at hP hS ⊢
  have hP : va_P G.1 vwCl [] H := hP
  have hD : va_D A [] := hD
  refine lv_if_eq (tgt := 26) hx hb dX12_core_21 (by decide) (fun c_1 => ?_) (fun c_1 => ?_)
  ·
    exact absurd c_1 (by decide)
  ·
    refine lv_iconst (v := 0) hx hb dX12_core_24 (by decide) ?_
    exact W.iret (v := 0) hx hb hr (fun t ht hW => ⟨⟨0, [], rfl, ⟨0, by have z : (0 : Int32).toInt = 0 := (by decide); unfold sp_core; omega, rfl, rfl⟩, by rw [ht]; exact hP.sub [] rfl, hD.sub [] (by decide) rfl⟩, hS.F ht⟩) hS.2.2 dX12_core_25
theorem dX12_surely_0 : decode cX12_surely 0 = .ok (.aload_n 0, 1) := by decide +kernel
theorem dX12_surely_1 : decode cX12_surely 1 = .ok (.iconst 0, 1) := by decide +kernel
theorem dX12_surely_2 : decode cX12_surely 2 = .ok (.putfield 107, 3) := by decide +kernel
theorem dX12_surely_5 : decode cX12_surely 5 = .ok (.iload_n 1, 1) := by decide +kernel
theorem dX12_surely_6 : decode cX12_surely 6 = .ok (.invokestatic 175, 3) := by decide +kernel
theorem dX12_surely_9 : decode cX12_surely 9 = .ok (.ifCond .ne 5, 3) := by decide +kernel
theorem dX12_surely_12 : decode cX12_surely 12 = .ok (.iconst (-1), 1) := by decide +kernel
theorem dX12_surely_13 : decode cX12_surely 13 = .ok (.ireturn, 1) := by decide +kernel
theorem dX12_surely_14 : decode cX12_surely 14 = .ok (.aload_n 0, 1) := by decide +kernel
theorem dX12_surely_15 : decode cX12_surely 15 = .ok (.invokevirtual 444, 3) := by decide +kernel
theorem dX12_surely_18 : decode cX12_surely 18 = .ok (.iconst (-1), 1) := by decide +kernel
theorem dX12_surely_19 : decode cX12_surely 19 = .ok (.istore_n 2, 1) := by decide +kernel
theorem dX12_surely_20 : decode cX12_surely 20 = .ok (.iconst 0, 1) := by decide +kernel
theorem dX12_surely_21 : decode cX12_surely 21 = .ok (.istore_n 3, 1) := by decide +kernel
theorem dX12_surely_22 : decode cX12_surely 22 = .ok (.iconst 0, 1) := by decide +kernel
theorem dX12_surely_23 : decode cX12_surely 23 = .ok (.istore 4, 2) := by decide +kernel
theorem dX12_surely_25 : decode cX12_surely 25 = .ok (.iload 4, 2) := by decide +kernel
theorem dX12_surely_27 : decode cX12_surely 27 = .ok (.bipush 64, 2) := by decide +kernel
theorem dX12_surely_29 : decode cX12_surely 29 = .ok (.if_icmp .ge 48, 3) := by decide +kernel
theorem dX12_surely_32 : decode cX12_surely 32 = .ok (.aload_n 0, 1) := by decide +kernel
theorem dX12_surely_33 : decode cX12_surely 33 = .ok (.iload_n 1, 1) := by decide +kernel
theorem dX12_surely_34 : decode cX12_surely 34 = .ok (.iload 4, 2) := by decide +kernel
theorem dX12_surely_36 : decode cX12_surely 36 = .ok (.invokevirtual 440, 3) := by decide +kernel
theorem dX12_surely_39 : decode cX12_surely 39 = .ok (.lconst 0, 1) := by decide +kernel
theorem dX12_surely_40 : decode cX12_surely 40 = .ok (.lcmp, 1) := by decide +kernel
theorem dX12_surely_41 : decode cX12_surely 41 = .ok (.ifCond .le 8, 3) := by decide +kernel
theorem dX12_surely_44 : decode cX12_surely 44 = .ok (.iload 4, 2) := by decide +kernel
theorem dX12_surely_46 : decode cX12_surely 46 = .ok (.goto 4, 3) := by decide +kernel
theorem dX12_surely_49 : decode cX12_surely 49 = .ok (.iload_n 2, 1) := by decide +kernel
theorem dX12_surely_50 : decode cX12_surely 50 = .ok (.istore_n 2, 1) := by decide +kernel
theorem dX12_surely_51 : decode cX12_surely 51 = .ok (.iload_n 3, 1) := by decide +kernel
theorem dX12_surely_52 : decode cX12_surely 52 = .ok (.aload_n 0, 1) := by decide +kernel
theorem dX12_surely_53 : decode cX12_surely 53 = .ok (.iload_n 1, 1) := by decide +kernel
theorem dX12_surely_54 : decode cX12_surely 54 = .ok (.iload 4, 2) := by decide +kernel
theorem dX12_surely_56 : decode cX12_surely 56 = .ok (.invokevirtual 440, 3) := by decide +kernel
theorem dX12_surely_59 : decode cX12_surely 59 = .ok (.lconst 0, 1) := by decide +kernel
theorem dX12_surely_60 : decode cX12_surely 60 = .ok (.lcmp, 1) := by decide +kernel
theorem dX12_surely_61 : decode cX12_surely 61 = .ok (.ifCond .le 7, 3) := by decide +kernel
theorem dX12_surely_64 : decode cX12_surely 64 = .ok (.iconst 1, 1) := by decide +kernel
theorem dX12_surely_65 : decode cX12_surely 65 = .ok (.goto 4, 3) := by decide +kernel
theorem dX12_surely_68 : decode cX12_surely 68 = .ok (.iconst 0, 1) := by decide +kernel
theorem dX12_surely_69 : decode cX12_surely 69 = .ok (.iadd, 1) := by decide +kernel
theorem dX12_surely_70 : decode cX12_surely 70 = .ok (.istore_n 3, 1) := by decide +kernel
theorem dX12_surely_71 : decode cX12_surely 71 = .ok (.iinc 4 1, 3) := by decide +kernel
theorem dX12_surely_74 : decode cX12_surely 74 = .ok (.goto (-49), 3) := by decide +kernel
theorem dX12_surely_77 : decode cX12_surely 77 = .ok (.iload_n 3, 1) := by decide +kernel
theorem dX12_surely_78 : decode cX12_surely 78 = .ok (.iconst 1, 1) := by decide +kernel
theorem dX12_surely_79 : decode cX12_surely 79 = .ok (.if_icmp .ne 7, 3) := by decide +kernel
theorem dX12_surely_82 : decode cX12_surely 82 = .ok (.iload_n 2, 1) := by decide +kernel
theorem dX12_surely_83 : decode cX12_surely 83 = .ok (.goto 4, 3) := by decide +kernel
theorem dX12_surely_86 : decode cX12_surely 86 = .ok (.iconst (-1), 1) := by decide +kernel
theorem dX12_surely_87 : decode cX12_surely 87 = .ok (.ireturn, 1) := by decide +kernel
