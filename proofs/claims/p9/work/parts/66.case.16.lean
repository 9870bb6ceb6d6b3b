set_option maxHeartbeats 4000000 in
set_option maxRecDepth 100000 in
theorem lc_point {p : Program} {l : Launch} {e : Env} {s : State} {m : MethodId} {below : List Frame} {meth : Method} {c : Code} {b Ls : Nat} {xs : Nat → Int32} {G : g5_G} {A : Nat → Prop} {Q : State → Prop} {H : Heap} {locs : List Loc} {ls : Array Slot} {cells slots : Nat} {w mw : va_W} {Lw : List LR} {x y : Nat} {f_ro : Nat → Int32} {f_im : Nat → Int32} {f_ke : Nat → Int32} {f_x : Nat → Int32} {e_tl : Int32} {e_fd : Int32} {f_wd : Nat → Int32} {e_wn : Int32} {i : Int32} (C : lwC p s m meth c b Ls xs G) (hA : ∀ q : Nat, s.heap.size ≤ q → A q) (hT : g5_S A s s.heap) (hbA : ¬ A b) (hS : va_S A s.heap H locs) (hrm : cells + 8 ≤ 600000 ∧ slots + 858 ≤ 7302250) (hLO : LOK Lw) (hI : XW G Lw x f_ro f_im f_ke f_x e_tl e_fd f_wd e_wn w) (hM : MW G y f_ro f_im f_ke f_x e_tl e_fd f_wd e_wn mw) (hP : va_P G.1 vwCl (w ++ (mw ++ pflat G Lw)) H) (hD : va_D A (w ++ (mw ++ pflat G Lw))) (hl : lv_has ls 4 [(3, .int i), (2, .ref y), (1, .ref x), (0, .ref b)]) (hi : 0 ≤ i.toInt ∧ i.toInt + 7 ≤ (Ls : Int)) (hLs : Ls ≤ 3584) (kk : ∀ (f_ro : Nat → Int32) (f_im : Nat → Int32) (f_ke : Nat → Int32) (f_x : Nat → Int32) (e_tl : Int32) (e_fd : Int32) (f_wd : Nat → Int32) (e_wn : Int32) (Lw : List LR) (w mw : va_W) (H : Heap) (locs : List Loc) (ls : Array Slot), LOK Lw → XW G Lw x f_ro f_im f_ke f_x e_tl e_fd f_wd e_wn w → MW G y f_ro f_im f_ke f_x e_tl e_fd f_wd e_wn mw → va_P G.1 vwCl (w ++ (mw ++ pflat G Lw)) H → va_D A (w ++ (mw ++ pflat G Lw)) → va_S A s.heap H locs → lv_has ls 4 [(3, .int i), (2, .ref y), (1, .ref x), (0, .ref b)] → W p l e room_1 s m #[Value.ref b] below meth c H locs (cells + 4) (slots + 429) Q (F0 m 1648 ls [])) : W p l e room_1 s m #[Value.ref b] below meth c H locs cells slots Q (F0 m 722 ls []) := by
  have hC := C
  obtain ⟨⟨hx, hb, hr, hml, hown, hts0, hX, hbl, hlocks, hgv⟩, hK, hN⟩ := C
  have hown : s.vm.findClass RL = some m.cls := hown
  have hts : ∀ w ∈ tblG, w.before #[Value.ref b] s = true := fun w h => hts0 w (List.mem_filter.mp h).1
  refine lv_aload_n hx hb dL_law_722 rfl (lv_at hl 2 rfl) ?_
  refine lv_aload_n hx hb dL_law_723 rfl (lv_at hl 3 rfl) ?_
  refine lv_iload_n hx hb dL_law_724 rfl (lv_at hl 0 rfl) ?_
  refine lv_iconst (v := 1) hx hb dL_law_725 (by decide) ?_
  refine lv_iadd hx hb dL_law_726 ?_
  have t_1 : (i + 1).toInt = i.toInt + 1 := g5_iadd (a := i.toInt) (b := 1) (by rfl) (by decide) (by omega) (by omega)
  refine va_sld hx hb hX hbl hbA hS (vp_in_iff.mpr ⟨by omega, by omega⟩) dL_law_727 ?_
  obtain ⟨q2, hq2⟩ : ∃ y : Int32, xs (i + 1).toNatClampNeg = y := ⟨_, rfl⟩
  refine g5_ti (v := q2) hq2 ?_
  refine lv_aload_n hx hb dL_law_728 rfl (lv_at hl 3 rfl) ?_
  refine lv_iload_n hx hb dL_law_729 rfl (lv_at hl 0 rfl) ?_
  refine lv_iconst (v := 2) hx hb dL_law_730 (by decide) ?_
  refine lv_iadd hx hb dL_law_731 ?_
  have t_3 : (i + 2).toInt = i.toInt + 2 := g5_iadd (a := i.toInt) (b := 2) (by rfl) (by decide) (by omega) (by omega)
  refine va_sld hx hb hX hbl hbA hS (vp_in_iff.mpr ⟨by omega, by omega⟩) dL_law_732 ?_
  obtain ⟨q4, hq4⟩ : ∃ y : Int32, xs (i + 2).toNatClampNeg = y := ⟨_, rfl⟩
  refine g5_ti (v := q4) hq4 ?_
  refine lv_aload_n hx hb dL_law_733 rfl (lv_at hl 3 rfl) ?_
  refine lv_iload_n hx hb dL_law_734 rfl (lv_at hl 0 rfl) ?_
  refine lv_iconst (v := 3) hx hb dL_law_735 (by decide) ?_
  refine lv_iadd hx hb dL_law_736 ?_
  have t_5 : (i + 3).toInt = i.toInt + 3 := g5_iadd (a := i.toInt) (b := 3) (by rfl) (by decide) (by omega) (by omega)
  refine va_sld hx hb hX hbl hbA hS (vp_in_iff.mpr ⟨by omega, by omega⟩) dL_law_737 ?_
  obtain ⟨q6, hq6⟩ : ∃ y : Int32, xs (i + 3).toNatClampNeg = y := ⟨_, rfl⟩
  refine g5_ti (v := q6) hq6 ?_
  refine lv_aload_n hx hb dL_law_738 rfl (lv_at hl 3 rfl) ?_
  refine lv_iload_n hx hb dL_law_739 rfl (lv_at hl 0 rfl) ?_
  refine lv_iconst (v := 4) hx hb dL_law_740 (by decide) ?_
  refine lv_iadd hx hb dL_law_741 ?_
  have t_7 : (i + 4).toInt = i.toInt + 4 := g5_iadd (a := i.toInt) (b := 4) (by rfl) (by decide) (by omega) (by omega)
  refine va_sld hx hb hX hbl hbA hS (vp_in_iff.mpr ⟨by omega, by omega⟩) dL_law_742 ?_
  obtain ⟨q8, hq8⟩ : ∃ y : Int32, xs (i + 4).toNatClampNeg = y := ⟨_, rfl⟩
  refine g5_ti (v := q8) hq8 ?_
  refine sx_point hC hA hT hS hl.1 ⟨by omega, by omega⟩ hLO hI hP hD (fun r9 w hI {H} {locs} hP hD hS => ?_)
  have hP := hP.perm (List.perm_append_comm_assoc w mw (pflat G Lw))
  have hD := hD.perm (List.perm_append_comm_assoc w mw (pflat G Lw))
  refine lv_pop hx hb dL_law_746 rfl ?_
  refine lv_aload_n hx hb dL_law_747 rfl (lv_at hl 1 rfl) ?_
  refine lv_aload_n hx hb dL_law_748 rfl (lv_at hl 3 rfl) ?_
  refine lv_iload_n hx hb dL_law_749 rfl (lv_at hl 0 rfl) ?_
  refine lv_iconst (v := 1) hx hb dL_law_750 (by decide) ?_
  refine lv_iadd hx hb dL_law_751 ?_
  have t_10 : (i + 1).toInt = i.toInt + 1 := g5_iadd (a := i.toInt) (b := 1) (by rfl) (by decide) (by omega) (by omega)
  refine va_sld hx hb hX hbl hbA hS (vp_in_iff.mpr ⟨by omega, by omega⟩) dL_law_752 ?_
  refine g5_ti (v := q2) hq2 ?_
  refine lv_aload_n hx hb dL_law_753 rfl (lv_at hl 3 rfl) ?_
  refine lv_iload_n hx hb dL_law_754 rfl (lv_at hl 0 rfl) ?_
  refine lv_iconst (v := 2) hx hb dL_law_755 (by decide) ?_
  refine lv_iadd hx hb dL_law_756 ?_
  have t_11 : (i + 2).toInt = i.toInt + 2 := g5_iadd (a := i.toInt) (b := 2) (by rfl) (by decide) (by omega) (by omega)
  refine va_sld hx hb hX hbl hbA hS (vp_in_iff.mpr ⟨by omega, by omega⟩) dL_law_757 ?_
  refine g5_ti (v := q4) hq4 ?_
  refine lv_aload_n hx hb dL_law_758 rfl (lv_at hl 3 rfl) ?_
  refine lv_iload_n hx hb dL_law_759 rfl (lv_at hl 0 rfl) ?_
  refine lv_iconst (v := 3) hx hb dL_law_760 (by decide) ?_
  refine lv_iadd hx hb dL_law_761 ?_
  have t_12 : (i + 3).toInt = i.toInt + 3 := g5_iadd (a := i.toInt) (b := 3) (by rfl) (by decide) (by omega) (by omega)
  refine va_sld hx hb hX hbl hbA hS (vp_in_iff.mpr ⟨by omega, by omega⟩) dL_law_762 ?_
  refine g5_ti (v := q6) hq6 ?_
  refine lv_aload_n hx hb dL_law_763 rfl (lv_at hl 3 rfl) ?_
  refine lv_iload_n hx hb dL_law_764 rfl (lv_at hl 0 rfl) ?_
  refine lv_iconst (v := 4) hx hb dL_law_765 (by decide) ?_
  refine lv_iadd hx hb dL_law_766 ?_
  have t_13 : (i + 4).toInt = i.toInt + 4 := g5_iadd (a := i.toInt) (b := 4) (by rfl) (by decide) (by omega) (by omega)
  refine va_sld hx hb hX hbl hbA hS (vp_in_iff.mpr ⟨by omega, by omega⟩) dL_law_767 ?_
  refine g5_ti (v := q8) hq8 ?_
  refine sm_point hC hA hT hS hl.1 ⟨by omega, by omega⟩ hM hP hD (fun r14 mw hM {H} {locs} hP hD hS => ?_)
  have hP := hP.perm (List.perm_append_comm_assoc mw w (pflat G Lw))
  have hD := hD.perm (List.perm_append_comm_assoc mw w (pflat G Lw))
  refine lv_pop hx hb dL_law_771 rfl ?_
  refine lv_goto (tgt := 1648) hx hb dL_law_772 (by decide) ?_
  refine W.widen (k := cells + 4) (n := slots + 429) (by omega) (by omega) ?_
  exact kk f_ro f_im f_ke f_x e_tl e_fd f_wd e_wn Lw w mw H locs ls hLO hI hM hP hD hS (lv_sub hl [0, 1, 2, 3] rfl)
