set_option maxHeartbeats 4000000 in
set_option maxRecDepth 100000 in
theorem lc_fault {p : Program} {l : Launch} {e : Env} {s : State} {m : MethodId} {below : List Frame} {meth : Method} {c : Code} {b Ls : Nat} {xs : Nat → Int32} {G : g5_G} {A : Nat → Prop} {Q : State → Prop} {H : Heap} {locs : List Loc} {ls : Array Slot} {cells slots : Nat} {w mw : va_W} {Lw : List LR} {x y : Nat} {f_ro : Nat → Int32} {f_im : Nat → Int32} {f_ke : Nat → Int32} {f_x : Nat → Int32} {e_tl : Int32} {e_fd : Int32} {f_wd : Nat → Int32} {e_wn : Int32} {i : Int32} (C : lwC p s m meth c b Ls xs G) (hA : ∀ q : Nat, s.heap.size ≤ q → A q) (hT : g5_S A s s.heap) (hbA : ¬ A b) (hS : va_S A s.heap H locs) (hrm : cells + 8 ≤ 600000 ∧ slots + 858 ≤ 7302250) (hLO : LOK Lw) (hI : XW G Lw x f_ro f_im f_ke f_x e_tl e_fd f_wd e_wn w) (hM : MW G y f_ro f_im f_ke f_x e_tl e_fd f_wd e_wn mw) (hP : va_P G.1 vwCl (w ++ (mw ++ pflat G Lw)) H) (hD : va_D A (w ++ (mw ++ pflat G Lw))) (hl : lv_has ls 4 [(3, .int i), (2, .ref y), (1, .ref x), (0, .ref b)]) (hi : 0 ≤ i.toInt ∧ i.toInt + 7 ≤ (Ls : Int)) (hLs : Ls ≤ 3584) (kk : ∀ (f_ro : Nat → Int32) (f_im : Nat → Int32) (f_ke : Nat → Int32) (f_x : Nat → Int32) (e_tl : Int32) (e_fd : Int32) (f_wd : Nat → Int32) (e_wn : Int32) (Lw : List LR) (w mw : va_W) (H : Heap) (locs : List Loc) (ls : Array Slot), LOK Lw → XW G Lw x f_ro f_im f_ke f_x e_tl e_fd f_wd e_wn w → MW G y f_ro f_im f_ke f_x e_tl e_fd f_wd e_wn mw → va_P G.1 vwCl (w ++ (mw ++ pflat G Lw)) H → va_D A (w ++ (mw ++ pflat G Lw)) → va_S A s.heap H locs → lv_has ls 4 [(3, .int i), (2, .ref y), (1, .ref x), (0, .ref b)] → W p l e room_1 s m #[Value.ref b] below meth c H locs (cells + 4) (slots + 429) Q (F0 m 1648 ls [])) : W p l e room_1 s m #[Value.ref b] below meth c H locs cells slots Q (F0 m 633 ls []) := by
  have hC := C
  obtain ⟨⟨hx, hb, hr, hml, hown, hts0, hX, hbl, hlocks, hgv⟩, hK, hN⟩ := C
  have hown : s.vm.findClass RL = some m.cls := hown
  have hts : ∀ w ∈ tblG, w.before #[Value.ref b] s = true := fun w h => hts0 w (List.mem_filter.mp h).1
  refine lv_aload_n hx hb dL_law_633 rfl (lv_at hl 2 rfl) ?_
  refine sx_fault hC hA hT hS hl.1 ⟨by omega, by omega⟩ hLO hI hP hD (fun r1 w hI {H} {locs} hP hD hS => ?_)
  have hP := hP.perm (List.perm_append_comm_assoc w mw (pflat G Lw))
  have hD := hD.perm (List.perm_append_comm_assoc w mw (pflat G Lw))
  refine lv_pop hx hb dL_law_637 rfl ?_
  refine lv_aload_n hx hb dL_law_638 rfl (lv_at hl 1 rfl) ?_
  refine sm_fault hC hA hT hS hl.1 ⟨by omega, by omega⟩ hM hP hD (fun r2 mw hM {H} {locs} hP hD hS => ?_)
  have hP := hP.perm (List.perm_append_comm_assoc mw w (pflat G Lw))
  have hD := hD.perm (List.perm_append_comm_assoc mw w (pflat G Lw))
  refine lv_pop hx hb dL_law_642 rfl ?_
  refine lv_goto (tgt := 1648) hx hb dL_law_643 (by decide) ?_
  refine W.widen (k := cells + 4) (n := slots + 429) (by omega) (by omega) ?_
  exact kk f_ro f_im f_ke f_x e_tl e_fd f_wd e_wn Lw w mw H locs ls hLO hI hM hP hD hS (lv_sub hl [0, 1, 2, 3] rfl)
