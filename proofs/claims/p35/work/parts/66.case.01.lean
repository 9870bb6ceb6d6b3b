set_option maxHeartbeats 4000000 in
set_option maxRecDepth 100000 in
theorem lc_tells {p : Program} {l : Launch} {e : Env} {s : State} {m : MethodId} {below : List Frame} {meth : Method} {c : Code} {b Ls : Nat} {xs : Nat → Int32} {G : g5_G} {A : Nat → Prop} {Q : State → Prop} {H : Heap} {locs : List Loc} {ls : Array Slot} {cells slots : Nat} {w mw : va_W} {Lw : List LR} {x y : Nat} {f_ro : Nat → Int32} {f_im : Nat → Int32} {f_ke : Nat → Int32} {f_x : Nat → Int32} {e_tl : Int32} {e_fd : Int32} {f_wd : Nat → Int32} {e_wn : Int32} {e_fpl : Int32} {g_L : LLS} {g_F : Int32} {g_M : LMS} {i : Int32} (C : lwC p s m meth c b Ls xs G) (hA : ∀ q : Nat, s.heap.size ≤ q → A q) (hT : g5_S A s s.heap) (hbA : ¬ A b) (hS : va_S A s.heap H locs) (hrm : cells + 8 ≤ 600000 ∧ slots + 858 ≤ 7302250) (hLO : LOK Lw) (hI : XW G Lw x f_ro f_im f_ke f_x e_tl e_fd f_wd e_wn e_fpl g_L g_F g_M w) (hM : MW G y f_ro f_im f_ke f_x e_tl e_fd f_wd e_wn e_fpl g_L g_F g_M mw) (hP : va_P G.1 vwCl (w ++ (mw ++ pflat G Lw)) H) (hD : va_D A (w ++ (mw ++ pflat G Lw))) (hl : lv_has ls 4 [(3, .int i), (2, .ref y), (1, .ref x), (0, .ref b)]) (hi : 0 ≤ i.toInt ∧ i.toInt + 7 ≤ (Ls : Int)) (hLs : Ls ≤ 3584) (kk : ∀ (f_ro : Nat → Int32) (f_im : Nat → Int32) (f_ke : Nat → Int32) (f_x : Nat → Int32) (e_tl : Int32) (e_fd : Int32) (f_wd : Nat → Int32) (e_wn : Int32) (e_fpl : Int32) (g_L : LLS) (g_F : Int32) (g_M : LMS) (Lw : List LR) (w mw : va_W) (H : Heap) (locs : List Loc) (ls : Array Slot), LOK Lw → XW G Lw x f_ro f_im f_ke f_x e_tl e_fd f_wd e_wn e_fpl g_L g_F g_M w → MW G y f_ro f_im f_ke f_x e_tl e_fd f_wd e_wn e_fpl g_L g_F g_M mw → va_P G.1 vwCl (w ++ (mw ++ pflat G Lw)) H → va_D A (w ++ (mw ++ pflat G Lw)) → va_S A s.heap H locs → lv_has ls 4 [(3, .int i), (2, .ref y), (1, .ref x), (0, .ref b)] → W p l e room_1 s m #[Value.ref b] below meth c H locs (cells + 4) (slots + 429) Q (F0 m 1648 ls [])) : W p l e room_1 s m #[Value.ref b] below meth c H locs cells slots Q (F0 m 1131 ls []) := by
  have hC := C
  obtain ⟨⟨hx, hb, hr, hml, hown, hts0, hX, hbl, hlocks, hgv⟩, hK, hN⟩ := C
  have hown : s.vm.findClass RL = some m.cls := hown
  have hts : ∀ w ∈ tblG, w.before #[Value.ref b] s = true := fun w h => hts0 w (List.mem_filter.mp h).1
  refine lv_aload_n hx hb dL_law_1131 rfl (lv_at hl 2 rfl) ?_
  refine lv_aload_n hx hb dL_law_1132 rfl (lv_at hl 3 rfl) ?_
  refine lv_iload_n hx hb dL_law_1133 rfl (lv_at hl 0 rfl) ?_
  refine lv_iconst (v := 1) hx hb dL_law_1134 (by decide) ?_
  refine lv_iadd hx hb dL_law_1135 ?_
  have t_1 : (i + 1).toInt = i.toInt + 1 := g5_iadd (a := i.toInt) (b := 1) (by rfl) (by decide) (by omega) (by omega)
  refine va_sld hx hb hX hbl hbA hS (vp_in_iff.mpr ⟨by omega, by omega⟩) dL_law_1136 ?_
  obtain ⟨q2, hq2⟩ : ∃ y : Int32, xs (i + 1).toNatClampNeg = y := ⟨_, rfl⟩
  refine g5_ti (v := q2) hq2 ?_
  refine lv_aload_n hx hb dL_law_1137 rfl (lv_at hl 3 rfl) ?_
  refine lv_iload_n hx hb dL_law_1138 rfl (lv_at hl 0 rfl) ?_
  refine lv_iconst (v := 2) hx hb dL_law_1139 (by decide) ?_
  refine lv_iadd hx hb dL_law_1140 ?_
  have t_3 : (i + 2).toInt = i.toInt + 2 := g5_iadd (a := i.toInt) (b := 2) (by rfl) (by decide) (by omega) (by omega)
  refine va_sld hx hb hX hbl hbA hS (vp_in_iff.mpr ⟨by omega, by omega⟩) dL_law_1141 ?_
  obtain ⟨q4, hq4⟩ : ∃ y : Int32, xs (i + 2).toNatClampNeg = y := ⟨_, rfl⟩
  refine g5_ti (v := q4) hq4 ?_
  refine lv_aload_n hx hb dL_law_1142 rfl (lv_at hl 3 rfl) ?_
  refine lv_iload_n hx hb dL_law_1143 rfl (lv_at hl 0 rfl) ?_
  refine lv_iconst (v := 3) hx hb dL_law_1144 (by decide) ?_
  refine lv_iadd hx hb dL_law_1145 ?_
  have t_5 : (i + 3).toInt = i.toInt + 3 := g5_iadd (a := i.toInt) (b := 3) (by rfl) (by decide) (by omega) (by omega)
  refine va_sld hx hb hX hbl hbA hS (vp_in_iff.mpr ⟨by omega, by omega⟩) dL_law_1146 ?_
  obtain ⟨q6, hq6⟩ : ∃ y : Int32, xs (i + 3).toNatClampNeg = y := ⟨_, rfl⟩
  refine g5_ti (v := q6) hq6 ?_
  refine sx_tells hC hA hT hS hl.1 ⟨by omega, by omega⟩ hLO hI hP hD (fun r7 w hI {H} {locs} hP hD hS => ?_)
  have hP := hP.perm (List.perm_append_comm_assoc w mw (pflat G Lw))
  have hD := hD.perm (List.perm_append_comm_assoc w mw (pflat G Lw))
  refine lv_pop2_2 hx hb dL_law_1150 rfl ?_
  refine lv_aload_n hx hb dL_law_1151 rfl (lv_at hl 1 rfl) ?_
  refine lv_aload_n hx hb dL_law_1152 rfl (lv_at hl 3 rfl) ?_
  refine lv_iload_n hx hb dL_law_1153 rfl (lv_at hl 0 rfl) ?_
  refine lv_iconst (v := 1) hx hb dL_law_1154 (by decide) ?_
  refine lv_iadd hx hb dL_law_1155 ?_
  have t_8 : (i + 1).toInt = i.toInt + 1 := g5_iadd (a := i.toInt) (b := 1) (by rfl) (by decide) (by omega) (by omega)
  refine va_sld hx hb hX hbl hbA hS (vp_in_iff.mpr ⟨by omega, by omega⟩) dL_law_1156 ?_
  refine g5_ti (v := q2) hq2 ?_
  refine lv_aload_n hx hb dL_law_1157 rfl (lv_at hl 3 rfl) ?_
  refine lv_iload_n hx hb dL_law_1158 rfl (lv_at hl 0 rfl) ?_
  refine lv_iconst (v := 2) hx hb dL_law_1159 (by decide) ?_
  refine lv_iadd hx hb dL_law_1160 ?_
  have t_9 : (i + 2).toInt = i.toInt + 2 := g5_iadd (a := i.toInt) (b := 2) (by rfl) (by decide) (by omega) (by omega)
  refine va_sld hx hb hX hbl hbA hS (vp_in_iff.mpr ⟨by omega, by omega⟩) dL_law_1161 ?_
  refine g5_ti (v := q4) hq4 ?_
  refine lv_aload_n hx hb dL_law_1162 rfl (lv_at hl 3 rfl) ?_
  refine lv_iload_n hx hb dL_law_1163 rfl (lv_at hl 0 rfl) ?_
  refine lv_iconst (v := 3) hx hb dL_law_1164 (by decide) ?_
  refine lv_iadd hx hb dL_law_1165 ?_
  have t_10 : (i + 3).toInt = i.toInt + 3 := g5_iadd (a := i.toInt) (b := 3) (by rfl) (by decide) (by omega) (by omega)
  refine va_sld hx hb hX hbl hbA hS (vp_in_iff.mpr ⟨by omega, by omega⟩) dL_law_1166 ?_
  refine g5_ti (v := q6) hq6 ?_
  refine sm_tells hC hA hT hS hl.1 ⟨by omega, by omega⟩ hM hP hD (fun r11 mw hM {H} {locs} hP hD hS => ?_)
  have hP := hP.perm (List.perm_append_comm_assoc mw w (pflat G Lw))
  have hD := hD.perm (List.perm_append_comm_assoc mw w (pflat G Lw))
  refine lv_pop2_2 hx hb dL_law_1170 rfl ?_
  refine lv_goto (tgt := 1648) hx hb dL_law_1171 (by decide) ?_
  refine W.widen (k := cells + 4) (n := slots + 429) (by omega) (by omega) ?_
  exact kk f_ro f_im f_ke f_x e_tl e_fd f_wd e_wn e_fpl g_L g_F g_M Lw w mw H locs ls hLO hI hM hP hD hS (lv_sub hl [0, 1, 2, 3] rfl)
set_option maxHeartbeats 4000000 in
set_option maxRecDepth 100000 in
theorem lc_surely {p : Program} {l : Launch} {e : Env} {s : State} {m : MethodId} {below : List Frame} {meth : Method} {c : Code} {b Ls : Nat} {xs : Nat → Int32} {G : g5_G} {A : Nat → Prop} {Q : State → Prop} {H : Heap} {locs : List Loc} {ls : Array Slot} {cells slots : Nat} {w mw : va_W} {Lw : List LR} {x y : Nat} {f_ro : Nat → Int32} {f_im : Nat → Int32} {f_ke : Nat → Int32} {f_x : Nat → Int32} {e_tl : Int32} {e_fd : Int32} {f_wd : Nat → Int32} {e_wn : Int32} {e_fpl : Int32} {g_L : LLS} {g_F : Int32} {g_M : LMS} {i : Int32} (C : lwC p s m meth c b Ls xs G) (hA : ∀ q : Nat, s.heap.size ≤ q → A q) (hT : g5_S A s s.heap) (hbA : ¬ A b) (hS : va_S A s.heap H locs) (hrm : cells + 8 ≤ 600000 ∧ slots + 858 ≤ 7302250) (hLO : LOK Lw) (hI : XW G Lw x f_ro f_im f_ke f_x e_tl e_fd f_wd e_wn e_fpl g_L g_F g_M w) (hM : MW G y f_ro f_im f_ke f_x e_tl e_fd f_wd e_wn e_fpl g_L g_F g_M mw) (hP : va_P G.1 vwCl (w ++ (mw ++ pflat G Lw)) H) (hD : va_D A (w ++ (mw ++ pflat G Lw))) (hl : lv_has ls 4 [(3, .int i), (2, .ref y), (1, .ref x), (0, .ref b)]) (hi : 0 ≤ i.toInt ∧ i.toInt + 7 ≤ (Ls : Int)) (hLs : Ls ≤ 3584) (kk : ∀ (f_ro : Nat → Int32) (f_im : Nat → Int32) (f_ke : Nat → Int32) (f_x : Nat → Int32) (e_tl : Int32) (e_fd : Int32) (f_wd : Nat → Int32) (e_wn : Int32) (e_fpl : Int32) (g_L : LLS) (g_F : Int32) (g_M : LMS) (Lw : List LR) (w mw : va_W) (H : Heap) (locs : List Loc) (ls : Array Slot), LOK Lw → XW G Lw x f_ro f_im f_ke f_x e_tl e_fd f_wd e_wn e_fpl g_L g_F g_M w → MW G y f_ro f_im f_ke f_x e_tl e_fd f_wd e_wn e_fpl g_L g_F g_M mw → va_P G.1 vwCl (w ++ (mw ++ pflat G Lw)) H → va_D A (w ++ (mw ++ pflat G Lw)) → va_S A s.heap H locs → lv_has ls 4 [(3, .int i), (2, .ref y), (1, .ref x), (0, .ref b)] → W p l e room_1 s m #[Value.ref b] below meth c H locs (cells + 4) (slots + 429) Q (F0 m 1648 ls [])) : W p l e room_1 s m #[Value.ref b] below meth c H locs cells slots Q (F0 m 1174 ls []) := by
  have hC := C
  obtain ⟨⟨hx, hb, hr, hml, hown, hts0, hX, hbl, hlocks, hgv⟩, hK, hN⟩ := C
  have hown : s.vm.findClass RL = some m.cls := hown
  have hts : ∀ w ∈ tblG, w.before #[Value.ref b] s = true := fun w h => hts0 w (List.mem_filter.mp h).1
  refine lv_aload_n hx hb dL_law_1174 rfl (lv_at hl 2 rfl) ?_
  refine lv_aload_n hx hb dL_law_1175 rfl (lv_at hl 3 rfl) ?_
  refine lv_iload_n hx hb dL_law_1176 rfl (lv_at hl 0 rfl) ?_
  refine lv_iconst (v := 1) hx hb dL_law_1177 (by decide) ?_
  refine lv_iadd hx hb dL_law_1178 ?_
  have t_1 : (i + 1).toInt = i.toInt + 1 := g5_iadd (a := i.toInt) (b := 1) (by rfl) (by decide) (by omega) (by omega)
  refine va_sld hx hb hX hbl hbA hS (vp_in_iff.mpr ⟨by omega, by omega⟩) dL_law_1179 ?_
  obtain ⟨q2, hq2⟩ : ∃ y : Int32, xs (i + 1).toNatClampNeg = y := ⟨_, rfl⟩
  refine g5_ti (v := q2) hq2 ?_
  refine sx_surely hC hA hT hS hl.1 ⟨by omega, by omega⟩ hLO hI hP hD (fun r3 w hI {H} {locs} hP hD hS => ?_)
  have hP := hP.perm (List.perm_append_comm_assoc w mw (pflat G Lw))
  have hD := hD.perm (List.perm_append_comm_assoc w mw (pflat G Lw))
  refine lv_pop hx hb dL_law_1183 rfl ?_
  refine lv_aload_n hx hb dL_law_1184 rfl (lv_at hl 1 rfl) ?_
  refine lv_aload_n hx hb dL_law_1185 rfl (lv_at hl 3 rfl) ?_
  refine lv_iload_n hx hb dL_law_1186 rfl (lv_at hl 0 rfl) ?_
  refine lv_iconst (v := 1) hx hb dL_law_1187 (by decide) ?_
  refine lv_iadd hx hb dL_law_1188 ?_
  have t_4 : (i + 1).toInt = i.toInt + 1 := g5_iadd (a := i.toInt) (b := 1) (by rfl) (by decide) (by omega) (by omega)
  refine va_sld hx hb hX hbl hbA hS (vp_in_iff.mpr ⟨by omega, by omega⟩) dL_law_1189 ?_
  refine g5_ti (v := q2) hq2 ?_
  refine sm_surely hC hA hT hS hl.1 ⟨by omega, by omega⟩ hM hP hD (fun r5 mw hM {H} {locs} hP hD hS => ?_)
  have hP := hP.perm (List.perm_append_comm_assoc mw w (pflat G Lw))
  have hD := hD.perm (List.perm_append_comm_assoc mw w (pflat G Lw))
  refine lv_pop hx hb dL_law_1193 rfl ?_
  refine lv_goto (tgt := 1648) hx hb dL_law_1194 (by decide) ?_
  refine W.widen (k := cells + 4) (n := slots + 429) (by omega) (by omega) ?_
  exact kk f_ro f_im f_ke f_x e_tl e_fd f_wd e_wn e_fpl g_L g_F g_M Lw w mw H locs ls hLO hI hM hP hD hS (lv_sub hl [0, 1, 2, 3] rfl)
set_option maxHeartbeats 4000000 in
set_option maxRecDepth 100000 in
theorem lc_spot {p : Program} {l : Launch} {e : Env} {s : State} {m : MethodId} {below : List Frame} {meth : Method} {c : Code} {b Ls : Nat} {xs : Nat → Int32} {G : g5_G} {A : Nat → Prop} {Q : State → Prop} {H : Heap} {locs : List Loc} {ls : Array Slot} {cells slots : Nat} {w mw : va_W} {Lw : List LR} {x y : Nat} {f_ro : Nat → Int32} {f_im : Nat → Int32} {f_ke : Nat → Int32} {f_x : Nat → Int32} {e_tl : Int32} {e_fd : Int32} {f_wd : Nat → Int32} {e_wn : Int32} {e_fpl : Int32} {g_L : LLS} {g_F : Int32} {g_M : LMS} {i : Int32} (C : lwC p s m meth c b Ls xs G) (hA : ∀ q : Nat, s.heap.size ≤ q → A q) (hT : g5_S A s s.heap) (hbA : ¬ A b) (hS : va_S A s.heap H locs) (hrm : cells + 8 ≤ 600000 ∧ slots + 858 ≤ 7302250) (hLO : LOK Lw) (hI : XW G Lw x f_ro f_im f_ke f_x e_tl e_fd f_wd e_wn e_fpl g_L g_F g_M w) (hM : MW G y f_ro f_im f_ke f_x e_tl e_fd f_wd e_wn e_fpl g_L g_F g_M mw) (hP : va_P G.1 vwCl (w ++ (mw ++ pflat G Lw)) H) (hD : va_D A (w ++ (mw ++ pflat G Lw))) (hl : lv_has ls 4 [(3, .int i), (2, .ref y), (1, .ref x), (0, .ref b)]) (hi : 0 ≤ i.toInt ∧ i.toInt + 7 ≤ (Ls : Int)) (hLs : Ls ≤ 3584) (kk : ∀ (f_ro : Nat → Int32) (f_im : Nat → Int32) (f_ke : Nat → Int32) (f_x : Nat → Int32) (e_tl : Int32) (e_fd : Int32) (f_wd : Nat → Int32) (e_wn : Int32) (e_fpl : Int32) (g_L : LLS) (g_F : Int32) (g_M : LMS) (Lw : List LR) (w mw : va_W) (H : Heap) (locs : List Loc) (ls : Array Slot), LOK Lw → XW G Lw x f_ro f_im f_ke f_x e_tl e_fd f_wd e_wn e_fpl g_L g_F g_M w → MW G y f_ro f_im f_ke f_x e_tl e_fd f_wd e_wn e_fpl g_L g_F g_M mw → va_P G.1 vwCl (w ++ (mw ++ pflat G Lw)) H → va_D A (w ++ (mw ++ pflat G Lw)) → va_S A s.heap H locs → lv_has ls 4 [(3, .int i), (2, .ref y), (1, .ref x), (0, .ref b)] → W p l e room_1 s m #[Value.ref b] below meth c H locs (cells + 4) (slots + 429) Q (F0 m 1648 ls [])) : W p l e room_1 s m #[Value.ref b] below meth c H locs cells slots Q (F0 m 1197 ls []) := by
  have hC := C
  obtain ⟨⟨hx, hb, hr, hml, hown, hts0, hX, hbl, hlocks, hgv⟩, hK, hN⟩ := C
  have hown : s.vm.findClass RL = some m.cls := hown
  have hts : ∀ w ∈ tblG, w.before #[Value.ref b] s = true := fun w h => hts0 w (List.mem_filter.mp h).1
  refine lv_aload_n hx hb dL_law_1197 rfl (lv_at hl 2 rfl) ?_
  refine lv_aload_n hx hb dL_law_1198 rfl (lv_at hl 3 rfl) ?_
  refine lv_iload_n hx hb dL_law_1199 rfl (lv_at hl 0 rfl) ?_
  refine lv_iconst (v := 1) hx hb dL_law_1200 (by decide) ?_
  refine lv_iadd hx hb dL_law_1201 ?_
  have t_1 : (i + 1).toInt = i.toInt + 1 := g5_iadd (a := i.toInt) (b := 1) (by rfl) (by decide) (by omega) (by omega)
  refine va_sld hx hb hX hbl hbA hS (vp_in_iff.mpr ⟨by omega, by omega⟩) dL_law_1202 ?_
  obtain ⟨q2, hq2⟩ : ∃ y : Int32, xs (i + 1).toNatClampNeg = y := ⟨_, rfl⟩
  refine g5_ti (v := q2) hq2 ?_
  refine lv_aload_n hx hb dL_law_1203 rfl (lv_at hl 3 rfl) ?_
  refine lv_iload_n hx hb dL_law_1204 rfl (lv_at hl 0 rfl) ?_
  refine lv_iconst (v := 2) hx hb dL_law_1205 (by decide) ?_
  refine lv_iadd hx hb dL_law_1206 ?_
  have t_3 : (i + 2).toInt = i.toInt + 2 := g5_iadd (a := i.toInt) (b := 2) (by rfl) (by decide) (by omega) (by omega)
  refine va_sld hx hb hX hbl hbA hS (vp_in_iff.mpr ⟨by omega, by omega⟩) dL_law_1207 ?_
  obtain ⟨q4, hq4⟩ : ∃ y : Int32, xs (i + 2).toNatClampNeg = y := ⟨_, rfl⟩
  refine g5_ti (v := q4) hq4 ?_
  refine lv_aload_n hx hb dL_law_1208 rfl (lv_at hl 3 rfl) ?_
  refine lv_iload_n hx hb dL_law_1209 rfl (lv_at hl 0 rfl) ?_
  refine lv_iconst (v := 3) hx hb dL_law_1210 (by decide) ?_
  refine lv_iadd hx hb dL_law_1211 ?_
  have t_5 : (i + 3).toInt = i.toInt + 3 := g5_iadd (a := i.toInt) (b := 3) (by rfl) (by decide) (by omega) (by omega)
  refine va_sld hx hb hX hbl hbA hS (vp_in_iff.mpr ⟨by omega, by omega⟩) dL_law_1212 ?_
  obtain ⟨q6, hq6⟩ : ∃ y : Int32, xs (i + 3).toNatClampNeg = y := ⟨_, rfl⟩
  refine g5_ti (v := q6) hq6 ?_
  refine sx_spot hC hA hT hS hl.1 ⟨by omega, by omega⟩ hLO hI hP hD (fun r7 w hI {H} {locs} hP hD hS => ?_)
  have hP := hP.perm (List.perm_append_comm_assoc w mw (pflat G Lw))
  have hD := hD.perm (List.perm_append_comm_assoc w mw (pflat G Lw))
  refine lv_pop hx hb dL_law_1216 rfl ?_
  refine lv_aload_n hx hb dL_law_1217 rfl (lv_at hl 1 rfl) ?_
  refine lv_aload_n hx hb dL_law_1218 rfl (lv_at hl 3 rfl) ?_
  refine lv_iload_n hx hb dL_law_1219 rfl (lv_at hl 0 rfl) ?_
  refine lv_iconst (v := 1) hx hb dL_law_1220 (by decide) ?_
  refine lv_iadd hx hb dL_law_1221 ?_
  have t_8 : (i + 1).toInt = i.toInt + 1 := g5_iadd (a := i.toInt) (b := 1) (by rfl) (by decide) (by omega) (by omega)
  refine va_sld hx hb hX hbl hbA hS (vp_in_iff.mpr ⟨by omega, by omega⟩) dL_law_1222 ?_
  refine g5_ti (v := q2) hq2 ?_
  refine lv_aload_n hx hb dL_law_1223 rfl (lv_at hl 3 rfl) ?_
  refine lv_iload_n hx hb dL_law_1224 rfl (lv_at hl 0 rfl) ?_
  refine lv_iconst (v := 2) hx hb dL_law_1225 (by decide) ?_
  refine lv_iadd hx hb dL_law_1226 ?_
  have t_9 : (i + 2).toInt = i.toInt + 2 := g5_iadd (a := i.toInt) (b := 2) (by rfl) (by decide) (by omega) (by omega)
  refine va_sld hx hb hX hbl hbA hS (vp_in_iff.mpr ⟨by omega, by omega⟩) dL_law_1227 ?_
  refine g5_ti (v := q4) hq4 ?_
  refine lv_aload_n hx hb dL_law_1228 rfl (lv_at hl 3 rfl) ?_
  refine lv_iload_n hx hb dL_law_1229 rfl (lv_at hl 0 rfl) ?_
  refine lv_iconst (v := 3) hx hb dL_law_1230 (by decide) ?_
  refine lv_iadd hx hb dL_law_1231 ?_
  have t_10 : (i + 3).toInt = i.toInt + 3 := g5_iadd (a := i.toInt) (b := 3) (by rfl) (by decide) (by omega) (by omega)
  refine va_sld hx hb hX hbl hbA hS (vp_in_iff.mpr ⟨by omega, by omega⟩) dL_law_1232 ?_
  refine g5_ti (v := q6) hq6 ?_
  refine sm_spot hC hA hT hS hl.1 ⟨by omega, by omega⟩ hM hP hD (fun r11 mw hM {H} {locs} hP hD hS => ?_)
  have hP := hP.perm (List.perm_append_comm_assoc mw w (pflat G Lw))
  have hD := hD.perm (List.perm_append_comm_assoc mw w (pflat G Lw))
  refine lv_pop hx hb dL_law_1236 rfl ?_
  refine lv_goto (tgt := 1648) hx hb dL_law_1237 (by decide) ?_
  refine W.widen (k := cells + 4) (n := slots + 429) (by omega) (by omega) ?_
  exact kk (sspot f_ro q2 q4 q6) f_im f_ke f_x e_tl e_fd f_wd e_wn e_fpl g_L g_F g_M Lw w mw H locs ls hLO hI hM hP hD hS (lv_sub hl [0, 1, 2, 3] rfl)
set_option maxHeartbeats 4000000 in
set_option maxRecDepth 100000 in
theorem lc_wish {p : Program} {l : Launch} {e : Env} {s : State} {m : MethodId} {below : List Frame} {meth : Method} {c : Code} {b Ls : Nat} {xs : Nat → Int32} {G : g5_G} {A : Nat → Prop} {Q : State → Prop} {H : Heap} {locs : List Loc} {ls : Array Slot} {cells slots : Nat} {w mw : va_W} {Lw : List LR} {x y : Nat} {f_ro : Nat → Int32} {f_im : Nat → Int32} {f_ke : Nat → Int32} {f_x : Nat → Int32} {e_tl : Int32} {e_fd : Int32} {f_wd : Nat → Int32} {e_wn : Int32} {e_fpl : Int32} {g_L : LLS} {g_F : Int32} {g_M : LMS} {i : Int32} (C : lwC p s m meth c b Ls xs G) (hA : ∀ q : Nat, s.heap.size ≤ q → A q) (hT : g5_S A s s.heap) (hbA : ¬ A b) (hS : va_S A s.heap H locs) (hrm : cells + 8 ≤ 600000 ∧ slots + 858 ≤ 7302250) (hLO : LOK Lw) (hI : XW G Lw x f_ro f_im f_ke f_x e_tl e_fd f_wd e_wn e_fpl g_L g_F g_M w) (hM : MW G y f_ro f_im f_ke f_x e_tl e_fd f_wd e_wn e_fpl g_L g_F g_M mw) (hP : va_P G.1 vwCl (w ++ (mw ++ pflat G Lw)) H) (hD : va_D A (w ++ (mw ++ pflat G Lw))) (hl : lv_has ls 4 [(3, .int i), (2, .ref y), (1, .ref x), (0, .ref b)]) (hi : 0 ≤ i.toInt ∧ i.toInt + 7 ≤ (Ls : Int)) (hLs : Ls ≤ 3584) (kk : ∀ (f_ro : Nat → Int32) (f_im : Nat → Int32) (f_ke : Nat → Int32) (f_x : Nat → Int32) (e_tl : Int32) (e_fd : Int32) (f_wd : Nat → Int32) (e_wn : Int32) (e_fpl : Int32) (g_L : LLS) (g_F : Int32) (g_M : LMS) (Lw : List LR) (w mw : va_W) (H : Heap) (locs : List Loc) (ls : Array Slot), LOK Lw → XW G Lw x f_ro f_im f_ke f_x e_tl e_fd f_wd e_wn e_fpl g_L g_F g_M w → MW G y f_ro f_im f_ke f_x e_tl e_fd f_wd e_wn e_fpl g_L g_F g_M mw → va_P G.1 vwCl (w ++ (mw ++ pflat G Lw)) H → va_D A (w ++ (mw ++ pflat G Lw)) → va_S A s.heap H locs → lv_has ls 4 [(3, .int i), (2, .ref y), (1, .ref x), (0, .ref b)] → W p l e room_1 s m #[Value.ref b] below meth c H locs (cells + 4) (slots + 429) Q (F0 m 1648 ls [])) : W p l e room_1 s m #[Value.ref b] below meth c H locs cells slots Q (F0 m 1240 ls []) := by
  have hC := C
  obtain ⟨⟨hx, hb, hr, hml, hown, hts0, hX, hbl, hlocks, hgv⟩, hK, hN⟩ := C
  have hown : s.vm.findClass RL = some m.cls := hown
  have hts : ∀ w ∈ tblG, w.before #[Value.ref b] s = true := fun w h => hts0 w (List.mem_filter.mp h).1
  refine lv_aload_n hx hb dL_law_1240 rfl (lv_at hl 2 rfl) ?_
  refine lv_aload_n hx hb dL_law_1241 rfl (lv_at hl 3 rfl) ?_
  refine lv_iload_n hx hb dL_law_1242 rfl (lv_at hl 0 rfl) ?_
  refine lv_iconst (v := 1) hx hb dL_law_1243 (by decide) ?_
  refine lv_iadd hx hb dL_law_1244 ?_
  have t_1 : (i + 1).toInt = i.toInt + 1 := g5_iadd (a := i.toInt) (b := 1) (by rfl) (by decide) (by omega) (by omega)
  refine va_sld hx hb hX hbl hbA hS (vp_in_iff.mpr ⟨by omega, by omega⟩) dL_law_1245 ?_
  obtain ⟨q2, hq2⟩ : ∃ y : Int32, xs (i + 1).toNatClampNeg = y := ⟨_, rfl⟩
  refine g5_ti (v := q2) hq2 ?_
  refine lv_aload_n hx hb dL_law_1246 rfl (lv_at hl 3 rfl) ?_
  refine lv_iload_n hx hb dL_law_1247 rfl (lv_at hl 0 rfl) ?_
  refine lv_iconst (v := 2) hx hb dL_law_1248 (by decide) ?_
  refine lv_iadd hx hb dL_law_1249 ?_
  have t_3 : (i + 2).toInt = i.toInt + 2 := g5_iadd (a := i.toInt) (b := 2) (by rfl) (by decide) (by omega) (by omega)
  refine va_sld hx hb hX hbl hbA hS (vp_in_iff.mpr ⟨by omega, by omega⟩) dL_law_1250 ?_
  obtain ⟨q4, hq4⟩ : ∃ y : Int32, xs (i + 2).toNatClampNeg = y := ⟨_, rfl⟩
  refine g5_ti (v := q4) hq4 ?_
  refine lv_aload_n hx hb dL_law_1251 rfl (lv_at hl 3 rfl) ?_
  refine lv_iload_n hx hb dL_law_1252 rfl (lv_at hl 0 rfl) ?_
  refine lv_iconst (v := 3) hx hb dL_law_1253 (by decide) ?_
  refine lv_iadd hx hb dL_law_1254 ?_
  have t_5 : (i + 3).toInt = i.toInt + 3 := g5_iadd (a := i.toInt) (b := 3) (by rfl) (by decide) (by omega) (by omega)
  refine va_sld hx hb hX hbl hbA hS (vp_in_iff.mpr ⟨by omega, by omega⟩) dL_law_1255 ?_
  obtain ⟨q6, hq6⟩ : ∃ y : Int32, xs (i + 3).toNatClampNeg = y := ⟨_, rfl⟩
  refine g5_ti (v := q6) hq6 ?_
  refine lv_aload_n hx hb dL_law_1256 rfl (lv_at hl 3 rfl) ?_
  refine lv_iload_n hx hb dL_law_1257 rfl (lv_at hl 0 rfl) ?_
  refine lv_iconst (v := 4) hx hb dL_law_1258 (by decide) ?_
  refine lv_iadd hx hb dL_law_1259 ?_
  have t_7 : (i + 4).toInt = i.toInt + 4 := g5_iadd (a := i.toInt) (b := 4) (by rfl) (by decide) (by omega) (by omega)
  refine va_sld hx hb hX hbl hbA hS (vp_in_iff.mpr ⟨by omega, by omega⟩) dL_law_1260 ?_
  obtain ⟨q8, hq8⟩ : ∃ y : Int32, xs (i + 4).toNatClampNeg = y := ⟨_, rfl⟩
  refine g5_ti (v := q8) hq8 ?_
  refine lv_aload_n hx hb dL_law_1261 rfl (lv_at hl 3 rfl) ?_
  refine lv_iload_n hx hb dL_law_1262 rfl (lv_at hl 0 rfl) ?_
  refine lv_iconst (v := 5) hx hb dL_law_1263 (by decide) ?_
  refine lv_iadd hx hb dL_law_1264 ?_
  have t_9 : (i + 5).toInt = i.toInt + 5 := g5_iadd (a := i.toInt) (b := 5) (by rfl) (by decide) (by omega) (by omega)
  refine va_sld hx hb hX hbl hbA hS (vp_in_iff.mpr ⟨by omega, by omega⟩) dL_law_1265 ?_
  obtain ⟨q10, hq10⟩ : ∃ y : Int32, xs (i + 5).toNatClampNeg = y := ⟨_, rfl⟩
  refine g5_ti (v := q10) hq10 ?_
  refine lv_aload_n hx hb dL_law_1266 rfl (lv_at hl 3 rfl) ?_
  refine lv_iload_n hx hb dL_law_1267 rfl (lv_at hl 0 rfl) ?_
  refine lv_bipush (v := 6) hx hb dL_law_1268 (by decide) ?_
  refine lv_iadd hx hb dL_law_1270 ?_
  have t_11 : (i + 6).toInt = i.toInt + 6 := g5_iadd (a := i.toInt) (b := 6) (by rfl) (by decide) (by omega) (by omega)
  refine va_sld hx hb hX hbl hbA hS (vp_in_iff.mpr ⟨by omega, by omega⟩) dL_law_1271 ?_
  obtain ⟨q12, hq12⟩ : ∃ y : Int32, xs (i + 6).toNatClampNeg = y := ⟨_, rfl⟩
  refine g5_ti (v := q12) hq12 ?_
  refine sx_wish hC hA hT hS hl.1 ⟨by omega, by omega⟩ hLO hI hP hD (fun r13 w hI {H} {locs} hP hD hS => ?_)
  have hP := hP.perm (List.perm_append_comm_assoc w mw (pflat G Lw))
  have hD := hD.perm (List.perm_append_comm_assoc w mw (pflat G Lw))
  refine lv_pop hx hb dL_law_1275 rfl ?_
  refine lv_aload_n hx hb dL_law_1276 rfl (lv_at hl 1 rfl) ?_
  refine lv_aload_n hx hb dL_law_1277 rfl (lv_at hl 3 rfl) ?_
  refine lv_iload_n hx hb dL_law_1278 rfl (lv_at hl 0 rfl) ?_
  refine lv_iconst (v := 1) hx hb dL_law_1279 (by decide) ?_
  refine lv_iadd hx hb dL_law_1280 ?_
  have t_14 : (i + 1).toInt = i.toInt + 1 := g5_iadd (a := i.toInt) (b := 1) (by rfl) (by decide) (by omega) (by omega)
  refine va_sld hx hb hX hbl hbA hS (vp_in_iff.mpr ⟨by omega, by omega⟩) dL_law_1281 ?_
  refine g5_ti (v := q2) hq2 ?_
  refine lv_aload_n hx hb dL_law_1282 rfl (lv_at hl 3 rfl) ?_
  refine lv_iload_n hx hb dL_law_1283 rfl (lv_at hl 0 rfl) ?_
  refine lv_iconst (v := 2) hx hb dL_law_1284 (by decide) ?_
  refine lv_iadd hx hb dL_law_1285 ?_
  have t_15 : (i + 2).toInt = i.toInt + 2 := g5_iadd (a := i.toInt) (b := 2) (by rfl) (by decide) (by omega) (by omega)
  refine va_sld hx hb hX hbl hbA hS (vp_in_iff.mpr ⟨by omega, by omega⟩) dL_law_1286 ?_
  refine g5_ti (v := q4) hq4 ?_
  refine lv_aload_n hx hb dL_law_1287 rfl (lv_at hl 3 rfl) ?_
  refine lv_iload_n hx hb dL_law_1288 rfl (lv_at hl 0 rfl) ?_
  refine lv_iconst (v := 3) hx hb dL_law_1289 (by decide) ?_
  refine lv_iadd hx hb dL_law_1290 ?_
  have t_16 : (i + 3).toInt = i.toInt + 3 := g5_iadd (a := i.toInt) (b := 3) (by rfl) (by decide) (by omega) (by omega)
  refine va_sld hx hb hX hbl hbA hS (vp_in_iff.mpr ⟨by omega, by omega⟩) dL_law_1291 ?_
  refine g5_ti (v := q6) hq6 ?_
  refine lv_aload_n hx hb dL_law_1292 rfl (lv_at hl 3 rfl) ?_
  refine lv_iload_n hx hb dL_law_1293 rfl (lv_at hl 0 rfl) ?_
  refine lv_iconst (v := 4) hx hb dL_law_1294 (by decide) ?_
  refine lv_iadd hx hb dL_law_1295 ?_
  have t_17 : (i + 4).toInt = i.toInt + 4 := g5_iadd (a := i.toInt) (b := 4) (by rfl) (by decide) (by omega) (by omega)
  refine va_sld hx hb hX hbl hbA hS (vp_in_iff.mpr ⟨by omega, by omega⟩) dL_law_1296 ?_
  refine g5_ti (v := q8) hq8 ?_
  refine lv_aload_n hx hb dL_law_1297 rfl (lv_at hl 3 rfl) ?_
  refine lv_iload_n hx hb dL_law_1298 rfl (lv_at hl 0 rfl) ?_
  refine lv_iconst (v := 5) hx hb dL_law_1299 (by decide) ?_
  refine lv_iadd hx hb dL_law_1300 ?_
  have t_18 : (i + 5).toInt = i.toInt + 5 := g5_iadd (a := i.toInt) (b := 5) (by rfl) (by decide) (by omega) (by omega)
  refine va_sld hx hb hX hbl hbA hS (vp_in_iff.mpr ⟨by omega, by omega⟩) dL_law_1301 ?_
  refine g5_ti (v := q10) hq10 ?_
  refine lv_aload_n hx hb dL_law_1302 rfl (lv_at hl 3 rfl) ?_
  refine lv_iload_n hx hb dL_law_1303 rfl (lv_at hl 0 rfl) ?_
  refine lv_bipush (v := 6) hx hb dL_law_1304 (by decide) ?_
  refine lv_iadd hx hb dL_law_1306 ?_
  have t_19 : (i + 6).toInt = i.toInt + 6 := g5_iadd (a := i.toInt) (b := 6) (by rfl) (by decide) (by omega) (by omega)
  refine va_sld hx hb hX hbl hbA hS (vp_in_iff.mpr ⟨by omega, by omega⟩) dL_law_1307 ?_
  refine g5_ti (v := q12) hq12 ?_
  refine sm_wish hC hA hT hS hl.1 ⟨by omega, by omega⟩ hM hP hD (fun r20 mw hM {H} {locs} hP hD hS => ?_)
  have hP := hP.perm (List.perm_append_comm_assoc mw w (pflat G Lw))
  have hD := hD.perm (List.perm_append_comm_assoc mw w (pflat G Lw))
  refine lv_pop hx hb dL_law_1311 rfl ?_
  refine lv_goto (tgt := 1648) hx hb dL_law_1312 (by decide) ?_
  refine W.widen (k := cells + 4) (n := slots + 429) (by omega) (by omega) ?_
  exact kk (swish f_ro q2 q4 q6 q8 q10 q12) f_im f_ke f_x e_tl e_fd f_wd e_wn e_fpl g_L g_F g_M Lw w mw H locs ls hLO hI hM hP hD hS (lv_sub hl [0, 1, 2, 3] rfl)
set_option maxHeartbeats 4000000 in
set_option maxRecDepth 100000 in
theorem lc_lacks {p : Program} {l : Launch} {e : Env} {s : State} {m : MethodId} {below : List Frame} {meth : Method} {c : Code} {b Ls : Nat} {xs : Nat → Int32} {G : g5_G} {A : Nat → Prop} {Q : State → Prop} {H : Heap} {locs : List Loc} {ls : Array Slot} {cells slots : Nat} {w mw : va_W} {Lw : List LR} {x y : Nat} {f_ro : Nat → Int32} {f_im : Nat → Int32} {f_ke : Nat → Int32} {f_x : Nat → Int32} {e_tl : Int32} {e_fd : Int32} {f_wd : Nat → Int32} {e_wn : Int32} {e_fpl : Int32} {g_L : LLS} {g_F : Int32} {g_M : LMS} {i : Int32} (C : lwC p s m meth c b Ls xs G) (hA : ∀ q : Nat, s.heap.size ≤ q → A q) (hT : g5_S A s s.heap) (hbA : ¬ A b) (hS : va_S A s.heap H locs) (hrm : cells + 8 ≤ 600000 ∧ slots + 858 ≤ 7302250) (hLO : LOK Lw) (hI : XW G Lw x f_ro f_im f_ke f_x e_tl e_fd f_wd e_wn e_fpl g_L g_F g_M w) (hM : MW G y f_ro f_im f_ke f_x e_tl e_fd f_wd e_wn e_fpl g_L g_F g_M mw) (hP : va_P G.1 vwCl (w ++ (mw ++ pflat G Lw)) H) (hD : va_D A (w ++ (mw ++ pflat G Lw))) (hl : lv_has ls 4 [(3, .int i), (2, .ref y), (1, .ref x), (0, .ref b)]) (hi : 0 ≤ i.toInt ∧ i.toInt + 7 ≤ (Ls : Int)) (hLs : Ls ≤ 3584) (kk : ∀ (f_ro : Nat → Int32) (f_im : Nat → Int32) (f_ke : Nat → Int32) (f_x : Nat → Int32) (e_tl : Int32) (e_fd : Int32) (f_wd : Nat → Int32) (e_wn : Int32) (e_fpl : Int32) (g_L : LLS) (g_F : Int32) (g_M : LMS) (Lw : List LR) (w mw : va_W) (H : Heap) (locs : List Loc) (ls : Array Slot), LOK Lw → XW G Lw x f_ro f_im f_ke f_x e_tl e_fd f_wd e_wn e_fpl g_L g_F g_M w → MW G y f_ro f_im f_ke f_x e_tl e_fd f_wd e_wn e_fpl g_L g_F g_M mw → va_P G.1 vwCl (w ++ (mw ++ pflat G Lw)) H → va_D A (w ++ (mw ++ pflat G Lw)) → va_S A s.heap H locs → lv_has ls 4 [(3, .int i), (2, .ref y), (1, .ref x), (0, .ref b)] → W p l e room_1 s m #[Value.ref b] below meth c H locs (cells + 4) (slots + 429) Q (F0 m 1648 ls [])) : W p l e room_1 s m #[Value.ref b] below meth c H locs cells slots Q (F0 m 1315 ls []) := by
  have hC := C
  obtain ⟨⟨hx, hb, hr, hml, hown, hts0, hX, hbl, hlocks, hgv⟩, hK, hN⟩ := C
  have hown : s.vm.findClass RL = some m.cls := hown
  have hts : ∀ w ∈ tblG, w.before #[Value.ref b] s = true := fun w h => hts0 w (List.mem_filter.mp h).1
  refine lv_aload_n hx hb dL_law_1315 rfl (lv_at hl 2 rfl) ?_
  refine lv_aload_n hx hb dL_law_1316 rfl (lv_at hl 3 rfl) ?_
  refine lv_iload_n hx hb dL_law_1317 rfl (lv_at hl 0 rfl) ?_
  refine lv_iconst (v := 1) hx hb dL_law_1318 (by decide) ?_
  refine lv_iadd hx hb dL_law_1319 ?_
  have t_1 : (i + 1).toInt = i.toInt + 1 := g5_iadd (a := i.toInt) (b := 1) (by rfl) (by decide) (by omega) (by omega)
  refine va_sld hx hb hX hbl hbA hS (vp_in_iff.mpr ⟨by omega, by omega⟩) dL_law_1320 ?_
  obtain ⟨q2, hq2⟩ : ∃ y : Int32, xs (i + 1).toNatClampNeg = y := ⟨_, rfl⟩
  refine g5_ti (v := q2) hq2 ?_
  refine sx_lacks hC hA hT hS hl.1 ⟨by omega, by omega⟩ hLO hI hP hD (fun r3 w hI hrel {H} {locs} hP hD hS => ?_)
  have hP := hP.perm (List.perm_append_comm_assoc w mw (pflat G Lw))
  have hD := hD.perm (List.perm_append_comm_assoc w mw (pflat G Lw))
  refine lv_aload_n hx hb dL_law_1324 rfl (lv_at hl 1 rfl) ?_
  refine lv_aload_n hx hb dL_law_1325 rfl (lv_at hl 3 rfl) ?_
  refine lv_iload_n hx hb dL_law_1326 rfl (lv_at hl 0 rfl) ?_
  refine lv_iconst (v := 1) hx hb dL_law_1327 (by decide) ?_
  refine lv_iadd hx hb dL_law_1328 ?_
  have t_4 : (i + 1).toInt = i.toInt + 1 := g5_iadd (a := i.toInt) (b := 1) (by rfl) (by decide) (by omega) (by omega)
  refine va_sld hx hb hX hbl hbA hS (vp_in_iff.mpr ⟨by omega, by omega⟩) dL_law_1329 ?_
  refine g5_ti (v := q2) hq2 ?_
  refine sm_lacks hC hA hT hS hl.1 ⟨by omega, by omega⟩ hM hP hD (fun r5 mw hM hrel2 {H} {locs} hP hD hS => ?_)
  have hP := hP.perm (List.perm_append_comm_assoc mw w (pflat G Lw))
  have hD := hD.perm (List.perm_append_comm_assoc mw w (pflat G Lw))
  refine lv_icmp_eq (tgt := 1648) hx hb dL_law_1333 (by decide) (fun _ => ?_) (fun cn => absurd (Int32.toInt_inj.mp (show r3.toInt = r5.toInt by rw [hrel, hrel2])) cn)
  refine W.widen (k := cells + 4) (n := slots + 429) (by omega) (by omega) ?_
  exact kk f_ro f_im f_ke f_x e_tl e_fd f_wd e_wn e_fpl g_L g_F g_M Lw w mw H locs ls hLO hI hM hP hD hS (lv_sub hl [0, 1, 2, 3] rfl)
set_option maxHeartbeats 4000000 in
set_option maxRecDepth 100000 in
theorem lc_hang {p : Program} {l : Launch} {e : Env} {s : State} {m : MethodId} {below : List Frame} {meth : Method} {c : Code} {b Ls : Nat} {xs : Nat → Int32} {G : g5_G} {A : Nat → Prop} {Q : State → Prop} {H : Heap} {locs : List Loc} {ls : Array Slot} {cells slots : Nat} {w mw : va_W} {Lw : List LR} {x y : Nat} {f_ro : Nat → Int32} {f_im : Nat → Int32} {f_ke : Nat → Int32} {f_x : Nat → Int32} {e_tl : Int32} {e_fd : Int32} {f_wd : Nat → Int32} {e_wn : Int32} {e_fpl : Int32} {g_L : LLS} {g_F : Int32} {g_M : LMS} {i : Int32} (C : lwC p s m meth c b Ls xs G) (hA : ∀ q : Nat, s.heap.size ≤ q → A q) (hT : g5_S A s s.heap) (hbA : ¬ A b) (hS : va_S A s.heap H locs) (hrm : cells + 8 ≤ 600000 ∧ slots + 858 ≤ 7302250) (hLO : LOK Lw) (hI : XW G Lw x f_ro f_im f_ke f_x e_tl e_fd f_wd e_wn e_fpl g_L g_F g_M w) (hM : MW G y f_ro f_im f_ke f_x e_tl e_fd f_wd e_wn e_fpl g_L g_F g_M mw) (hP : va_P G.1 vwCl (w ++ (mw ++ pflat G Lw)) H) (hD : va_D A (w ++ (mw ++ pflat G Lw))) (hl : lv_has ls 4 [(3, .int i), (2, .ref y), (1, .ref x), (0, .ref b)]) (hi : 0 ≤ i.toInt ∧ i.toInt + 7 ≤ (Ls : Int)) (hLs : Ls ≤ 3584) (kk : ∀ (f_ro : Nat → Int32) (f_im : Nat → Int32) (f_ke : Nat → Int32) (f_x : Nat → Int32) (e_tl : Int32) (e_fd : Int32) (f_wd : Nat → Int32) (e_wn : Int32) (e_fpl : Int32) (g_L : LLS) (g_F : Int32) (g_M : LMS) (Lw : List LR) (w mw : va_W) (H : Heap) (locs : List Loc) (ls : Array Slot), LOK Lw → XW G Lw x f_ro f_im f_ke f_x e_tl e_fd f_wd e_wn e_fpl g_L g_F g_M w → MW G y f_ro f_im f_ke f_x e_tl e_fd f_wd e_wn e_fpl g_L g_F g_M mw → va_P G.1 vwCl (w ++ (mw ++ pflat G Lw)) H → va_D A (w ++ (mw ++ pflat G Lw)) → va_S A s.heap H locs → lv_has ls 4 [(3, .int i), (2, .ref y), (1, .ref x), (0, .ref b)] → W p l e room_1 s m #[Value.ref b] below meth c H locs (cells + 4) (slots + 429) Q (F0 m 1648 ls [])) : W p l e room_1 s m #[Value.ref b] below meth c H locs cells slots Q (F0 m 1338 ls []) := by
  have hC := C
  obtain ⟨⟨hx, hb, hr, hml, hown, hts0, hX, hbl, hlocks, hgv⟩, hK, hN⟩ := C
  have hown : s.vm.findClass RL = some m.cls := hown
  have hts : ∀ w ∈ tblG, w.before #[Value.ref b] s = true := fun w h => hts0 w (List.mem_filter.mp h).1
  refine lv_aload_n hx hb dL_law_1338 rfl (lv_at hl 2 rfl) ?_
  refine lv_aload_n hx hb dL_law_1339 rfl (lv_at hl 3 rfl) ?_
  refine lv_iload_n hx hb dL_law_1340 rfl (lv_at hl 0 rfl) ?_
  refine lv_iconst (v := 1) hx hb dL_law_1341 (by decide) ?_
  refine lv_iadd hx hb dL_law_1342 ?_
  have t_1 : (i + 1).toInt = i.toInt + 1 := g5_iadd (a := i.toInt) (b := 1) (by rfl) (by decide) (by omega) (by omega)
  refine va_sld hx hb hX hbl hbA hS (vp_in_iff.mpr ⟨by omega, by omega⟩) dL_law_1343 ?_
  obtain ⟨q2, hq2⟩ : ∃ y : Int32, xs (i + 1).toNatClampNeg = y := ⟨_, rfl⟩
  refine g5_ti (v := q2) hq2 ?_
  refine sx_hang hC hA hT hS hl.1 ⟨by omega, by omega⟩ hLO hI hP hD (fun r3 w hI {H} {locs} hP hD hS => ?_)
  have hP := hP.perm (List.perm_append_comm_assoc w mw (pflat G Lw))
  have hD := hD.perm (List.perm_append_comm_assoc w mw (pflat G Lw))
  refine lv_pop hx hb dL_law_1347 rfl ?_
  refine lv_aload_n hx hb dL_law_1348 rfl (lv_at hl 1 rfl) ?_
  refine lv_aload_n hx hb dL_law_1349 rfl (lv_at hl 3 rfl) ?_
  refine lv_iload_n hx hb dL_law_1350 rfl (lv_at hl 0 rfl) ?_
  refine lv_iconst (v := 1) hx hb dL_law_1351 (by decide) ?_
  refine lv_iadd hx hb dL_law_1352 ?_
  have t_4 : (i + 1).toInt = i.toInt + 1 := g5_iadd (a := i.toInt) (b := 1) (by rfl) (by decide) (by omega) (by omega)
  refine va_sld hx hb hX hbl hbA hS (vp_in_iff.mpr ⟨by omega, by omega⟩) dL_law_1353 ?_
  refine g5_ti (v := q2) hq2 ?_
  refine sm_hang hC hA hT hS hl.1 ⟨by omega, by omega⟩ hM hP hD (fun r5 mw hM {H} {locs} hP hD hS => ?_)
  have hP := hP.perm (List.perm_append_comm_assoc mw w (pflat G Lw))
  have hD := hD.perm (List.perm_append_comm_assoc mw w (pflat G Lw))
  refine lv_pop hx hb dL_law_1357 rfl ?_
  refine lv_goto (tgt := 1648) hx hb dL_law_1358 (by decide) ?_
  refine W.widen (k := cells + 4) (n := slots + 429) (by omega) (by omega) ?_
  exact kk f_ro f_im f_ke f_x e_tl e_fd f_wd e_wn e_fpl g_L g_F g_M Lw w mw H locs ls hLO hI hM hP hD hS (lv_sub hl [0, 1, 2, 3] rfl)
set_option maxHeartbeats 4000000 in
set_option maxRecDepth 100000 in
theorem lc_soonest {p : Program} {l : Launch} {e : Env} {s : State} {m : MethodId} {below : List Frame} {meth : Method} {c : Code} {b Ls : Nat} {xs : Nat → Int32} {G : g5_G} {A : Nat → Prop} {Q : State → Prop} {H : Heap} {locs : List Loc} {ls : Array Slot} {cells slots : Nat} {w mw : va_W} {Lw : List LR} {x y : Nat} {f_ro : Nat → Int32} {f_im : Nat → Int32} {f_ke : Nat → Int32} {f_x : Nat → Int32} {e_tl : Int32} {e_fd : Int32} {f_wd : Nat → Int32} {e_wn : Int32} {e_fpl : Int32} {g_L : LLS} {g_F : Int32} {g_M : LMS} {i : Int32} (C : lwC p s m meth c b Ls xs G) (hA : ∀ q : Nat, s.heap.size ≤ q → A q) (hT : g5_S A s s.heap) (hbA : ¬ A b) (hS : va_S A s.heap H locs) (hrm : cells + 8 ≤ 600000 ∧ slots + 858 ≤ 7302250) (hLO : LOK Lw) (hI : XW G Lw x f_ro f_im f_ke f_x e_tl e_fd f_wd e_wn e_fpl g_L g_F g_M w) (hM : MW G y f_ro f_im f_ke f_x e_tl e_fd f_wd e_wn e_fpl g_L g_F g_M mw) (hP : va_P G.1 vwCl (w ++ (mw ++ pflat G Lw)) H) (hD : va_D A (w ++ (mw ++ pflat G Lw))) (hl : lv_has ls 4 [(3, .int i), (2, .ref y), (1, .ref x), (0, .ref b)]) (hi : 0 ≤ i.toInt ∧ i.toInt + 7 ≤ (Ls : Int)) (hLs : Ls ≤ 3584) (kk : ∀ (f_ro : Nat → Int32) (f_im : Nat → Int32) (f_ke : Nat → Int32) (f_x : Nat → Int32) (e_tl : Int32) (e_fd : Int32) (f_wd : Nat → Int32) (e_wn : Int32) (e_fpl : Int32) (g_L : LLS) (g_F : Int32) (g_M : LMS) (Lw : List LR) (w mw : va_W) (H : Heap) (locs : List Loc) (ls : Array Slot), LOK Lw → XW G Lw x f_ro f_im f_ke f_x e_tl e_fd f_wd e_wn e_fpl g_L g_F g_M w → MW G y f_ro f_im f_ke f_x e_tl e_fd f_wd e_wn e_fpl g_L g_F g_M mw → va_P G.1 vwCl (w ++ (mw ++ pflat G Lw)) H → va_D A (w ++ (mw ++ pflat G Lw)) → va_S A s.heap H locs → lv_has ls 4 [(3, .int i), (2, .ref y), (1, .ref x), (0, .ref b)] → W p l e room_1 s m #[Value.ref b] below meth c H locs (cells + 4) (slots + 429) Q (F0 m 1648 ls [])) : W p l e room_1 s m #[Value.ref b] below meth c H locs cells slots Q (F0 m 1361 ls []) := by
  have hC := C
  obtain ⟨⟨hx, hb, hr, hml, hown, hts0, hX, hbl, hlocks, hgv⟩, hK, hN⟩ := C
  have hown : s.vm.findClass RL = some m.cls := hown
  have hts : ∀ w ∈ tblG, w.before #[Value.ref b] s = true := fun w h => hts0 w (List.mem_filter.mp h).1
  refine lv_aload_n hx hb dL_law_1361 rfl (lv_at hl 2 rfl) ?_
  refine lv_aload_n hx hb dL_law_1362 rfl (lv_at hl 3 rfl) ?_
  refine lv_iload_n hx hb dL_law_1363 rfl (lv_at hl 0 rfl) ?_
  refine lv_iconst (v := 1) hx hb dL_law_1364 (by decide) ?_
  refine lv_iadd hx hb dL_law_1365 ?_
  have t_1 : (i + 1).toInt = i.toInt + 1 := g5_iadd (a := i.toInt) (b := 1) (by rfl) (by decide) (by omega) (by omega)
  refine va_sld hx hb hX hbl hbA hS (vp_in_iff.mpr ⟨by omega, by omega⟩) dL_law_1366 ?_
  obtain ⟨q2, hq2⟩ : ∃ y : Int32, xs (i + 1).toNatClampNeg = y := ⟨_, rfl⟩
  refine g5_ti (v := q2) hq2 ?_
  refine lv_aload_n hx hb dL_law_1367 rfl (lv_at hl 3 rfl) ?_
  refine lv_iload_n hx hb dL_law_1368 rfl (lv_at hl 0 rfl) ?_
  refine lv_iconst (v := 2) hx hb dL_law_1369 (by decide) ?_
  refine lv_iadd hx hb dL_law_1370 ?_
  have t_3 : (i + 2).toInt = i.toInt + 2 := g5_iadd (a := i.toInt) (b := 2) (by rfl) (by decide) (by omega) (by omega)
  refine va_sld hx hb hX hbl hbA hS (vp_in_iff.mpr ⟨by omega, by omega⟩) dL_law_1371 ?_
  obtain ⟨q4, hq4⟩ : ∃ y : Int32, xs (i + 2).toNatClampNeg = y := ⟨_, rfl⟩
  refine g5_ti (v := q4) hq4 ?_
  refine lv_aload_n hx hb dL_law_1372 rfl (lv_at hl 3 rfl) ?_
  refine lv_iload_n hx hb dL_law_1373 rfl (lv_at hl 0 rfl) ?_
  refine lv_iconst (v := 3) hx hb dL_law_1374 (by decide) ?_
  refine lv_iadd hx hb dL_law_1375 ?_
  have t_5 : (i + 3).toInt = i.toInt + 3 := g5_iadd (a := i.toInt) (b := 3) (by rfl) (by decide) (by omega) (by omega)
  refine va_sld hx hb hX hbl hbA hS (vp_in_iff.mpr ⟨by omega, by omega⟩) dL_law_1376 ?_
  obtain ⟨q6, hq6⟩ : ∃ y : Int32, xs (i + 3).toNatClampNeg = y := ⟨_, rfl⟩
  refine g5_ti (v := q6) hq6 ?_
  refine sx_soonest hC hA hT hS hl.1 ⟨by omega, by omega⟩ hLO hI hP hD (fun r7 w hI {H} {locs} hP hD hS => ?_)
  have hP := hP.perm (List.perm_append_comm_assoc w mw (pflat G Lw))
  have hD := hD.perm (List.perm_append_comm_assoc w mw (pflat G Lw))
  refine lv_pop hx hb dL_law_1380 rfl ?_
  refine lv_aload_n hx hb dL_law_1381 rfl (lv_at hl 1 rfl) ?_
  refine lv_aload_n hx hb dL_law_1382 rfl (lv_at hl 3 rfl) ?_
  refine lv_iload_n hx hb dL_law_1383 rfl (lv_at hl 0 rfl) ?_
  refine lv_iconst (v := 1) hx hb dL_law_1384 (by decide) ?_
  refine lv_iadd hx hb dL_law_1385 ?_
  have t_8 : (i + 1).toInt = i.toInt + 1 := g5_iadd (a := i.toInt) (b := 1) (by rfl) (by decide) (by omega) (by omega)
  refine va_sld hx hb hX hbl hbA hS (vp_in_iff.mpr ⟨by omega, by omega⟩) dL_law_1386 ?_
  refine g5_ti (v := q2) hq2 ?_
  refine lv_aload_n hx hb dL_law_1387 rfl (lv_at hl 3 rfl) ?_
  refine lv_iload_n hx hb dL_law_1388 rfl (lv_at hl 0 rfl) ?_
  refine lv_iconst (v := 2) hx hb dL_law_1389 (by decide) ?_
  refine lv_iadd hx hb dL_law_1390 ?_
  have t_9 : (i + 2).toInt = i.toInt + 2 := g5_iadd (a := i.toInt) (b := 2) (by rfl) (by decide) (by omega) (by omega)
  refine va_sld hx hb hX hbl hbA hS (vp_in_iff.mpr ⟨by omega, by omega⟩) dL_law_1391 ?_
  refine g5_ti (v := q4) hq4 ?_
  refine lv_aload_n hx hb dL_law_1392 rfl (lv_at hl 3 rfl) ?_
  refine lv_iload_n hx hb dL_law_1393 rfl (lv_at hl 0 rfl) ?_
  refine lv_iconst (v := 3) hx hb dL_law_1394 (by decide) ?_
  refine lv_iadd hx hb dL_law_1395 ?_
  have t_10 : (i + 3).toInt = i.toInt + 3 := g5_iadd (a := i.toInt) (b := 3) (by rfl) (by decide) (by omega) (by omega)
  refine va_sld hx hb hX hbl hbA hS (vp_in_iff.mpr ⟨by omega, by omega⟩) dL_law_1396 ?_
  refine g5_ti (v := q6) hq6 ?_
  refine sm_soonest hC hA hT hS hl.1 ⟨by omega, by omega⟩ hM hP hD (fun r11 mw hM {H} {locs} hP hD hS => ?_)
  have hP := hP.perm (List.perm_append_comm_assoc mw w (pflat G Lw))
  have hD := hD.perm (List.perm_append_comm_assoc mw w (pflat G Lw))
  refine lv_pop hx hb dL_law_1400 rfl ?_
  refine lv_goto (tgt := 1648) hx hb dL_law_1401 (by decide) ?_
  refine W.widen (k := cells + 4) (n := slots + 429) (by omega) (by omega) ?_
  exact kk f_ro f_im f_ke f_x e_tl e_fd f_wd e_wn e_fpl g_L g_F g_M Lw w mw H locs ls hLO hI hM hP hD hS (lv_sub hl [0, 1, 2, 3] rfl)
set_option maxHeartbeats 4000000 in
set_option maxRecDepth 100000 in
theorem lc_way {p : Program} {l : Launch} {e : Env} {s : State} {m : MethodId} {below : List Frame} {meth : Method} {c : Code} {b Ls : Nat} {xs : Nat → Int32} {G : g5_G} {A : Nat → Prop} {Q : State → Prop} {H : Heap} {locs : List Loc} {ls : Array Slot} {cells slots : Nat} {w mw : va_W} {Lw : List LR} {x y : Nat} {f_ro : Nat → Int32} {f_im : Nat → Int32} {f_ke : Nat → Int32} {f_x : Nat → Int32} {e_tl : Int32} {e_fd : Int32} {f_wd : Nat → Int32} {e_wn : Int32} {e_fpl : Int32} {g_L : LLS} {g_F : Int32} {g_M : LMS} {i : Int32} (C : lwC p s m meth c b Ls xs G) (hA : ∀ q : Nat, s.heap.size ≤ q → A q) (hT : g5_S A s s.heap) (hbA : ¬ A b) (hS : va_S A s.heap H locs) (hrm : cells + 8 ≤ 600000 ∧ slots + 858 ≤ 7302250) (hLO : LOK Lw) (hI : XW G Lw x f_ro f_im f_ke f_x e_tl e_fd f_wd e_wn e_fpl g_L g_F g_M w) (hM : MW G y f_ro f_im f_ke f_x e_tl e_fd f_wd e_wn e_fpl g_L g_F g_M mw) (hP : va_P G.1 vwCl (w ++ (mw ++ pflat G Lw)) H) (hD : va_D A (w ++ (mw ++ pflat G Lw))) (hl : lv_has ls 4 [(3, .int i), (2, .ref y), (1, .ref x), (0, .ref b)]) (hi : 0 ≤ i.toInt ∧ i.toInt + 7 ≤ (Ls : Int)) (hLs : Ls ≤ 3584) (kk : ∀ (f_ro : Nat → Int32) (f_im : Nat → Int32) (f_ke : Nat → Int32) (f_x : Nat → Int32) (e_tl : Int32) (e_fd : Int32) (f_wd : Nat → Int32) (e_wn : Int32) (e_fpl : Int32) (g_L : LLS) (g_F : Int32) (g_M : LMS) (Lw : List LR) (w mw : va_W) (H : Heap) (locs : List Loc) (ls : Array Slot), LOK Lw → XW G Lw x f_ro f_im f_ke f_x e_tl e_fd f_wd e_wn e_fpl g_L g_F g_M w → MW G y f_ro f_im f_ke f_x e_tl e_fd f_wd e_wn e_fpl g_L g_F g_M mw → va_P G.1 vwCl (w ++ (mw ++ pflat G Lw)) H → va_D A (w ++ (mw ++ pflat G Lw)) → va_S A s.heap H locs → lv_has ls 4 [(3, .int i), (2, .ref y), (1, .ref x), (0, .ref b)] → W p l e room_1 s m #[Value.ref b] below meth c H locs (cells + 4) (slots + 429) Q (F0 m 1648 ls [])) : W p l e room_1 s m #[Value.ref b] below meth c H locs cells slots Q (F0 m 1404 ls []) := by
  have hC := C
  obtain ⟨⟨hx, hb, hr, hml, hown, hts0, hX, hbl, hlocks, hgv⟩, hK, hN⟩ := C
  have hown : s.vm.findClass RL = some m.cls := hown
  have hts : ∀ w ∈ tblG, w.before #[Value.ref b] s = true := fun w h => hts0 w (List.mem_filter.mp h).1
  refine lv_aload_n hx hb dL_law_1404 rfl (lv_at hl 2 rfl) ?_
  refine lv_aload_n hx hb dL_law_1405 rfl (lv_at hl 3 rfl) ?_
  refine lv_iload_n hx hb dL_law_1406 rfl (lv_at hl 0 rfl) ?_
  refine lv_iconst (v := 1) hx hb dL_law_1407 (by decide) ?_
  refine lv_iadd hx hb dL_law_1408 ?_
  have t_1 : (i + 1).toInt = i.toInt + 1 := g5_iadd (a := i.toInt) (b := 1) (by rfl) (by decide) (by omega) (by omega)
  refine va_sld hx hb hX hbl hbA hS (vp_in_iff.mpr ⟨by omega, by omega⟩) dL_law_1409 ?_
  obtain ⟨q2, hq2⟩ : ∃ y : Int32, xs (i + 1).toNatClampNeg = y := ⟨_, rfl⟩
  refine g5_ti (v := q2) hq2 ?_
  refine lv_aload_n hx hb dL_law_1410 rfl (lv_at hl 3 rfl) ?_
  refine lv_iload_n hx hb dL_law_1411 rfl (lv_at hl 0 rfl) ?_
  refine lv_iconst (v := 2) hx hb dL_law_1412 (by decide) ?_
  refine lv_iadd hx hb dL_law_1413 ?_
  have t_3 : (i + 2).toInt = i.toInt + 2 := g5_iadd (a := i.toInt) (b := 2) (by rfl) (by decide) (by omega) (by omega)
  refine va_sld hx hb hX hbl hbA hS (vp_in_iff.mpr ⟨by omega, by omega⟩) dL_law_1414 ?_
  obtain ⟨q4, hq4⟩ : ∃ y : Int32, xs (i + 2).toNatClampNeg = y := ⟨_, rfl⟩
  refine g5_ti (v := q4) hq4 ?_
  refine lv_aload_n hx hb dL_law_1415 rfl (lv_at hl 3 rfl) ?_
  refine lv_iload_n hx hb dL_law_1416 rfl (lv_at hl 0 rfl) ?_
  refine lv_iconst (v := 3) hx hb dL_law_1417 (by decide) ?_
  refine lv_iadd hx hb dL_law_1418 ?_
  have t_5 : (i + 3).toInt = i.toInt + 3 := g5_iadd (a := i.toInt) (b := 3) (by rfl) (by decide) (by omega) (by omega)
  refine va_sld hx hb hX hbl hbA hS (vp_in_iff.mpr ⟨by omega, by omega⟩) dL_law_1419 ?_
  obtain ⟨q6, hq6⟩ : ∃ y : Int32, xs (i + 3).toNatClampNeg = y := ⟨_, rfl⟩
  refine g5_ti (v := q6) hq6 ?_
  refine lv_aload_n hx hb dL_law_1420 rfl (lv_at hl 3 rfl) ?_
  refine lv_iload_n hx hb dL_law_1421 rfl (lv_at hl 0 rfl) ?_
  refine lv_iconst (v := 4) hx hb dL_law_1422 (by decide) ?_
  refine lv_iadd hx hb dL_law_1423 ?_
  have t_7 : (i + 4).toInt = i.toInt + 4 := g5_iadd (a := i.toInt) (b := 4) (by rfl) (by decide) (by omega) (by omega)
  refine va_sld hx hb hX hbl hbA hS (vp_in_iff.mpr ⟨by omega, by omega⟩) dL_law_1424 ?_
  obtain ⟨q8, hq8⟩ : ∃ y : Int32, xs (i + 4).toNatClampNeg = y := ⟨_, rfl⟩
  refine g5_ti (v := q8) hq8 ?_
  refine sx_way hC hA hT hS hl.1 ⟨by omega, by omega⟩ hLO hI hP hD (fun r9 w hI {H} {locs} hP hD hS => ?_)
  have hP := hP.perm (List.perm_append_comm_assoc w mw (pflat G Lw))
  have hD := hD.perm (List.perm_append_comm_assoc w mw (pflat G Lw))
  refine lv_pop hx hb dL_law_1428 rfl ?_
  refine lv_aload_n hx hb dL_law_1429 rfl (lv_at hl 1 rfl) ?_
  refine lv_aload_n hx hb dL_law_1430 rfl (lv_at hl 3 rfl) ?_
  refine lv_iload_n hx hb dL_law_1431 rfl (lv_at hl 0 rfl) ?_
  refine lv_iconst (v := 1) hx hb dL_law_1432 (by decide) ?_
  refine lv_iadd hx hb dL_law_1433 ?_
  have t_10 : (i + 1).toInt = i.toInt + 1 := g5_iadd (a := i.toInt) (b := 1) (by rfl) (by decide) (by omega) (by omega)
  refine va_sld hx hb hX hbl hbA hS (vp_in_iff.mpr ⟨by omega, by omega⟩) dL_law_1434 ?_
  refine g5_ti (v := q2) hq2 ?_
  refine lv_aload_n hx hb dL_law_1435 rfl (lv_at hl 3 rfl) ?_
  refine lv_iload_n hx hb dL_law_1436 rfl (lv_at hl 0 rfl) ?_
  refine lv_iconst (v := 2) hx hb dL_law_1437 (by decide) ?_
  refine lv_iadd hx hb dL_law_1438 ?_
  have t_11 : (i + 2).toInt = i.toInt + 2 := g5_iadd (a := i.toInt) (b := 2) (by rfl) (by decide) (by omega) (by omega)
  refine va_sld hx hb hX hbl hbA hS (vp_in_iff.mpr ⟨by omega, by omega⟩) dL_law_1439 ?_
  refine g5_ti (v := q4) hq4 ?_
  refine lv_aload_n hx hb dL_law_1440 rfl (lv_at hl 3 rfl) ?_
  refine lv_iload_n hx hb dL_law_1441 rfl (lv_at hl 0 rfl) ?_
  refine lv_iconst (v := 3) hx hb dL_law_1442 (by decide) ?_
  refine lv_iadd hx hb dL_law_1443 ?_
  have t_12 : (i + 3).toInt = i.toInt + 3 := g5_iadd (a := i.toInt) (b := 3) (by rfl) (by decide) (by omega) (by omega)
  refine va_sld hx hb hX hbl hbA hS (vp_in_iff.mpr ⟨by omega, by omega⟩) dL_law_1444 ?_
  refine g5_ti (v := q6) hq6 ?_
  refine lv_aload_n hx hb dL_law_1445 rfl (lv_at hl 3 rfl) ?_
  refine lv_iload_n hx hb dL_law_1446 rfl (lv_at hl 0 rfl) ?_
  refine lv_iconst (v := 4) hx hb dL_law_1447 (by decide) ?_
  refine lv_iadd hx hb dL_law_1448 ?_
  have t_13 : (i + 4).toInt = i.toInt + 4 := g5_iadd (a := i.toInt) (b := 4) (by rfl) (by decide) (by omega) (by omega)
  refine va_sld hx hb hX hbl hbA hS (vp_in_iff.mpr ⟨by omega, by omega⟩) dL_law_1449 ?_
  refine g5_ti (v := q8) hq8 ?_
  refine sm_way hC hA hT hS hl.1 ⟨by omega, by omega⟩ hM hP hD (fun r14 mw hM {H} {locs} hP hD hS => ?_)
  have hP := hP.perm (List.perm_append_comm_assoc mw w (pflat G Lw))
  have hD := hD.perm (List.perm_append_comm_assoc mw w (pflat G Lw))
  refine lv_pop hx hb dL_law_1453 rfl ?_
  refine lv_goto (tgt := 1648) hx hb dL_law_1454 (by decide) ?_
  refine W.widen (k := cells + 4) (n := slots + 429) (by omega) (by omega) ?_
  exact kk f_ro f_im f_ke f_x e_tl e_fd f_wd e_wn e_fpl g_L g_F g_M Lw w mw H locs ls hLO hI hM hP hD hS (lv_sub hl [0, 1, 2, 3] rfl)
set_option maxHeartbeats 4000000 in
set_option maxRecDepth 100000 in
theorem lc_sooner {p : Program} {l : Launch} {e : Env} {s : State} {m : MethodId} {below : List Frame} {meth : Method} {c : Code} {b Ls : Nat} {xs : Nat → Int32} {G : g5_G} {A : Nat → Prop} {Q : State → Prop} {H : Heap} {locs : List Loc} {ls : Array Slot} {cells slots : Nat} {w mw : va_W} {Lw : List LR} {x y : Nat} {f_ro : Nat → Int32} {f_im : Nat → Int32} {f_ke : Nat → Int32} {f_x : Nat → Int32} {e_tl : Int32} {e_fd : Int32} {f_wd : Nat → Int32} {e_wn : Int32} {e_fpl : Int32} {g_L : LLS} {g_F : Int32} {g_M : LMS} {i : Int32} (C : lwC p s m meth c b Ls xs G) (hA : ∀ q : Nat, s.heap.size ≤ q → A q) (hT : g5_S A s s.heap) (hbA : ¬ A b) (hS : va_S A s.heap H locs) (hrm : cells + 8 ≤ 600000 ∧ slots + 858 ≤ 7302250) (hLO : LOK Lw) (hI : XW G Lw x f_ro f_im f_ke f_x e_tl e_fd f_wd e_wn e_fpl g_L g_F g_M w) (hM : MW G y f_ro f_im f_ke f_x e_tl e_fd f_wd e_wn e_fpl g_L g_F g_M mw) (hP : va_P G.1 vwCl (w ++ (mw ++ pflat G Lw)) H) (hD : va_D A (w ++ (mw ++ pflat G Lw))) (hl : lv_has ls 4 [(3, .int i), (2, .ref y), (1, .ref x), (0, .ref b)]) (hi : 0 ≤ i.toInt ∧ i.toInt + 7 ≤ (Ls : Int)) (hLs : Ls ≤ 3584) (kk : ∀ (f_ro : Nat → Int32) (f_im : Nat → Int32) (f_ke : Nat → Int32) (f_x : Nat → Int32) (e_tl : Int32) (e_fd : Int32) (f_wd : Nat → Int32) (e_wn : Int32) (e_fpl : Int32) (g_L : LLS) (g_F : Int32) (g_M : LMS) (Lw : List LR) (w mw : va_W) (H : Heap) (locs : List Loc) (ls : Array Slot), LOK Lw → XW G Lw x f_ro f_im f_ke f_x e_tl e_fd f_wd e_wn e_fpl g_L g_F g_M w → MW G y f_ro f_im f_ke f_x e_tl e_fd f_wd e_wn e_fpl g_L g_F g_M mw → va_P G.1 vwCl (w ++ (mw ++ pflat G Lw)) H → va_D A (w ++ (mw ++ pflat G Lw)) → va_S A s.heap H locs → lv_has ls 4 [(3, .int i), (2, .ref y), (1, .ref x), (0, .ref b)] → W p l e room_1 s m #[Value.ref b] below meth c H locs (cells + 4) (slots + 429) Q (F0 m 1648 ls [])) : W p l e room_1 s m #[Value.ref b] below meth c H locs cells slots Q (F0 m 1457 ls []) := by
  have hC := C
  obtain ⟨⟨hx, hb, hr, hml, hown, hts0, hX, hbl, hlocks, hgv⟩, hK, hN⟩ := C
  have hown : s.vm.findClass RL = some m.cls := hown
  have hts : ∀ w ∈ tblG, w.before #[Value.ref b] s = true := fun w h => hts0 w (List.mem_filter.mp h).1
  refine lv_aload_n hx hb dL_law_1457 rfl (lv_at hl 2 rfl) ?_
  refine lv_aload_n hx hb dL_law_1458 rfl (lv_at hl 3 rfl) ?_
  refine lv_iload_n hx hb dL_law_1459 rfl (lv_at hl 0 rfl) ?_
  refine lv_iconst (v := 1) hx hb dL_law_1460 (by decide) ?_
  refine lv_iadd hx hb dL_law_1461 ?_
  have t_1 : (i + 1).toInt = i.toInt + 1 := g5_iadd (a := i.toInt) (b := 1) (by rfl) (by decide) (by omega) (by omega)
  refine va_sld hx hb hX hbl hbA hS (vp_in_iff.mpr ⟨by omega, by omega⟩) dL_law_1462 ?_
  obtain ⟨q2, hq2⟩ : ∃ y : Int32, xs (i + 1).toNatClampNeg = y := ⟨_, rfl⟩
  refine g5_ti (v := q2) hq2 ?_
  refine lv_aload_n hx hb dL_law_1463 rfl (lv_at hl 3 rfl) ?_
  refine lv_iload_n hx hb dL_law_1464 rfl (lv_at hl 0 rfl) ?_
  refine lv_iconst (v := 2) hx hb dL_law_1465 (by decide) ?_
  refine lv_iadd hx hb dL_law_1466 ?_
  have t_3 : (i + 2).toInt = i.toInt + 2 := g5_iadd (a := i.toInt) (b := 2) (by rfl) (by decide) (by omega) (by omega)
  refine va_sld hx hb hX hbl hbA hS (vp_in_iff.mpr ⟨by omega, by omega⟩) dL_law_1467 ?_
  obtain ⟨q4, hq4⟩ : ∃ y : Int32, xs (i + 2).toNatClampNeg = y := ⟨_, rfl⟩
  refine g5_ti (v := q4) hq4 ?_
  refine lv_aload_n hx hb dL_law_1468 rfl (lv_at hl 3 rfl) ?_
  refine lv_iload_n hx hb dL_law_1469 rfl (lv_at hl 0 rfl) ?_
  refine lv_iconst (v := 3) hx hb dL_law_1470 (by decide) ?_
  refine lv_iadd hx hb dL_law_1471 ?_
  have t_5 : (i + 3).toInt = i.toInt + 3 := g5_iadd (a := i.toInt) (b := 3) (by rfl) (by decide) (by omega) (by omega)
  refine va_sld hx hb hX hbl hbA hS (vp_in_iff.mpr ⟨by omega, by omega⟩) dL_law_1472 ?_
  obtain ⟨q6, hq6⟩ : ∃ y : Int32, xs (i + 3).toNatClampNeg = y := ⟨_, rfl⟩
  refine g5_ti (v := q6) hq6 ?_
  refine lv_aload_n hx hb dL_law_1473 rfl (lv_at hl 3 rfl) ?_
  refine lv_iload_n hx hb dL_law_1474 rfl (lv_at hl 0 rfl) ?_
  refine lv_iconst (v := 4) hx hb dL_law_1475 (by decide) ?_
  refine lv_iadd hx hb dL_law_1476 ?_
  have t_7 : (i + 4).toInt = i.toInt + 4 := g5_iadd (a := i.toInt) (b := 4) (by rfl) (by decide) (by omega) (by omega)
  refine va_sld hx hb hX hbl hbA hS (vp_in_iff.mpr ⟨by omega, by omega⟩) dL_law_1477 ?_
  obtain ⟨q8, hq8⟩ : ∃ y : Int32, xs (i + 4).toNatClampNeg = y := ⟨_, rfl⟩
  refine g5_ti (v := q8) hq8 ?_
  refine sx_sooner hC hA hT hS hl.1 ⟨by omega, by omega⟩ hLO hI hP hD (fun r9 w hI {H} {locs} hP hD hS => ?_)
  have hP := hP.perm (List.perm_append_comm_assoc w mw (pflat G Lw))
  have hD := hD.perm (List.perm_append_comm_assoc w mw (pflat G Lw))
  refine lv_pop hx hb dL_law_1481 rfl ?_
  refine lv_aload_n hx hb dL_law_1482 rfl (lv_at hl 1 rfl) ?_
  refine lv_aload_n hx hb dL_law_1483 rfl (lv_at hl 3 rfl) ?_
  refine lv_iload_n hx hb dL_law_1484 rfl (lv_at hl 0 rfl) ?_
  refine lv_iconst (v := 1) hx hb dL_law_1485 (by decide) ?_
  refine lv_iadd hx hb dL_law_1486 ?_
  have t_10 : (i + 1).toInt = i.toInt + 1 := g5_iadd (a := i.toInt) (b := 1) (by rfl) (by decide) (by omega) (by omega)
  refine va_sld hx hb hX hbl hbA hS (vp_in_iff.mpr ⟨by omega, by omega⟩) dL_law_1487 ?_
  refine g5_ti (v := q2) hq2 ?_
  refine lv_aload_n hx hb dL_law_1488 rfl (lv_at hl 3 rfl) ?_
  refine lv_iload_n hx hb dL_law_1489 rfl (lv_at hl 0 rfl) ?_
  refine lv_iconst (v := 2) hx hb dL_law_1490 (by decide) ?_
  refine lv_iadd hx hb dL_law_1491 ?_
  have t_11 : (i + 2).toInt = i.toInt + 2 := g5_iadd (a := i.toInt) (b := 2) (by rfl) (by decide) (by omega) (by omega)
  refine va_sld hx hb hX hbl hbA hS (vp_in_iff.mpr ⟨by omega, by omega⟩) dL_law_1492 ?_
  refine g5_ti (v := q4) hq4 ?_
  refine lv_aload_n hx hb dL_law_1493 rfl (lv_at hl 3 rfl) ?_
  refine lv_iload_n hx hb dL_law_1494 rfl (lv_at hl 0 rfl) ?_
  refine lv_iconst (v := 3) hx hb dL_law_1495 (by decide) ?_
  refine lv_iadd hx hb dL_law_1496 ?_
  have t_12 : (i + 3).toInt = i.toInt + 3 := g5_iadd (a := i.toInt) (b := 3) (by rfl) (by decide) (by omega) (by omega)
  refine va_sld hx hb hX hbl hbA hS (vp_in_iff.mpr ⟨by omega, by omega⟩) dL_law_1497 ?_
  refine g5_ti (v := q6) hq6 ?_
  refine lv_aload_n hx hb dL_law_1498 rfl (lv_at hl 3 rfl) ?_
  refine lv_iload_n hx hb dL_law_1499 rfl (lv_at hl 0 rfl) ?_
  refine lv_iconst (v := 4) hx hb dL_law_1500 (by decide) ?_
  refine lv_iadd hx hb dL_law_1501 ?_
  have t_13 : (i + 4).toInt = i.toInt + 4 := g5_iadd (a := i.toInt) (b := 4) (by rfl) (by decide) (by omega) (by omega)
  refine va_sld hx hb hX hbl hbA hS (vp_in_iff.mpr ⟨by omega, by omega⟩) dL_law_1502 ?_
  refine g5_ti (v := q8) hq8 ?_
  refine sm_sooner hC hA hT hS hl.1 ⟨by omega, by omega⟩ hM hP hD (fun r14 mw hM {H} {locs} hP hD hS => ?_)
  have hP := hP.perm (List.perm_append_comm_assoc mw w (pflat G Lw))
  have hD := hD.perm (List.perm_append_comm_assoc mw w (pflat G Lw))
  refine lv_pop hx hb dL_law_1506 rfl ?_
  refine lv_goto (tgt := 1648) hx hb dL_law_1507 (by decide) ?_
  refine W.widen (k := cells + 4) (n := slots + 429) (by omega) (by omega) ?_
  exact kk f_ro f_im f_ke f_x e_tl e_fd f_wd e_wn e_fpl g_L g_F g_M Lw w mw H locs ls hLO hI hM hP hD hS (lv_sub hl [0, 1, 2, 3] rfl)
set_option maxHeartbeats 4000000 in
set_option maxRecDepth 100000 in
theorem lc_wander {p : Program} {l : Launch} {e : Env} {s : State} {m : MethodId} {below : List Frame} {meth : Method} {c : Code} {b Ls : Nat} {xs : Nat → Int32} {G : g5_G} {A : Nat → Prop} {Q : State → Prop} {H : Heap} {locs : List Loc} {ls : Array Slot} {cells slots : Nat} {w mw : va_W} {Lw : List LR} {x y : Nat} {f_ro : Nat → Int32} {f_im : Nat → Int32} {f_ke : Nat → Int32} {f_x : Nat → Int32} {e_tl : Int32} {e_fd : Int32} {f_wd : Nat → Int32} {e_wn : Int32} {e_fpl : Int32} {g_L : LLS} {g_F : Int32} {g_M : LMS} {i : Int32} (C : lwC p s m meth c b Ls xs G) (hA : ∀ q : Nat, s.heap.size ≤ q → A q) (hT : g5_S A s s.heap) (hbA : ¬ A b) (hS : va_S A s.heap H locs) (hrm : cells + 8 ≤ 600000 ∧ slots + 858 ≤ 7302250) (hLO : LOK Lw) (hI : XW G Lw x f_ro f_im f_ke f_x e_tl e_fd f_wd e_wn e_fpl g_L g_F g_M w) (hM : MW G y f_ro f_im f_ke f_x e_tl e_fd f_wd e_wn e_fpl g_L g_F g_M mw) (hP : va_P G.1 vwCl (w ++ (mw ++ pflat G Lw)) H) (hD : va_D A (w ++ (mw ++ pflat G Lw))) (hl : lv_has ls 4 [(3, .int i), (2, .ref y), (1, .ref x), (0, .ref b)]) (hi : 0 ≤ i.toInt ∧ i.toInt + 7 ≤ (Ls : Int)) (hLs : Ls ≤ 3584) (kk : ∀ (f_ro : Nat → Int32) (f_im : Nat → Int32) (f_ke : Nat → Int32) (f_x : Nat → Int32) (e_tl : Int32) (e_fd : Int32) (f_wd : Nat → Int32) (e_wn : Int32) (e_fpl : Int32) (g_L : LLS) (g_F : Int32) (g_M : LMS) (Lw : List LR) (w mw : va_W) (H : Heap) (locs : List Loc) (ls : Array Slot), LOK Lw → XW G Lw x f_ro f_im f_ke f_x e_tl e_fd f_wd e_wn e_fpl g_L g_F g_M w → MW G y f_ro f_im f_ke f_x e_tl e_fd f_wd e_wn e_fpl g_L g_F g_M mw → va_P G.1 vwCl (w ++ (mw ++ pflat G Lw)) H → va_D A (w ++ (mw ++ pflat G Lw)) → va_S A s.heap H locs → lv_has ls 4 [(3, .int i), (2, .ref y), (1, .ref x), (0, .ref b)] → W p l e room_1 s m #[Value.ref b] below meth c H locs (cells + 4) (slots + 429) Q (F0 m 1648 ls [])) : W p l e room_1 s m #[Value.ref b] below meth c H locs cells slots Q (F0 m 1510 ls []) := by
  have hC := C
  obtain ⟨⟨hx, hb, hr, hml, hown, hts0, hX, hbl, hlocks, hgv⟩, hK, hN⟩ := C
  have hown : s.vm.findClass RL = some m.cls := hown
  have hts : ∀ w ∈ tblG, w.before #[Value.ref b] s = true := fun w h => hts0 w (List.mem_filter.mp h).1
  refine lv_aload_n hx hb dL_law_1510 rfl (lv_at hl 2 rfl) ?_
  refine lv_aload_n hx hb dL_law_1511 rfl (lv_at hl 3 rfl) ?_
  refine lv_iload_n hx hb dL_law_1512 rfl (lv_at hl 0 rfl) ?_
  refine lv_iconst (v := 1) hx hb dL_law_1513 (by decide) ?_
  refine lv_iadd hx hb dL_law_1514 ?_
  have t_1 : (i + 1).toInt = i.toInt + 1 := g5_iadd (a := i.toInt) (b := 1) (by rfl) (by decide) (by omega) (by omega)
  refine va_sld hx hb hX hbl hbA hS (vp_in_iff.mpr ⟨by omega, by omega⟩) dL_law_1515 ?_
  obtain ⟨q2, hq2⟩ : ∃ y : Int32, xs (i + 1).toNatClampNeg = y := ⟨_, rfl⟩
  refine g5_ti (v := q2) hq2 ?_
  refine lv_aload_n hx hb dL_law_1516 rfl (lv_at hl 3 rfl) ?_
  refine lv_iload_n hx hb dL_law_1517 rfl (lv_at hl 0 rfl) ?_
  refine lv_iconst (v := 2) hx hb dL_law_1518 (by decide) ?_
  refine lv_iadd hx hb dL_law_1519 ?_
  have t_3 : (i + 2).toInt = i.toInt + 2 := g5_iadd (a := i.toInt) (b := 2) (by rfl) (by decide) (by omega) (by omega)
  refine va_sld hx hb hX hbl hbA hS (vp_in_iff.mpr ⟨by omega, by omega⟩) dL_law_1520 ?_
  obtain ⟨q4, hq4⟩ : ∃ y : Int32, xs (i + 2).toNatClampNeg = y := ⟨_, rfl⟩
  refine g5_ti (v := q4) hq4 ?_
  refine sx_wander hC hA hT hS hl.1 ⟨by omega, by omega⟩ hLO hI hP hD (fun r5 w hI {H} {locs} hP hD hS => ?_)
  have hP := hP.perm (List.perm_append_comm_assoc w mw (pflat G Lw))
  have hD := hD.perm (List.perm_append_comm_assoc w mw (pflat G Lw))
  refine lv_pop hx hb dL_law_1524 rfl ?_
  refine lv_aload_n hx hb dL_law_1525 rfl (lv_at hl 1 rfl) ?_
  refine lv_aload_n hx hb dL_law_1526 rfl (lv_at hl 3 rfl) ?_
  refine lv_iload_n hx hb dL_law_1527 rfl (lv_at hl 0 rfl) ?_
  refine lv_iconst (v := 1) hx hb dL_law_1528 (by decide) ?_
  refine lv_iadd hx hb dL_law_1529 ?_
  have t_6 : (i + 1).toInt = i.toInt + 1 := g5_iadd (a := i.toInt) (b := 1) (by rfl) (by decide) (by omega) (by omega)
  refine va_sld hx hb hX hbl hbA hS (vp_in_iff.mpr ⟨by omega, by omega⟩) dL_law_1530 ?_
  refine g5_ti (v := q2) hq2 ?_
  refine lv_aload_n hx hb dL_law_1531 rfl (lv_at hl 3 rfl) ?_
  refine lv_iload_n hx hb dL_law_1532 rfl (lv_at hl 0 rfl) ?_
  refine lv_iconst (v := 2) hx hb dL_law_1533 (by decide) ?_
  refine lv_iadd hx hb dL_law_1534 ?_
  have t_7 : (i + 2).toInt = i.toInt + 2 := g5_iadd (a := i.toInt) (b := 2) (by rfl) (by decide) (by omega) (by omega)
  refine va_sld hx hb hX hbl hbA hS (vp_in_iff.mpr ⟨by omega, by omega⟩) dL_law_1535 ?_
  refine g5_ti (v := q4) hq4 ?_
  refine sm_wander hC hA hT hS hl.1 ⟨by omega, by omega⟩ hM hP hD (fun r8 mw hM {H} {locs} hP hD hS => ?_)
  have hP := hP.perm (List.perm_append_comm_assoc mw w (pflat G Lw))
  have hD := hD.perm (List.perm_append_comm_assoc mw w (pflat G Lw))
  refine lv_pop hx hb dL_law_1539 rfl ?_
  refine lv_goto (tgt := 1648) hx hb dL_law_1540 (by decide) ?_
  refine W.widen (k := cells + 4) (n := slots + 429) (by omega) (by omega) ?_
  exact kk f_ro f_im f_ke f_x e_tl e_fd (swand f_ro f_wd q2 q4) (swanf f_ro e_wn q2 q4) e_fpl g_L g_F g_M Lw w mw H locs ls hLO hI hM hP hD hS (lv_sub hl [0, 1, 2, 3] rfl)
set_option maxHeartbeats 4000000 in
set_option maxRecDepth 100000 in
theorem lc_drawn {p : Program} {l : Launch} {e : Env} {s : State} {m : MethodId} {below : List Frame} {meth : Method} {c : Code} {b Ls : Nat} {xs : Nat → Int32} {G : g5_G} {A : Nat → Prop} {Q : State → Prop} {H : Heap} {locs : List Loc} {ls : Array Slot} {cells slots : Nat} {w mw : va_W} {Lw : List LR} {x y : Nat} {f_ro : Nat → Int32} {f_im : Nat → Int32} {f_ke : Nat → Int32} {f_x : Nat → Int32} {e_tl : Int32} {e_fd : Int32} {f_wd : Nat → Int32} {e_wn : Int32} {e_fpl : Int32} {g_L : LLS} {g_F : Int32} {g_M : LMS} {i : Int32} (C : lwC p s m meth c b Ls xs G) (hA : ∀ q : Nat, s.heap.size ≤ q → A q) (hT : g5_S A s s.heap) (hbA : ¬ A b) (hS : va_S A s.heap H locs) (hrm : cells + 8 ≤ 600000 ∧ slots + 858 ≤ 7302250) (hLO : LOK Lw) (hI : XW G Lw x f_ro f_im f_ke f_x e_tl e_fd f_wd e_wn e_fpl g_L g_F g_M w) (hM : MW G y f_ro f_im f_ke f_x e_tl e_fd f_wd e_wn e_fpl g_L g_F g_M mw) (hP : va_P G.1 vwCl (w ++ (mw ++ pflat G Lw)) H) (hD : va_D A (w ++ (mw ++ pflat G Lw))) (hl : lv_has ls 4 [(3, .int i), (2, .ref y), (1, .ref x), (0, .ref b)]) (hi : 0 ≤ i.toInt ∧ i.toInt + 7 ≤ (Ls : Int)) (hLs : Ls ≤ 3584) (kk : ∀ (f_ro : Nat → Int32) (f_im : Nat → Int32) (f_ke : Nat → Int32) (f_x : Nat → Int32) (e_tl : Int32) (e_fd : Int32) (f_wd : Nat → Int32) (e_wn : Int32) (e_fpl : Int32) (g_L : LLS) (g_F : Int32) (g_M : LMS) (Lw : List LR) (w mw : va_W) (H : Heap) (locs : List Loc) (ls : Array Slot), LOK Lw → XW G Lw x f_ro f_im f_ke f_x e_tl e_fd f_wd e_wn e_fpl g_L g_F g_M w → MW G y f_ro f_im f_ke f_x e_tl e_fd f_wd e_wn e_fpl g_L g_F g_M mw → va_P G.1 vwCl (w ++ (mw ++ pflat G Lw)) H → va_D A (w ++ (mw ++ pflat G Lw)) → va_S A s.heap H locs → lv_has ls 4 [(3, .int i), (2, .ref y), (1, .ref x), (0, .ref b)] → W p l e room_1 s m #[Value.ref b] below meth c H locs (cells + 4) (slots + 429) Q (F0 m 1648 ls [])) : W p l e room_1 s m #[Value.ref b] below meth c H locs cells slots Q (F0 m 1543 ls []) := by
  have hC := C
  obtain ⟨⟨hx, hb, hr, hml, hown, hts0, hX, hbl, hlocks, hgv⟩, hK, hN⟩ := C
  have hown : s.vm.findClass RL = some m.cls := hown
  have hts : ∀ w ∈ tblG, w.before #[Value.ref b] s = true := fun w h => hts0 w (List.mem_filter.mp h).1
  refine lv_aload_n hx hb dL_law_1543 rfl (lv_at hl 2 rfl) ?_
  refine lv_aload_n hx hb dL_law_1544 rfl (lv_at hl 3 rfl) ?_
  refine lv_iload_n hx hb dL_law_1545 rfl (lv_at hl 0 rfl) ?_
  refine lv_iconst (v := 1) hx hb dL_law_1546 (by decide) ?_
  refine lv_iadd hx hb dL_law_1547 ?_
  have t_1 : (i + 1).toInt = i.toInt + 1 := g5_iadd (a := i.toInt) (b := 1) (by rfl) (by decide) (by omega) (by omega)
  refine va_sld hx hb hX hbl hbA hS (vp_in_iff.mpr ⟨by omega, by omega⟩) dL_law_1548 ?_
  obtain ⟨q2, hq2⟩ : ∃ y : Int32, xs (i + 1).toNatClampNeg = y := ⟨_, rfl⟩
  refine g5_ti (v := q2) hq2 ?_
  refine sx_drawn hC hA hT hS hl.1 ⟨by omega, by omega⟩ hLO hI hP hD (fun r3 w hI {H} {locs} hP hD hS => ?_)
  have hP := hP.perm (List.perm_append_comm_assoc w mw (pflat G Lw))
  have hD := hD.perm (List.perm_append_comm_assoc w mw (pflat G Lw))
  refine lv_pop hx hb dL_law_1552 rfl ?_
  refine lv_aload_n hx hb dL_law_1553 rfl (lv_at hl 1 rfl) ?_
  refine lv_aload_n hx hb dL_law_1554 rfl (lv_at hl 3 rfl) ?_
  refine lv_iload_n hx hb dL_law_1555 rfl (lv_at hl 0 rfl) ?_
  refine lv_iconst (v := 1) hx hb dL_law_1556 (by decide) ?_
  refine lv_iadd hx hb dL_law_1557 ?_
  have t_4 : (i + 1).toInt = i.toInt + 1 := g5_iadd (a := i.toInt) (b := 1) (by rfl) (by decide) (by omega) (by omega)
  refine va_sld hx hb hX hbl hbA hS (vp_in_iff.mpr ⟨by omega, by omega⟩) dL_law_1558 ?_
  refine g5_ti (v := q2) hq2 ?_
  refine sm_drawn hC hA hT hS hl.1 ⟨by omega, by omega⟩ hM hP hD (fun r5 mw hM {H} {locs} hP hD hS => ?_)
  have hP := hP.perm (List.perm_append_comm_assoc mw w (pflat G Lw))
  have hD := hD.perm (List.perm_append_comm_assoc mw w (pflat G Lw))
  refine lv_pop hx hb dL_law_1562 rfl ?_
  refine lv_goto (tgt := 1648) hx hb dL_law_1563 (by decide) ?_
  refine W.widen (k := cells + 4) (n := slots + 429) (by omega) (by omega) ?_
  exact kk f_ro f_im f_ke f_x e_tl e_fd f_wd e_wn e_fpl g_L g_F g_M Lw w mw H locs ls hLO hI hM hP hD hS (lv_sub hl [0, 1, 2, 3] rfl)
set_option maxHeartbeats 4000000 in
set_option maxRecDepth 100000 in
theorem lc_image {p : Program} {l : Launch} {e : Env} {s : State} {m : MethodId} {below : List Frame} {meth : Method} {c : Code} {b Ls : Nat} {xs : Nat → Int32} {G : g5_G} {A : Nat → Prop} {Q : State → Prop} {H : Heap} {locs : List Loc} {ls : Array Slot} {cells slots : Nat} {w mw : va_W} {Lw : List LR} {x y : Nat} {f_ro : Nat → Int32} {f_im : Nat → Int32} {f_ke : Nat → Int32} {f_x : Nat → Int32} {e_tl : Int32} {e_fd : Int32} {f_wd : Nat → Int32} {e_wn : Int32} {e_fpl : Int32} {g_L : LLS} {g_F : Int32} {g_M : LMS} {i : Int32} (C : lwC p s m meth c b Ls xs G) (hA : ∀ q : Nat, s.heap.size ≤ q → A q) (hT : g5_S A s s.heap) (hbA : ¬ A b) (hS : va_S A s.heap H locs) (hrm : cells + 8 ≤ 600000 ∧ slots + 858 ≤ 7302250) (hLO : LOK Lw) (hI : XW G Lw x f_ro f_im f_ke f_x e_tl e_fd f_wd e_wn e_fpl g_L g_F g_M w) (hM : MW G y f_ro f_im f_ke f_x e_tl e_fd f_wd e_wn e_fpl g_L g_F g_M mw) (hP : va_P G.1 vwCl (w ++ (mw ++ pflat G Lw)) H) (hD : va_D A (w ++ (mw ++ pflat G Lw))) (hl : lv_has ls 4 [(3, .int i), (2, .ref y), (1, .ref x), (0, .ref b)]) (hi : 0 ≤ i.toInt ∧ i.toInt + 7 ≤ (Ls : Int)) (hLs : Ls ≤ 3584) (kk : ∀ (f_ro : Nat → Int32) (f_im : Nat → Int32) (f_ke : Nat → Int32) (f_x : Nat → Int32) (e_tl : Int32) (e_fd : Int32) (f_wd : Nat → Int32) (e_wn : Int32) (e_fpl : Int32) (g_L : LLS) (g_F : Int32) (g_M : LMS) (Lw : List LR) (w mw : va_W) (H : Heap) (locs : List Loc) (ls : Array Slot), LOK Lw → XW G Lw x f_ro f_im f_ke f_x e_tl e_fd f_wd e_wn e_fpl g_L g_F g_M w → MW G y f_ro f_im f_ke f_x e_tl e_fd f_wd e_wn e_fpl g_L g_F g_M mw → va_P G.1 vwCl (w ++ (mw ++ pflat G Lw)) H → va_D A (w ++ (mw ++ pflat G Lw)) → va_S A s.heap H locs → lv_has ls 4 [(3, .int i), (2, .ref y), (1, .ref x), (0, .ref b)] → W p l e room_1 s m #[Value.ref b] below meth c H locs (cells + 4) (slots + 429) Q (F0 m 1648 ls [])) : W p l e room_1 s m #[Value.ref b] below meth c H locs cells slots Q (F0 m 1566 ls []) := by
  have hC := C
  obtain ⟨⟨hx, hb, hr, hml, hown, hts0, hX, hbl, hlocks, hgv⟩, hK, hN⟩ := C
  have hown : s.vm.findClass RL = some m.cls := hown
  have hts : ∀ w ∈ tblG, w.before #[Value.ref b] s = true := fun w h => hts0 w (List.mem_filter.mp h).1
  refine lv_aload_n hx hb dL_law_1566 rfl (lv_at hl 2 rfl) ?_
  refine lv_aload_n hx hb dL_law_1567 rfl (lv_at hl 3 rfl) ?_
  refine lv_iload_n hx hb dL_law_1568 rfl (lv_at hl 0 rfl) ?_
  refine lv_iconst (v := 1) hx hb dL_law_1569 (by decide) ?_
  refine lv_iadd hx hb dL_law_1570 ?_
  have t_1 : (i + 1).toInt = i.toInt + 1 := g5_iadd (a := i.toInt) (b := 1) (by rfl) (by decide) (by omega) (by omega)
  refine va_sld hx hb hX hbl hbA hS (vp_in_iff.mpr ⟨by omega, by omega⟩) dL_law_1571 ?_
  obtain ⟨q2, hq2⟩ : ∃ y : Int32, xs (i + 1).toNatClampNeg = y := ⟨_, rfl⟩
  refine g5_ti (v := q2) hq2 ?_
  refine sx_image hC hA hT hS hl.1 ⟨by omega, by omega⟩ hLO hI hP hD (fun r3 w hI {H} {locs} hP hD hS => ?_)
  have hP := hP.perm (List.perm_append_comm_assoc w mw (pflat G Lw))
  have hD := hD.perm (List.perm_append_comm_assoc w mw (pflat G Lw))
  refine lv_pop hx hb dL_law_1575 rfl ?_
  refine lv_aload_n hx hb dL_law_1576 rfl (lv_at hl 1 rfl) ?_
  refine lv_aload_n hx hb dL_law_1577 rfl (lv_at hl 3 rfl) ?_
  refine lv_iload_n hx hb dL_law_1578 rfl (lv_at hl 0 rfl) ?_
  refine lv_iconst (v := 1) hx hb dL_law_1579 (by decide) ?_
  refine lv_iadd hx hb dL_law_1580 ?_
  have t_4 : (i + 1).toInt = i.toInt + 1 := g5_iadd (a := i.toInt) (b := 1) (by rfl) (by decide) (by omega) (by omega)
  refine va_sld hx hb hX hbl hbA hS (vp_in_iff.mpr ⟨by omega, by omega⟩) dL_law_1581 ?_
  refine g5_ti (v := q2) hq2 ?_
  refine sm_image hC hA hT hS hl.1 ⟨by omega, by omega⟩ hM hP hD (fun r5 mw hM {H} {locs} hP hD hS => ?_)
  have hP := hP.perm (List.perm_append_comm_assoc mw w (pflat G Lw))
  have hD := hD.perm (List.perm_append_comm_assoc mw w (pflat G Lw))
  refine lv_pop hx hb dL_law_1585 rfl ?_
  refine lv_goto (tgt := 1648) hx hb dL_law_1586 (by decide) ?_
  refine W.widen (k := cells + 4) (n := slots + 429) (by omega) (by omega) ?_
  exact kk f_ro (simg f_im f_ro q2) (skep f_ke q2) f_x e_tl e_fd f_wd e_wn e_fpl g_L g_F (simL g_M g_L g_F q2) Lw w mw H locs ls hLO hI hM hP hD hS (lv_sub hl [0, 1, 2, 3] rfl)
set_option maxHeartbeats 4000000 in
set_option maxRecDepth 100000 in
theorem lc_back {p : Program} {l : Launch} {e : Env} {s : State} {m : MethodId} {below : List Frame} {meth : Method} {c : Code} {b Ls : Nat} {xs : Nat → Int32} {G : g5_G} {A : Nat → Prop} {Q : State → Prop} {H : Heap} {locs : List Loc} {ls : Array Slot} {cells slots : Nat} {w mw : va_W} {Lw : List LR} {x y : Nat} {f_ro : Nat → Int32} {f_im : Nat → Int32} {f_ke : Nat → Int32} {f_x : Nat → Int32} {e_tl : Int32} {e_fd : Int32} {f_wd : Nat → Int32} {e_wn : Int32} {e_fpl : Int32} {g_L : LLS} {g_F : Int32} {g_M : LMS} {i : Int32} (C : lwC p s m meth c b Ls xs G) (hA : ∀ q : Nat, s.heap.size ≤ q → A q) (hT : g5_S A s s.heap) (hbA : ¬ A b) (hS : va_S A s.heap H locs) (hrm : cells + 8 ≤ 600000 ∧ slots + 858 ≤ 7302250) (hLO : LOK Lw) (hI : XW G Lw x f_ro f_im f_ke f_x e_tl e_fd f_wd e_wn e_fpl g_L g_F g_M w) (hM : MW G y f_ro f_im f_ke f_x e_tl e_fd f_wd e_wn e_fpl g_L g_F g_M mw) (hP : va_P G.1 vwCl (w ++ (mw ++ pflat G Lw)) H) (hD : va_D A (w ++ (mw ++ pflat G Lw))) (hl : lv_has ls 4 [(3, .int i), (2, .ref y), (1, .ref x), (0, .ref b)]) (hi : 0 ≤ i.toInt ∧ i.toInt + 7 ≤ (Ls : Int)) (hLs : Ls ≤ 3584) (kk : ∀ (f_ro : Nat → Int32) (f_im : Nat → Int32) (f_ke : Nat → Int32) (f_x : Nat → Int32) (e_tl : Int32) (e_fd : Int32) (f_wd : Nat → Int32) (e_wn : Int32) (e_fpl : Int32) (g_L : LLS) (g_F : Int32) (g_M : LMS) (Lw : List LR) (w mw : va_W) (H : Heap) (locs : List Loc) (ls : Array Slot), LOK Lw → XW G Lw x f_ro f_im f_ke f_x e_tl e_fd f_wd e_wn e_fpl g_L g_F g_M w → MW G y f_ro f_im f_ke f_x e_tl e_fd f_wd e_wn e_fpl g_L g_F g_M mw → va_P G.1 vwCl (w ++ (mw ++ pflat G Lw)) H → va_D A (w ++ (mw ++ pflat G Lw)) → va_S A s.heap H locs → lv_has ls 4 [(3, .int i), (2, .ref y), (1, .ref x), (0, .ref b)] → W p l e room_1 s m #[Value.ref b] below meth c H locs (cells + 4) (slots + 429) Q (F0 m 1648 ls [])) : W p l e room_1 s m #[Value.ref b] below meth c H locs cells slots Q (F0 m 1589 ls []) := by
  have hC := C
  obtain ⟨⟨hx, hb, hr, hml, hown, hts0, hX, hbl, hlocks, hgv⟩, hK, hN⟩ := C
  have hown : s.vm.findClass RL = some m.cls := hown
  have hts : ∀ w ∈ tblG, w.before #[Value.ref b] s = true := fun w h => hts0 w (List.mem_filter.mp h).1
  refine lv_aload_n hx hb dL_law_1589 rfl (lv_at hl 2 rfl) ?_
  refine lv_aload_n hx hb dL_law_1590 rfl (lv_at hl 3 rfl) ?_
  refine lv_iload_n hx hb dL_law_1591 rfl (lv_at hl 0 rfl) ?_
  refine lv_iconst (v := 1) hx hb dL_law_1592 (by decide) ?_
  refine lv_iadd hx hb dL_law_1593 ?_
  have t_1 : (i + 1).toInt = i.toInt + 1 := g5_iadd (a := i.toInt) (b := 1) (by rfl) (by decide) (by omega) (by omega)
  refine va_sld hx hb hX hbl hbA hS (vp_in_iff.mpr ⟨by omega, by omega⟩) dL_law_1594 ?_
  obtain ⟨q2, hq2⟩ : ∃ y : Int32, xs (i + 1).toNatClampNeg = y := ⟨_, rfl⟩
  refine g5_ti (v := q2) hq2 ?_
  refine sx_back hC hA hT hS hl.1 ⟨by omega, by omega⟩ hLO hI hP hD (fun r3 w hI {H} {locs} hP hD hS => ?_)
  have hP := hP.perm (List.perm_append_comm_assoc w mw (pflat G Lw))
  have hD := hD.perm (List.perm_append_comm_assoc w mw (pflat G Lw))
  refine lv_pop hx hb dL_law_1598 rfl ?_
  refine lv_aload_n hx hb dL_law_1599 rfl (lv_at hl 1 rfl) ?_
  refine lv_aload_n hx hb dL_law_1600 rfl (lv_at hl 3 rfl) ?_
  refine lv_iload_n hx hb dL_law_1601 rfl (lv_at hl 0 rfl) ?_
  refine lv_iconst (v := 1) hx hb dL_law_1602 (by decide) ?_
  refine lv_iadd hx hb dL_law_1603 ?_
  have t_4 : (i + 1).toInt = i.toInt + 1 := g5_iadd (a := i.toInt) (b := 1) (by rfl) (by decide) (by omega) (by omega)
  refine va_sld hx hb hX hbl hbA hS (vp_in_iff.mpr ⟨by omega, by omega⟩) dL_law_1604 ?_
  refine g5_ti (v := q2) hq2 ?_
  refine sm_back hC hA hT hS hl.1 ⟨by omega, by omega⟩ hM hP hD (fun r5 g_ro hag mw hM {H} {locs} hP hD hS => ?_)
  replace hI := xw_ag hI hag
  have hP := hP.perm (List.perm_append_comm_assoc mw w (pflat G Lw))
  have hD := hD.perm (List.perm_append_comm_assoc mw w (pflat G Lw))
  refine lv_pop hx hb dL_law_1608 rfl ?_
  refine lv_goto (tgt := 1648) hx hb dL_law_1609 (by decide) ?_
  refine W.widen (k := cells + 4) (n := slots + 429) (by omega) (by omega) ?_
  exact kk g_ro f_im f_ke f_x e_tl e_fd f_wd e_wn e_fpl (sbackL g_L g_M f_ke q2) (sbackF g_F g_M f_ke q2) g_M Lw w mw H locs ls hLO hI hM hP hD hS (lv_sub hl [0, 1, 2, 3] rfl)
set_option maxHeartbeats 4000000 in
set_option maxRecDepth 100000 in
theorem lc_count {p : Program} {l : Launch} {e : Env} {s : State} {m : MethodId} {below : List Frame} {meth : Method} {c : Code} {b Ls : Nat} {xs : Nat → Int32} {G : g5_G} {A : Nat → Prop} {Q : State → Prop} {H : Heap} {locs : List Loc} {ls : Array Slot} {cells slots : Nat} {w mw : va_W} {Lw : List LR} {x y : Nat} {f_ro : Nat → Int32} {f_im : Nat → Int32} {f_ke : Nat → Int32} {f_x : Nat → Int32} {e_tl : Int32} {e_fd : Int32} {f_wd : Nat → Int32} {e_wn : Int32} {e_fpl : Int32} {g_L : LLS} {g_F : Int32} {g_M : LMS} {i : Int32} (C : lwC p s m meth c b Ls xs G) (hA : ∀ q : Nat, s.heap.size ≤ q → A q) (hT : g5_S A s s.heap) (hbA : ¬ A b) (hS : va_S A s.heap H locs) (hrm : cells + 8 ≤ 600000 ∧ slots + 858 ≤ 7302250) (hLO : LOK Lw) (hI : XW G Lw x f_ro f_im f_ke f_x e_tl e_fd f_wd e_wn e_fpl g_L g_F g_M w) (hM : MW G y f_ro f_im f_ke f_x e_tl e_fd f_wd e_wn e_fpl g_L g_F g_M mw) (hP : va_P G.1 vwCl (w ++ (mw ++ pflat G Lw)) H) (hD : va_D A (w ++ (mw ++ pflat G Lw))) (hl : lv_has ls 4 [(3, .int i), (2, .ref y), (1, .ref x), (0, .ref b)]) (hi : 0 ≤ i.toInt ∧ i.toInt + 7 ≤ (Ls : Int)) (hLs : Ls ≤ 3584) (kk : ∀ (f_ro : Nat → Int32) (f_im : Nat → Int32) (f_ke : Nat → Int32) (f_x : Nat → Int32) (e_tl : Int32) (e_fd : Int32) (f_wd : Nat → Int32) (e_wn : Int32) (e_fpl : Int32) (g_L : LLS) (g_F : Int32) (g_M : LMS) (Lw : List LR) (w mw : va_W) (H : Heap) (locs : List Loc) (ls : Array Slot), LOK Lw → XW G Lw x f_ro f_im f_ke f_x e_tl e_fd f_wd e_wn e_fpl g_L g_F g_M w → MW G y f_ro f_im f_ke f_x e_tl e_fd f_wd e_wn e_fpl g_L g_F g_M mw → va_P G.1 vwCl (w ++ (mw ++ pflat G Lw)) H → va_D A (w ++ (mw ++ pflat G Lw)) → va_S A s.heap H locs → lv_has ls 4 [(3, .int i), (2, .ref y), (1, .ref x), (0, .ref b)] → W p l e room_1 s m #[Value.ref b] below meth c H locs (cells + 4) (slots + 429) Q (F0 m 1648 ls [])) : W p l e room_1 s m #[Value.ref b] below meth c H locs cells slots Q (F0 m 1612 ls []) := by
  have hC := C
  obtain ⟨⟨hx, hb, hr, hml, hown, hts0, hX, hbl, hlocks, hgv⟩, hK, hN⟩ := C
  have hown : s.vm.findClass RL = some m.cls := hown
  have hts : ∀ w ∈ tblG, w.before #[Value.ref b] s = true := fun w h => hts0 w (List.mem_filter.mp h).1
  refine lv_aload_n hx hb dL_law_1612 rfl (lv_at hl 2 rfl) ?_
  refine lv_aload_n hx hb dL_law_1613 rfl (lv_at hl 3 rfl) ?_
  refine lv_iload_n hx hb dL_law_1614 rfl (lv_at hl 0 rfl) ?_
  refine lv_iconst (v := 1) hx hb dL_law_1615 (by decide) ?_
  refine lv_iadd hx hb dL_law_1616 ?_
  have t_1 : (i + 1).toInt = i.toInt + 1 := g5_iadd (a := i.toInt) (b := 1) (by rfl) (by decide) (by omega) (by omega)
  refine va_sld hx hb hX hbl hbA hS (vp_in_iff.mpr ⟨by omega, by omega⟩) dL_law_1617 ?_
  obtain ⟨q2, hq2⟩ : ∃ y : Int32, xs (i + 1).toNatClampNeg = y := ⟨_, rfl⟩
  refine g5_ti (v := q2) hq2 ?_
  refine sx_count hC hA hT hS hl.1 ⟨by omega, by omega⟩ hLO hI hP hD (fun r3 w hI {H} {locs} hP hD hS => ?_)
  have hP := hP.perm (List.perm_append_comm_assoc w mw (pflat G Lw))
  have hD := hD.perm (List.perm_append_comm_assoc w mw (pflat G Lw))
  refine lv_pop hx hb dL_law_1621 rfl ?_
  refine lv_aload_n hx hb dL_law_1622 rfl (lv_at hl 1 rfl) ?_
  refine lv_aload_n hx hb dL_law_1623 rfl (lv_at hl 3 rfl) ?_
  refine lv_iload_n hx hb dL_law_1624 rfl (lv_at hl 0 rfl) ?_
  refine lv_iconst (v := 1) hx hb dL_law_1625 (by decide) ?_
  refine lv_iadd hx hb dL_law_1626 ?_
  have t_4 : (i + 1).toInt = i.toInt + 1 := g5_iadd (a := i.toInt) (b := 1) (by rfl) (by decide) (by omega) (by omega)
  refine va_sld hx hb hX hbl hbA hS (vp_in_iff.mpr ⟨by omega, by omega⟩) dL_law_1627 ?_
  refine g5_ti (v := q2) hq2 ?_
  refine sm_count hC hA hT hS hl.1 ⟨by omega, by omega⟩ hM hP hD (fun r5 mw hM {H} {locs} hP hD hS => ?_)
  have hP := hP.perm (List.perm_append_comm_assoc mw w (pflat G Lw))
  have hD := hD.perm (List.perm_append_comm_assoc mw w (pflat G Lw))
  refine lv_pop hx hb dL_law_1631 rfl ?_
  refine lv_goto (tgt := 1648) hx hb dL_law_1632 (by decide) ?_
  refine W.widen (k := cells + 4) (n := slots + 429) (by omega) (by omega) ?_
  exact kk f_ro f_im f_ke f_x e_tl e_fd f_wd e_wn e_fpl g_L g_F g_M Lw w mw H locs ls hLO hI hM hP hD hS (lv_sub hl [0, 1, 2, 3] rfl)
set_option maxHeartbeats 4000000 in
set_option maxRecDepth 100000 in
theorem lc_status {p : Program} {l : Launch} {e : Env} {s : State} {m : MethodId} {below : List Frame} {meth : Method} {c : Code} {b Ls : Nat} {xs : Nat → Int32} {G : g5_G} {A : Nat → Prop} {Q : State → Prop} {H : Heap} {locs : List Loc} {ls : Array Slot} {cells slots : Nat} {w mw : va_W} {Lw : List LR} {x y : Nat} {f_ro : Nat → Int32} {f_im : Nat → Int32} {f_ke : Nat → Int32} {f_x : Nat → Int32} {e_tl : Int32} {e_fd : Int32} {f_wd : Nat → Int32} {e_wn : Int32} {e_fpl : Int32} {g_L : LLS} {g_F : Int32} {g_M : LMS} {i : Int32} (C : lwC p s m meth c b Ls xs G) (hA : ∀ q : Nat, s.heap.size ≤ q → A q) (hT : g5_S A s s.heap) (hbA : ¬ A b) (hS : va_S A s.heap H locs) (hrm : cells + 8 ≤ 600000 ∧ slots + 858 ≤ 7302250) (hLO : LOK Lw) (hI : XW G Lw x f_ro f_im f_ke f_x e_tl e_fd f_wd e_wn e_fpl g_L g_F g_M w) (hM : MW G y f_ro f_im f_ke f_x e_tl e_fd f_wd e_wn e_fpl g_L g_F g_M mw) (hP : va_P G.1 vwCl (w ++ (mw ++ pflat G Lw)) H) (hD : va_D A (w ++ (mw ++ pflat G Lw))) (hl : lv_has ls 4 [(3, .int i), (2, .ref y), (1, .ref x), (0, .ref b)]) (hi : 0 ≤ i.toInt ∧ i.toInt + 7 ≤ (Ls : Int)) (hLs : Ls ≤ 3584) (kk : ∀ (f_ro : Nat → Int32) (f_im : Nat → Int32) (f_ke : Nat → Int32) (f_x : Nat → Int32) (e_tl : Int32) (e_fd : Int32) (f_wd : Nat → Int32) (e_wn : Int32) (e_fpl : Int32) (g_L : LLS) (g_F : Int32) (g_M : LMS) (Lw : List LR) (w mw : va_W) (H : Heap) (locs : List Loc) (ls : Array Slot), LOK Lw → XW G Lw x f_ro f_im f_ke f_x e_tl e_fd f_wd e_wn e_fpl g_L g_F g_M w → MW G y f_ro f_im f_ke f_x e_tl e_fd f_wd e_wn e_fpl g_L g_F g_M mw → va_P G.1 vwCl (w ++ (mw ++ pflat G Lw)) H → va_D A (w ++ (mw ++ pflat G Lw)) → va_S A s.heap H locs → lv_has ls 4 [(3, .int i), (2, .ref y), (1, .ref x), (0, .ref b)] → W p l e room_1 s m #[Value.ref b] below meth c H locs (cells + 4) (slots + 429) Q (F0 m 1648 ls [])) : W p l e room_1 s m #[Value.ref b] below meth c H locs cells slots Q (F0 m 1635 ls []) := by
  have hC := C
  obtain ⟨⟨hx, hb, hr, hml, hown, hts0, hX, hbl, hlocks, hgv⟩, hK, hN⟩ := C
  have hown : s.vm.findClass RL = some m.cls := hown
  have hts : ∀ w ∈ tblG, w.before #[Value.ref b] s = true := fun w h => hts0 w (List.mem_filter.mp h).1
  refine lv_aload_n hx hb dL_law_1635 rfl (lv_at hl 2 rfl) ?_
  refine sx_status hC hA hT hS hl.1 ⟨by omega, by omega⟩ hLO hI hP hD (fun r1 w hI {H} {locs} hP hD hS => ?_)
  have hP := hP.perm (List.perm_append_comm_assoc w mw (pflat G Lw))
  have hD := hD.perm (List.perm_append_comm_assoc w mw (pflat G Lw))
  refine lv_pop hx hb dL_law_1639 rfl ?_
  refine lv_aload_n hx hb dL_law_1640 rfl (lv_at hl 1 rfl) ?_
  refine sm_status hC hA hT hS hl.1 ⟨by omega, by omega⟩ hM hP hD (fun r2 mw hM {H} {locs} hP hD hS => ?_)
  have hP := hP.perm (List.perm_append_comm_assoc mw w (pflat G Lw))
  have hD := hD.perm (List.perm_append_comm_assoc mw w (pflat G Lw))
  refine lv_pop hx hb dL_law_1644 rfl ?_
  refine lv_goto (tgt := 1648) hx hb dL_law_1645 (by decide) ?_
  refine W.widen (k := cells + 4) (n := slots + 429) (by omega) (by omega) ?_
  exact kk f_ro f_im f_ke f_x e_tl e_fd f_wd e_wn e_fpl g_L g_F g_M Lw w mw H locs ls hLO hI hM hP hD hS (lv_sub hl [0, 1, 2, 3] rfl)
set_option maxHeartbeats 8000000 in
set_option maxRecDepth 100000 in
theorem law_loop {p : Program} {l : Launch} {e : Env} {s : State} {m : MethodId} {below : List Frame} {meth : Method} {c : Code} {b Ls : Nat} {xs : Nat → Int32} {G : g5_G} {x y : Nat} (hLs : Ls ≤ 3584) (C : lwC p s m meth c b Ls xs G) (hT : g5_S (fun q : Nat => s.heap.size ≤ q) s s.heap) : ∀ (n : Nat) {H : Heap} {locs : List Loc} {ls : Array Slot} {cells slots : Nat} {w mw : va_W} {Lw : List LR} {f_ro : Nat → Int32} {f_im : Nat → Int32} {f_ke : Nat → Int32} {f_x : Nat → Int32} {e_tl : Int32} {e_fd : Int32} {f_wd : Nat → Int32} {e_wn : Int32} {e_fpl : Int32} {g_L : LLS} {g_F : Int32} {g_M : LMS} {i : Int32}, LOK Lw → XW G Lw x f_ro f_im f_ke f_x e_tl e_fd f_wd e_wn e_fpl g_L g_F g_M w → MW G y f_ro f_im f_ke f_x e_tl e_fd f_wd e_wn e_fpl g_L g_F g_M mw → va_P G.1 vwCl (w ++ (mw ++ pflat G Lw)) H → va_D (fun q : Nat => s.heap.size ≤ q) (w ++ (mw ++ pflat G Lw)) → va_S (fun q : Nat => s.heap.size ≤ q) s.heap H locs → lv_has ls 4 [(3, .int i), (2, .ref y), (1, .ref x), (0, .ref b)] → (0 ≤ i.toInt ∧ i.toInt ≤ (Ls : Int)) → (Ls : Int) < i.toInt + 7 * (n : Int) → cells + 4 * n + 8 ≤ 600000 → slots + 429 * n + 858 ≤ 7302250 → W p l e room_1 s m #[Value.ref b] below meth c H locs cells slots (lw_Z below #[Value.ref b] s) (F0 m 18 ls []) := by
  have hbA : ¬ (fun q : Nat => s.heap.size ≤ q) b := Nat.not_le.mpr C.1.2.2.2.2.2.2.2.1
  intro n
  induction n with
  | zero =>
    intro H locs ls cells slots w mw Lw f_ro f_im f_ke f_x e_tl e_fd f_wd e_wn e_fpl g_L g_F g_M i hLO hI hM hP hD hS hl hi hn
    exact absurd hn (by omega)
  | succ n ih =>
    intro H locs ls cells slots w mw Lw f_ro f_im f_ke f_x e_tl e_fd f_wd e_wn e_fpl g_L g_F g_M i hLO hI hM hP hD hS hl hi hn hc hs
    have hC := C
    obtain ⟨⟨hx, hb, hr, hml, hown, hts0, hX, hbl, hlocks, hgv⟩, hK, hN⟩ := id C
    have hown : s.vm.findClass RL = some m.cls := hown
    have hts : ∀ w ∈ tblG, w.before #[Value.ref b] s = true := fun w h => hts0 w (List.mem_filter.mp h).1
    have kk : i.toInt + 7 ≤ (Ls : Int) → ∀ (f_ro : Nat → Int32) (f_im : Nat → Int32) (f_ke : Nat → Int32) (f_x : Nat → Int32) (e_tl : Int32) (e_fd : Int32) (f_wd : Nat → Int32) (e_wn : Int32) (e_fpl : Int32) (g_L : LLS) (g_F : Int32) (g_M : LMS) (Lw : List LR) (w mw : va_W) (H : Heap) (locs : List Loc) (ls : Array Slot), LOK Lw → XW G Lw x f_ro f_im f_ke f_x e_tl e_fd f_wd e_wn e_fpl g_L g_F g_M w → MW G y f_ro f_im f_ke f_x e_tl e_fd f_wd e_wn e_fpl g_L g_F g_M mw → va_P G.1 vwCl (w ++ (mw ++ pflat G Lw)) H → va_D (fun q : Nat => s.heap.size ≤ q) (w ++ (mw ++ pflat G Lw)) → va_S (fun q : Nat => s.heap.size ≤ q) s.heap H locs → lv_has ls 4 [(3, .int i), (2, .ref y), (1, .ref x), (0, .ref b)] → W p l e room_1 s m #[Value.ref b] below meth c H locs (cells + 4) (slots + 429) (lw_Z below #[Value.ref b] s) (F0 m 1648 ls []) := by
      intro hi7 f_ro f_im f_ke f_x e_tl e_fd f_wd e_wn e_fpl g_L g_F g_M Lw w mw H locs ls hLO hI hM hP hD hS hl
      refine lv_iinc (v := (i + 7)) (lv' := [(3, .int (i + 7)), (2, .ref y), (1, .ref x), (0, .ref b)]) hx hb dL_law_1648 hl (k := 0) rfl rfl (by decide) rfl (fun ls hl => ?_)
      have t_1 : (i + 7).toInt = i.toInt + 7 := g5_iadd (a := i.toInt) (b := 7) rfl (by decide) (by omega) (by omega)
      refine lv_goto (tgt := 18) hx hb dL_law_1651 (by decide) ?_
      exact ih hLO hI hM hP hD hS (lv_sub hl [0, 1, 2, 3] rfl) ⟨by omega, by omega⟩ (by omega) (by omega) (by omega)
    refine lv_iload_n hx hb dL_law_18 rfl (lv_at hl 0 rfl) ?_
    refine lv_aload_n hx hb dL_law_19 rfl (lv_at hl 3 rfl) ?_
    refine va_slen hx hb hX hbl hbA hS dL_law_20 ?_
    obtain ⟨yl, hyl, hyi⟩ : ∃ z : Int32, Int32.ofNat Ls = z ∧ z.toInt = (Ls : Int) := ⟨_, rfl, g5_len hLs⟩
    refine g5_ti (v := yl) hyl ?_
    refine lv_bipush (v := 7) hx hb dL_law_21 (by decide) ?_
    refine lv_isub hx hb dL_law_23 ?_
    have t_2 : (yl - 7).toInt = yl.toInt - 7 := g5_isub (a := yl.toInt) (b := 7) (by rfl) (by decide) (by omega) (by omega)
    refine lv_icmp_gt (tgt := 1654) hx hb dL_law_24 (by decide) (fun c_3 => ?_) (fun c_3 => ?_)
    ·
      have i_3 : i.toInt > (yl.toInt - 7) := by have z := g5_gt (a := i.toInt) (b := (yl - 7).toInt) (by rfl) (by rfl) c_3; omega
      refine lv_iconst (v := 1) hx hb dL_law_1654 (by decide) ?_
      refine va_forget (fun q h => hS.2.2 q h) ?_
      refine W.widen (k := 600000) (n := 7302250) (by omega) (by omega) ?_
      exact lw_ret hx hb hr hlocks dL_law_1655
    ·
      have i_3 : i.toInt ≤ (yl.toInt - 7) := by have z := g5_gtN (a := i.toInt) (b := (yl - 7).toInt) (by rfl) (by rfl) c_3; omega
      refine lv_aload_n hx hb dL_law_27 rfl (lv_at hl 3 rfl) ?_
      refine lv_iload_n hx hb dL_law_28 rfl (lv_at hl 0 rfl) ?_
      refine va_sld hx hb hX hbl hbA hS (vp_in_iff.mpr ⟨by omega, by omega⟩) dL_law_29 ?_
      obtain ⟨q4, hq4⟩ : ∃ y : Int32, xs i.toNatClampNeg = y := ⟨_, rfl⟩
      refine g5_ti (v := q4) hq4 ?_
      refine lv_bipush (v := 63) hx hb dL_law_30 (by decide) ?_
      have ha6 := g5_a63 q4
      refine lv_iand hx hb dL_law_32 ?_
      rcases (show (q4 &&& 63).toInt = 0 ∨ (q4 &&& 63).toInt = 1 ∨ (q4 &&& 63).toInt = 2 ∨ (q4 &&& 63).toInt = 3 ∨ (q4 &&& 63).toInt = 4 ∨ (q4 &&& 63).toInt = 5 ∨ (q4 &&& 63).toInt = 6 ∨ (q4 &&& 63).toInt = 7 ∨ (q4 &&& 63).toInt = 8 ∨ (q4 &&& 63).toInt = 9 ∨ (q4 &&& 63).toInt = 10 ∨ (q4 &&& 63).toInt = 11 ∨ (q4 &&& 63).toInt = 12 ∨ (q4 &&& 63).toInt = 13 ∨ (q4 &&& 63).toInt = 14 ∨ (q4 &&& 63).toInt = 15 ∨ (q4 &&& 63).toInt = 16 ∨ (q4 &&& 63).toInt = 17 ∨ (q4 &&& 63).toInt = 18 ∨ (q4 &&& 63).toInt = 19 ∨ (q4 &&& 63).toInt = 20 ∨ (q4 &&& 63).toInt = 21 ∨ (q4 &&& 63).toInt = 22 ∨ (q4 &&& 63).toInt = 23 ∨ (q4 &&& 63).toInt = 24 ∨ (q4 &&& 63).toInt = 25 ∨ (q4 &&& 63).toInt = 26 ∨ (q4 &&& 63).toInt = 27 ∨ (q4 &&& 63).toInt = 28 ∨ (q4 &&& 63).toInt = 29 ∨ (q4 &&& 63).toInt = 30 ∨ (q4 &&& 63).toInt = 31 ∨ (q4 &&& 63).toInt = 32 ∨ (q4 &&& 63).toInt = 33 ∨ (q4 &&& 63).toInt = 34 ∨ (q4 &&& 63).toInt = 35 ∨ (q4 &&& 63).toInt = 36 ∨ (q4 &&& 63).toInt = 37 ∨ (q4 &&& 63).toInt = 38 ∨ (q4 &&& 63).toInt = 39 ∨ (q4 &&& 63).toInt = 40 ∨ (q4 &&& 63).toInt = 41 ∨ (q4 &&& 63).toInt = 42 ∨ (q4 &&& 63).toInt = 43 ∨ (q4 &&& 63).toInt > 43 by omega) with s_5 | s_5 | s_5 | s_5 | s_5 | s_5 | s_5 | s_5 | s_5 | s_5 | s_5 | s_5 | s_5 | s_5 | s_5 | s_5 | s_5 | s_5 | s_5 | s_5 | s_5 | s_5 | s_5 | s_5 | s_5 | s_5 | s_5 | s_5 | s_5 | s_5 | s_5 | s_5 | s_5 | s_5 | s_5 | s_5 | s_5 | s_5 | s_5 | s_5 | s_5 | s_5 | s_5 | s_5 | s_5
      ·
        have i_5 : (q4 &&& 63).toInt = 0 := by omega
        refine lv_tableIn (tgt := 224) hx hb dL_law_33 (by omega) (by omega) (by rw [s_5]; rfl) (by decide) ?_
        exact lc_wall hC (fun _ h => h) hT hbA hS ⟨by omega, by omega⟩ hLO hI hM hP hD (lv_sub hl [0, 1, 2, 3] rfl) ⟨by omega, by omega⟩ hLs (kk (by omega))
      ·
        have i_5 : (q4 &&& 63).toInt = 1 := by omega
        refine lv_tableIn (tgt := 257) hx hb dL_law_33 (by omega) (by omega) (by rw [s_5]; rfl) (by decide) ?_
        exact lc_glass hC (fun _ h => h) hT hbA hS ⟨by omega, by omega⟩ hLO hI hM hP hD (lv_sub hl [0, 1, 2, 3] rfl) ⟨by omega, by omega⟩ hLs (kk (by omega))
      ·
        have i_5 : (q4 &&& 63).toInt = 2 := by omega
        refine lv_tableIn (tgt := 310) hx hb dL_law_33 (by omega) (by omega) (by rw [s_5]; rfl) (by decide) ?_
        exact lc_turn hC (fun _ h => h) hT hbA hS ⟨by omega, by omega⟩ hLO hI hM hP hD (lv_sub hl [0, 1, 2, 3] rfl) ⟨by omega, by omega⟩ hLs (kk (by omega))
      ·
        have i_5 : (q4 &&& 63).toInt = 3 := by omega
        refine lv_tableIn (tgt := 353) hx hb dL_law_33 (by omega) (by omega) (by rw [s_5]; rfl) (by decide) ?_
        exact lc_of hC (fun _ h => h) hT hbA hS ⟨by omega, by omega⟩ hLO hI hM hP hD (lv_sub hl [0, 1, 2, 3] rfl) ⟨by omega, by omega⟩ hLs (kk (by omega))
      ·
        have i_5 : (q4 &&& 63).toInt = 4 := by omega
        refine lv_tableIn (tgt := 386) hx hb dL_law_33 (by omega) (by omega) (by rw [s_5]; rfl) (by decide) ?_
        exact lc_body hC (fun _ h => h) hT hbA hS ⟨by omega, by omega⟩ hLO hI hM hP hD (lv_sub hl [0, 1, 2, 3] rfl) ⟨by omega, by omega⟩ hLs (kk (by omega))
      ·
        have i_5 : (q4 &&& 63).toInt = 5 := by omega
        refine lv_tableIn (tgt := 399) hx hb dL_law_33 (by omega) (by omega) (by rw [s_5]; rfl) (by decide) ?_
        exact lc_stay hC (fun _ h => h) hT hbA hS ⟨by omega, by omega⟩ hLO hI hM hP hD (lv_sub hl [0, 1, 2, 3] rfl) ⟨by omega, by omega⟩ hLs (kk (by omega))
      ·
        have i_5 : (q4 &&& 63).toInt = 6 := by omega
        refine lv_tableIn (tgt := 452) hx hb dL_law_33 (by omega) (by omega) (by rw [s_5]; rfl) (by decide) ?_
        exact lc_where hC (fun _ h => h) hT hbA hS ⟨by omega, by omega⟩ hLO hI hM hP hD (lv_sub hl [0, 1, 2, 3] rfl) ⟨by omega, by omega⟩ hLs (kk (by omega))
      ·
        have i_5 : (q4 &&& 63).toInt = 7 := by omega
        refine lv_tableIn (tgt := 485) hx hb dL_law_33 (by omega) (by omega) (by rw [s_5]; rfl) (by decide) ?_
        exact lc_least hC (fun _ h => h) hT hbA hS ⟨by omega, by omega⟩ hLO hI hM hP hD (lv_sub hl [0, 1, 2, 3] rfl) ⟨by omega, by omega⟩ hLs (kk (by omega))
      ·
        have i_5 : (q4 &&& 63).toInt = 8 := by omega
        refine lv_tableIn (tgt := 508) hx hb dL_law_33 (by omega) (by omega) (by rw [s_5]; rfl) (by decide) ?_
        exact lc_feed hC (fun _ h => h) hT hbA hS ⟨by omega, by omega⟩ hLO hI hM hP hD (lv_sub hl [0, 1, 2, 3] rfl) ⟨by omega, by omega⟩ hLs (kk (by omega))
      ·
        have i_5 : (q4 &&& 63).toInt = 9 := by omega
        refine lv_tableIn (tgt := 571) hx hb dL_law_33 (by omega) (by omega) (by rw [s_5]; rfl) (by decide) ?_
        exact lc_end hC (fun _ h => h) hT hbA hS ⟨by omega, by omega⟩ hLO hI hM hP hD (lv_sub hl [0, 1, 2, 3] rfl) ⟨by omega, by omega⟩ hLs (kk (by omega))
      ·
        have i_5 : (q4 &&& 63).toInt = 10 := by omega
        refine lv_tableIn (tgt := 594) hx hb dL_law_33 (by omega) (by omega) (by rw [s_5]; rfl) (by decide) ?_
        exact lc_row hC (fun _ h => h) hT hbA hS ⟨by omega, by omega⟩ hLO hI hM hP hD (lv_sub hl [0, 1, 2, 3] rfl) ⟨by omega, by omega⟩ hLs (kk (by omega))
      ·
        have i_5 : (q4 &&& 63).toInt = 11 := by omega
        refine lv_tableIn (tgt := 607) hx hb dL_law_33 (by omega) (by omega) (by rw [s_5]; rfl) (by decide) ?_
        exact lc_faded hC (fun _ h => h) hT hbA hS ⟨by omega, by omega⟩ hLO hI hM hP hD (lv_sub hl [0, 1, 2, 3] rfl) ⟨by omega, by omega⟩ hLs (kk (by omega))
      ·
        have i_5 : (q4 &&& 63).toInt = 12 := by omega
        refine lv_tableIn (tgt := 620) hx hb dL_law_33 (by omega) (by omega) (by rw [s_5]; rfl) (by decide) ?_
        exact lc_law hC (fun _ h => h) hT hbA hS ⟨by omega, by omega⟩ hLO hI hM hP hD (lv_sub hl [0, 1, 2, 3] rfl) ⟨by omega, by omega⟩ hLs (kk (by omega))
      ·
        have i_5 : (q4 &&& 63).toInt = 13 := by omega
        refine lv_tableIn (tgt := 633) hx hb dL_law_33 (by omega) (by omega) (by rw [s_5]; rfl) (by decide) ?_
        exact lc_fault hC (fun _ h => h) hT hbA hS ⟨by omega, by omega⟩ hLO hI hM hP hD (lv_sub hl [0, 1, 2, 3] rfl) ⟨by omega, by omega⟩ hLs (kk (by omega))
      ·
        have i_5 : (q4 &&& 63).toInt = 14 := by omega
        refine lv_tableIn (tgt := 646) hx hb dL_law_33 (by omega) (by omega) (by rw [s_5]; rfl) (by decide) ?_
        exact lc_force hC (fun _ h => h) hT hbA hS ⟨by omega, by omega⟩ hLO hI hM hP hD (lv_sub hl [0, 1, 2, 3] rfl) ⟨by omega, by omega⟩ hLs (kk (by omega))
      ·
        have i_5 : (q4 &&& 63).toInt = 15 := by omega
        refine lv_tableIn (tgt := 669) hx hb dL_law_33 (by omega) (by omega) (by rw [s_5]; rfl) (by decide) ?_
        exact lc_look hC (fun _ h => h) hT hbA hS ⟨by omega, by omega⟩ hLO hI hM hP hD (lv_sub hl [0, 1, 2, 3] rfl) ⟨by omega, by omega⟩ hLs (kk (by omega))
      ·
        have i_5 : (q4 &&& 63).toInt = 16 := by omega
        refine lv_tableIn (tgt := 722) hx hb dL_law_33 (by omega) (by omega) (by rw [s_5]; rfl) (by decide) ?_
        exact lc_point hC (fun _ h => h) hT hbA hS ⟨by omega, by omega⟩ hLO hI hM hP hD (lv_sub hl [0, 1, 2, 3] rfl) ⟨by omega, by omega⟩ hLs (kk (by omega))
      ·
        have i_5 : (q4 &&& 63).toInt = 17 := by omega
        refine lv_tableIn (tgt := 775) hx hb dL_law_33 (by omega) (by omega) (by rw [s_5]; rfl) (by decide) ?_
        exact lc_sees hC (fun _ h => h) hT hbA hS ⟨by omega, by omega⟩ hLO hI hM hP hD (lv_sub hl [0, 1, 2, 3] rfl) ⟨by omega, by omega⟩ hLs (kk (by omega))
      ·
        have i_5 : (q4 &&& 63).toInt = 18 := by omega
        refine lv_tableIn (tgt := 808) hx hb dL_law_33 (by omega) (by omega) (by rw [s_5]; rfl) (by decide) ?_
        exact lc_late hC (fun _ h => h) hT hbA hS ⟨by omega, by omega⟩ hLO hI hM hP hD (lv_sub hl [0, 1, 2, 3] rfl) ⟨by omega, by omega⟩ hLs (kk (by omega))
      ·
        have i_5 : (q4 &&& 63).toInt = 19 := by omega
        refine lv_tableIn (tgt := 851) hx hb dL_law_33 (by omega) (by omega) (by rw [s_5]; rfl) (by decide) ?_
        exact lc_first hC (fun _ h => h) hT hbA hS ⟨by omega, by omega⟩ hLO hI hM hP hD (lv_sub hl [0, 1, 2, 3] rfl) ⟨by omega, by omega⟩ hLs (kk (by omega))
      ·
        have i_5 : (q4 &&& 63).toInt = 20 := by omega
        refine lv_tableIn (tgt := 884) hx hb dL_law_33 (by omega) (by omega) (by rw [s_5]; rfl) (by decide) ?_
        exact lc_lit hC (fun _ h => h) hT hbA hS ⟨by omega, by omega⟩ hLO hI hM hP hD (lv_sub hl [0, 1, 2, 3] rfl) ⟨by omega, by omega⟩ hLs (kk (by omega))
      ·
        have i_5 : (q4 &&& 63).toInt = 21 := by omega
        refine lv_tableIn (tgt := 927) hx hb dL_law_33 (by omega) (by omega) (by rw [s_5]; rfl) (by decide) ?_
        exact lc_unseen hC (fun _ h => h) hT hbA hS ⟨by omega, by omega⟩ hLO hI hM hP hD (lv_sub hl [0, 1, 2, 3] rfl) ⟨by omega, by omega⟩ hLs (kk (by omega))
      ·
        have i_5 : (q4 &&& 63).toInt = 22 := by omega
        refine lv_tableIn (tgt := 950) hx hb dL_law_33 (by omega) (by omega) (by rw [s_5]; rfl) (by decide) ?_
        exact lc_sighting hC (fun _ h => h) hT hbA hS ⟨by omega, by omega⟩ hLO hI hM hP hD (lv_sub hl [0, 1, 2, 3] rfl) ⟨by omega, by omega⟩ hLs (kk (by omega))
      ·
        have i_5 : (q4 &&& 63).toInt = 23 := by omega
        refine lv_tableIn (tgt := 1003) hx hb dL_law_33 (by omega) (by omega) (by rw [s_5]; rfl) (by decide) ?_
        exact lc_drop hC (fun _ h => h) hT hbA hS ⟨by omega, by omega⟩ hLO hI hM hP hD (lv_sub hl [0, 1, 2, 3] rfl) ⟨by omega, by omega⟩ hLs (kk (by omega))
      ·
        have i_5 : (q4 &&& 63).toInt = 24 := by omega
        refine lv_tableIn (tgt := 1026) hx hb dL_law_33 (by omega) (by omega) (by rw [s_5]; rfl) (by decide) ?_
        exact lc_start hC (fun _ h => h) hT hbA hS ⟨by omega, by omega⟩ hLO hI hM hP hD (lv_sub hl [0, 1, 2, 3] rfl) ⟨by omega, by omega⟩ hLs (kk (by omega))
      ·
        have i_5 : (q4 &&& 63).toInt = 25 := by omega
        refine lv_tableIn (tgt := 1049) hx hb dL_law_33 (by omega) (by omega) (by rw [s_5]; rfl) (by decide) ?_
        exact lc_fits hC (fun _ h => h) hT hbA hS ⟨by omega, by omega⟩ hLO hI hM hP hD (lv_sub hl [0, 1, 2, 3] rfl) ⟨by omega, by omega⟩ hLs (kk (by omega))
      ·
        have i_5 : (q4 &&& 63).toInt = 26 := by omega
        refine lv_tableIn (tgt := 1062) hx hb dL_law_33 (by omega) (by omega) (by rw [s_5]; rfl) (by decide) ?_
        exact lc_could hC (fun _ h => h) hT hbA hS ⟨by omega, by omega⟩ hLO hI hM hP hD (lv_sub hl [0, 1, 2, 3] rfl) ⟨by omega, by omega⟩ hLs (kk (by omega))
      ·
        have i_5 : (q4 &&& 63).toInt = 27 := by omega
        refine lv_tableIn (tgt := 1095) hx hb dL_law_33 (by omega) (by omega) (by rw [s_5]; rfl) (by decide) ?_
        exact lc_path hC (fun _ h => h) hT hbA hS ⟨by omega, by omega⟩ hLO hI hM hP hD (lv_sub hl [0, 1, 2, 3] rfl) ⟨by omega, by omega⟩ hLs (kk (by omega))
      ·
        have i_5 : (q4 &&& 63).toInt = 28 := by omega
        refine lv_tableIn (tgt := 1118) hx hb dL_law_33 (by omega) (by omega) (by rw [s_5]; rfl) (by decide) ?_
        exact lc_core hC (fun _ h => h) hT hbA hS ⟨by omega, by omega⟩ hLO hI hM hP hD (lv_sub hl [0, 1, 2, 3] rfl) ⟨by omega, by omega⟩ hLs (kk (by omega))
      ·
        have i_5 : (q4 &&& 63).toInt = 29 := by omega
        refine lv_tableIn (tgt := 1131) hx hb dL_law_33 (by omega) (by omega) (by rw [s_5]; rfl) (by decide) ?_
        exact lc_tells hC (fun _ h => h) hT hbA hS ⟨by omega, by omega⟩ hLO hI hM hP hD (lv_sub hl [0, 1, 2, 3] rfl) ⟨by omega, by omega⟩ hLs (kk (by omega))
      ·
        have i_5 : (q4 &&& 63).toInt = 30 := by omega
        refine lv_tableIn (tgt := 1174) hx hb dL_law_33 (by omega) (by omega) (by rw [s_5]; rfl) (by decide) ?_
        exact lc_surely hC (fun _ h => h) hT hbA hS ⟨by omega, by omega⟩ hLO hI hM hP hD (lv_sub hl [0, 1, 2, 3] rfl) ⟨by omega, by omega⟩ hLs (kk (by omega))
      ·
        have i_5 : (q4 &&& 63).toInt = 31 := by omega
        refine lv_tableIn (tgt := 1197) hx hb dL_law_33 (by omega) (by omega) (by rw [s_5]; rfl) (by decide) ?_
        exact lc_spot hC (fun _ h => h) hT hbA hS ⟨by omega, by omega⟩ hLO hI hM hP hD (lv_sub hl [0, 1, 2, 3] rfl) ⟨by omega, by omega⟩ hLs (kk (by omega))
      ·
        have i_5 : (q4 &&& 63).toInt = 32 := by omega
        refine lv_tableIn (tgt := 1240) hx hb dL_law_33 (by omega) (by omega) (by rw [s_5]; rfl) (by decide) ?_
        exact lc_wish hC (fun _ h => h) hT hbA hS ⟨by omega, by omega⟩ hLO hI hM hP hD (lv_sub hl [0, 1, 2, 3] rfl) ⟨by omega, by omega⟩ hLs (kk (by omega))
      ·
        have i_5 : (q4 &&& 63).toInt = 33 := by omega
        refine lv_tableIn (tgt := 1315) hx hb dL_law_33 (by omega) (by omega) (by rw [s_5]; rfl) (by decide) ?_
        exact lc_lacks hC (fun _ h => h) hT hbA hS ⟨by omega, by omega⟩ hLO hI hM hP hD (lv_sub hl [0, 1, 2, 3] rfl) ⟨by omega, by omega⟩ hLs (kk (by omega))
      ·
        have i_5 : (q4 &&& 63).toInt = 34 := by omega
        refine lv_tableIn (tgt := 1338) hx hb dL_law_33 (by omega) (by omega) (by rw [s_5]; rfl) (by decide) ?_
        exact lc_hang hC (fun _ h => h) hT hbA hS ⟨by omega, by omega⟩ hLO hI hM hP hD (lv_sub hl [0, 1, 2, 3] rfl) ⟨by omega, by omega⟩ hLs (kk (by omega))
      ·
        have i_5 : (q4 &&& 63).toInt = 35 := by omega
        refine lv_tableIn (tgt := 1361) hx hb dL_law_33 (by omega) (by omega) (by rw [s_5]; rfl) (by decide) ?_
        exact lc_soonest hC (fun _ h => h) hT hbA hS ⟨by omega, by omega⟩ hLO hI hM hP hD (lv_sub hl [0, 1, 2, 3] rfl) ⟨by omega, by omega⟩ hLs (kk (by omega))
      ·
        have i_5 : (q4 &&& 63).toInt = 36 := by omega
        refine lv_tableIn (tgt := 1404) hx hb dL_law_33 (by omega) (by omega) (by rw [s_5]; rfl) (by decide) ?_
        exact lc_way hC (fun _ h => h) hT hbA hS ⟨by omega, by omega⟩ hLO hI hM hP hD (lv_sub hl [0, 1, 2, 3] rfl) ⟨by omega, by omega⟩ hLs (kk (by omega))
      ·
        have i_5 : (q4 &&& 63).toInt = 37 := by omega
        refine lv_tableIn (tgt := 1457) hx hb dL_law_33 (by omega) (by omega) (by rw [s_5]; rfl) (by decide) ?_
        exact lc_sooner hC (fun _ h => h) hT hbA hS ⟨by omega, by omega⟩ hLO hI hM hP hD (lv_sub hl [0, 1, 2, 3] rfl) ⟨by omega, by omega⟩ hLs (kk (by omega))
      ·
        have i_5 : (q4 &&& 63).toInt = 38 := by omega
        refine lv_tableIn (tgt := 1510) hx hb dL_law_33 (by omega) (by omega) (by rw [s_5]; rfl) (by decide) ?_
        exact lc_wander hC (fun _ h => h) hT hbA hS ⟨by omega, by omega⟩ hLO hI hM hP hD (lv_sub hl [0, 1, 2, 3] rfl) ⟨by omega, by omega⟩ hLs (kk (by omega))
      ·
        have i_5 : (q4 &&& 63).toInt = 39 := by omega
        refine lv_tableIn (tgt := 1543) hx hb dL_law_33 (by omega) (by omega) (by rw [s_5]; rfl) (by decide) ?_
        exact lc_drawn hC (fun _ h => h) hT hbA hS ⟨by omega, by omega⟩ hLO hI hM hP hD (lv_sub hl [0, 1, 2, 3] rfl) ⟨by omega, by omega⟩ hLs (kk (by omega))
      ·
        have i_5 : (q4 &&& 63).toInt = 40 := by omega
        refine lv_tableIn (tgt := 1566) hx hb dL_law_33 (by omega) (by omega) (by rw [s_5]; rfl) (by decide) ?_
        exact lc_image hC (fun _ h => h) hT hbA hS ⟨by omega, by omega⟩ hLO hI hM hP hD (lv_sub hl [0, 1, 2, 3] rfl) ⟨by omega, by omega⟩ hLs (kk (by omega))
      ·
        have i_5 : (q4 &&& 63).toInt = 41 := by omega
        refine lv_tableIn (tgt := 1589) hx hb dL_law_33 (by omega) (by omega) (by rw [s_5]; rfl) (by decide) ?_
        exact lc_back hC (fun _ h => h) hT hbA hS ⟨by omega, by omega⟩ hLO hI hM hP hD (lv_sub hl [0, 1, 2, 3] rfl) ⟨by omega, by omega⟩ hLs (kk (by omega))
      ·
        have i_5 : (q4 &&& 63).toInt = 42 := by omega
        refine lv_tableIn (tgt := 1612) hx hb dL_law_33 (by omega) (by omega) (by rw [s_5]; rfl) (by decide) ?_
        exact lc_count hC (fun _ h => h) hT hbA hS ⟨by omega, by omega⟩ hLO hI hM hP hD (lv_sub hl [0, 1, 2, 3] rfl) ⟨by omega, by omega⟩ hLs (kk (by omega))
      ·
        have i_5 : (q4 &&& 63).toInt = 43 := by omega
        refine lv_tableIn (tgt := 1635) hx hb dL_law_33 (by omega) (by omega) (by rw [s_5]; rfl) (by decide) ?_
        exact lc_status hC (fun _ h => h) hT hbA hS ⟨by omega, by omega⟩ hLO hI hM hP hD (lv_sub hl [0, 1, 2, 3] rfl) ⟨by omega, by omega⟩ hLs (kk (by omega))
      ·
        have i_5 : (q4 &&& 63).toInt > 43 := by omega
        refine lv_tableOut (tgt := 1648) hx hb dL_law_33 (by omega) (by decide) ?_
        refine W.widen (k := cells + 4) (n := slots + 429) (by omega) (by omega) ?_
        exact kk (by omega) f_ro f_im f_ke f_x e_tl e_fd f_wd e_wn e_fpl g_L g_F g_M Lw w mw H locs ls hLO hI hM hP hD hS (lv_sub hl [0, 1, 2, 3] rfl)
