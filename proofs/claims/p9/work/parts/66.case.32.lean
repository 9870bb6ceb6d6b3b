set_option maxHeartbeats 4000000 in
set_option maxRecDepth 100000 in
theorem lc_wish {p : Program} {l : Launch} {e : Env} {s : State} {m : MethodId} {below : List Frame} {meth : Method} {c : Code} {b Ls : Nat} {xs : Nat → Int32} {G : g5_G} {A : Nat → Prop} {Q : State → Prop} {H : Heap} {locs : List Loc} {ls : Array Slot} {cells slots : Nat} {w mw : va_W} {Lw : List LR} {x y : Nat} {f_ro : Nat → Int32} {f_im : Nat → Int32} {f_ke : Nat → Int32} {f_x : Nat → Int32} {e_tl : Int32} {e_fd : Int32} {f_wd : Nat → Int32} {e_wn : Int32} {i : Int32} (C : lwC p s m meth c b Ls xs G) (hA : ∀ q : Nat, s.heap.size ≤ q → A q) (hT : g5_S A s s.heap) (hbA : ¬ A b) (hS : va_S A s.heap H locs) (hrm : cells + 8 ≤ 600000 ∧ slots + 858 ≤ 7302250) (hLO : LOK Lw) (hI : XW G Lw x f_ro f_im f_ke f_x e_tl e_fd f_wd e_wn w) (hM : MW G y f_ro f_im f_ke f_x e_tl e_fd f_wd e_wn mw) (hP : va_P G.1 vwCl (w ++ (mw ++ pflat G Lw)) H) (hD : va_D A (w ++ (mw ++ pflat G Lw))) (hl : lv_has ls 4 [(3, .int i), (2, .ref y), (1, .ref x), (0, .ref b)]) (hi : 0 ≤ i.toInt ∧ i.toInt + 7 ≤ (Ls : Int)) (hLs : Ls ≤ 3584) (kk : ∀ (f_ro : Nat → Int32) (f_im : Nat → Int32) (f_ke : Nat → Int32) (f_x : Nat → Int32) (e_tl : Int32) (e_fd : Int32) (f_wd : Nat → Int32) (e_wn : Int32) (Lw : List LR) (w mw : va_W) (H : Heap) (locs : List Loc) (ls : Array Slot), LOK Lw → XW G Lw x f_ro f_im f_ke f_x e_tl e_fd f_wd e_wn w → MW G y f_ro f_im f_ke f_x e_tl e_fd f_wd e_wn mw → va_P G.1 vwCl (w ++ (mw ++ pflat G Lw)) H → va_D A (w ++ (mw ++ pflat G Lw)) → va_S A s.heap H locs → lv_has ls 4 [(3, .int i), (2, .ref y), (1, .ref x), (0, .ref b)] → W p l e room_1 s m #[Value.ref b] below meth c H locs (cells + 4) (slots + 429) Q (F0 m 1648 ls [])) : W p l e room_1 s m #[Value.ref b] below meth c H locs cells slots Q (F0 m 1240 ls []) := by
  have hC := C
  obtain ⟨⟨hx, hb, hr, hml, hown, hts0, hX, hbl, hlocks, hgv⟩, hK, hN⟩ := C
  have hown : s.vm.findClass RL = some m.cls := hown
  have hts : ∀ w ∈ tblG, w.before #[Value.ref b] s = true := fun w h => hts0 w (List.mem_filter.mp h).1
  refine lv_aload_n hx hb dL_law_1240 rfl (lv_at hl 2 rfl) ?_
  refine lv_aload_n hx hb dL_law_1241 rfl (lv_at hl 3 rfl) ?_
  refine lv_iload_n hx hb dL_law_1242 rfl (lv_at hl 0 rfl) ?_
  refine lv_iconst (v := 1) hx hb dL_law_1243 (by decide) ?_
  refine lv_iadd hx hb dL_law_1244 ?_
  have t_1 : (i + 1).toInt = i.toInt + 1 := g5_iadd (a := i.toInt) (b := 1) (by rfl) (by decide) (by omega) (by omega)
  refine va_sld hx hb hX hbl hbA hS (vp_in_iff.mpr ⟨by omega, by omega⟩) dL_law_1245 ?_
  obtain ⟨q2, hq2⟩ : ∃ y : Int32, xs (i + 1).toNatClampNeg = y := ⟨_, rfl⟩
  refine g5_ti (v := q2) hq2 ?_
  refine lv_aload_n hx hb dL_law_1246 rfl (lv_at hl 3 rfl) ?_
  refine lv_iload_n hx hb dL_law_1247 rfl (lv_at hl 0 rfl) ?_
  refine lv_iconst (v := 2) hx hb dL_law_1248 (by decide) ?_
  refine lv_iadd hx hb dL_law_1249 ?_
  have t_3 : (i + 2).toInt = i.toInt + 2 := g5_iadd (a := i.toInt) (b := 2) (by rfl) (by decide) (by omega) (by omega)
  refine va_sld hx hb hX hbl hbA hS (vp_in_iff.mpr ⟨by omega, by omega⟩) dL_law_1250 ?_
  obtain ⟨q4, hq4⟩ : ∃ y : Int32, xs (i + 2).toNatClampNeg = y := ⟨_, rfl⟩
  refine g5_ti (v := q4) hq4 ?_
  refine lv_aload_n hx hb dL_law_1251 rfl (lv_at hl 3 rfl) ?_
  refine lv_iload_n hx hb dL_law_1252 rfl (lv_at hl 0 rfl) ?_
  refine lv_iconst (v := 3) hx hb dL_law_1253 (by decide) ?_
  refine lv_iadd hx hb dL_law_1254 ?_
  have t_5 : (i + 3).toInt = i.toInt + 3 := g5_iadd (a := i.toInt) (b := 3) (by rfl) (by decide) (by omega) (by omega)
  refine va_sld hx hb hX hbl hbA hS (vp_in_iff.mpr ⟨by omega, by omega⟩) dL_law_1255 ?_
  obtain ⟨q6, hq6⟩ : ∃ y : Int32, xs (i + 3).toNatClampNeg = y := ⟨_, rfl⟩
  refine g5_ti (v := q6) hq6 ?_
  refine lv_aload_n hx hb dL_law_1256 rfl (lv_at hl 3 rfl) ?_
  refine lv_iload_n hx hb dL_law_1257 rfl (lv_at hl 0 rfl) ?_
  refine lv_iconst (v := 4) hx hb dL_law_1258 (by decide) ?_
  refine lv_iadd hx hb dL_law_1259 ?_
  have t_7 : (i + 4).toInt = i.toInt + 4 := g5_iadd (a := i.toInt) (b := 4) (by rfl) (by decide) (by omega) (by omega)
  refine va_sld hx hb hX hbl hbA hS (vp_in_iff.mpr ⟨by omega, by omega⟩) dL_law_1260 ?_
  obtain ⟨q8, hq8⟩ : ∃ y : Int32, xs (i + 4).toNatClampNeg = y := ⟨_, rfl⟩
  refine g5_ti (v := q8) hq8 ?_
  refine lv_aload_n hx hb dL_law_1261 rfl (lv_at hl 3 rfl) ?_
  refine lv_iload_n hx hb dL_law_1262 rfl (lv_at hl 0 rfl) ?_
  refine lv_iconst (v := 5) hx hb dL_law_1263 (by decide) ?_
  refine lv_iadd hx hb dL_law_1264 ?_
  have t_9 : (i + 5).toInt = i.toInt + 5 := g5_iadd (a := i.toInt) (b := 5) (by rfl) (by decide) (by omega) (by omega)
  refine va_sld hx hb hX hbl hbA hS (vp_in_iff.mpr ⟨by omega, by omega⟩) dL_law_1265 ?_
  obtain ⟨q10, hq10⟩ : ∃ y : Int32, xs (i + 5).toNatClampNeg = y := ⟨_, rfl⟩
  refine g5_ti (v := q10) hq10 ?_
  refine lv_aload_n hx hb dL_law_1266 rfl (lv_at hl 3 rfl) ?_
  refine lv_iload_n hx hb dL_law_1267 rfl (lv_at hl 0 rfl) ?_
  refine lv_bipush (v := 6) hx hb dL_law_1268 (by decide) ?_
  refine lv_iadd hx hb dL_law_1270 ?_
  have t_11 : (i + 6).toInt = i.toInt + 6 := g5_iadd (a := i.toInt) (b := 6) (by rfl) (by decide) (by omega) (by omega)
  refine va_sld hx hb hX hbl hbA hS (vp_in_iff.mpr ⟨by omega, by omega⟩) dL_law_1271 ?_
  obtain ⟨q12, hq12⟩ : ∃ y : Int32, xs (i + 6).toNatClampNeg = y := ⟨_, rfl⟩
  refine g5_ti (v := q12) hq12 ?_
  refine sx_wish hC hA hT hS hl.1 ⟨by omega, by omega⟩ hLO hI hP hD (fun r13 w hI {H} {locs} hP hD hS => ?_)
  have hP := hP.perm (List.perm_append_comm_assoc w mw (pflat G Lw))
  have hD := hD.perm (List.perm_append_comm_assoc w mw (pflat G Lw))
  refine lv_pop hx hb dL_law_1275 rfl ?_
  refine lv_aload_n hx hb dL_law_1276 rfl (lv_at hl 1 rfl) ?_
  refine lv_aload_n hx hb dL_law_1277 rfl (lv_at hl 3 rfl) ?_
  refine lv_iload_n hx hb dL_law_1278 rfl (lv_at hl 0 rfl) ?_
  refine lv_iconst (v := 1) hx hb dL_law_1279 (by decide) ?_
  refine lv_iadd hx hb dL_law_1280 ?_
  have t_14 : (i + 1).toInt = i.toInt + 1 := g5_iadd (a := i.toInt) (b := 1) (by rfl) (by decide) (by omega) (by omega)
  refine va_sld hx hb hX hbl hbA hS (vp_in_iff.mpr ⟨by omega, by omega⟩) dL_law_1281 ?_
  refine g5_ti (v := q2) hq2 ?_
  refine lv_aload_n hx hb dL_law_1282 rfl (lv_at hl 3 rfl) ?_
  refine lv_iload_n hx hb dL_law_1283 rfl (lv_at hl 0 rfl) ?_
  refine lv_iconst (v := 2) hx hb dL_law_1284 (by decide) ?_
  refine lv_iadd hx hb dL_law_1285 ?_
  have t_15 : (i + 2).toInt = i.toInt + 2 := g5_iadd (a := i.toInt) (b := 2) (by rfl) (by decide) (by omega) (by omega)
  refine va_sld hx hb hX hbl hbA hS (vp_in_iff.mpr ⟨by omega, by omega⟩) dL_law_1286 ?_
  refine g5_ti (v := q4) hq4 ?_
  refine lv_aload_n hx hb dL_law_1287 rfl (lv_at hl 3 rfl) ?_
  refine lv_iload_n hx hb dL_law_1288 rfl (lv_at hl 0 rfl) ?_
  refine lv_iconst (v := 3) hx hb dL_law_1289 (by decide) ?_
  refine lv_iadd hx hb dL_law_1290 ?_
  have t_16 : (i + 3).toInt = i.toInt + 3 := g5_iadd (a := i.toInt) (b := 3) (by rfl) (by decide) (by omega) (by omega)
  refine va_sld hx hb hX hbl hbA hS (vp_in_iff.mpr ⟨by omega, by omega⟩) dL_law_1291 ?_
  refine g5_ti (v := q6) hq6 ?_
  refine lv_aload_n hx hb dL_law_1292 rfl (lv_at hl 3 rfl) ?_
  refine lv_iload_n hx hb dL_law_1293 rfl (lv_at hl 0 rfl) ?_
  refine lv_iconst (v := 4) hx hb dL_law_1294 (by decide) ?_
  refine lv_iadd hx hb dL_law_1295 ?_
  have t_17 : (i + 4).toInt = i.toInt + 4 := g5_iadd (a := i.toInt) (b := 4) (by rfl) (by decide) (by omega) (by omega)
  refine va_sld hx hb hX hbl hbA hS (vp_in_iff.mpr ⟨by omega, by omega⟩) dL_law_1296 ?_
  refine g5_ti (v := q8) hq8 ?_
  refine lv_aload_n hx hb dL_law_1297 rfl (lv_at hl 3 rfl) ?_
  refine lv_iload_n hx hb dL_law_1298 rfl (lv_at hl 0 rfl) ?_
  refine lv_iconst (v := 5) hx hb dL_law_1299 (by decide) ?_
  refine lv_iadd hx hb dL_law_1300 ?_
  have t_18 : (i + 5).toInt = i.toInt + 5 := g5_iadd (a := i.toInt) (b := 5) (by rfl) (by decide) (by omega) (by omega)
  refine va_sld hx hb hX hbl hbA hS (vp_in_iff.mpr ⟨by omega, by omega⟩) dL_law_1301 ?_
  refine g5_ti (v := q10) hq10 ?_
  refine lv_aload_n hx hb dL_law_1302 rfl (lv_at hl 3 rfl) ?_
  refine lv_iload_n hx hb dL_law_1303 rfl (lv_at hl 0 rfl) ?_
  refine lv_bipush (v := 6) hx hb dL_law_1304 (by decide) ?_
  refine lv_iadd hx hb dL_law_1306 ?_
  have t_19 : (i + 6).toInt = i.toInt + 6 := g5_iadd (a := i.toInt) (b := 6) (by rfl) (by decide) (by omega) (by omega)
  refine va_sld hx hb hX hbl hbA hS (vp_in_iff.mpr ⟨by omega, by omega⟩) dL_law_1307 ?_
  refine g5_ti (v := q12) hq12 ?_
  refine sm_wish hC hA hT hS hl.1 ⟨by omega, by omega⟩ hM hP hD (fun r20 mw hM {H} {locs} hP hD hS => ?_)
  have hP := hP.perm (List.perm_append_comm_assoc mw w (pflat G Lw))
  have hD := hD.perm (List.perm_append_comm_assoc mw w (pflat G Lw))
  refine lv_pop hx hb dL_law_1311 rfl ?_
  refine lv_goto (tgt := 1648) hx hb dL_law_1312 (by decide) ?_
  refine W.widen (k := cells + 4) (n := slots + 429) (by omega) (by omega) ?_
  exact kk (swish f_ro q2 q4 q6 q8 q10 q12) f_im f_ke f_x e_tl e_fd f_wd e_wn Lw w mw H locs ls hLO hI hM hP hD hS (lv_sub hl [0, 1, 2, 3] rfl)
