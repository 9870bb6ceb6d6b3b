set_option maxHeartbeats 8000000 in
set_option maxRecDepth 100000 in
theorem law_loop {p : Program} {l : Launch} {e : Env} {s : State} {m : MethodId} {below : List Frame} {meth : Method} {c : Code} {b Ls : Nat} {xs : Nat → Int32} {G : g5_G} {x y : Nat} (hLs : Ls ≤ 3584) (C : lwC p s m meth c b Ls xs G) (hT : g5_S (fun q : Nat => s.heap.size ≤ q) s s.heap) : ∀ (n : Nat) {H : Heap} {locs : List Loc} {ls : Array Slot} {cells slots : Nat} {w mw : va_W} {Lw : List LR} {f_ro : Nat → Int32} {f_im : Nat → Int32} {f_ke : Nat → Int32} {f_x : Nat → Int32} {e_tl : Int32} {e_fd : Int32} {f_wd : Nat → Int32} {e_wn : Int32} {i : Int32}, LOK Lw → XW G Lw x f_ro f_im f_ke f_x e_tl e_fd f_wd e_wn w → MW G y f_ro f_im f_ke f_x e_tl e_fd f_wd e_wn mw → va_P G.1 vwCl (w ++ (mw ++ pflat G Lw)) H → va_D (fun q : Nat => s.heap.size ≤ q) (w ++ (mw ++ pflat G Lw)) → va_S (fun q : Nat => s.heap.size ≤ q) s.heap H locs → lv_has ls 4 [(3, .int i), (2, .ref y), (1, .ref x), (0, .ref b)] → (0 ≤ i.toInt ∧ i.toInt ≤ (Ls : Int)) → (Ls : Int) < i.toInt + 7 * (n : Int) → cells + 4 * n + 8 ≤ 600000 → slots + 429 * n + 858 ≤ 7302250 → W p l e room_1 s m #[Value.ref b] below meth c H locs cells slots (lw_Z below #[Value.ref b] s) (F0 m 18 ls []) := by
  have hbA : ¬ (fun q : Nat => s.heap.size ≤ q) b := Nat.not_le.mpr C.1.2.2.2.2.2.2.2.1
  intro n
  induction n with
  | zero =>
    intro H locs ls cells slots w mw Lw f_ro f_im f_ke f_x e_tl e_fd f_wd e_wn i hLO hI hM hP hD hS hl hi hn
    exact absurd hn (by omega)
  | succ n ih =>
    intro H locs ls cells slots w mw Lw f_ro f_im f_ke f_x e_tl e_fd f_wd e_wn i hLO hI hM hP hD hS hl hi hn hc hs
    have hC := C
    obtain ⟨⟨hx, hb, hr, hml, hown, hts0, hX, hbl, hlocks, hgv⟩, hK, hN⟩ := id C
    have hown : s.vm.findClass RL = some m.cls := hown
    have hts : ∀ w ∈ tblG, w.before #[Value.ref b] s = true := fun w h => hts0 w (List.mem_filter.mp h).1
    have kk : i.toInt + 7 ≤ (Ls : Int) → ∀ (f_ro : Nat → Int32) (f_im : Nat → Int32) (f_ke : Nat → Int32) (f_x : Nat → Int32) (e_tl : Int32) (e_fd : Int32) (f_wd : Nat → Int32) (e_wn : Int32) (Lw : List LR) (w mw : va_W) (H : Heap) (locs : List Loc) (ls : Array Slot), LOK Lw → XW G Lw x f_ro f_im f_ke f_x e_tl e_fd f_wd e_wn w → MW G y f_ro f_im f_ke f_x e_tl e_fd f_wd e_wn mw → va_P G.1 vwCl (w ++ (mw ++ pflat G Lw)) H → va_D (fun q : Nat => s.heap.size ≤ q) (w ++ (mw ++ pflat G Lw)) → va_S (fun q : Nat => s.heap.size ≤ q) s.heap H locs → lv_has ls 4 [(3, .int i), (2, .ref y), (1, .ref x), (0, .ref b)] → W p l e room_1 s m #[Value.ref b] below meth c H locs (cells + 4) (slots + 429) (lw_Z below #[Value.ref b] s) (F0 m 1648 ls []) := by
      intro hi7 f_ro f_im f_ke f_x e_tl e_fd f_wd e_wn Lw w mw H locs ls hLO hI hM hP hD hS hl
      refine lv_iinc (v := (i + 7)) (lv' := [(3, .int (i + 7)), (2, .ref y), (1, .ref x), (0, .ref b)]) hx hb dL_law_1648 hl (k := 0) rfl rfl (by decide) rfl (fun ls hl => ?_)
      have t_1 : (i + 7).toInt = i.toInt + 7 := g5_iadd (a := i.toInt) (b := 7) rfl (by decide) (by omega) (by omega)
      refine lv_goto (tgt := 18) hx hb dL_law_1651 (by decide) ?_
      exact ih hLO hI hM hP hD hS (lv_sub hl [0, 1, 2, 3] rfl) ⟨by omega, by omega⟩ (by omega) (by omega) (by omega)
    refine lv_iload_n hx hb dL_law_18 rfl (lv_at hl 0 rfl) ?_
    refine lv_aload_n hx hb dL_law_19 rfl (lv_at hl 3 rfl) ?_
    refine va_slen hx hb hX hbl hbA hS dL_law_20 ?_
    obtain ⟨yl, hyl, hyi⟩ : ∃ z : Int32, Int32.ofNat Ls = z ∧ z.toInt = (Ls : Int) := ⟨_, rfl, g5_len hLs⟩
    refine g5_ti (v := yl) hyl ?_
    refine lv_bipush (v := 7) hx hb dL_law_21 (by decide) ?_
    refine lv_isub hx hb dL_law_23 ?_
    have t_2 : (yl - 7).toInt = yl.toInt - 7 := g5_isub (a := yl.toInt) (b := 7) (by rfl) (by decide) (by omega) (by omega)
    refine lv_icmp_gt (tgt := 1654) hx hb dL_law_24 (by decide) (fun c_3 => ?_) (fun c_3 => ?_)
    ·
      have i_3 : i.toInt > (yl.toInt - 7) := by have z := g5_gt (a := i.toInt) (b := (yl - 7).toInt) (by rfl) (by rfl) c_3; omega
      refine lv_iconst (v := 1) hx hb dL_law_1654 (by decide) ?_
      refine va_forget (fun q h => hS.2.2 q h) ?_
      refine W.widen (k := 600000) (n := 7302250) (by omega) (by omega) ?_
      exact lw_ret hx hb hr hlocks dL_law_1655
    ·
      have i_3 : i.toInt ≤ (yl.toInt - 7) := by have z := g5_gtN (a := i.toInt) (b := (yl - 7).toInt) (by rfl) (by rfl) c_3; omega
      refine lv_aload_n hx hb dL_law_27 rfl (lv_at hl 3 rfl) ?_
      refine lv_iload_n hx hb dL_law_28 rfl (lv_at hl 0 rfl) ?_
      refine va_sld hx hb hX hbl hbA hS (vp_in_iff.mpr ⟨by omega, by omega⟩) dL_law_29 ?_
      obtain ⟨q4, hq4⟩ : ∃ y : Int32, xs i.toNatClampNeg = y := ⟨_, rfl⟩
      refine g5_ti (v := q4) hq4 ?_
      refine lv_bipush (v := 63) hx hb dL_law_30 (by decide) ?_
      have ha6 := g5_a63 q4
      refine lv_iand hx hb dL_law_32 ?_
      rcases (show (q4 &&& 63).toInt = 0 ∨ (q4 &&& 63).toInt = 1 ∨ (q4 &&& 63).toInt = 2 ∨ (q4 &&& 63).toInt = 3 ∨ (q4 &&& 63).toInt = 4 ∨ (q4 &&& 63).toInt = 5 ∨ (q4 &&& 63).toInt = 6 ∨ (q4 &&& 63).toInt = 7 ∨ (q4 &&& 63).toInt = 8 ∨ (q4 &&& 63).toInt = 9 ∨ (q4 &&& 63).toInt = 10 ∨ (q4 &&& 63).toInt = 11 ∨ (q4 &&& 63).toInt = 12 ∨ (q4 &&& 63).toInt = 13 ∨ (q4 &&& 63).toInt = 14 ∨ (q4 &&& 63).toInt = 15 ∨ (q4 &&& 63).toInt = 16 ∨ (q4 &&& 63).toInt = 17 ∨ (q4 &&& 63).toInt = 18 ∨ (q4 &&& 63).toInt = 19 ∨ (q4 &&& 63).toInt = 20 ∨ (q4 &&& 63).toInt = 21 ∨ (q4 &&& 63).toInt = 22 ∨ (q4 &&& 63).toInt = 23 ∨ (q4 &&& 63).toInt = 24 ∨ (q4 &&& 63).toInt = 25 ∨ (q4 &&& 63).toInt = 26 ∨ (q4 &&& 63).toInt = 27 ∨ (q4 &&& 63).toInt = 28 ∨ (q4 &&& 63).toInt = 29 ∨ (q4 &&& 63).toInt = 30 ∨ (q4 &&& 63).toInt = 31 ∨ (q4 &&& 63).toInt = 32 ∨ (q4 &&& 63).toInt = 33 ∨ (q4 &&& 63).toInt = 34 ∨ (q4 &&& 63).toInt = 35 ∨ (q4 &&& 63).toInt = 36 ∨ (q4 &&& 63).toInt = 37 ∨ (q4 &&& 63).toInt = 38 ∨ (q4 &&& 63).toInt = 39 ∨ (q4 &&& 63).toInt = 40 ∨ (q4 &&& 63).toInt = 41 ∨ (q4 &&& 63).toInt = 42 ∨ (q4 &&& 63).toInt = 43 ∨ (q4 &&& 63).toInt > 43 by omega) with s_5 | s_5 | s_5 | s_5 | s_5 | s_5 | s_5 | s_5 | s_5 | s_5 | s_5 | s_5 | s_5 | s_5 | s_5 | s_5 | s_5 | s_5 | s_5 | s_5 | s_5 | s_5 | s_5 | s_5 | s_5 | s_5 | s_5 | s_5 | s_5 | s_5 | s_5 | s_5 | s_5 | s_5 | s_5 | s_5 | s_5 | s_5 | s_5 | s_5 | s_5 | s_5 | s_5 | s_5 | s_5
      ·
        have i_5 : (q4 &&& 63).toInt = 0 := by omega
        refine lv_tableIn (tgt := 224) hx hb dL_law_33 (by omega) (by omega) (by rw [s_5]; rfl) (by decide) ?_
        exact lc_wall hC (fun _ h => h) hT hbA hS ⟨by omega, by omega⟩ hLO hI hM hP hD (lv_sub hl [0, 1, 2, 3] rfl) ⟨by omega, by omega⟩ hLs (kk (by omega))
      ·
        have i_5 : (q4 &&& 63).toInt = 1 := by omega
        refine lv_tableIn (tgt := 257) hx hb dL_law_33 (by omega) (by omega) (by rw [s_5]; rfl) (by decide) ?_
        exact lc_glass hC (fun _ h => h) hT hbA hS ⟨by omega, by omega⟩ hLO hI hM hP hD (lv_sub hl [0, 1, 2, 3] rfl) ⟨by omega, by omega⟩ hLs (kk (by omega))
      ·
        have i_5 : (q4 &&& 63).toInt = 2 := by omega
        refine lv_tableIn (tgt := 310) hx hb dL_law_33 (by omega) (by omega) (by rw [s_5]; rfl) (by decide) ?_
        exact lc_turn hC (fun _ h => h) hT hbA hS ⟨by omega, by omega⟩ hLO hI hM hP hD (lv_sub hl [0, 1, 2, 3] rfl) ⟨by omega, by omega⟩ hLs (kk (by omega))
      ·
        have i_5 : (q4 &&& 63).toInt = 3 := by omega
        refine lv_tableIn (tgt := 353) hx hb dL_law_33 (by omega) (by omega) (by rw [s_5]; rfl) (by decide) ?_
        exact lc_of hC (fun _ h => h) hT hbA hS ⟨by omega, by omega⟩ hLO hI hM hP hD (lv_sub hl [0, 1, 2, 3] rfl) ⟨by omega, by omega⟩ hLs (kk (by omega))
      ·
        have i_5 : (q4 &&& 63).toInt = 4 := by omega
        refine lv_tableIn (tgt := 386) hx hb dL_law_33 (by omega) (by omega) (by rw [s_5]; rfl) (by decide) ?_
        exact lc_body hC (fun _ h => h) hT hbA hS ⟨by omega, by omega⟩ hLO hI hM hP hD (lv_sub hl [0, 1, 2, 3] rfl) ⟨by omega, by omega⟩ hLs (kk (by omega))
      ·
        have i_5 : (q4 &&& 63).toInt = 5 := by omega
        refine lv_tableIn (tgt := 399) hx hb dL_law_33 (by omega) (by omega) (by rw [s_5]; rfl) (by decide) ?_
        exact lc_stay hC (fun _ h => h) hT hbA hS ⟨by omega, by omega⟩ hLO hI hM hP hD (lv_sub hl [0, 1, 2, 3] rfl) ⟨by omega, by omega⟩ hLs (kk (by omega))
      ·
        have i_5 : (q4 &&& 63).toInt = 6 := by omega
        refine lv_tableIn (tgt := 452) hx hb dL_law_33 (by omega) (by omega) (by rw [s_5]; rfl) (by decide) ?_
        exact lc_where hC (fun _ h => h) hT hbA hS ⟨by omega, by omega⟩ hLO hI hM hP hD (lv_sub hl [0, 1, 2, 3] rfl) ⟨by omega, by omega⟩ hLs (kk (by omega))
      ·
        have i_5 : (q4 &&& 63).toInt = 7 := by omega
        refine lv_tableIn (tgt := 485) hx hb dL_law_33 (by omega) (by omega) (by rw [s_5]; rfl) (by decide) ?_
        exact lc_least hC (fun _ h => h) hT hbA hS ⟨by omega, by omega⟩ hLO hI hM hP hD (lv_sub hl [0, 1, 2, 3] rfl) ⟨by omega, by omega⟩ hLs (kk (by omega))
      ·
        have i_5 : (q4 &&& 63).toInt = 8 := by omega
        refine lv_tableIn (tgt := 508) hx hb dL_law_33 (by omega) (by omega) (by rw [s_5]; rfl) (by decide) ?_
        exact lc_feed hC (fun _ h => h) hT hbA hS ⟨by omega, by omega⟩ hLO hI hM hP hD (lv_sub hl [0, 1, 2, 3] rfl) ⟨by omega, by omega⟩ hLs (kk (by omega))
      ·
        have i_5 : (q4 &&& 63).toInt = 9 := by omega
        refine lv_tableIn (tgt := 571) hx hb dL_law_33 (by omega) (by omega) (by rw [s_5]; rfl) (by decide) ?_
        exact lc_end hC (fun _ h => h) hT hbA hS ⟨by omega, by omega⟩ hLO hI hM hP hD (lv_sub hl [0, 1, 2, 3] rfl) ⟨by omega, by omega⟩ hLs (kk (by omega))
      ·
        have i_5 : (q4 &&& 63).toInt = 10 := by omega
        refine lv_tableIn (tgt := 594) hx hb dL_law_33 (by omega) (by omega) (by rw [s_5]; rfl) (by decide) ?_
        exact lc_row hC (fun _ h => h) hT hbA hS ⟨by omega, by omega⟩ hLO hI hM hP hD (lv_sub hl [0, 1, 2, 3] rfl) ⟨by omega, by omega⟩ hLs (kk (by omega))
      ·
        have i_5 : (q4 &&& 63).toInt = 11 := by omega
        refine lv_tableIn (tgt := 607) hx hb dL_law_33 (by omega) (by omega) (by rw [s_5]; rfl) (by decide) ?_
        exact lc_faded hC (fun _ h => h) hT hbA hS ⟨by omega, by omega⟩ hLO hI hM hP hD (lv_sub hl [0, 1, 2, 3] rfl) ⟨by omega, by omega⟩ hLs (kk (by omega))
      ·
        have i_5 : (q4 &&& 63).toInt = 12 := by omega
        refine lv_tableIn (tgt := 620) hx hb dL_law_33 (by omega) (by omega) (by rw [s_5]; rfl) (by decide) ?_
        exact lc_law hC (fun _ h => h) hT hbA hS ⟨by omega, by omega⟩ hLO hI hM hP hD (lv_sub hl [0, 1, 2, 3] rfl) ⟨by omega, by omega⟩ hLs (kk (by omega))
      ·
        have i_5 : (q4 &&& 63).toInt = 13 := by omega
        refine lv_tableIn (tgt := 633) hx hb dL_law_33 (by omega) (by omega) (by rw [s_5]; rfl) (by decide) ?_
        exact lc_fault hC (fun _ h => h) hT hbA hS ⟨by omega, by omega⟩ hLO hI hM hP hD (lv_sub hl [0, 1, 2, 3] rfl) ⟨by omega, by omega⟩ hLs (kk (by omega))
      ·
        have i_5 : (q4 &&& 63).toInt = 14 := by omega
        refine lv_tableIn (tgt := 646) hx hb dL_law_33 (by omega) (by omega) (by rw [s_5]; rfl) (by decide) ?_
        exact lc_force hC (fun _ h => h) hT hbA hS ⟨by omega, by omega⟩ hLO hI hM hP hD (lv_sub hl [0, 1, 2, 3] rfl) ⟨by omega, by omega⟩ hLs (kk (by omega))
      ·
        have i_5 : (q4 &&& 63).toInt = 15 := by omega
        refine lv_tableIn (tgt := 669) hx hb dL_law_33 (by omega) (by omega) (by rw [s_5]; rfl) (by decide) ?_
        exact lc_look hC (fun _ h => h) hT hbA hS ⟨by omega, by omega⟩ hLO hI hM hP hD (lv_sub hl [0, 1, 2, 3] rfl) ⟨by omega, by omega⟩ hLs (kk (by omega))
      ·
        have i_5 : (q4 &&& 63).toInt = 16 := by omega
        refine lv_tableIn (tgt := 722) hx hb dL_law_33 (by omega) (by omega) (by rw [s_5]; rfl) (by decide) ?_
        exact lc_point hC (fun _ h => h) hT hbA hS ⟨by omega, by omega⟩ hLO hI hM hP hD (lv_sub hl [0, 1, 2, 3] rfl) ⟨by omega, by omega⟩ hLs (kk (by omega))
      ·
        have i_5 : (q4 &&& 63).toInt = 17 := by omega
        refine lv_tableIn (tgt := 775) hx hb dL_law_33 (by omega) (by omega) (by rw [s_5]; rfl) (by decide) ?_
        exact lc_sees hC (fun _ h => h) hT hbA hS ⟨by omega, by omega⟩ hLO hI hM hP hD (lv_sub hl [0, 1, 2, 3] rfl) ⟨by omega, by omega⟩ hLs (kk (by omega))
      ·
        have i_5 : (q4 &&& 63).toInt = 18 := by omega
        refine lv_tableIn (tgt := 808) hx hb dL_law_33 (by omega) (by omega) (by rw [s_5]; rfl) (by decide) ?_
        exact lc_late hC (fun _ h => h) hT hbA hS ⟨by omega, by omega⟩ hLO hI hM hP hD (lv_sub hl [0, 1, 2, 3] rfl) ⟨by omega, by omega⟩ hLs (kk (by omega))
      ·
        have i_5 : (q4 &&& 63).toInt = 19 := by omega
        refine lv_tableIn (tgt := 851) hx hb dL_law_33 (by omega) (by omega) (by rw [s_5]; rfl) (by decide) ?_
        exact lc_first hC (fun _ h => h) hT hbA hS ⟨by omega, by omega⟩ hLO hI hM hP hD (lv_sub hl [0, 1, 2, 3] rfl) ⟨by omega, by omega⟩ hLs (kk (by omega))
      ·
        have i_5 : (q4 &&& 63).toInt = 20 := by omega
        refine lv_tableIn (tgt := 884) hx hb dL_law_33 (by omega) (by omega) (by rw [s_5]; rfl) (by decide) ?_
        exact lc_lit hC (fun _ h => h) hT hbA hS ⟨by omega, by omega⟩ hLO hI hM hP hD (lv_sub hl [0, 1, 2, 3] rfl) ⟨by omega, by omega⟩ hLs (kk (by omega))
      ·
        have i_5 : (q4 &&& 63).toInt = 21 := by omega
        refine lv_tableIn (tgt := 927) hx hb dL_law_33 (by omega) (by omega) (by rw [s_5]; rfl) (by decide) ?_
        exact lc_unseen hC (fun _ h => h) hT hbA hS ⟨by omega, by omega⟩ hLO hI hM hP hD (lv_sub hl [0, 1, 2, 3] rfl) ⟨by omega, by omega⟩ hLs (kk (by omega))
      ·
        have i_5 : (q4 &&& 63).toInt = 22 := by omega
        refine lv_tableIn (tgt := 950) hx hb dL_law_33 (by omega) (by omega) (by rw [s_5]; rfl) (by decide) ?_
        exact lc_sighting hC (fun _ h => h) hT hbA hS ⟨by omega, by omega⟩ hLO hI hM hP hD (lv_sub hl [0, 1, 2, 3] rfl) ⟨by omega, by omega⟩ hLs (kk (by omega))
      ·
        have i_5 : (q4 &&& 63).toInt = 23 := by omega
        refine lv_tableIn (tgt := 1003) hx hb dL_law_33 (by omega) (by omega) (by rw [s_5]; rfl) (by decide) ?_
        exact lc_drop hC (fun _ h => h) hT hbA hS ⟨by omega, by omega⟩ hLO hI hM hP hD (lv_sub hl [0, 1, 2, 3] rfl) ⟨by omega, by omega⟩ hLs (kk (by omega))
      ·
        have i_5 : (q4 &&& 63).toInt = 24 := by omega
        refine lv_tableIn (tgt := 1026) hx hb dL_law_33 (by omega) (by omega) (by rw [s_5]; rfl) (by decide) ?_
        exact lc_start hC (fun _ h => h) hT hbA hS ⟨by omega, by omega⟩ hLO hI hM hP hD (lv_sub hl [0, 1, 2, 3] rfl) ⟨by omega, by omega⟩ hLs (kk (by omega))
      ·
        have i_5 : (q4 &&& 63).toInt = 25 := by omega
        refine lv_tableIn (tgt := 1049) hx hb dL_law_33 (by omega) (by omega) (by rw [s_5]; rfl) (by decide) ?_
        exact lc_fits hC (fun _ h => h) hT hbA hS ⟨by omega, by omega⟩ hLO hI hM hP hD (lv_sub hl [0, 1, 2, 3] rfl) ⟨by omega, by omega⟩ hLs (kk (by omega))
      ·
        have i_5 : (q4 &&& 63).toInt = 26 := by omega
        refine lv_tableIn (tgt := 1062) hx hb dL_law_33 (by omega) (by omega) (by rw [s_5]; rfl) (by decide) ?_
        exact lc_could hC (fun _ h => h) hT hbA hS ⟨by omega, by omega⟩ hLO hI hM hP hD (lv_sub hl [0, 1, 2, 3] rfl) ⟨by omega, by omega⟩ hLs (kk (by omega))
      ·
        have i_5 : (q4 &&& 63).toInt = 27 := by omega
        refine lv_tableIn (tgt := 1095) hx hb dL_law_33 (by omega) (by omega) (by rw [s_5]; rfl) (by decide) ?_
        exact lc_path hC (fun _ h => h) hT hbA hS ⟨by omega, by omega⟩ hLO hI hM hP hD (lv_sub hl [0, 1, 2, 3] rfl) ⟨by omega, by omega⟩ hLs (kk (by omega))
      ·
        have i_5 : (q4 &&& 63).toInt = 28 := by omega
        refine lv_tableIn (tgt := 1118) hx hb dL_law_33 (by omega) (by omega) (by rw [s_5]; rfl) (by decide) ?_
        exact lc_core hC (fun _ h => h) hT hbA hS ⟨by omega, by omega⟩ hLO hI hM hP hD (lv_sub hl [0, 1, 2, 3] rfl) ⟨by omega, by omega⟩ hLs (kk (by omega))
      ·
        have i_5 : (q4 &&& 63).toInt = 29 := by omega
        refine lv_tableIn (tgt := 1131) hx hb dL_law_33 (by omega) (by omega) (by rw [s_5]; rfl) (by decide) ?_
        exact lc_tells hC (fun _ h => h) hT hbA hS ⟨by omega, by omega⟩ hLO hI hM hP hD (lv_sub hl [0, 1, 2, 3] rfl) ⟨by omega, by omega⟩ hLs (kk (by omega))
      ·
        have i_5 : (q4 &&& 63).toInt = 30 := by omega
        refine lv_tableIn (tgt := 1174) hx hb dL_law_33 (by omega) (by omega) (by rw [s_5]; rfl) (by decide) ?_
        exact lc_surely hC (fun _ h => h) hT hbA hS ⟨by omega, by omega⟩ hLO hI hM hP hD (lv_sub hl [0, 1, 2, 3] rfl) ⟨by omega, by omega⟩ hLs (kk (by omega))
      ·
        have i_5 : (q4 &&& 63).toInt = 31 := by omega
        refine lv_tableIn (tgt := 1197) hx hb dL_law_33 (by omega) (by omega) (by rw [s_5]; rfl) (by decide) ?_
        exact lc_spot hC (fun _ h => h) hT hbA hS ⟨by omega, by omega⟩ hLO hI hM hP hD (lv_sub hl [0, 1, 2, 3] rfl) ⟨by omega, by omega⟩ hLs (kk (by omega))
      ·
        have i_5 : (q4 &&& 63).toInt = 32 := by omega
        refine lv_tableIn (tgt := 1240) hx hb dL_law_33 (by omega) (by omega) (by rw [s_5]; rfl) (by decide) ?_
        exact lc_wish hC (fun _ h => h) hT hbA hS ⟨by omega, by omega⟩ hLO hI hM hP hD (lv_sub hl [0, 1, 2, 3] rfl) ⟨by omega, by omega⟩ hLs (kk (by omega))
      ·
        have i_5 : (q4 &&& 63).toInt = 33 := by omega
        refine lv_tableIn (tgt := 1315) hx hb dL_law_33 (by omega) (by omega) (by rw [s_5]; rfl) (by decide) ?_
        exact lc_lacks hC (fun _ h => h) hT hbA hS ⟨by omega, by omega⟩ hLO hI hM hP hD (lv_sub hl [0, 1, 2, 3] rfl) ⟨by omega, by omega⟩ hLs (kk (by omega))
      ·
        have i_5 : (q4 &&& 63).toInt = 34 := by omega
        refine lv_tableIn (tgt := 1338) hx hb dL_law_33 (by omega) (by omega) (by rw [s_5]; rfl) (by decide) ?_
        exact lc_hang hC (fun _ h => h) hT hbA hS ⟨by omega, by omega⟩ hLO hI hM hP hD (lv_sub hl [0, 1, 2, 3] rfl) ⟨by omega, by omega⟩ hLs (kk (by omega))
      ·
        have i_5 : (q4 &&& 63).toInt = 35 := by omega
        refine lv_tableIn (tgt := 1361) hx hb dL_law_33 (by omega) (by omega) (by rw [s_5]; rfl) (by decide) ?_
        exact lc_soonest hC (fun _ h => h) hT hbA hS ⟨by omega, by omega⟩ hLO hI hM hP hD (lv_sub hl [0, 1, 2, 3] rfl) ⟨by omega, by omega⟩ hLs (kk (by omega))
      ·
        have i_5 : (q4 &&& 63).toInt = 36 := by omega
        refine lv_tableIn (tgt := 1404) hx hb dL_law_33 (by omega) (by omega) (by rw [s_5]; rfl) (by decide) ?_
        exact lc_way hC (fun _ h => h) hT hbA hS ⟨by omega, by omega⟩ hLO hI hM hP hD (lv_sub hl [0, 1, 2, 3] rfl) ⟨by omega, by omega⟩ hLs (kk (by omega))
      ·
        have i_5 : (q4 &&& 63).toInt = 37 := by omega
        refine lv_tableIn (tgt := 1457) hx hb dL_law_33 (by omega) (by omega) (by rw [s_5]; rfl) (by decide) ?_
        exact lc_sooner hC (fun _ h => h) hT hbA hS ⟨by omega, by omega⟩ hLO hI hM hP hD (lv_sub hl [0, 1, 2, 3] rfl) ⟨by omega, by omega⟩ hLs (kk (by omega))
      ·
        have i_5 : (q4 &&& 63).toInt = 38 := by omega
        refine lv_tableIn (tgt := 1510) hx hb dL_law_33 (by omega) (by omega) (by rw [s_5]; rfl) (by decide) ?_
        exact lc_wander hC (fun _ h => h) hT hbA hS ⟨by omega, by omega⟩ hLO hI hM hP hD (lv_sub hl [0, 1, 2, 3] rfl) ⟨by omega, by omega⟩ hLs (kk (by omega))
      ·
        have i_5 : (q4 &&& 63).toInt = 39 := by omega
        refine lv_tableIn (tgt := 1543) hx hb dL_law_33 (by omega) (by omega) (by rw [s_5]; rfl) (by decide) ?_
        exact lc_drawn hC (fun _ h => h) hT hbA hS ⟨by omega, by omega⟩ hLO hI hM hP hD (lv_sub hl [0, 1, 2, 3] rfl) ⟨by omega, by omega⟩ hLs (kk (by omega))
      ·
        have i_5 : (q4 &&& 63).toInt = 40 := by omega
        refine lv_tableIn (tgt := 1566) hx hb dL_law_33 (by omega) (by omega) (by rw [s_5]; rfl) (by decide) ?_
        exact lc_image hC (fun _ h => h) hT hbA hS ⟨by omega, by omega⟩ hLO hI hM hP hD (lv_sub hl [0, 1, 2, 3] rfl) ⟨by omega, by omega⟩ hLs (kk (by omega))
      ·
        have i_5 : (q4 &&& 63).toInt = 41 := by omega
        refine lv_tableIn (tgt := 1589) hx hb dL_law_33 (by omega) (by omega) (by rw [s_5]; rfl) (by decide) ?_
        exact lc_back hC (fun _ h => h) hT hbA hS ⟨by omega, by omega⟩ hLO hI hM hP hD (lv_sub hl [0, 1, 2, 3] rfl) ⟨by omega, by omega⟩ hLs (kk (by omega))
      ·
        have i_5 : (q4 &&& 63).toInt = 42 := by omega
        refine lv_tableIn (tgt := 1612) hx hb dL_law_33 (by omega) (by omega) (by rw [s_5]; rfl) (by decide) ?_
        exact lc_count hC (fun _ h => h) hT hbA hS ⟨by omega, by omega⟩ hLO hI hM hP hD (lv_sub hl [0, 1, 2, 3] rfl) ⟨by omega, by omega⟩ hLs (kk (by omega))
      ·
        have i_5 : (q4 &&& 63).toInt = 43 := by omega
        refine lv_tableIn (tgt := 1635) hx hb dL_law_33 (by omega) (by omega) (by rw [s_5]; rfl) (by decide) ?_
        exact lc_status hC (fun _ h => h) hT hbA hS ⟨by omega, by omega⟩ hLO hI hM hP hD (lv_sub hl [0, 1, 2, 3] rfl) ⟨by omega, by omega⟩ hLs (kk (by omega))
      ·
        have i_5 : (q4 &&& 63).toInt > 43 := by omega
        refine lv_tableOut (tgt := 1648) hx hb dL_law_33 (by omega) (by decide) ?_
        refine W.widen (k := cells + 4) (n := slots + 429) (by omega) (by omega) ?_
        exact kk (by omega) f_ro f_im f_ke f_x e_tl e_fd f_wd e_wn Lw w mw H locs ls hLO hI hM hP hD hS (lv_sub hl [0, 1, 2, 3] rfl)
