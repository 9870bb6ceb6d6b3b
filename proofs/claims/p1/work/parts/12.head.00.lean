set_option maxHeartbeats 4000000 in
set_option maxRecDepth 100000 in
theorem law_head {p : Program} {l : Launch} {e : Env} {s : State} {m : MethodId} {below : List Frame} {meth : Method} {c : Code} {b : Nat} {xs : Nat → Int32} {G : g5_G} {L : Nat} (hL : L ≤ 7) (C0 : lw_At p s m meth c b L xs) (hK : va_K G.1 vwCl (T5 G) s) (hN : g5_N s) (hT : g5_S (fun q : Nat => s.heap.size ≤ q) s s.heap) {H : Heap} {locs : List Loc} {ls : Array Slot} {qx0 qx1 qx2 qx3 qx4 qx5 qx6 qx7 qx8 qx9 qx10 qx11 qx12 qx13 qx14 qx15 qx16 qx17 qx18 qx19 qx20 qx21 qx22 qx23 qx24 qx25 qx26 qx27 qx28 qx29 qx30 qx31 qx32 qx33 qx34 qx35 qx36 qx37 qx38 qx39 qx40 qx41 qx42 qx43 qx44 qx45 qx46 qx47 qx48 qx49 qx50 qx51 qx52 qx53 qx54 qx55 qx56 qx57 qx58 qx59 qx60 qx61 qx62 qx63 qx64 qx65 qx66 qx67 qx68 qx69 qx70 qx71 rm0 rm1 rm2 rm3 rm4 rm5 rm6 rm7 rm8 rm9 rm10 rm11 rm12 rm13 rm14 rm15 rm16 rm17 rm18 rm19 rm20 rm21 rm22 : Nat} (hP : va_P G.1 vwCl (cwA G qx0 qx1 qx2 qx3 qx4 qx5 qx6 qx7 qx8 qx9 qx10 qx11 qx12 qx13 qx14 qx15 qx16 qx17 qx18 qx19 qx20 qx21 qx22 qx23 qx24 qx25 qx26 qx27 qx28 qx29 qx30 qx31 qx32 qx33 qx34 qx35 qx36 qx37 qx38 qx39 qx40 qx41 qx42 qx43 qx44 qx45 qx46 qx47 qx48 qx49 qx50 qx51 qx52 qx53 qx54 qx55 qx56 qx57 qx58 qx59 qx60 qx61 qx62 qx63 qx64 qx65 qx66 qx67 qx68 qx69 qx70 qx71 rm0 rm1 rm2 rm3 rm4 rm5 rm6 rm7 rm8 rm9 rm10 rm11 rm12 rm13 rm14 rm15 rm16 rm17 rm18 rm19 rm20 rm21 rm22) H) (hD : va_D (fun q : Nat => s.heap.size ≤ q) (cwA G qx0 qx1 qx2 qx3 qx4 qx5 qx6 qx7 qx8 qx9 qx10 qx11 qx12 qx13 qx14 qx15 qx16 qx17 qx18 qx19 qx20 qx21 qx22 qx23 qx24 qx25 qx26 qx27 qx28 qx29 qx30 qx31 qx32 qx33 qx34 qx35 qx36 qx37 qx38 qx39 qx40 qx41 qx42 qx43 qx44 qx45 qx46 qx47 qx48 qx49 qx50 qx51 qx52 qx53 qx54 qx55 qx56 qx57 qx58 qx59 qx60 qx61 qx62 qx63 qx64 qx65 qx66 qx67 qx68 qx69 qx70 qx71 rm0 rm1 rm2 rm3 rm4 rm5 rm6 rm7 rm8 rm9 rm10 rm11 rm12 rm13 rm14 rm15 rm16 rm17 rm18 rm19 rm20 rm21 rm22)) (hS : va_S (fun q : Nat => s.heap.size ≤ q) s.heap H locs) (hl : lv_has ls 4 [(3, .int 0), (2, .ref rm0), (1, .ref qx0), (0, .ref b)]) : W p l e room_1 s m #[Value.ref b] below meth c H locs 95 136749 (lw_Z below #[Value.ref b] s) (F0 m 18 ls []) := by
  have hbA : ¬ (fun q : Nat => s.heap.size ≤ q) b := Nat.not_le.mpr C0.2.2.2.2.2.2.2.1
  rcases (show L = 0 ∨ L = 1 ∨ L = 2 ∨ L = 3 ∨ L = 4 ∨ L = 5 ∨ L = 6 ∨ L = 7 by omega) with rfl | rfl | rfl | rfl | rfl | rfl | rfl | rfl
  ·
    obtain ⟨hx, hb, hr, hml, hown, hts0, hX, hbl, hlocks, hgv⟩ := id C0
    refine lv_iload_n hx hb dL_law_18 rfl (lv_at hl 0 rfl) ?_
    refine lv_aload_n hx hb dL_law_19 rfl (lv_at hl 3 rfl) ?_
    refine va_slen hx hb hX hbl hbA hS dL_law_20 ?_
    refine g5_ti (v := 0) (by decide) ?_
    refine lv_bipush (v := 7) hx hb dL_law_21 (by decide) ?_
    refine lv_isub hx hb dL_law_23 ?_
    refine g5_ti (v := (-7)) (by decide) ?_
    refine lv_icmp_gt (tgt := 1657) hx hb dL_law_24 (by decide) (fun c_1 => ?_) (fun c_1 => ?_)
    ·
      refine lv_iconst (v := 1) hx hb dL_law_1657 (by decide) ?_
      refine va_forget (fun q h => hS.2.2 q h) ?_
      refine W.widen (k := 600000) (n := 7302250) (by decide) (by decide) ?_
      exact lw_ret hx hb hr hlocks dL_law_1658
    ·
      exact absurd c_1 (by decide)
  ·
    obtain ⟨hx, hb, hr, hml, hown, hts0, hX, hbl, hlocks, hgv⟩ := id C0
    refine lv_iload_n hx hb dL_law_18 rfl (lv_at hl 0 rfl) ?_
    refine lv_aload_n hx hb dL_law_19 rfl (lv_at hl 3 rfl) ?_
    refine va_slen hx hb hX hbl hbA hS dL_law_20 ?_
    refine g5_ti (v := 1) (by decide) ?_
    refine lv_bipush (v := 7) hx hb dL_law_21 (by decide) ?_
    refine lv_isub hx hb dL_law_23 ?_
    refine g5_ti (v := (-6)) (by decide) ?_
    refine lv_icmp_gt (tgt := 1657) hx hb dL_law_24 (by decide) (fun c_2 => ?_) (fun c_2 => ?_)
    ·
      refine lv_iconst (v := 1) hx hb dL_law_1657 (by decide) ?_
      refine va_forget (fun q h => hS.2.2 q h) ?_
      refine W.widen (k := 600000) (n := 7302250) (by decide) (by decide) ?_
      exact lw_ret hx hb hr hlocks dL_law_1658
    ·
      exact absurd c_2 (by decide)
  ·
    obtain ⟨hx, hb, hr, hml, hown, hts0, hX, hbl, hlocks, hgv⟩ := id C0
    refine lv_iload_n hx hb dL_law_18 rfl (lv_at hl 0 rfl) ?_
    refine lv_aload_n hx hb dL_law_19 rfl (lv_at hl 3 rfl) ?_
    refine va_slen hx hb hX hbl hbA hS dL_law_20 ?_
    refine g5_ti (v := 2) (by decide) ?_
    refine lv_bipush (v := 7) hx hb dL_law_21 (by decide) ?_
    refine lv_isub hx hb dL_law_23 ?_
    refine g5_ti (v := (-5)) (by decide) ?_
    refine lv_icmp_gt (tgt := 1657) hx hb dL_law_24 (by decide) (fun c_3 => ?_) (fun c_3 => ?_)
    ·
      refine lv_iconst (v := 1) hx hb dL_law_1657 (by decide) ?_
      refine va_forget (fun q h => hS.2.2 q h) ?_
      refine W.widen (k := 600000) (n := 7302250) (by decide) (by decide) ?_
      exact lw_ret hx hb hr hlocks dL_law_1658
    ·
      exact absurd c_3 (by decide)
  ·
    obtain ⟨hx, hb, hr, hml, hown, hts0, hX, hbl, hlocks, hgv⟩ := id C0
    refine lv_iload_n hx hb dL_law_18 rfl (lv_at hl 0 rfl) ?_
    refine lv_aload_n hx hb dL_law_19 rfl (lv_at hl 3 rfl) ?_
    refine va_slen hx hb hX hbl hbA hS dL_law_20 ?_
    refine g5_ti (v := 3) (by decide) ?_
    refine lv_bipush (v := 7) hx hb dL_law_21 (by decide) ?_
    refine lv_isub hx hb dL_law_23 ?_
    refine g5_ti (v := (-4)) (by decide) ?_
    refine lv_icmp_gt (tgt := 1657) hx hb dL_law_24 (by decide) (fun c_4 => ?_) (fun c_4 => ?_)
    ·
      refine lv_iconst (v := 1) hx hb dL_law_1657 (by decide) ?_
      refine va_forget (fun q h => hS.2.2 q h) ?_
      refine W.widen (k := 600000) (n := 7302250) (by decide) (by decide) ?_
      exact lw_ret hx hb hr hlocks dL_law_1658
    ·
      exact absurd c_4 (by decide)
  ·
    obtain ⟨hx, hb, hr, hml, hown, hts0, hX, hbl, hlocks, hgv⟩ := id C0
    refine lv_iload_n hx hb dL_law_18 rfl (lv_at hl 0 rfl) ?_
    refine lv_aload_n hx hb dL_law_19 rfl (lv_at hl 3 rfl) ?_
    refine va_slen hx hb hX hbl hbA hS dL_law_20 ?_
    refine g5_ti (v := 4) (by decide) ?_
    refine lv_bipush (v := 7) hx hb dL_law_21 (by decide) ?_
    refine lv_isub hx hb dL_law_23 ?_
    refine g5_ti (v := (-3)) (by decide) ?_
    refine lv_icmp_gt (tgt := 1657) hx hb dL_law_24 (by decide) (fun c_5 => ?_) (fun c_5 => ?_)
    ·
      refine lv_iconst (v := 1) hx hb dL_law_1657 (by decide) ?_
      refine va_forget (fun q h => hS.2.2 q h) ?_
      refine W.widen (k := 600000) (n := 7302250) (by decide) (by decide) ?_
      exact lw_ret hx hb hr hlocks dL_law_1658
    ·
      exact absurd c_5 (by decide)
  ·
    obtain ⟨hx, hb, hr, hml, hown, hts0, hX, hbl, hlocks, hgv⟩ := id C0
    refine lv_iload_n hx hb dL_law_18 rfl (lv_at hl 0 rfl) ?_
    refine lv_aload_n hx hb dL_law_19 rfl (lv_at hl 3 rfl) ?_
    refine va_slen hx hb hX hbl hbA hS dL_law_20 ?_
    refine g5_ti (v := 5) (by decide) ?_
    refine lv_bipush (v := 7) hx hb dL_law_21 (by decide) ?_
    refine lv_isub hx hb dL_law_23 ?_
    refine g5_ti (v := (-2)) (by decide) ?_
    refine lv_icmp_gt (tgt := 1657) hx hb dL_law_24 (by decide) (fun c_6 => ?_) (fun c_6 => ?_)
    ·
      refine lv_iconst (v := 1) hx hb dL_law_1657 (by decide) ?_
      refine va_forget (fun q h => hS.2.2 q h) ?_
      refine W.widen (k := 600000) (n := 7302250) (by decide) (by decide) ?_
      exact lw_ret hx hb hr hlocks dL_law_1658
    ·
      exact absurd c_6 (by decide)
  ·
    obtain ⟨hx, hb, hr, hml, hown, hts0, hX, hbl, hlocks, hgv⟩ := id C0
    refine lv_iload_n hx hb dL_law_18 rfl (lv_at hl 0 rfl) ?_
    refine lv_aload_n hx hb dL_law_19 rfl (lv_at hl 3 rfl) ?_
    refine va_slen hx hb hX hbl hbA hS dL_law_20 ?_
    refine g5_ti (v := 6) (by decide) ?_
    refine lv_bipush (v := 7) hx hb dL_law_21 (by decide) ?_
    refine lv_isub hx hb dL_law_23 ?_
    refine g5_ti (v := (-1)) (by decide) ?_
    refine lv_icmp_gt (tgt := 1657) hx hb dL_law_24 (by decide) (fun c_7 => ?_) (fun c_7 => ?_)
    ·
      refine lv_iconst (v := 1) hx hb dL_law_1657 (by decide) ?_
      refine va_forget (fun q h => hS.2.2 q h) ?_
      refine W.widen (k := 600000) (n := 7302250) (by decide) (by decide) ?_
      exact lw_ret hx hb hr hlocks dL_law_1658
    ·
      exact absurd c_7 (by decide)
  ·
    obtain ⟨hx, hb, hr, hml, hown, hts0, hX, hbl, hlocks, hgv⟩ := id C0
    have hC : lwC p s m meth c b xs G := ⟨C0, hK, hN⟩
    have ha6 := g5_a63 (xs 0)
    refine lv_iload_n hx hb dL_law_18 rfl (lv_at hl 0 rfl) ?_
    refine lv_aload_n hx hb dL_law_19 rfl (lv_at hl 3 rfl) ?_
    refine va_slen hx hb hX hbl hbA hS dL_law_20 ?_
    refine g5_ti (v := 7) (by decide) ?_
    refine lv_bipush (v := 7) hx hb dL_law_21 (by decide) ?_
    refine lv_isub hx hb dL_law_23 ?_
    refine g5_ti (v := 0) (by decide) ?_
    refine lv_icmp_gt (tgt := 1657) hx hb dL_law_24 (by decide) (fun c_8 => ?_) (fun c_8 => ?_)
    ·
      exact absurd c_8 (by decide)
    ·
      refine lv_aload_n hx hb dL_law_27 rfl (lv_at hl 3 rfl) ?_
      refine lv_iload_n hx hb dL_law_28 rfl (lv_at hl 0 rfl) ?_
      refine va_sld hx hb hX hbl hbA hS (by unfold vp_in; decide) dL_law_29 ?_
      refine g5_ti (v := (xs 0)) rfl ?_
      refine lv_bipush (v := 63) hx hb dL_law_30 (by decide) ?_
      refine lv_iand hx hb dL_law_32 ?_
      rcases (show ((xs 0) &&& 63).toInt = 0 ∨ ((xs 0) &&& 63).toInt = 1 ∨ ((xs 0) &&& 63).toInt = 2 ∨ ((xs 0) &&& 63).toInt = 3 ∨ ((xs 0) &&& 63).toInt = 4 ∨ ((xs 0) &&& 63).toInt = 5 ∨ ((xs 0) &&& 63).toInt = 6 ∨ ((xs 0) &&& 63).toInt = 7 ∨ ((xs 0) &&& 63).toInt = 8 ∨ ((xs 0) &&& 63).toInt = 9 ∨ ((xs 0) &&& 63).toInt = 10 ∨ ((xs 0) &&& 63).toInt = 11 ∨ ((xs 0) &&& 63).toInt = 12 ∨ ((xs 0) &&& 63).toInt = 13 ∨ ((xs 0) &&& 63).toInt = 14 ∨ ((xs 0) &&& 63).toInt = 15 ∨ ((xs 0) &&& 63).toInt = 16 ∨ ((xs 0) &&& 63).toInt = 17 ∨ ((xs 0) &&& 63).toInt = 18 ∨ ((xs 0) &&& 63).toInt = 19 ∨ ((xs 0) &&& 63).toInt = 20 ∨ ((xs 0) &&& 63).toInt = 21 ∨ ((xs 0) &&& 63).toInt = 22 ∨ ((xs 0) &&& 63).toInt = 23 ∨ ((xs 0) &&& 63).toInt = 24 ∨ ((xs 0) &&& 63).toInt = 25 ∨ ((xs 0) &&& 63).toInt = 26 ∨ ((xs 0) &&& 63).toInt = 27 ∨ ((xs 0) &&& 63).toInt = 28 ∨ ((xs 0) &&& 63).toInt = 29 ∨ ((xs 0) &&& 63).toInt = 30 ∨ ((xs 0) &&& 63).toInt = 31 ∨ ((xs 0) &&& 63).toInt = 32 ∨ ((xs 0) &&& 63).toInt = 33 ∨ ((xs 0) &&& 63).toInt = 34 ∨ ((xs 0) &&& 63).toInt = 35 ∨ ((xs 0) &&& 63).toInt = 36 ∨ ((xs 0) &&& 63).toInt = 37 ∨ ((xs 0) &&& 63).toInt = 38 ∨ ((xs 0) &&& 63).toInt = 39 ∨ ((xs 0) &&& 63).toInt = 40 ∨ ((xs 0) &&& 63).toInt = 41 ∨ ((xs 0) &&& 63).toInt = 42 ∨ ((xs 0) &&& 63).toInt = 43 ∨ ((xs 0) &&& 63).toInt > 43 by omega) with s_9 | s_9 | s_9 | s_9 | s_9 | s_9 | s_9 | s_9 | s_9 | s_9 | s_9 | s_9 | s_9 | s_9 | s_9 | s_9 | s_9 | s_9 | s_9 | s_9 | s_9 | s_9 | s_9 | s_9 | s_9 | s_9 | s_9 | s_9 | s_9 | s_9 | s_9 | s_9 | s_9 | s_9 | s_9 | s_9 | s_9 | s_9 | s_9 | s_9 | s_9 | s_9 | s_9 | s_9 | s_9
      ·
        have i_9 : ((xs 0) &&& 63).toInt = 0 := by omega
        refine lv_tableIn (tgt := 224) hx hb dL_law_33 (by omega) (by omega) (by rw [s_9]; rfl) (by decide) ?_
        exact lc_wall hC (fun _ h => h) hbA hT hP hD hS (lv_sub hl [0, 1, 2, 3] rfl) (fun ls H locs hl hS => law_end hC hl hS)
      ·
        have i_9 : ((xs 0) &&& 63).toInt = 1 := by omega
        refine lv_tableIn (tgt := 257) hx hb dL_law_33 (by omega) (by omega) (by rw [s_9]; rfl) (by decide) ?_
        exact lc_glass hC (fun _ h => h) hbA hT hP hD hS (lv_sub hl [0, 1, 2, 3] rfl) (fun ls H locs hl hS => law_end hC hl hS)
      ·
        have i_9 : ((xs 0) &&& 63).toInt = 2 := by omega
        refine lv_tableIn (tgt := 310) hx hb dL_law_33 (by omega) (by omega) (by rw [s_9]; rfl) (by decide) ?_
        exact lc_turn hC (fun _ h => h) hbA hT hP hD hS (lv_sub hl [0, 1, 2, 3] rfl) (fun ls H locs hl hS => law_end hC hl hS)
      ·
        have i_9 : ((xs 0) &&& 63).toInt = 3 := by omega
        refine lv_tableIn (tgt := 353) hx hb dL_law_33 (by omega) (by omega) (by rw [s_9]; rfl) (by decide) ?_
        exact lc_of hC (fun _ h => h) hbA hT hP hD hS (lv_sub hl [0, 1, 2, 3] rfl) (fun ls H locs hl hS => law_end hC hl hS)
      ·
        have i_9 : ((xs 0) &&& 63).toInt = 4 := by omega
        refine lv_tableIn (tgt := 386) hx hb dL_law_33 (by omega) (by omega) (by rw [s_9]; rfl) (by decide) ?_
        exact lc_body hC (fun _ h => h) hbA hT hP hD hS (lv_sub hl [0, 1, 2, 3] rfl) (fun ls H locs hl hS => law_end hC hl hS)
      ·
        have i_9 : ((xs 0) &&& 63).toInt = 5 := by omega
        refine lv_tableIn (tgt := 399) hx hb dL_law_33 (by omega) (by omega) (by rw [s_9]; rfl) (by decide) ?_
        exact lc_stay hC (fun _ h => h) hbA hT hP hD hS (lv_sub hl [0, 1, 2, 3] rfl) (fun ls H locs hl hS => law_end hC hl hS)
      ·
        have i_9 : ((xs 0) &&& 63).toInt = 6 := by omega
        refine lv_tableIn (tgt := 452) hx hb dL_law_33 (by omega) (by omega) (by rw [s_9]; rfl) (by decide) ?_
        exact lc_where hC (fun _ h => h) hbA hT hP hD hS (lv_sub hl [0, 1, 2, 3] rfl) (fun ls H locs hl hS => law_end hC hl hS)
      ·
        have i_9 : ((xs 0) &&& 63).toInt = 7 := by omega
        refine lv_tableIn (tgt := 485) hx hb dL_law_33 (by omega) (by omega) (by rw [s_9]; rfl) (by decide) ?_
        exact lc_least hC (fun _ h => h) hbA hT hP hD hS (lv_sub hl [0, 1, 2, 3] rfl) (fun ls H locs hl hS => law_end hC hl hS)
      ·
        have i_9 : ((xs 0) &&& 63).toInt = 8 := by omega
        refine lv_tableIn (tgt := 508) hx hb dL_law_33 (by omega) (by omega) (by rw [s_9]; rfl) (by decide) ?_
        exact lc_feed hC (fun _ h => h) hbA hT hP hD hS (lv_sub hl [0, 1, 2, 3] rfl) (fun ls H locs hl hS => law_end hC hl hS)
      ·
        have i_9 : ((xs 0) &&& 63).toInt = 9 := by omega
        refine lv_tableIn (tgt := 571) hx hb dL_law_33 (by omega) (by omega) (by rw [s_9]; rfl) (by decide) ?_
        exact lc_end hC (fun _ h => h) hbA hT hP hD hS (lv_sub hl [0, 1, 2, 3] rfl) (fun ls H locs hl hS => law_end hC hl hS)
      ·
        have i_9 : ((xs 0) &&& 63).toInt = 10 := by omega
        refine lv_tableIn (tgt := 594) hx hb dL_law_33 (by omega) (by omega) (by rw [s_9]; rfl) (by decide) ?_
        exact lc_row hC (fun _ h => h) hbA hT hP hD hS (lv_sub hl [0, 1, 2, 3] rfl) (fun ls H locs hl hS => law_end hC hl hS)
      ·
        have i_9 : ((xs 0) &&& 63).toInt = 11 := by omega
        refine lv_tableIn (tgt := 607) hx hb dL_law_33 (by omega) (by omega) (by rw [s_9]; rfl) (by decide) ?_
        exact lc_faded hC (fun _ h => h) hbA hT hP hD hS (lv_sub hl [0, 1, 2, 3] rfl) (fun ls H locs hl hS => law_end hC hl hS)
      ·
        have i_9 : ((xs 0) &&& 63).toInt = 12 := by omega
        refine lv_tableIn (tgt := 620) hx hb dL_law_33 (by omega) (by omega) (by rw [s_9]; rfl) (by decide) ?_
        exact lc_law hC (fun _ h => h) hbA hT hP hD hS (lv_sub hl [0, 1, 2, 3] rfl) (fun ls H locs hl hS => law_end hC hl hS)
      ·
        have i_9 : ((xs 0) &&& 63).toInt = 13 := by omega
        refine lv_tableIn (tgt := 633) hx hb dL_law_33 (by omega) (by omega) (by rw [s_9]; rfl) (by decide) ?_
        exact lc_fault hC (fun _ h => h) hbA hT hP hD hS (lv_sub hl [0, 1, 2, 3] rfl) (fun ls H locs hl hS => law_end hC hl hS)
      ·
        have i_9 : ((xs 0) &&& 63).toInt = 14 := by omega
        refine lv_tableIn (tgt := 646) hx hb dL_law_33 (by omega) (by omega) (by rw [s_9]; rfl) (by decide) ?_
        exact lc_force hC (fun _ h => h) hbA hT hP hD hS (lv_sub hl [0, 1, 2, 3] rfl) (fun ls H locs hl hS => law_end hC hl hS)
      ·
        have i_9 : ((xs 0) &&& 63).toInt = 15 := by omega
        refine lv_tableIn (tgt := 669) hx hb dL_law_33 (by omega) (by omega) (by rw [s_9]; rfl) (by decide) ?_
        exact lc_look hC (fun _ h => h) hbA hT hP hD hS (lv_sub hl [0, 1, 2, 3] rfl) (fun ls H locs hl hS => law_end hC hl hS)
      ·
        have i_9 : ((xs 0) &&& 63).toInt = 16 := by omega
        refine lv_tableIn (tgt := 722) hx hb dL_law_33 (by omega) (by omega) (by rw [s_9]; rfl) (by decide) ?_
        exact lc_point hC (fun _ h => h) hbA hT hP hD hS (lv_sub hl [0, 1, 2, 3] rfl) (fun ls H locs hl hS => law_end hC hl hS)
      ·
        have i_9 : ((xs 0) &&& 63).toInt = 17 := by omega
        refine lv_tableIn (tgt := 775) hx hb dL_law_33 (by omega) (by omega) (by rw [s_9]; rfl) (by decide) ?_
        exact lc_sees hC (fun _ h => h) hbA hT hP hD hS (lv_sub hl [0, 1, 2, 3] rfl) (fun ls H locs hl hS => law_end hC hl hS)
      ·
        have i_9 : ((xs 0) &&& 63).toInt = 18 := by omega
        refine lv_tableIn (tgt := 808) hx hb dL_law_33 (by omega) (by omega) (by rw [s_9]; rfl) (by decide) ?_
        exact lc_late hC (fun _ h => h) hbA hT hP hD hS (lv_sub hl [0, 1, 2, 3] rfl) (fun ls H locs hl hS => law_end hC hl hS)
      ·
        have i_9 : ((xs 0) &&& 63).toInt = 19 := by omega
        refine lv_tableIn (tgt := 851) hx hb dL_law_33 (by omega) (by omega) (by rw [s_9]; rfl) (by decide) ?_
        exact lc_first hC (fun _ h => h) hbA hT hP hD hS (lv_sub hl [0, 1, 2, 3] rfl) (fun ls H locs hl hS => law_end hC hl hS)
      ·
        have i_9 : ((xs 0) &&& 63).toInt = 20 := by omega
        refine lv_tableIn (tgt := 884) hx hb dL_law_33 (by omega) (by omega) (by rw [s_9]; rfl) (by decide) ?_
        exact lc_lit hC (fun _ h => h) hbA hT hP hD hS (lv_sub hl [0, 1, 2, 3] rfl) (fun ls H locs hl hS => law_end hC hl hS)
      ·
        have i_9 : ((xs 0) &&& 63).toInt = 21 := by omega
        refine lv_tableIn (tgt := 927) hx hb dL_law_33 (by omega) (by omega) (by rw [s_9]; rfl) (by decide) ?_
        exact lc_unseen hC (fun _ h => h) hbA hT hP hD hS (lv_sub hl [0, 1, 2, 3] rfl) (fun ls H locs hl hS => law_end hC hl hS)
      ·
        have i_9 : ((xs 0) &&& 63).toInt = 22 := by omega
        refine lv_tableIn (tgt := 950) hx hb dL_law_33 (by omega) (by omega) (by rw [s_9]; rfl) (by decide) ?_
        exact lc_sighting hC (fun _ h => h) hbA hT hP hD hS (lv_sub hl [0, 1, 2, 3] rfl) (fun ls H locs hl hS => law_end hC hl hS)
      ·
        have i_9 : ((xs 0) &&& 63).toInt = 23 := by omega
        refine lv_tableIn (tgt := 1003) hx hb dL_law_33 (by omega) (by omega) (by rw [s_9]; rfl) (by decide) ?_
        exact lc_drop hC (fun _ h => h) hbA hT hP hD hS (lv_sub hl [0, 1, 2, 3] rfl) (fun ls H locs hl hS => law_end hC hl hS)
      ·
        have i_9 : ((xs 0) &&& 63).toInt = 24 := by omega
        refine lv_tableIn (tgt := 1026) hx hb dL_law_33 (by omega) (by omega) (by rw [s_9]; rfl) (by decide) ?_
        exact lc_start hC (fun _ h => h) hbA hT hP hD hS (lv_sub hl [0, 1, 2, 3] rfl) (fun ls H locs hl hS => law_end hC hl hS)
      ·
        have i_9 : ((xs 0) &&& 63).toInt = 25 := by omega
        refine lv_tableIn (tgt := 1049) hx hb dL_law_33 (by omega) (by omega) (by rw [s_9]; rfl) (by decide) ?_
        exact lc_fits hC (fun _ h => h) hbA hT hP hD hS (lv_sub hl [0, 1, 2, 3] rfl) (fun ls H locs hl hS => law_end hC hl hS)
      ·
        have i_9 : ((xs 0) &&& 63).toInt = 26 := by omega
        refine lv_tableIn (tgt := 1063) hx hb dL_law_33 (by omega) (by omega) (by rw [s_9]; rfl) (by decide) ?_
        exact lc_could hC (fun _ h => h) hbA hT hP hD hS (lv_sub hl [0, 1, 2, 3] rfl) (fun ls H locs hl hS => law_end hC hl hS)
      ·
        have i_9 : ((xs 0) &&& 63).toInt = 27 := by omega
        refine lv_tableIn (tgt := 1097) hx hb dL_law_33 (by omega) (by omega) (by rw [s_9]; rfl) (by decide) ?_
        exact lc_path hC (fun _ h => h) hbA hT hP hD hS (lv_sub hl [0, 1, 2, 3] rfl) (fun ls H locs hl hS => law_end hC hl hS)
      ·
        have i_9 : ((xs 0) &&& 63).toInt = 28 := by omega
        refine lv_tableIn (tgt := 1120) hx hb dL_law_33 (by omega) (by omega) (by rw [s_9]; rfl) (by decide) ?_
        exact lc_core hC (fun _ h => h) hbA hT hP hD hS (lv_sub hl [0, 1, 2, 3] rfl) (fun ls H locs hl hS => law_end hC hl hS)
      ·
        have i_9 : ((xs 0) &&& 63).toInt = 29 := by omega
        refine lv_tableIn (tgt := 1133) hx hb dL_law_33 (by omega) (by omega) (by rw [s_9]; rfl) (by decide) ?_
        exact lc_tells hC (fun _ h => h) hbA hT hP hD hS (lv_sub hl [0, 1, 2, 3] rfl) (fun ls H locs hl hS => law_end hC hl hS)
      ·
        have i_9 : ((xs 0) &&& 63).toInt = 30 := by omega
        refine lv_tableIn (tgt := 1177) hx hb dL_law_33 (by omega) (by omega) (by rw [s_9]; rfl) (by decide) ?_
        exact lc_surely hC (fun _ h => h) hbA hT hP hD hS (lv_sub hl [0, 1, 2, 3] rfl) (fun ls H locs hl hS => law_end hC hl hS)
      ·
        have i_9 : ((xs 0) &&& 63).toInt = 31 := by omega
        refine lv_tableIn (tgt := 1200) hx hb dL_law_33 (by omega) (by omega) (by rw [s_9]; rfl) (by decide) ?_
        exact lc_spot hC (fun _ h => h) hbA hT hP hD hS (lv_sub hl [0, 1, 2, 3] rfl) (fun ls H locs hl hS => law_end hC hl hS)
      ·
        have i_9 : ((xs 0) &&& 63).toInt = 32 := by omega
        refine lv_tableIn (tgt := 1243) hx hb dL_law_33 (by omega) (by omega) (by rw [s_9]; rfl) (by decide) ?_
        exact lc_wish hC (fun _ h => h) hbA hT hP hD hS (lv_sub hl [0, 1, 2, 3] rfl) (fun ls H locs hl hS => law_end hC hl hS)
      ·
        have i_9 : ((xs 0) &&& 63).toInt = 33 := by omega
        refine lv_tableIn (tgt := 1318) hx hb dL_law_33 (by omega) (by omega) (by rw [s_9]; rfl) (by decide) ?_
        exact lc_lacks hC (fun _ h => h) hbA hT hP hD hS (lv_sub hl [0, 1, 2, 3] rfl) (fun ls H locs hl hS => law_end hC hl hS)
      ·
        have i_9 : ((xs 0) &&& 63).toInt = 34 := by omega
        refine lv_tableIn (tgt := 1341) hx hb dL_law_33 (by omega) (by omega) (by rw [s_9]; rfl) (by decide) ?_
        exact lc_hang hC (fun _ h => h) hbA hT hP hD hS (lv_sub hl [0, 1, 2, 3] rfl) (fun ls H locs hl hS => law_end hC hl hS)
      ·
        have i_9 : ((xs 0) &&& 63).toInt = 35 := by omega
        refine lv_tableIn (tgt := 1364) hx hb dL_law_33 (by omega) (by omega) (by rw [s_9]; rfl) (by decide) ?_
        exact lc_soonest hC (fun _ h => h) hbA hT hP hD hS (lv_sub hl [0, 1, 2, 3] rfl) (fun ls H locs hl hS => law_end hC hl hS)
      ·
        have i_9 : ((xs 0) &&& 63).toInt = 36 := by omega
        refine lv_tableIn (tgt := 1407) hx hb dL_law_33 (by omega) (by omega) (by rw [s_9]; rfl) (by decide) ?_
        exact lc_way hC (fun _ h => h) hbA hT hP hD hS (lv_sub hl [0, 1, 2, 3] rfl) (fun ls H locs hl hS => law_end hC hl hS)
      ·
        have i_9 : ((xs 0) &&& 63).toInt = 37 := by omega
        refine lv_tableIn (tgt := 1460) hx hb dL_law_33 (by omega) (by omega) (by rw [s_9]; rfl) (by decide) ?_
        exact lc_sooner hC (fun _ h => h) hbA hT hP hD hS (lv_sub hl [0, 1, 2, 3] rfl) (fun ls H locs hl hS => law_end hC hl hS)
      ·
        have i_9 : ((xs 0) &&& 63).toInt = 38 := by omega
        refine lv_tableIn (tgt := 1513) hx hb dL_law_33 (by omega) (by omega) (by rw [s_9]; rfl) (by decide) ?_
        exact lc_wander hC (fun _ h => h) hbA hT hP hD hS (lv_sub hl [0, 1, 2, 3] rfl) (fun ls H locs hl hS => law_end hC hl hS)
      ·
        have i_9 : ((xs 0) &&& 63).toInt = 39 := by omega
        refine lv_tableIn (tgt := 1546) hx hb dL_law_33 (by omega) (by omega) (by rw [s_9]; rfl) (by decide) ?_
        exact lc_drawn hC (fun _ h => h) hbA hT hP hD hS (lv_sub hl [0, 1, 2, 3] rfl) (fun ls H locs hl hS => law_end hC hl hS)
      ·
        have i_9 : ((xs 0) &&& 63).toInt = 40 := by omega
        refine lv_tableIn (tgt := 1569) hx hb dL_law_33 (by omega) (by omega) (by rw [s_9]; rfl) (by decide) ?_
        exact lc_image hC (fun _ h => h) hbA hT hP hD hS (lv_sub hl [0, 1, 2, 3] rfl) (fun ls H locs hl hS => law_end hC hl hS)
      ·
        have i_9 : ((xs 0) &&& 63).toInt = 41 := by omega
        refine lv_tableIn (tgt := 1592) hx hb dL_law_33 (by omega) (by omega) (by rw [s_9]; rfl) (by decide) ?_
        exact lc_back hC (fun _ h => h) hbA hT hP hD hS (lv_sub hl [0, 1, 2, 3] rfl) (fun ls H locs hl hS => law_end hC hl hS)
      ·
        have i_9 : ((xs 0) &&& 63).toInt = 42 := by omega
        refine lv_tableIn (tgt := 1615) hx hb dL_law_33 (by omega) (by omega) (by rw [s_9]; rfl) (by decide) ?_
        exact lc_count hC (fun _ h => h) hbA hT hP hD hS (lv_sub hl [0, 1, 2, 3] rfl) (fun ls H locs hl hS => law_end hC hl hS)
      ·
        have i_9 : ((xs 0) &&& 63).toInt = 43 := by omega
        refine lv_tableIn (tgt := 1638) hx hb dL_law_33 (by omega) (by omega) (by rw [s_9]; rfl) (by decide) ?_
        exact lc_status hC (fun _ h => h) hbA hT hP hD hS (lv_sub hl [0, 1, 2, 3] rfl) (fun ls H locs hl hS => law_end hC hl hS)
      ·
        have i_9 : ((xs 0) &&& 63).toInt > 43 := by omega
        refine lv_tableOut (tgt := 1651) hx hb dL_law_33 (by omega) (by decide) ?_
        exact law_end hC (lv_sub hl [0, 3] rfl) hS
