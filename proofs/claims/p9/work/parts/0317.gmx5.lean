/-! what a call leaves as it was, piece by piece -/
theorem kQG_wall {f : Nat → Int32} {n0 : Int32} {t0 : Nat → Int32} {gb0 : Int64} {c i : Int32} (h0 : QG n0 t0 gb0 f) : QG n0 t0 gb0 (swall f c i) := hg_c h0 (fun j hj => kp_wall (by omega))
theorem kQB_wall {f : Nat → Int32} {n0 : Int32} {t0 : Nat → Int32} {bb0 : Nat → Int64} {c i : Int32} (h0 : QB n0 t0 bb0 f) : QB n0 t0 bb0 (swall f c i) := hb_c h0 (fun j hj => kp_wall (by omega))
theorem kQS_wall {f : Nat → Int32} {n0 : Int32} {t0 : Nat → Int32} {c i : Int32} (h0 : QS n0 t0 f) : QS n0 t0 (swall f c i) := hs_c h0 (fun j hj => kp_wall (by omega))
theorem kQP_wall {f : Nat → Int32} {n0 : Int32} {t0 : Nat → Int32} {c i : Int32} (h0 : QP n0 t0 f) : QP n0 t0 (swall f c i) := hp_c h0 (fun j hj => kp_wall (by omega))
theorem kQW_wall {f : Nat → Int32} {n0 : Int32} {t0 : Nat → Int32} {c i : Int32} (h0 : QW n0 t0 f) : QW n0 t0 (swall f c i) := hwi_c h0 (fun j hj => kp_wall (by omega))
theorem kQH_glass {f : Nat → Int32} {wa0 : Int64} {le0 st0 : Int32} {c s l d : Int32} (b0 : (f 0).toInt ≤ 6) (h0 : QH wa0 le0 st0 f) : QH wa0 le0 st0 (sglass f c s l d) := hh_c h0 (fun j hj => kp_glass b0 (by omega))
theorem kQB_glass {f : Nat → Int32} {n0 : Int32} {t0 : Nat → Int32} {bb0 : Nat → Int64} {c s l d : Int32} (b0 : (f 0).toInt ≤ 6) (h0 : QB n0 t0 bb0 f) : QB n0 t0 bb0 (sglass f c s l d) := hb_c h0 (fun j hj => kp_glass b0 (by omega))
theorem kQS_glass {f : Nat → Int32} {n0 : Int32} {t0 : Nat → Int32} {c s l d : Int32} (b0 : (f 0).toInt ≤ 6) (h0 : QS n0 t0 f) : QS n0 t0 (sglass f c s l d) := hs_c h0 (fun j hj => kp_glass b0 (by omega))
theorem kQP_glass {f : Nat → Int32} {n0 : Int32} {t0 : Nat → Int32} {c s l d : Int32} (b0 : (f 0).toInt ≤ 6) (h0 : QP n0 t0 f) : QP n0 t0 (sglass f c s l d) := hp_c h0 (fun j hj => kp_glass b0 (by omega))
theorem kQW_glass {f : Nat → Int32} {n0 : Int32} {t0 : Nat → Int32} {c s l d : Int32} (b0 : (f 0).toInt ≤ 6) (h0 : QW n0 t0 f) : QW n0 t0 (sglass f c s l d) := hwi_c h0 (fun j hj => kp_glass b0 (by omega))
theorem kQH_turn {f : Nat → Int32} {wa0 : Int64} {le0 st0 : Int32} {g w v : Int32} (b0 : (f 0).toInt ≤ 6) (h0 : QH wa0 le0 st0 f) : QH wa0 le0 st0 (sturn f g w v) := hh_c h0 (fun j hj => kp_turn b0 (by omega))
theorem kQB_turn {f : Nat → Int32} {n0 : Int32} {t0 : Nat → Int32} {bb0 : Nat → Int64} {g w v : Int32} (b0 : (f 0).toInt ≤ 6) (h0 : QB n0 t0 bb0 f) : QB n0 t0 bb0 (sturn f g w v) := hb_c h0 (fun j hj => kp_turn b0 (by omega))
theorem kQS_turn {f : Nat → Int32} {n0 : Int32} {t0 : Nat → Int32} {g w v : Int32} (b0 : (f 0).toInt ≤ 6) (h0 : QS n0 t0 f) : QS n0 t0 (sturn f g w v) := hs_c h0 (fun j hj => kp_turn b0 (by omega))
theorem kQP_turn {f : Nat → Int32} {n0 : Int32} {t0 : Nat → Int32} {g w v : Int32} (b0 : (f 0).toInt ≤ 6) (h0 : QP n0 t0 f) : QP n0 t0 (sturn f g w v) := hp_c h0 (fun j hj => kp_turn b0 (by omega))
theorem kQW_turn {f : Nat → Int32} {n0 : Int32} {t0 : Nat → Int32} {g w v : Int32} (b0 : (f 0).toInt ≤ 6) (h0 : QW n0 t0 f) : QW n0 t0 (sturn f g w v) := hwi_c h0 (fun j hj => kp_turn b0 (by omega))
theorem kQH_body {f : Nat → Int32} {wa0 : Int64} {le0 st0 : Int32}  (b0 : (f 1).toInt ≤ 5) (h0 : QH wa0 le0 st0 f) : QH wa0 le0 st0 (sbody f) := hh_c h0 (fun j hj => kp_body b0 (by omega))
theorem kQG_body {f : Nat → Int32} {n0 : Int32} {t0 : Nat → Int32} {gb0 : Int64}  (b0 : (f 1).toInt ≤ 5) (h0 : QG n0 t0 gb0 f) : QG n0 t0 gb0 (sbody f) := hg_c h0 (fun j hj => kp_body b0 (by omega))
theorem kQS_body {f : Nat → Int32} {n0 : Int32} {t0 : Nat → Int32}  (b0 : (f 1).toInt ≤ 5) (h0 : QS n0 t0 f) : QS n0 t0 (sbody f) := hs_c h0 (fun j hj => kp_body b0 (by omega))
theorem kQP_body {f : Nat → Int32} {n0 : Int32} {t0 : Nat → Int32}  (b0 : (f 1).toInt ≤ 5) (h0 : QP n0 t0 f) : QP n0 t0 (sbody f) := hp_c h0 (fun j hj => kp_body b0 (by omega))
theorem kQW_body {f : Nat → Int32} {n0 : Int32} {t0 : Nat → Int32}  (b0 : (f 1).toInt ≤ 5) (h0 : QW n0 t0 f) : QW n0 t0 (sbody f) := hwi_c h0 (fun j hj => kp_body b0 (by omega))
theorem kQH_stay {f : Nat → Int32} {wa0 : Int64} {le0 st0 : Int32} {b a e c : Int32} (b0 : (f 1).toInt ≤ 5) (h0 : QH wa0 le0 st0 f) : QH wa0 le0 st0 (sstay f b a e c) := hh_c h0 (fun j hj => kp_stay b0 (by omega))
theorem kQG_stay {f : Nat → Int32} {n0 : Int32} {t0 : Nat → Int32} {gb0 : Int64} {b a e c : Int32} (b0 : (f 1).toInt ≤ 5) (h0 : QG n0 t0 gb0 f) : QG n0 t0 gb0 (sstay f b a e c) := hg_c h0 (fun j hj => kp_stay b0 (by omega))
theorem kQS_stay {f : Nat → Int32} {n0 : Int32} {t0 : Nat → Int32} {b a e c : Int32} (b0 : (f 1).toInt ≤ 5) (h0 : QS n0 t0 f) : QS n0 t0 (sstay f b a e c) := hs_c h0 (fun j hj => kp_stay b0 (by omega))
theorem kQP_stay {f : Nat → Int32} {n0 : Int32} {t0 : Nat → Int32} {b a e c : Int32} (b0 : (f 1).toInt ≤ 5) (h0 : QP n0 t0 f) : QP n0 t0 (sstay f b a e c) := hp_c h0 (fun j hj => kp_stay b0 (by omega))
theorem kQW_stay {f : Nat → Int32} {n0 : Int32} {t0 : Nat → Int32} {b a e c : Int32} (b0 : (f 1).toInt ≤ 5) (h0 : QW n0 t0 f) : QW n0 t0 (sstay f b a e c) := hwi_c h0 (fun j hj => kp_stay b0 (by omega))
theorem kQG_least {f : Nat → Int32} {n0 : Int32} {t0 : Nat → Int32} {gb0 : Int64} {v : Int32} (h0 : QG n0 t0 gb0 f) : QG n0 t0 gb0 (sleast f v) := hg_c h0 (fun j hj => kp_least (by omega))
theorem kQB_least {f : Nat → Int32} {n0 : Int32} {t0 : Nat → Int32} {bb0 : Nat → Int64} {v : Int32} (h0 : QB n0 t0 bb0 f) : QB n0 t0 bb0 (sleast f v) := hb_c h0 (fun j hj => kp_least (by omega))
theorem kQS_least {f : Nat → Int32} {n0 : Int32} {t0 : Nat → Int32} {v : Int32} (h0 : QS n0 t0 f) : QS n0 t0 (sleast f v) := hs_c h0 (fun j hj => kp_least (by omega))
theorem kQP_least {f : Nat → Int32} {n0 : Int32} {t0 : Nat → Int32} {v : Int32} (h0 : QP n0 t0 f) : QP n0 t0 (sleast f v) := hp_c h0 (fun j hj => kp_least (by omega))
theorem kQW_least {f : Nat → Int32} {n0 : Int32} {t0 : Nat → Int32} {v : Int32} (h0 : QW n0 t0 f) : QW n0 t0 (sleast f v) := hwi_c h0 (fun j hj => kp_least (by omega))
theorem kQG_start {f : Nat → Int32} {n0 : Int32} {t0 : Nat → Int32} {gb0 : Int64} {c : Int32} (h0 : QG n0 t0 gb0 f) : QG n0 t0 gb0 (sstart f c) := hg_c h0 (fun j hj => kp_start (by omega))
theorem kQB_start {f : Nat → Int32} {n0 : Int32} {t0 : Nat → Int32} {bb0 : Nat → Int64} {c : Int32} (h0 : QB n0 t0 bb0 f) : QB n0 t0 bb0 (sstart f c) := hb_c h0 (fun j hj => kp_start (by omega))
theorem kQS_start {f : Nat → Int32} {n0 : Int32} {t0 : Nat → Int32} {c : Int32} (h0 : QS n0 t0 f) : QS n0 t0 (sstart f c) := hs_c h0 (fun j hj => kp_start (by omega))
theorem kQP_start {f : Nat → Int32} {n0 : Int32} {t0 : Nat → Int32} {c : Int32} (h0 : QP n0 t0 f) : QP n0 t0 (sstart f c) := hp_c h0 (fun j hj => kp_start (by omega))
theorem kQW_start {f : Nat → Int32} {n0 : Int32} {t0 : Nat → Int32} {c : Int32} (h0 : QW n0 t0 f) : QW n0 t0 (sstart f c) := hwi_c h0 (fun j hj => kp_start (by omega))
theorem kQH_sight {f : Nat → Int32} {wa0 : Int64} {le0 st0 : Int32} {c w h s : Int32} (b0 : (f 5).toInt ≤ 10) (h0 : QH wa0 le0 st0 f) : QH wa0 le0 st0 (ssight f c w h s) := hh_c h0 (fun j hj => kp_sight b0 (by omega))
theorem kQG_sight {f : Nat → Int32} {n0 : Int32} {t0 : Nat → Int32} {gb0 : Int64} {c w h s : Int32} (b0 : (f 5).toInt ≤ 10) (h0 : QG n0 t0 gb0 f) : QG n0 t0 gb0 (ssight f c w h s) := hg_c h0 (fun j hj => kp_sight b0 (by omega))
theorem kQB_sight {f : Nat → Int32} {n0 : Int32} {t0 : Nat → Int32} {bb0 : Nat → Int64} {c w h s : Int32} (b0 : (f 5).toInt ≤ 10) (h0 : QB n0 t0 bb0 f) : QB n0 t0 bb0 (ssight f c w h s) := hb_c h0 (fun j hj => kp_sight b0 (by omega))
theorem kQP_sight {f : Nat → Int32} {n0 : Int32} {t0 : Nat → Int32} {c w h s : Int32} (b0 : (f 5).toInt ≤ 10) (h0 : QP n0 t0 f) : QP n0 t0 (ssight f c w h s) := hp_c h0 (fun j hj => kp_sight b0 (by omega))
theorem kQW_sight {f : Nat → Int32} {n0 : Int32} {t0 : Nat → Int32} {c w h s : Int32} (b0 : (f 5).toInt ≤ 10) (h0 : QW n0 t0 f) : QW n0 t0 (ssight f c w h s) := hwi_c h0 (fun j hj => kp_sight b0 (by omega))
theorem kQH_drop {f : Nat → Int32} {wa0 : Int64} {le0 st0 : Int32} {i : Int32} (h0 : QH wa0 le0 st0 f) : QH wa0 le0 st0 (sdrop f i) := hh_c h0 (fun j hj => kp_drop (by omega))
theorem kQG_drop {f : Nat → Int32} {n0 : Int32} {t0 : Nat → Int32} {gb0 : Int64} {i : Int32} (h0 : QG n0 t0 gb0 f) : QG n0 t0 gb0 (sdrop f i) := hg_c h0 (fun j hj => kp_drop (by omega))
theorem kQB_drop {f : Nat → Int32} {n0 : Int32} {t0 : Nat → Int32} {bb0 : Nat → Int64} {i : Int32} (h0 : QB n0 t0 bb0 f) : QB n0 t0 bb0 (sdrop f i) := hb_c h0 (fun j hj => kp_drop (by omega))
theorem kQP_drop {f : Nat → Int32} {n0 : Int32} {t0 : Nat → Int32} {i : Int32} (h0 : QP n0 t0 f) : QP n0 t0 (sdrop f i) := hp_c h0 (fun j hj => kp_drop (by omega))
theorem kQW_drop {f : Nat → Int32} {n0 : Int32} {t0 : Nat → Int32} {i : Int32} (h0 : QW n0 t0 f) : QW n0 t0 (sdrop f i) := hwi_c h0 (fun j hj => kp_drop (by omega))
theorem kQH_spot {f : Nat → Int32} {wa0 : Int64} {le0 st0 : Int32} {c s l : Int32} (b0 : (f 7).toInt ≤ 8) (h0 : QH wa0 le0 st0 f) : QH wa0 le0 st0 (sspot f c s l) := hh_c h0 (fun j hj => kp_spot b0 (by omega))
theorem kQG_spot {f : Nat → Int32} {n0 : Int32} {t0 : Nat → Int32} {gb0 : Int64} {c s l : Int32} (b0 : (f 7).toInt ≤ 8) (h0 : QG n0 t0 gb0 f) : QG n0 t0 gb0 (sspot f c s l) := hg_c h0 (fun j hj => kp_spot b0 (by omega))
theorem kQB_spot {f : Nat → Int32} {n0 : Int32} {t0 : Nat → Int32} {bb0 : Nat → Int64} {c s l : Int32} (b0 : (f 7).toInt ≤ 8) (h0 : QB n0 t0 bb0 f) : QB n0 t0 bb0 (sspot f c s l) := hb_c h0 (fun j hj => kp_spot b0 (by omega))
theorem kQS_spot {f : Nat → Int32} {n0 : Int32} {t0 : Nat → Int32} {c s l : Int32} (b0 : (f 7).toInt ≤ 8) (h0 : QS n0 t0 f) : QS n0 t0 (sspot f c s l) := hs_c h0 (fun j hj => kp_spot b0 (by omega))
theorem kQW_spot {f : Nat → Int32} {n0 : Int32} {t0 : Nat → Int32} {c s l : Int32} (b0 : (f 7).toInt ≤ 8) (h0 : QW n0 t0 f) : QW n0 t0 (sspot f c s l) := hwi_c h0 (fun j hj => kp_spot b0 (by omega))
theorem kQH_wish {f : Nat → Int32} {wa0 : Int64} {le0 st0 : Int32} {c w h a t i : Int32} (b0 : (f 8).toInt ≤ 6) (h0 : QH wa0 le0 st0 f) : QH wa0 le0 st0 (swish f c w h a t i) := hh_c h0 (fun j hj => kp_wish b0 (by omega))
theorem kQG_wish {f : Nat → Int32} {n0 : Int32} {t0 : Nat → Int32} {gb0 : Int64} {c w h a t i : Int32} (b0 : (f 8).toInt ≤ 6) (h0 : QG n0 t0 gb0 f) : QG n0 t0 gb0 (swish f c w h a t i) := hg_c h0 (fun j hj => kp_wish b0 (by omega))
theorem kQB_wish {f : Nat → Int32} {n0 : Int32} {t0 : Nat → Int32} {bb0 : Nat → Int64} {c w h a t i : Int32} (b0 : (f 8).toInt ≤ 6) (h0 : QB n0 t0 bb0 f) : QB n0 t0 bb0 (swish f c w h a t i) := hb_c h0 (fun j hj => kp_wish b0 (by omega))
theorem kQS_wish {f : Nat → Int32} {n0 : Int32} {t0 : Nat → Int32} {c w h a t i : Int32} (b0 : (f 8).toInt ≤ 6) (h0 : QS n0 t0 f) : QS n0 t0 (swish f c w h a t i) := hs_c h0 (fun j hj => kp_wish b0 (by omega))
theorem kQP_wish {f : Nat → Int32} {n0 : Int32} {t0 : Nat → Int32} {c w h a t i : Int32} (b0 : (f 8).toInt ≤ 6) (h0 : QP n0 t0 f) : QP n0 t0 (swish f c w h a t i) := hp_c h0 (fun j hj => kp_wish b0 (by omega))
theorem kQH_row {f : Nat → Int32} {wa0 : Int64} {le0 st0 : Int32} {u : Nat → Int32} {td : Int32} (b0 : (f 1).toInt ≤ 5) (h0 : QH wa0 le0 st0 f) : QH wa0 le0 st0 (srow u td f) := hh_c h0 (fun j hj => kp_row b0 (by omega))
theorem kQG_row {f : Nat → Int32} {n0 : Int32} {t0 : Nat → Int32} {gb0 : Int64} {u : Nat → Int32} {td : Int32} (b0 : (f 1).toInt ≤ 5) (h0 : QG n0 t0 gb0 f) : QG n0 t0 gb0 (srow u td f) := hg_c h0 (fun j hj => kp_row b0 (by omega))
theorem kQS_row {f : Nat → Int32} {n0 : Int32} {t0 : Nat → Int32} {u : Nat → Int32} {td : Int32} (b0 : (f 1).toInt ≤ 5) (h0 : QS n0 t0 f) : QS n0 t0 (srow u td f) := hs_c h0 (fun j hj => kp_row b0 (by omega))
theorem kQP_row {f : Nat → Int32} {n0 : Int32} {t0 : Nat → Int32} {u : Nat → Int32} {td : Int32} (b0 : (f 1).toInt ≤ 5) (h0 : QP n0 t0 f) : QP n0 t0 (srow u td f) := hp_c h0 (fun j hj => kp_row b0 (by omega))
theorem kQW_row {f : Nat → Int32} {n0 : Int32} {t0 : Nat → Int32} {u : Nat → Int32} {td : Int32} (b0 : (f 1).toInt ≤ 5) (h0 : QW n0 t0 f) : QW n0 t0 (srow u td f) := hwi_c h0 (fun j hj => kp_row b0 (by omega))
theorem nw_least {f : Nat → Int32} {v : Int32} (b : bd3 f) (h0 : NW f) : NW (sleast f v) := nw_c b (fun j hj => kp_least (by omega)) h0
theorem nw_sight {f : Nat → Int32} {c w h s : Int32} (b : bd3 f) (b0 : (f 5).toInt ≤ 10) (h0 : NW f) : NW (ssight f c w h s) := nw_c b (fun j hj => kp_sight b0 (by omega)) h0
theorem nw_drop {f : Nat → Int32} {i : Int32} (b : bd3 f) (h0 : NW f) : NW (sdrop f i) := nw_c b (fun j hj => kp_drop (by omega)) h0
theorem nw_wish {f : Nat → Int32} {c w h a t i : Int32} (b : bd3 f) (b0 : (f 8).toInt ≤ 6) (h0 : NW f) : NW (swish f c w h a t i) := nw_c b (fun j hj => kp_wish b0 (by omega)) h0
theorem nw_turn {f : Nat → Int32} {g w v : Int32} (b : bd3 f) (h0 : NW f) : NW (sturn f g w v) := by
  refine nw_c b (fun j hj => ?_) h0
  by_cases q : okT w v ∧ isG f g
  · have q1 := q.1
    have q2 := q.2
    have q3 := b.1
    unfold okT at q1
    unfold isG at q2
    unfold sturn; rw [cif_t q]
    exact upd_ne (by omega)
  · unfold sturn; rw [cif_f q]
theorem hg_b {n : Int32} {t : Nat → Int32} {gb : Int64} {f : Nat → Int32} (h : QG n t gb f) : (f 0).toInt ≤ 6 := by rw [h.2.1]; exact h.1.2
theorem hb_b {n : Int32} {t : Nat → Int32} {bb : Nat → Int64} {f : Nat → Int32} (h : QB n t bb f) : (f 1).toInt ≤ 5 := by rw [h.2.1]; exact h.1.2
theorem hs_b {n : Int32} {t f : Nat → Int32} (h : QS n t f) : (f 5).toInt ≤ 10 := by rw [h.2.1]; exact h.1.2
theorem hp_b {n : Int32} {t f : Nat → Int32} (h : QP n t f) : (f 7).toInt ≤ 8 := by rw [h.2.1]; exact h.1.2
theorem hwi_b {n : Int32} {t f : Nat → Int32} (h : QW n t f) : (f 8).toInt ≤ 6 := by rw [h.2.1]; exact h.1.2
theorem hg_0 {n : Int32} {t : Nat → Int32} {gb : Int64} {f : Nat → Int32} (h : QG n t gb f) : 0 ≤ (f 0).toInt := by rw [h.2.1]; exact h.1.1
theorem hb_0 {n : Int32} {t : Nat → Int32} {bb : Nat → Int64} {f : Nat → Int32} (h : QB n t bb f) : 0 ≤ (f 1).toInt := by rw [h.2.1]; exact h.1.1
theorem hp_0 {n : Int32} {t f : Nat → Int32} (h : QP n t f) : 0 ≤ (f 7).toInt := by rw [h.2.1]; exact h.1.1
theorem hg_same {n : Int32} {t u : Nat → Int32} {gb : Int64} {f : Nat → Int32} (h : QG n t gb f) (e : ∀ r c : Int, tget u n.toInt 5 r c = tget t n.toInt 5 r c) : QG n u gb f := by
  obtain ⟨a, b, c, d, i⟩ := h
  refine ⟨a, b, fun r q x y => (c r q x y).trans (e _ _).symm, fun q x y z => ?_, fun r x y => ?_⟩
  · obtain ⟨r, s, t, v⟩ := d q x y z
    exact ⟨r, s, t, by rw [e]; exact v⟩
  · rw [e]; exact i r x y
theorem okM_0 : okM 0 := by unfold okM; decide
theorem okM_1 : okM 1 := by unfold okM; decide
theorem skep_0 {ke : Nat → Int32} : upd ke 0 1 = skep ke 0 := by
  rw [(img_0 (im := ke) (f := ke) okM_0).2.2, show (0 : Int32).toInt.toNat = 0 from by decide]
theorem skep_1 {ke : Nat → Int32} : upd ke 1 1 = skep ke 1 := by
  rw [(img_0 (im := ke) (f := ke) okM_1).2.2, show (1 : Int32).toInt.toNat = 1 from by decide]
theorem back_k0 {f im ke : Nat → Int32} (h : (ke 0).toInt = 0) : aback ke 0 = -2 ∧ sback f im ke 0 = f := back_2 okM_0 (by rw [show (0 : Int32).toInt.toNat = 0 from by decide]; exact h)
theorem back_k1 {f im ke : Nat → Int32} (h : (ke 1).toInt = 0) : aback ke 1 = -2 ∧ sback f im ke 1 = f := back_2 okM_1 (by rw [show (1 : Int32).toInt.toNat = 1 from by decide]; exact h)
