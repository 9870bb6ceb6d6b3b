/-! worlds in any order; laws in a pool -/
theorem va_P.perm {D : va_G} {cl : List vw_C} {ws ws' : va_W} {H : Heap} (h : va_P D cl ws H) (p : ws.Perm ws') : va_P D cl ws' H := by
  intro k q hk
  obtain ⟨i, hi⟩ := List.getElem?_of_mem (p.mem_iff.mpr (List.mem_of_getElem? hk))
  exact h i q hi
theorem va_D.nd {A : Nat → Prop} {ws : va_W} (h : va_D A ws) : (ws.map Prod.fst).Nodup := by
  rw [List.nodup_iff_pairwise_ne, List.pairwise_iff_getElem]
  intro i j hi hj hij e
  rw [List.length_map] at hi hj
  rw [List.getElem_map, List.getElem_map] at e
  have z := h.1 i j ws[i] ws[j] (List.getElem?_eq_getElem hi) (List.getElem?_eq_getElem hj) e
  omega
theorem va_D.ofNd {A : Nat → Prop} {ws : va_W} (h1 : (ws.map Prod.fst).Nodup) (h2 : ∀ q ∈ ws, A q.1) : va_D A ws := by
  refine ⟨fun i j p q hi hj e => ?_, fun k q hk => h2 q (List.mem_of_getElem? hk)⟩
  rw [List.nodup_iff_pairwise_ne, List.pairwise_iff_getElem] at h1
  obtain ⟨li, ei⟩ := List.getElem?_eq_some_iff.mp hi
  obtain ⟨lj, ej⟩ := List.getElem?_eq_some_iff.mp hj
  have li2 : i < (ws.map Prod.fst).length := by rw [List.length_map]; exact li
  have lj2 : j < (ws.map Prod.fst).length := by rw [List.length_map]; exact lj
  have e2 : (ws.map Prod.fst)[i] = (ws.map Prod.fst)[j] := by rw [List.getElem_map, List.getElem_map, ei, ej]; exact e
  rcases Nat.lt_trichotomy i j with z | z | z
  · exact absurd e2 (h1 i j li2 lj2 z)
  · exact z
  · exact absurd e2.symm (h1 j i lj2 li2 z)
theorem va_D.perm {A : Nat → Prop} {ws ws' : va_W} (h : va_D A ws) (p : ws.Perm ws') : va_D A ws' :=
  va_D.ofNd ((p.map Prod.fst).nodup h.nd) (fun q hq => by
    obtain ⟨i, hi⟩ := List.getElem?_of_mem (p.mem_iff.mpr hq)
    exact h.2 i q hi)
theorem va_P.fst {D : va_G} {cl : List vw_C} {a b : va_W} {H : Heap} (h : va_P D cl (a ++ b) H) : va_P D cl a H :=
  fun k q hk => h k q (by rw [List.getElem?_append_left (List.getElem?_eq_some_iff.mp hk).1]; exact hk)
theorem va_D.fst {A : Nat → Prop} {a b : va_W} (h : va_D A (a ++ b)) : va_D A a :=
  ⟨fun i j p q hi hj e => h.1 i j p q (by rw [List.getElem?_append_left (List.getElem?_eq_some_iff.mp hi).1]; exact hi) (by rw [List.getElem?_append_left (List.getElem?_eq_some_iff.mp hj).1]; exact hj) e, fun k q hk => h.2 k q (by rw [List.getElem?_append_left (List.getElem?_eq_some_iff.mp hk).1]; exact hk)⟩
/-- a law: its addresses, its numbers, its rows -/
abbrev LR : Type := (Nat × Nat × Nat × Nat) × (Int32 × Nat × Nat × Nat) × ((Nat → Int32) × (Nat → Int32) × (Nat → Int32))
def lcell (G : g5_G) (r : LR) : va_W := [(r.1.1, .inr (3, [.int r.2.1.1, .ref r.1.2.1, .ref r.1.2.2.1, .ref r.1.2.2.2])), (r.1.2.2.1, .inl (G.2 0, r.2.1.2.2.1, .inl r.2.2.2.1)), (r.1.2.2.2, .inl (G.2 0, r.2.1.2.2.2, .inl r.2.2.2.2)), (r.1.2.1, .inl (G.2 0, r.2.1.2.1, .inl r.2.2.1))]
def lok (r : LR) : Prop := (0 ≤ r.2.1.1.toInt ∧ r.2.1.1.toInt ≤ 12) ∧ r.2.1.2.2.2 ≤ 400 ∧ (∀ j : Nat, j < r.2.1.2.2.1 → 0 ≤ (r.2.2.2.1 j).toInt ∧ (r.2.2.2.1 j).toInt ≤ (r.2.1.2.2.2 : Int)) ∧ (∀ j : Nat, j < r.2.1.2.2.2 → (r.2.2.2.2 j >>> (12 &&& 31)).toInt = 1 → (r.2.2.2.2 j &&& 4095).toInt < 8) ∧ ((r.2.1.1.toInt : Int) ≤ (r.2.1.2.1 : Int) ∧ (r.2.1.1.toInt + 1 : Int) ≤ (r.2.1.2.2.1 : Int))
def pflat (G : g5_G) (L : List LR) : va_W := L.flatMap (lcell G)
def LOK (L : List LR) : Prop := ∀ r ∈ L, lok r
theorem pool_take {G : g5_G} {a pl : va_W} {pre post : List LR} {r : LR} : (a ++ (pl ++ pflat G (pre ++ r :: post))).Perm ((a ++ lcell G r) ++ (pl ++ (pflat G pre ++ pflat G post))) := by
  have e : pflat G (pre ++ r :: post) = pflat G pre ++ (lcell G r ++ pflat G post) := by
    unfold pflat; rw [List.flatMap_append, List.flatMap_cons]
  rw [e, List.append_assoc]
  refine List.Perm.append_left a ?_
  exact (List.Perm.append_left pl (List.perm_append_comm_assoc (pflat G pre) (lcell G r) (pflat G post))).trans (List.perm_append_comm_assoc pl (lcell G r) (pflat G pre ++ pflat G post))
theorem pool_put {G : g5_G} {a pl : va_W} {L : List LR} {r : LR} : ((a ++ lcell G r) ++ (pl ++ pflat G L)).Perm (a ++ (pl ++ pflat G (r :: L))) := by
  have e : pflat G (r :: L) = lcell G r ++ pflat G L := by
    unfold pflat; rw [List.flatMap_cons]
  rw [e, List.append_assoc]
  exact List.Perm.append_left a (List.perm_append_comm_assoc (lcell G r) pl (pflat G L))
/-- what a house's row of laws refers to -/
def LWS (L : List LR) (f : Nat → Option Nat) (lc fo : Int32) : Prop := (0 ≤ lc.toInt ∧ lc.toInt ≤ 6) ∧ (-1 ≤ fo.toInt ∧ fo.toInt < lc.toInt) ∧ (∀ j v : Nat, j < 6 → f j = some v → ∃ r ∈ L, r.1.1 = v) ∧ (∀ j : Nat, (j : Int) < lc.toInt → ∃ v : Nat, f j = some v)
theorem lws_for {L : List LR} {f : Nat → Option Nat} {lc fo : Int32} (h : LWS L f lc fo) (h0 : 0 ≤ fo.toInt) : ∃ r ∈ L, f fo.toNatClampNeg = some r.1.1 := by
  obtain ⟨a, b, c, d⟩ := h
  have z := g5_clamp fo
  obtain ⟨v, hv⟩ := d fo.toNatClampNeg (by omega)
  obtain ⟨r, hr, e⟩ := c fo.toNatClampNeg v (by omega) hv
  exact ⟨r, hr, by rw [e]; exact hv⟩
theorem lws_force {L : List LR} {f : Nat → Option Nat} {lc fo fo' : Int32} (h : LWS L f lc fo) (e : -1 ≤ fo'.toInt ∧ fo'.toInt < lc.toInt) : LWS L f lc fo' := ⟨h.1, e, h.2.2.1, h.2.2.2⟩
theorem lws_copy {L : List LR} {f g : Nat → Option Nat} {lc fo : Int32} (h : LWS L f lc fo) (e : ∀ j : Nat, j < 6 → g j = f j) : LWS L g lc fo := by
  obtain ⟨a, b, c, d⟩ := h
  exact ⟨a, b, fun j v hj hv => c j v hj (by rw [← e j hj]; exact hv), fun j hj => by rw [e j (by omega)]; exact d j hj⟩
theorem lws_up {L : List LR} {f : Nat → Option Nat} {lc fo : Int32} {r : LR} (h : LWS L f lc fo) : LWS (r :: L) f lc fo := by
  obtain ⟨a, b, c, d⟩ := h
  exact ⟨a, b, fun j v hj hv => by obtain ⟨q, hq, e⟩ := c j v hj hv; exact ⟨q, List.mem_cons_of_mem _ hq, e⟩, d⟩
theorem lws_new {L : List LR} {f : Nat → Option Nat} {lc lc' fo : Int32} {r : LR} (h : LWS L f lc fo) (e : 0 ≤ lc.toInt ∧ lc'.toInt = lc.toInt + 1 ∧ lc'.toInt ≤ 6) : LWS (r :: L) (va_up f lc.toNatClampNeg (some r.1.1)) lc' fo := by
  obtain ⟨a, b, c, d⟩ := lws_up (r := r) h
  have z := g5_clamp lc
  refine ⟨by omega, by omega, fun j v hj hv => ?_, fun j hj => ?_⟩
  · unfold va_up at hv
    by_cases q : j = lc.toNatClampNeg
    · rw [if_pos q] at hv
      exact ⟨r, List.mem_cons_self, by cases hv; rfl⟩
    · rw [if_neg q] at hv
      exact c j v hj hv
  · unfold va_up
    by_cases q : j = lc.toNatClampNeg
    · rw [if_pos q]; exact ⟨_, rfl⟩
    · rw [if_neg q]; exact d j (by omega)
theorem lws_0 {L : List LR} {f : Nat → Option Nat} {lc fo : Int32} (hl : lc.toInt = 0) (hf : fo.toInt = -1) (e : ∀ j : Nat, j < 6 → f j = none) : LWS L f lc fo :=
  ⟨by omega, by omega, fun j v hj hv => (by rw [e j hj] at hv; cases hv), fun j hj => absurd hj (by omega)⟩
/-- a law of the pool, seen by a call that has none of its cells -/
theorem pflat_at {G : g5_G} {L : List LR} {r : LR} (h : r ∈ L) : (r.1.1, (.inr (3, [.int r.2.1.1, .ref r.1.2.1, .ref r.1.2.2.1, .ref r.1.2.2.2]) : va_E)) ∈ pflat G L := by
  unfold pflat
  refine List.mem_flatMap.mpr ⟨r, h, ?_⟩
  unfold lcell
  exact List.mem_cons_self
theorem law_out {G : g5_G} {s : State} {A : Nat → Prop} {X wc pl : va_W} {L : List LR} {r : LR} {H : Heap} (hK : va_K G.1 vwCl (T5 G) s) (hP : va_P G.1 vwCl (X ++ (pl ++ pflat G L)) H) (hD : va_D A (X ++ (pl ++ pflat G L))) (isC : List Nat) (hC : isC.map (fun i => X[i]?) = wc.map some) (hr : r ∈ L) : ∃ cell : Cell, H[r.1.1]? = some cell ∧ cell.vm.isStatics = false ∧ s.vm.findClass "LateGlass$Law" = some cell.cls ∧ ¬ va_A wc H.size r.1.1 := by
  have hm := pflat_at (G := G) hr
  obtain ⟨k0, hk0⟩ := List.getElem?_of_mem (List.mem_append_right X (List.mem_append_right pl hm))
  obtain ⟨k1, hk1⟩ := List.getElem?_of_mem (List.mem_append_right pl hm)
  have hk2 : (X ++ (pl ++ pflat G L))[X.length + k1]? = some (r.1.1, (.inr (3, [.int r.2.1.1, .ref r.1.2.1, .ref r.1.2.2.1, .ref r.1.2.2.2]) : va_E)) := by
    rw [List.getElem?_append_right (by omega), show X.length + k1 - X.length = k1 by omega]; exact hk1
  obtain ⟨cell, h1, h2, h3⟩ := va_recv hK hP (show vwCl[3]? = some (RX3, TX3, 4) from rfl) hk2
  refine ⟨cell, h1, h2, h3, fun h => ?_⟩
  rcases h with ⟨k, e, h⟩ | h
  · obtain ⟨i, h5, h6⟩ := va_in_of isC hC h
    have hi : i < X.length := (List.getElem?_eq_some_iff.mp h6).1
    have h7 : (X ++ (pl ++ pflat G L))[i]? = some (r.1.1, e) := by rw [List.getElem?_append_left hi]; exact h6
    have z := hD.1 _ _ _ _ h7 hk2 rfl
    omega
  · have z := (Array.getElem?_eq_some_iff.mp h1).1
    omega
theorem g5_preVP {G : g5_G} {f : Nat → Option Nat} {s : State} {H : Heap} {locs : List Loc} {A : Nat → Prop} {wc X pl : va_W} {L : List LR} {lc fo : Int32} {b : Nat} {As : List Value} {C : String} {T : u_T} {N ci q0 : Nat} {fs : List Value} (hP : va_P G.1 vwCl wc H) (hK : va_K G.1 vwCl (T5 G) s) (hD : va_D A wc) (hN : g5_N s) (hT : g5_S A s s.heap) (hS : va_S A s.heap H locs) (hF : ∀ q, va_A wc H.size q → A q) (hPX : va_P G.1 vwCl (X ++ (pl ++ pflat G L)) H) (hDX : va_D A (X ++ (pl ++ pflat G L))) (isC : List Nat) (hC : isC.map (fun i => X[i]?) = wc.map some) (hL : LWS L f lc fo) (he : wc[q0]? = some (b, .inr (ci, fs))) (hc : vwCl[ci]? = some (C, T, N)) : PreV s H C b (va_Pc (.ref b :: As) (g5_PL G f wc H.size)) As :=
  ⟨g5_blindL, va_recv hK hP hc he, fun U hU hW => ⟨rfl, ((g5_preV (As := As) hP hK hD hN hT hS hF he hc).2.2 U hU hW).2, fun j v hj e => by
    obtain ⟨r, hr, ev⟩ := hL.2.2.1 j v hj e
    obtain ⟨cell, h1, h2, h3, h4⟩ := law_out hK hPX hDX isC hC hr
    rw [ev] at h1 h4
    rw [hU]
    exact ⟨cell, h1, h2, by rw [hW.alike.findClass]; exact h3, h4⟩⟩⟩
/-! rows copied -/
theorem cpy_at {α : Type} {f g : Nat → α} {n j : Nat} (h : j < n) : va_cpy f g 0 0 n j = f j := by
  unfold va_cpy; rw [if_pos (by omega)]; congr 1; omega
theorem tget_cpy {f g : Nat → Int32} {N : Nat} {n w : Int} (hn : n * w ≤ (N : Int)) (hw : 0 ≤ w) (r c : Int) : tget (va_cpy f g 0 0 N) n w r c = tget f n w r c := by
  unfold tget
  by_cases q : 0 ≤ r ∧ r < n ∧ 0 ≤ c ∧ c < w
  · rw [if_pos q, if_pos q]
    refine cpy_at ?_
    have z : (r + 1) * w ≤ n * w := Int.mul_le_mul_of_nonneg_right (by omega) hw
    have y : (r + 1) * w = r * w + w := by rw [Int.add_mul, Int.one_mul]
    have x : 0 ≤ r * w := Int.mul_nonneg q.1 hw
    omega
  · rw [if_neg q, if_neg q]
theorem gOK_cpy {f g : Nat → Int32} {N : Nat} {n : Int} (h : gOK f n) (hn : n * 5 ≤ (N : Int)) : gOK (va_cpy f g 0 0 N) n := by
  intro r h0 h1
  have z := h r h0 h1
  rw [tget_cpy hn (by omega), tget_cpy hn (by omega), tget_cpy hn (by omega), tget_cpy hn (by omega)]
  exact z
theorem inT_cpy {x : Int64} {f g : Nat → Int32} {N : Nat} {n : Int} (h : inT x f n) (hn : n * 5 ≤ (N : Int)) : inT x (va_cpy f g 0 0 N) n := by
  intro c h0 h1 h2
  obtain ⟨r, a, b, e⟩ := h c h0 h1 h2
  exact ⟨r, a, b, by rw [tget_cpy hn (by omega)]; exact e⟩
theorem s01_cpy {f g : Nat → Int32} {N : Nat} {n : Int} (h : ∀ r : Int, 0 ≤ r → r < n → 0 ≤ (tget f n 4 r (3 : Int32).toInt).toInt ∧ (tget f n 4 r (3 : Int32).toInt).toInt ≤ 1) (hn : n * 4 ≤ (N : Int)) : ∀ r : Int, 0 ≤ r → r < n → 0 ≤ (tget (va_cpy f g 0 0 N) n 4 r (3 : Int32).toInt).toInt ∧ (tget (va_cpy f g 0 0 N) n 4 r (3 : Int32).toInt).toInt ≤ 1 := by
  intro r h0 h1
  rw [tget_cpy hn (by omega)]; exact h r h0 h1
theorem s5_cpy {f g : Nat → Int32} {N : Nat} {n : Int} (h : snS f n n.toNat ≤ 5) (hn : n * 4 ≤ (N : Int)) : snS (va_cpy f g 0 0 N) n n.toNat ≤ 5 := by
  rw [sg_sn (g := va_cpy f g 0 0 N) (f := f) (m := n) (n := n) n.toNat (fun j hj => tget_cpy hn (by omega) _ _)]; exact h

theorem g5_a63 (x : Int32) : 0 ≤ (x &&& 63).toInt ∧ (x &&& 63).toInt ≤ 63 := by
  have h2 : (x &&& 63).toBitVec.toNat = x.toBitVec.toNat % 2 ^ 6 := by
    rw [Int32.toBitVec_and, BitVec.toNat_and, show (63 : Int32).toBitVec.toNat = 2 ^ 6 - 1 from by decide, Nat.and_two_pow_sub_one_eq_mod]
  have h3 : (x &&& 63).toInt = ((x &&& 63).toBitVec.toNat : Int) := by
    show (x &&& 63).toBitVec.toInt = _
    rw [BitVec.toInt_eq_toNat_cond, if_pos]
    rw [h2]; omega
  rw [h3, h2]; omega
theorem g5_len {n : Nat} (h : n ≤ 3584) : (Int32.ofNat n).toInt = (n : Int) := by
  rw [Int32.toInt_ofNat']; exact g5_bm (by omega) (by omega)
theorem gOK_0 {f : Nat → Int32} {n : Int} (h : n = 0) : gOK f n := fun r h0 h1 => absurd h1 (by omega)
theorem s01_0 {f : Nat → Int32} {n : Int} (h : n = 0) : ∀ r : Int, 0 ≤ r → r < n → 0 ≤ (tget f n 4 r (3 : Int32).toInt).toInt ∧ (tget f n 4 r (3 : Int32).toInt).toInt ≤ 1 := fun r h0 h1 => absurd h1 (by omega)
theorem s5_0 {f : Nat → Int32} {n : Int} (h : n = 0) : snS f n n.toNat ≤ 5 := by
  subst h; exact (by decide : (0 : Int) ≤ 5)
theorem toki_0 {nm : Nat → Int32} : TOKI (fun _ => 0) nm := fun j h => absurd (show (0 : Int32) = 300 from h) (by decide)
theorem mi_start : MI (upd (upd (upd (fun _ => 0) 3 (-1)) 4 1000) 6 (-1)) := by
  have z0 : (0 : Int32).toInt = 0 := by decide
  have z1 : (-1 : Int32).toInt = -1 := by decide
  have u : ∀ j : Nat, j ≠ 3 → j ≠ 4 → j ≠ 6 → upd (upd (upd (fun _ => (0 : Int32)) 3 (-1)) 4 1000) 6 (-1) j = 0 := fun j h3 h4 h6 => by rw [upd_ne h6, upd_ne h4, upd_ne h3]
  have u3 : upd (upd (upd (fun _ => (0 : Int32)) 3 (-1)) 4 1000) 6 (-1) 3 = -1 := by rw [upd_ne (by omega), upd_ne (by omega), upd_eq]
  have u6 : upd (upd (upd (fun _ => (0 : Int32)) 3 (-1)) 4 1000) 6 (-1) 6 = -1 := upd_eq
  refine ⟨fun j => ?_, ?_, ?_, fun l hl => ?_⟩
  · by_cases q4 : j = 4
    · subst q4
      unfold rOK
      refine ⟨?_, ?_, ?_, ?_, ?_, ?_, ?_, ?_, ?_, ?_, ?_, ?_, ?_, ?_, ?_, ?_, ?_, ?_, ?_, ?_, ?_, ?_, ?_⟩ <;> (intros; omega)
    · by_cases q3 : j = 3
      · subst q3
        rw [u3, z1]
        unfold rOK
        refine ⟨?_, ?_, ?_, ?_, ?_, ?_, ?_, ?_, ?_, ?_, ?_, ?_, ?_, ?_, ?_, ?_, ?_, ?_, ?_, ?_, ?_, ?_, ?_⟩ <;> (intros; omega)
      · by_cases q6 : j = 6
        · subst q6
          rw [u6, z1]
          unfold rOK
          refine ⟨?_, ?_, ?_, ?_, ?_, ?_, ?_, ?_, ?_, ?_, ?_, ?_, ?_, ?_, ?_, ?_, ?_, ?_, ?_, ?_, ?_, ?_, ?_⟩ <;> (intros; omega)
        · rw [u j q3 q4 q6, z0]
          unfold rOK
          refine ⟨?_, ?_, ?_, ?_, ?_, ?_, ?_, ?_, ?_, ?_, ?_, ?_, ?_, ?_, ?_, ?_, ?_, ?_, ?_, ?_, ?_, ?_, ?_⟩ <;> (intros; omega)
  · unfold mSN
    rw [u 5 (by omega) (by omega) (by omega)]
    exact (by decide : (0 : Int) ≤ 5)
  · rw [u3, u 2 (by omega) (by omega) (by omega)]; decide
  · rw [u 2 (by omega) (by omega) (by omega), z0] at hl
    exact absurd hl (by omega)
set_option maxHeartbeats 4000000 in
set_option maxRecDepth 100000 in
theorem x_forceX (l : Launch) (G : g5_G) (a_o a_rf a_h a_im a_ke a_k a_wa a_th a_ha a_wk a_r a_x a_wd a_l a_g a_b a_s a_p a_w a_bb : Nat) (sz : Nat) (e_tl : Int32) (e_fd : Int32) (e_fpl : Int32) (e_wn : Int32) (e_lr : Int32) (e_le : Int32) (e_st : Int32) (e_fo : Int32) (e_lc : Int32) (p_l : Int32) (e_wa : Int64) (e_gb : Int64) (f_rf : Nat → Int32) (h_e_tl : 0 ≤ e_tl.toInt ∧ e_tl.toInt ≤ 400) (h_e_wn : 0 ≤ e_wn.toInt ∧ e_wn.toInt ≤ 1) (e_fk : -1 ≤ e_fo.toInt ∧ e_fo.toInt < e_lc.toInt) : Met l yX11_force (wsG yX11_force cX11_force 3 (some .int)) ({ frames := 1, cells := 0, slots := 0, locals := 22 }) (va_Pc [.ref a_o, .int p_l] (g5_P G [(a_o, (oc11 a_h a_im a_ke a_k a_wa a_th a_ha a_wk a_r a_x e_tl e_fd e_fpl a_wd e_wn a_rf e_lr)), (a_rf, (arI G 5 f_rf)), (a_h, (oc1 e_wa e_le e_st e_fo e_lc a_l a_g a_b a_s a_p a_w e_gb a_bb))] sz)) (va_Qi (fun (r : Int32) (u : va_W) => (∃ (o_r : Int32) (o_lr : Int32) (o_rf : Nat → Int32) (o_fo : Int32), (-1 ≤ o_fo.toInt ∧ o_fo.toInt < e_lc.toInt) ∧ (r = o_r) ∧ (u = [(a_o, (oc11 a_h a_im a_ke a_k a_wa a_th a_ha a_wk a_r a_x e_tl e_fd e_fpl a_wd e_wn a_rf o_lr)), (a_rf, (arI G 5 o_rf)), (a_h, (oc1 e_wa e_le e_st o_fo e_lc a_l a_g a_b a_s a_p a_w e_gb a_bb))]))) (g5_B G (va_A [(a_o, (oc11 a_h a_im a_ke a_k a_wa a_th a_ha a_wk a_r a_x e_tl e_fd e_fpl a_wd e_wn a_rf e_lr)), (a_rf, (arI G 5 f_rf)), (a_h, (oc1 e_wa e_le e_st e_fo e_lc a_l a_g a_b a_s a_p a_w e_gb a_bb))] sz)) (va_A [(a_o, (oc11 a_h a_im a_ke a_k a_wa a_th a_ha a_wk a_r a_x e_tl e_fd e_fpl a_wd e_wn a_rf e_lr)), (a_rf, (arI G 5 f_rf)), (a_h, (oc1 e_wa e_le e_st e_fo e_lc a_l a_g a_b a_s a_p a_w e_gb a_bb))] sz)) 0 0 (va_A [(a_o, (oc11 a_h a_im a_ke a_k a_wa a_th a_ha a_wk a_r a_x e_tl e_fd e_fpl a_wd e_wn a_rf e_lr)), (a_rf, (arI G 5 f_rf)), (a_h, (oc1 e_wa e_le e_st e_fo e_lc a_l a_g a_b a_s a_p a_w e_gb a_bb))] sz) := by
  refine Met.ofW (cc := cX11_force) (maxL := 3) (ret := (some .int)) (by decide) rfl ?_
  intro p e s m args below meth c s₁ B hml hv
  obtain ⟨rfl, hsz, hP, hK, hD0, hN, hT⟩ := hv
  have hx := B.exec
  have hb := B.bytes
  have hr := B.returns
  have hts : ∀ w ∈ tblG, w.before _ s = true := fun w h => atoms_spec (ws := (wsG yX11_force cX11_force 3 (some .int))) B.pre w (List.mem_cons_of_mem _ h)
  have hown : s.vm.findClass RX11 = some m.cls := findClass_of_methodNamed B.named
  have hlocks := B.notSynchronized
  subst hsz
  have hD := hD0.self (sz := s.heap.size)
  generalize hAe : va_A [(a_o, (oc11 a_h a_im a_ke a_k a_wa a_th a_ha a_wk a_r a_x e_tl e_fd e_fpl a_wd e_wn a_rf e_lr)), (a_rf, (arI G 5 f_rf)), (a_h, (oc1 e_wa e_le e_st e_fo e_lc a_l a_g a_b a_s a_p a_w e_gb a_bb))] s.heap.size = A at hD hT ⊢
  have hA : ∀ q : Nat, s.heap.size ≤ q → A q := fun q h => by rw [← hAe]; exact Or.inr h
  have hS : va_S A s.heap s.heap [] := va_S.rf
  have hP : va_P G.1 vwCl [(a_o, (oc11 a_h a_im a_ke a_k a_wa a_th a_ha a_wk a_r a_x e_tl e_fd e_fpl a_wd e_wn a_rf e_lr)), (a_rf, (arI G 5 f_rf)), (a_h, (oc1 e_wa e_le e_st e_fo e_lc a_l a_g a_b a_s a_p a_w e_gb a_bb))] s.heap := hP
  have hl := lv_entry ([.ref a_o, .int p_l]) (n := 3) (Nat.le_of_ble_eq_true rfl)
  rw [lg_entry_eq]
  generalize (lg_sl ([.ref a_o, .int p_l]) ++ List.replicate (3 - (lg_sl ([.ref a_o, .int p_l])).length) Slot.unset).toArray = ls at hl ⊢
  have hl : lv_has ls 3 [(0, .ref a_o), (1, .int p_l)] := hl
  refine lv_iload_n hx hb dX11_force_0 rfl (lv_at hl 1 rfl) ?_
  refine lv_iconst (v := (-1)) hx hb dX11_force_1 (by decide) ?_
  refine lv_icmp_lt (tgt := 16) hx hb dX11_force_2 (by decide) (fun c_1 => ?_) (fun c_1 => ?_)
  ·
    have i_1 : p_l.toInt < (-1) := by have z := g5_lt (a := p_l.toInt) (b := (-1)) (by rfl) (by decide) c_1; omega
    refine lv_aload_n hx hb dX11_force_16 rfl (lv_at hl 0 rfl) ?_
    refine lv_bipush (v := (-2)) hx hb dX11_force_17 (by decide) ?_
    obtain ⟨hPc, hDc, hFc⟩ := g5_sub3 (wc := [(a_o, (oc11 a_h a_im a_ke a_k a_wa a_th a_ha a_wk a_r a_x e_tl e_fd e_fpl a_wd e_wn a_rf e_lr)), (a_rf, (arI G 5 f_rf))]) hP hD hS hA [0, 1] (by decide) rfl
    refine va_calli (va_runV (As := [.int (-2)]) (rest := []) ⟨hx, hb, hml, hown, hts⟩ (x_refuse2 l G a_o a_rf a_h a_im a_ke a_k a_wa a_th a_ha a_wk a_r a_x a_wd s.heap.size e_tl e_fd e_fpl e_wn e_lr f_rf h_e_tl h_e_wn) (cwV 1 hts gV_X11_104 rfl rfl rfl hv_X11_refuse ⟨Nat.le_of_ble_eq_true rfl, Nat.le_of_ble_eq_true rfl⟩) (g5_preV hPc hK hDc hN hT hS hFc (ci := 11) (q0 := 0) rfl rfl) rfl rfl hl.1 rfl (lv_room (Nat.le_of_ble_eq_true rfl)) dX11_force_19 ⟨Nat.le_of_ble_eq_true rfl, Nat.le_of_ble_eq_true rfl⟩) hS (fun q _ h => hFc q h) hFc (fun r u t H1 locs ht hvm hw hB hz1 hk1 hS => ?_)
    obtain ⟨hP1, hD1⟩ := hB
    rw [ht] at hP1
    obtain ⟨z2, rfl, rfl⟩ := hw
    obtain ⟨hP, hD⟩ := va_join (wr := [(a_h, (oc1 e_wa e_le e_st e_fo e_lc a_l a_g a_b a_s a_p a_w e_gb a_bb))]) hP hD [0, 1] [2] rfl rfl (by decide) (by decide) hk1 hFc hP1 hD1
    generalize H1 = H at hP hS ⊢
    refine g5_rs [(a_h, (oc1 e_wa e_le e_st e_fo e_lc a_l a_g a_b a_s a_p a_w e_gb a_bb)), (a_o, (oc11 a_h a_im a_ke a_k a_wa a_th a_ha a_wk a_r a_x e_tl e_fd e_fpl a_wd e_wn a_rf (-2))), (a_rf, (arI G 5 z2))] hP hD (fun hP hD => ?_)
    exact W.iret (v := (-2)) hx hb hr (fun t ht hW => ⟨⟨(-2), [(a_o, (oc11 a_h a_im a_ke a_k a_wa a_th a_ha a_wk a_r a_x e_tl e_fd e_fpl a_wd e_wn a_rf (-2))), (a_rf, (arI G 5 z2)), (a_h, (oc1 e_wa e_le e_st e_fo e_lc a_l a_g a_b a_s a_p a_w e_gb a_bb))], rfl, ⟨(-2), (-2), z2, e_fo, e_fk, rfl, rfl⟩, by rw [ht]; exact hP.sub [1, 2, 0] rfl, hD.sub [1, 2, 0] (by decide) rfl⟩, hS.F ht⟩) hS.2.2 dX11_force_22
  ·
    have i_1 : p_l.toInt ≥ (-1) := by have z := g5_ltN (a := p_l.toInt) (b := (-1)) (by rfl) (by decide) c_1; omega
    refine lv_iload_n hx hb dX11_force_5 rfl (lv_at hl 1 rfl) ?_
    refine lv_aload_n hx hb dX11_force_6 rfl (lv_at hl 0 rfl) ?_
    refine va_get (D := G.1) (ci := 11) (v := .ref a_h) (C := RX11) (T := TX11) (N := 17) hx hb hts inG_X11 hown hK hP 0 rfl rfl 0 (by decide) (hts _ fl_X11_12) (fun _ h9 => h9) rfl dX11_force_7 ?_
    refine va_get (D := G.1) (ci := 1) (v := .int e_lc) (C := RX1) (T := TX1) (N := 13) hx hb hts inG_X1 hown hK hP 2 rfl rfl 4 (by decide) (hts _ fl_X11_192) (fun _ h9 => h9) rfl dX11_force_10 ?_
    refine lv_icmp_lt (tgt := 23) hx hb dX11_force_13 (by decide) (fun c_3 => ?_) (fun c_3 => ?_)
    ·
      have i_3 : p_l.toInt < e_lc.toInt := by have z := g5_lt (a := p_l.toInt) (b := e_lc.toInt) (by rfl) (by rfl) c_3; omega
      refine lv_aload_n hx hb dX11_force_23 rfl (lv_at hl 0 rfl) ?_
      refine va_get (D := G.1) (ci := 11) (v := .ref a_h) (C := RX11) (T := TX11) (N := 17) hx hb hts inG_X11 hown hK hP 0 rfl rfl 0 (by decide) (hts _ fl_X11_12) (fun _ h9 => h9) rfl dX11_force_24 ?_
      refine va_get (D := G.1) (ci := 1) (v := .int e_fo) (C := RX1) (T := TX1) (N := 13) hx hb hts inG_X1 hown hK hP 2 rfl rfl 3 (by decide) (hts _ fl_X11_204) (fun _ h9 => h9) rfl dX11_force_27 ?_
      refine lv_istore_n (lv' := [(2, .int e_fo), (0, .ref a_o), (1, .int p_l)]) hx hb dX11_force_30 rfl hl (by decide) rfl (fun ls hl => ?_)
      refine lv_aload_n hx hb dX11_force_31 rfl (lv_at hl 1 rfl) ?_
      refine va_get (D := G.1) (ci := 11) (v := .ref a_h) (C := RX11) (T := TX11) (N := 17) hx hb hts inG_X11 hown hK hP 0 rfl rfl 0 (by decide) (hts _ fl_X11_12) (fun _ h9 => h9) rfl dX11_force_32 ?_
      refine lv_iload_n hx hb dX11_force_35 rfl (lv_at hl 2 rfl) ?_
      refine va_put (D := G.1) (ci := 1) (v := .int p_l) (ty := .int) (C := RX1) (T := TX1) (N := 13) hx hb hts inG_X1 tyX1 tyX1_ok nmX1 hown hK hP hD hS 2 rfl rfl 3 (by decide) (hts _ fl_X11_204) (fun _ h9 => h9) rfl (by decide +kernel) rfl rfl (Nat.le_of_ble_eq_true rfl) dX11_force_36 (fun H locs hP hD hS => ?_)
      refine g5_rs [(a_o, (oc11 a_h a_im a_ke a_k a_wa a_th a_ha a_wk a_r a_x e_tl e_fd e_fpl a_wd e_wn a_rf e_lr)), (a_rf, (arI G 5 f_rf)), (a_h, (oc1 e_wa e_le e_st p_l e_lc a_l a_g a_b a_s a_p a_w e_gb a_bb))] hP hD (fun hP hD => ?_)
      refine lv_aload_n hx hb dX11_force_39 rfl (lv_at hl 1 rfl) ?_
      refine lv_iload_n hx hb dX11_force_40 rfl (lv_at hl 0 rfl) ?_
      obtain ⟨hPc, hDc, hFc⟩ := g5_sub3 (wc := [(a_o, (oc11 a_h a_im a_ke a_k a_wa a_th a_ha a_wk a_r a_x e_tl e_fd e_fpl a_wd e_wn a_rf e_lr))]) hP hD hS hA [0] (by decide) rfl
      refine va_calli (va_runV (As := [.int e_fo]) (rest := []) ⟨hx, hb, hml, hown, hts⟩ (x_done l G a_o a_h a_im a_ke a_k a_wa a_th a_ha a_wk a_r a_x a_wd a_rf H.size e_tl e_fd e_fpl e_wn e_lr e_fo h_e_tl h_e_wn) (cwV 1 hts gV_X11_121 rfl rfl rfl hv_X11_done ⟨Nat.le_of_ble_eq_true rfl, Nat.le_of_ble_eq_true rfl⟩) (g5_preV hPc hK hDc hN hT hS hFc (ci := 11) (q0 := 0) rfl rfl) rfl rfl hl.1 rfl (lv_room (Nat.le_of_ble_eq_true rfl)) dX11_force_41 ⟨Nat.le_of_ble_eq_true rfl, Nat.le_of_ble_eq_true rfl⟩) hS (fun q _ h => hFc q h) hFc (fun r u t H1 locs ht hvm hw hB hz1 hk1 hS => ?_)
      obtain ⟨hP1, hD1⟩ := hB
      rw [ht] at hP1
      obtain ⟨y4, rfl⟩ := hw
      obtain ⟨hP, hD⟩ := va_join (wr := [(a_rf, (arI G 5 f_rf)), (a_h, (oc1 e_wa e_le e_st p_l e_lc a_l a_g a_b a_s a_p a_w e_gb a_bb))]) hP hD [0] [1, 2] rfl rfl (by decide) (by decide) hk1 hFc hP1 hD1
      generalize H1 = H at hP hS ⊢
      refine g5_rs [(a_rf, (arI G 5 f_rf)), (a_h, (oc1 e_wa e_le e_st p_l e_lc a_l a_g a_b a_s a_p a_w e_gb a_bb)), (a_o, (oc11 a_h a_im a_ke a_k a_wa a_th a_ha a_wk a_r a_x e_tl e_fd e_fpl a_wd e_wn a_rf 0))] hP hD (fun hP hD => ?_)
      refine g5_ti (v := e_fo) y4 ?_
      exact W.iret (v := e_fo) hx hb hr (fun t ht hW => ⟨⟨e_fo, [(a_o, (oc11 a_h a_im a_ke a_k a_wa a_th a_ha a_wk a_r a_x e_tl e_fd e_fpl a_wd e_wn a_rf 0)), (a_rf, (arI G 5 f_rf)), (a_h, (oc1 e_wa e_le e_st p_l e_lc a_l a_g a_b a_s a_p a_w e_gb a_bb))], rfl, ⟨e_fo, 0, f_rf, p_l, ⟨by omega, by omega⟩, rfl, rfl⟩, by rw [ht]; exact hP.sub [2, 0, 1] rfl, hD.sub [2, 0, 1] (by decide) rfl⟩, hS.F ht⟩) hS.2.2 dX11_force_44
    ·
      have i_3 : p_l.toInt ≥ e_lc.toInt := by have z := g5_ltN (a := p_l.toInt) (b := e_lc.toInt) (by rfl) (by rfl) c_3; omega
      refine lv_aload_n hx hb dX11_force_16 rfl (lv_at hl 0 rfl) ?_
      refine lv_bipush (v := (-2)) hx hb dX11_force_17 (by decide) ?_
      obtain ⟨hPc, hDc, hFc⟩ := g5_sub3 (wc := [(a_o, (oc11 a_h a_im a_ke a_k a_wa a_th a_ha a_wk a_r a_x e_tl e_fd e_fpl a_wd e_wn a_rf e_lr)), (a_rf, (arI G 5 f_rf))]) hP hD hS hA [0, 1] (by decide) rfl
      refine va_calli (va_runV (As := [.int (-2)]) (rest := []) ⟨hx, hb, hml, hown, hts⟩ (x_refuse2 l G a_o a_rf a_h a_im a_ke a_k a_wa a_th a_ha a_wk a_r a_x a_wd s.heap.size e_tl e_fd e_fpl e_wn e_lr f_rf h_e_tl h_e_wn) (cwV 1 hts gV_X11_104 rfl rfl rfl hv_X11_refuse ⟨Nat.le_of_ble_eq_true rfl, Nat.le_of_ble_eq_true rfl⟩) (g5_preV hPc hK hDc hN hT hS hFc (ci := 11) (q0 := 0) rfl rfl) rfl rfl hl.1 rfl (lv_room (Nat.le_of_ble_eq_true rfl)) dX11_force_19 ⟨Nat.le_of_ble_eq_true rfl, Nat.le_of_ble_eq_true rfl⟩) hS (fun q _ h => hFc q h) hFc (fun r u t H1 locs ht hvm hw hB hz1 hk1 hS => ?_)
      obtain ⟨hP1, hD1⟩ := hB
      rw [ht] at hP1
      obtain ⟨z5, rfl, rfl⟩ := hw
      obtain ⟨hP, hD⟩ := va_join (wr := [(a_h, (oc1 e_wa e_le e_st e_fo e_lc a_l a_g a_b a_s a_p a_w e_gb a_bb))]) hP hD [0, 1] [2] rfl rfl (by decide) (by decide) hk1 hFc hP1 hD1
      generalize H1 = H at hP hS ⊢
      refine g5_rs [(a_h, (oc1 e_wa e_le e_st e_fo e_lc a_l a_g a_b a_s a_p a_w e_gb a_bb)), (a_o, (oc11 a_h a_im a_ke a_k a_wa a_th a_ha a_wk a_r a_x e_tl e_fd e_fpl a_wd e_wn a_rf (-2))), (a_rf, (arI G 5 z5))] hP hD (fun hP hD => ?_)
      exact W.iret (v := (-2)) hx hb hr (fun t ht hW => ⟨⟨(-2), [(a_o, (oc11 a_h a_im a_ke a_k a_wa a_th a_ha a_wk a_r a_x e_tl e_fd e_fpl a_wd e_wn a_rf (-2))), (a_rf, (arI G 5 z5)), (a_h, (oc1 e_wa e_le e_st e_fo e_lc a_l a_g a_b a_s a_p a_w e_gb a_bb))], rfl, ⟨(-2), (-2), z5, e_fo, e_fk, rfl, rfl⟩, by rw [ht]; exact hP.sub [1, 2, 0] rfl, hD.sub [1, 2, 0] (by decide) rfl⟩, hS.F ht⟩) hS.2.2 dX11_force_22
