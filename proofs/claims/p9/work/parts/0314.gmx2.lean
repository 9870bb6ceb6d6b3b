/-! what each call makes of the row, and its answer -/
def okG (c s l d : Int32) : Prop := (0 ≤ c.toInt ∧ c.toInt ≤ 63) ∧ (0 ≤ s.toInt ∧ s.toInt ≤ 5) ∧ (0 ≤ l.toInt ∧ l.toInt ≤ 23) ∧ (0 ≤ d.toInt ∧ d.toInt ≤ 10)
noncomputable def sglass (f : Nat → Int32) (c s l d : Int32) : Nat → Int32 := cif (okG c s l d ∧ canR f c.toInt ∧ (f 0).toInt ≠ 6) (addRow f 0 80 5 (f 0).toInt.toNat (f 0 + 1) (v5 c s l d 0)) f
noncomputable def aglass (f : Nat → Int32) (c s l d : Int32) : Int32 := cif (okG c s l d) (cif (canR f c.toInt) (cif ((f 0).toInt ≠ 6) (f 0) (-5)) (-3)) (-1)
theorem glass_1 {f : Nat → Int32} {c s l d : Int32} (h : ¬ okG c s l d) : aglass f c s l d = -1 ∧ sglass f c s l d = f := ⟨cif_f h, cif_f (fun q => h q.1)⟩
theorem glass_3 {f : Nat → Int32} {c s l d : Int32} (h : okG c s l d) (h2 : ¬ canR f c.toInt) : aglass f c s l d = -3 ∧ sglass f c s l d = f := ⟨(cif_t h).trans (cif_f h2), cif_f (fun q => h2 q.2.1)⟩
theorem glass_5 {f : Nat → Int32} {c s l d : Int32} (h : okG c s l d) (h2 : canR f c.toInt) (h3 : (f 0).toInt = 6) : aglass f c s l d = -5 ∧ sglass f c s l d = f := ⟨(cif_t h).trans ((cif_t h2).trans (cif_f (fun q => q h3))), cif_f (fun q => q.2.2 h3)⟩
theorem glass_0 {f : Nat → Int32} {c s l d : Int32} (h : okG c s l d) (h2 : canR f c.toInt) (h3 : (f 0).toInt ≠ 6) : aglass f c s l d = f 0 ∧ sglass f c s l d = addRow f 0 80 5 (f 0).toInt.toNat (f 0 + 1) (v5 c s l d 0) := ⟨(cif_t h).trans ((cif_t h2).trans (cif_t h3)), cif_t ⟨h, h2, h3⟩⟩
theorem kp_glass {f : Nat → Int32} {c s l d : Int32} {j : Nat} (b : (f 0).toInt ≤ 6) (h : j ≠ 0 ∧ (j < 80 ∨ 110 ≤ j)) : sglass f c s l d j = f j := by
  by_cases q : okG c s l d ∧ canR f c.toInt ∧ (f 0).toInt ≠ 6
  · unfold sglass; rw [cif_t q, ar_ne h.1 (by omega)]
  · unfold sglass; rw [cif_f q]
theorem hg_glass {n N : Int32} {t : Nat → Int32} {gb : Int64} {f : Nat → Int32} {c s l d : Int32} (h : QG n t gb f) (hk : gOK t n.toInt) (hn : n.toInt < 6) (hN : N.toInt = n.toInt + 1) (ok : okG c s l d) (cn : canR f c.toInt) : QG N (tset (tset (tset (tset (tfil t n.toInt 5 0 5) N.toInt 5 n.toInt (0 : Int32).toInt c) N.toInt 5 n.toInt (1 : Int32).toInt s) N.toInt 5 n.toInt (2 : Int32).toInt l) N.toInt 5 n.toInt (3 : Int32).toInt d) (gb ||| ((1 : Int64) <<< (c.toInt64 &&& 63))) (sglass f c s l d) := by
  obtain ⟨hb, h2, h3, h4, h5⟩ := h
  have z0 : (0 : Int32).toInt = 0 := (by decide)
  have z1 : (1 : Int32).toInt = 1 := (by decide)
  have z2 : (2 : Int32).toInt = 2 := (by decide)
  have z3 : (3 : Int32).toInt = 3 := (by decide)
  have hN' : N = n + 1 := Int32.toInt_inj.mp (by rw [hN]; exact (g5_iadd rfl (by decide) (by omega) (by omega)).symm)
  rw [(glass_0 ok cn (by rw [h2]; omega)).2, h2]
  have old : ∀ r c' : Int, 0 ≤ r → r < n.toInt → 0 ≤ c' → c' < 5 → tget (tset (tset (tset (tset (tfil t n.toInt 5 0 5) N.toInt 5 n.toInt (0 : Int32).toInt c) N.toInt 5 n.toInt (1 : Int32).toInt s) N.toInt 5 n.toInt (2 : Int32).toInt l) N.toInt 5 n.toInt (3 : Int32).toInt d) N.toInt 5 r c' = tget t n.toInt 5 r c' := by
    intro r c' a b x y
    rw [z0, z1, z2, z3, tg_set5 (by omega), if_neg (by omega), tg_set5 (by omega), if_neg (by omega), tg_set5 (by omega), if_neg (by omega), tg_set5 (by omega), if_neg (by omega), hN, tg_fil5 hb.1 (by omega) (by omega), if_neg (by omega)]
  have new0 : tget (tset (tset (tset (tset (tfil t n.toInt 5 0 5) N.toInt 5 n.toInt (0 : Int32).toInt c) N.toInt 5 n.toInt (1 : Int32).toInt s) N.toInt 5 n.toInt (2 : Int32).toInt l) N.toInt 5 n.toInt (3 : Int32).toInt d) N.toInt 5 n.toInt 0 = c := by
    rw [z0, z1, z2, z3, tg_set5 (by omega), if_neg (by omega), tg_set5 (by omega), if_neg (by omega), tg_set5 (by omega), if_neg (by omega), tg_set5 (by omega), if_pos (by omega)]
  refine ⟨by omega, ?_, ?_, ?_, ?_⟩
  · rw [ar_ci, hN']
  · refine ht_add h3 hb.1 hN (by omega) (fun r c' a b => old r c' (by omega) a (by omega) (by omega)) (fun c' hc => ?_)
    rcases (show c' = 0 ∨ c' = 1 ∨ c' = 2 ∨ c' = 3 ∨ c' = 4 by omega) with rfl | rfl | rfl | rfl | rfl
    · exact new0
    · rw [z0, z1, z2, z3, tg_set5 (by omega), if_neg (by omega), tg_set5 (by omega), if_neg (by omega), tg_set5 (by omega), if_pos (by omega)]; rfl
    · rw [z0, z1, z2, z3, tg_set5 (by omega), if_neg (by omega), tg_set5 (by omega), if_pos (by omega)]; rfl
    · rw [z0, z1, z2, z3, tg_set5 (by omega), if_pos (by omega)]; rfl
    · rw [z0, z1, z2, z3, tg_set5 (by omega), if_neg (by omega), tg_set5 (by omega), if_neg (by omega), tg_set5 (by omega), if_neg (by omega), tg_set5 (by omega), if_neg (by omega), hN, tg_fil5 hb.1 (by omega) (by omega), if_pos (by omega)]; rfl
  · exact g_inTglass h4 hb.1 hN ok.1
  · intro r a b
    by_cases q : r = n.toInt
    · rw [q, new0, onB_bit ok.1 ok.1.1 ok.1.2, decide_eq_true rfl, Bool.or_true]
    · rw [old r 0 a (by omega) (by omega) (by omega)]
      exact onB_orT (h5 r a (by omega))
/-! a glass turned -/
def okT (w v : Int32) : Prop := (w.toInt = 0 ∧ 0 ≤ v.toInt ∧ v.toInt ≤ 5) ∨ (w.toInt = 1 ∧ 0 ≤ v.toInt ∧ v.toInt ≤ 23) ∨ (w.toInt = 2 ∧ 0 ≤ v.toInt ∧ v.toInt ≤ 10) ∨ (w.toInt = 3 ∧ 0 ≤ v.toInt ∧ v.toInt ≤ 16777215)
def isG (f : Nat → Int32) (g : Int32) : Prop := 0 ≤ g.toInt ∧ g.toInt < (f 0).toInt
noncomputable def sturn (f : Nat → Int32) (g w v : Int32) : Nat → Int32 := cif (okT w v ∧ isG f g) (upd f (81 + 5 * g.toInt.toNat + w.toInt.toNat) v) f
noncomputable def aturn (f : Nat → Int32) (g w v : Int32) : Int32 := cif (okT w v) (cif (isG f g) (f (81 + 5 * g.toInt.toNat + w.toInt.toNat)) (-2)) (-1)
theorem turn_1 {f : Nat → Int32} {g w v : Int32} (h : ¬ okT w v) : aturn f g w v = -1 ∧ sturn f g w v = f := ⟨cif_f h, cif_f (fun q => h q.1)⟩
theorem turn_2 {f : Nat → Int32} {g w v : Int32} (h : okT w v) (h2 : ¬ isG f g) : aturn f g w v = -2 ∧ sturn f g w v = f := ⟨(cif_t h).trans (cif_f h2), cif_f (fun q => h2 q.2)⟩
theorem turn_0 {f : Nat → Int32} {g w v : Int32} (h : okT w v) (h2 : isG f g) : aturn f g w v = f (81 + 5 * g.toInt.toNat + w.toInt.toNat) ∧ sturn f g w v = upd f (81 + 5 * g.toInt.toNat + w.toInt.toNat) v := ⟨(cif_t h).trans (cif_t h2), cif_t ⟨h, h2⟩⟩
theorem kp_turn {f : Nat → Int32} {g w v : Int32} {j : Nat} (b : (f 0).toInt ≤ 6) (h : j < 80 ∨ 110 ≤ j) : sturn f g w v j = f j := by
  by_cases q : okT w v ∧ isG f g
  · unfold sturn; rw [cif_t q]
    have q1 := q.1
    have q2 := q.2
    unfold okT at q1
    unfold isG at q2
    exact upd_ne (by omega)
  · unfold sturn; rw [cif_f q]
theorem isg_y {n : Int32} {t : Nat → Int32} {gb : Int64} {f : Nat → Int32} {g : Int32} (h : QG n t gb f) (q : 0 ≤ g.toInt ∧ g.toInt < n.toInt) : isG f g := by unfold isG; rw [h.2.1]; exact q
theorem isg_n {n : Int32} {t : Nat → Int32} {gb : Int64} {f : Nat → Int32} {g : Int32} (h : QG n t gb f) (q : g.toInt < 0 ∨ n.toInt ≤ g.toInt) : ¬ isG f g := by unfold isG; rw [h.2.1]; omega
theorem hg_get {n : Int32} {t : Nat → Int32} {gb : Int64} {f : Nat → Int32} (h : QG n t gb f) {r c : Int} (hr : 0 ≤ r ∧ r < n.toInt) (hc : 0 ≤ c ∧ c < 5) {j : Nat} (hj : (j : Int) = 80 + 5 * r + c) : tget t n.toInt 5 r c = f j := by
  have z := h.2.2.1 r.toNat c.toNat (by omega) (by omega)
  rw [Int.toNat_of_nonneg hr.1, Int.toNat_of_nonneg hc.1] at z
  rw [← z]; congr 1; omega
theorem hg_turn {n : Int32} {t : Nat → Int32} {gb : Int64} {f : Nat → Int32} {g w v : Int32} {c : Int} (h : QG n t gb f) (ok : okT w v) (hg : 0 ≤ g.toInt ∧ g.toInt < n.toInt) (hc : c = w.toInt + 1) : QG n (tset t n.toInt 5 g.toInt c v) gb (sturn f g w v) := by
  have ok2 := ok
  unfold okT at ok2
  have i4 := g_inTturn (v := v) h.2.2.2.1 (r := g.toInt) (x := c) hg ⟨by omega, by omega⟩
  obtain ⟨hb, h2, h3, h4, h5⟩ := h
  rw [(turn_0 ok (by unfold isG; rw [h2]; exact hg)).2]
  refine ⟨hb, ?_, ?_, i4, ?_⟩
  · rw [upd_ne (by omega)]; exact h2
  · intro r c' a b
    rw [tg_set5 (by omega)]
    by_cases q : (r : Int) = g.toInt ∧ (c' : Int) = c
    · rw [if_pos q, show 80 + 5 * r + c' = 81 + 5 * g.toInt.toNat + w.toInt.toNat by omega, upd_eq]
    · rw [if_neg q, upd_ne (by omega)]; exact h3 r c' a b
  · intro r a b
    rw [tg_set5 (by omega), if_neg (by omega)]; exact h5 r a b
noncomputable def aof (f : Nat → Int32) (g w : Int32) : Int32 := cif (isG f g ∧ 0 ≤ w.toInt ∧ w.toInt ≤ 4) (f (80 + 5 * g.toInt.toNat + w.toInt.toNat)) (-1)
theorem of_x {n : Int32} {t : Nat → Int32} {gb : Int64} {f : Nat → Int32} {g w : Int32} (h : QG n t gb f) : tget t n.toInt 5 g.toInt w.toInt = aof f g w := by
  unfold aof
  by_cases q : isG f g ∧ 0 ≤ w.toInt ∧ w.toInt ≤ 4
  · have q1 := q.1
    unfold isG at q1
    rw [h.2.1] at q1
    rw [cif_t q]
    exact hg_get h q1 (by omega) (by omega)
  · rw [cif_f q]
    unfold tget
    rw [if_neg]
    intro r
    exact q ⟨isg_y h ⟨r.1, r.2.1⟩, by omega, by omega⟩
/-! a wall -/
noncomputable def swall (f : Nat → Int32) (c i : Int32) : Nat → Int32 := cif ((0 ≤ c.toInt ∧ c.toInt ≤ 63) ∧ (0 ≤ i.toInt ∧ i.toInt ≤ 1) ∧ ¬ (i.toInt = 1 ∧ takenR f c.toInt)) (upd f (10 + c.toInt.toNat) i) f
theorem wall_1 {f : Nat → Int32} {c i : Int32} (h : ¬ ((0 ≤ c.toInt ∧ c.toInt ≤ 63) ∧ (0 ≤ i.toInt ∧ i.toInt ≤ 1))) : swall f c i = f := cif_f (fun q => h ⟨q.1, q.2.1⟩)
theorem wall_3m {f : Nat → Int32} {c i : Int32} (h : i.toInt = 1) (t : takenR f c.toInt) : swall f c i = f := cif_f (fun q => q.2.2 ⟨h, t⟩)
theorem wall_0 {f : Nat → Int32} {c i : Int32} (h : 0 ≤ c.toInt ∧ c.toInt ≤ 63) (h2 : 0 ≤ i.toInt ∧ i.toInt ≤ 1) (h3 : ¬ (i.toInt = 1 ∧ takenR f c.toInt)) : swall f c i = upd f (10 + c.toInt.toNat) i := cif_t ⟨h, h2, h3⟩
theorem wall_3 {wa : Int64} {le st : Int32} {f : Nat → Int32} {c i : Int32} (hH : QH wa le st f) (hN : NW f) (h : 0 ≤ c.toInt ∧ c.toInt ≤ 63) (h2 : 0 ≤ i.toInt ∧ i.toInt ≤ 1) (t : takenR f c.toInt) : swall f c i = f := by
  by_cases q : i.toInt = 1
  · exact wall_3m q t
  · rw [wall_0 h h2 (fun z => q z.1)]
    have z := hN c.toInt h.1 h.2 t
    have y := hh_wall hH h.1 h.2
    have x : (f (10 + c.toInt.toNat)).toInt = 0 := by
      rw [y.2]
      cases w : onB wa c.toInt
      · rfl
      · exact absurd (y.1.mpr w) z
    have e : f (10 + c.toInt.toNat) = i := Int32.toInt_inj.mp (by omega)
    funext j
    by_cases w : j = 10 + c.toInt.toNat
    · rw [w, upd_eq, e]
    · rw [upd_ne w]
theorem kp_wall {f : Nat → Int32} {c i : Int32} {j : Nat} (h : j < 10 ∨ 74 ≤ j) : swall f c i j = f j := by
  by_cases q : (0 ≤ c.toInt ∧ c.toInt ≤ 63) ∧ (0 ≤ i.toInt ∧ i.toInt ≤ 1) ∧ ¬ (i.toInt = 1 ∧ takenR f c.toInt)
  · unfold swall; rw [cif_t q, upd_ne (by omega)]
  · unfold swall; rw [cif_f q]
theorem onB_butI {a : Int64} {c : Int32} (h : 0 ≤ c.toInt ∧ c.toInt ≤ 63) {x : Int} (h0 : 0 ≤ x) (h1 : x ≤ 63) : onB (a &&& (((1 : Int64) <<< (c.toInt64 &&& 63)) ^^^ (-1))) x = (onB a x && decide (x ≠ c.toInt)) := by
  have key : ∀ c : Nat, c < 64 → ∀ x : Nat, x < 64 → onB (bitI (c : Int) ^^^ (-1)) (x : Int) = decide (x ≠ c) := by decide +kernel
  have z := key c.toInt.toNat (by omega) x.toNat (by omega)
  rw [Int.toNat_of_nonneg h.1, Int.toNat_of_nonneg h0] at z
  rw [bit_of h.1]
  have e : onB (a &&& (bitI c.toInt ^^^ (-1))) x = (onB a x && onB (bitI c.toInt ^^^ (-1)) x) := by
    unfold onB; rw [Int64.toBitVec_and, BitVec.getLsbD_and]
  rw [e, z]
  congr 1
  rw [decide_eq_decide]; omega
theorem hh_wall1 {wa : Int64} {le st : Int32} {f : Nat → Int32} {c i : Int32} (hH : QH wa le st f) (h : 0 ≤ c.toInt ∧ c.toInt ≤ 63) (h2 : i.toInt = 1) (h3 : ¬ takenR f c.toInt) : QH (wa ||| ((1 : Int64) <<< (c.toInt64 &&& 63))) le st (swall f c i) := by
  rw [wall_0 h (by omega) (fun q => h3 q.2)]
  refine ⟨fun x hx => ?_, by rw [upd_ne (by omega)]; exact hH.2.1, by rw [upd_ne (by omega)]; exact hH.2.2⟩
  rw [onB_bit h (by omega) (by omega)]
  by_cases q : x = c.toInt.toNat
  · rw [q, upd_eq, decide_eq_true (by omega), Bool.or_true, if_pos rfl]; exact h2
  · rw [upd_ne (by omega), decide_eq_false (by omega), Bool.or_false]; exact hH.1 x hx
theorem hh_wall0 {wa : Int64} {le st : Int32} {f : Nat → Int32} {c i : Int32} (hH : QH wa le st f) (h : 0 ≤ c.toInt ∧ c.toInt ≤ 63) (h2 : i.toInt = 0) : QH (wa &&& (((1 : Int64) <<< (c.toInt64 &&& 63)) ^^^ (-1))) le st (swall f c i) := by
  rw [wall_0 h (by omega) (fun q => by omega)]
  refine ⟨fun x hx => ?_, by rw [upd_ne (by omega)]; exact hH.2.1, by rw [upd_ne (by omega)]; exact hH.2.2⟩
  rw [onB_butI h (by omega) (by omega)]
  by_cases q : x = c.toInt.toNat
  · rw [q, upd_eq, decide_eq_false (by omega), Bool.and_false, if_neg (by decide)]; exact h2
  · rw [upd_ne (by omega), decide_eq_true (by omega), Bool.and_true]; exact hH.1 x hx
/-! bodies -/
noncomputable def sbody (f : Nat → Int32) : Nat → Int32 := cif ((f 1).toInt ≠ 5) (addRow f 1 110 24 (f 1).toInt.toNat (f 1 + 1) (fun _ => -1)) f
noncomputable def abody (f : Nat → Int32) : Int32 := cif ((f 1).toInt ≠ 5) (f 1) (-5)
theorem body_5 {f : Nat → Int32} (h : (f 1).toInt = 5) : abody f = -5 ∧ sbody f = f := ⟨cif_f (fun q => q h), cif_f (fun q => q h)⟩
theorem body_0 {f : Nat → Int32} (h : (f 1).toInt ≠ 5) : abody f = f 1 ∧ sbody f = addRow f 1 110 24 (f 1).toInt.toNat (f 1 + 1) (fun _ => -1) := ⟨cif_t h, cif_t h⟩
theorem kp_body {f : Nat → Int32} {j : Nat} (b : (f 1).toInt ≤ 5) (h : j ≠ 1 ∧ (j < 110 ∨ 230 ≤ j)) : sbody f j = f j := by
  by_cases q : (f 1).toInt ≠ 5
  · rw [(body_0 q).2, ar_ne h.1 (by omega)]
  · rw [(body_5 (by omega)).2]
theorem bbd_fil {t : Nat → Int32} {n h : Int} (h0 : 0 ≤ n) (hh : 0 ≤ h ∧ h < 24) : ∀ k : Nat, (k : Int) ≤ n → bbd (tfil t n 24 (-1) 24) (n + 1) h k = bbd t n h k := by
  intro k
  induction k with
  | zero => intro _; rfl
  | succ k ih =>
    intro hk
    show bbd (tfil t n 24 (-1) 24) (n + 1) h k ||| _ = bbd t n h k ||| _
    rw [ih (by omega), tg_fil24 h0 (by omega) hh, if_neg (show ¬ ((k : Int) = n) by omega)]
theorem hb_body {n N : Int32} {t : Nat → Int32} {bb : Nat → Int64} {f : Nat → Int32} (h : QB n t bb f) (hn : n.toInt < 5) (hN : N.toInt = n.toInt + 1) : QB N (tfil t n.toInt 24 (-1) 24) bb (sbody f) := by
  obtain ⟨hb, h2, h3, h4, h5⟩ := h
  have hN' : N = n + 1 := Int32.toInt_inj.mp (by rw [hN]; exact (g5_iadd rfl (by decide) (by omega) (by omega)).symm)
  rw [(body_0 (by rw [h2]; omega)).2, h2]
  refine ⟨by omega, ?_, ?_, ?_, ?_⟩
  · rw [ar_ci, hN']
  · refine ht_add h3 hb.1 hN (by omega) (fun r c' a b => ?_) (fun c' hc => ?_)
    · rw [hN, tg_fil24 hb.1 (by omega) (by omega), if_neg (by omega)]
    · rw [hN, tg_fil24 hb.1 (by omega) (by omega), if_pos rfl]
  · intro c hc
    rw [h4 c hc, hN, show (n.toInt + 1).toNat = n.toInt.toNat + 1 by omega]
    show _ = bbd (tfil t n.toInt 24 (-1) 24) (n.toInt + 1) c n.toInt.toNat ||| (if tget (tfil t n.toInt 24 (-1) 24) (n.toInt + 1) 24 ((n.toInt.toNat : Nat) : Int) c = -1 then 0 else (1 : Int64) <<< ((tget (tfil t n.toInt 24 (-1) 24) (n.toInt + 1) 24 ((n.toInt.toNat : Nat) : Int) c).toInt64 &&& 63))
    rw [bbd_fil hb.1 (by omega) _ (by omega), tg_fil24 hb.1 (by omega) (by omega), if_pos (show ((n.toInt.toNat : Nat) : Int) = n.toInt by omega), if_pos rfl, Int64.or_zero]
  · intro r c a b x y
    rw [hN] at b
    rw [hN, tg_fil24 hb.1 (by omega) ⟨x, y⟩]
    by_cases q : r = n.toInt
    · rw [if_pos q]; decide
    · rw [if_neg q]; exact h5 r c a (by omega) x y
def okS (b e c : Int32) : Prop := (0 ≤ b.toInt ∧ b.toInt ≤ 23) ∧ (0 ≤ e.toInt ∧ e.toInt ≤ 23) ∧ b.toInt ≤ e.toInt ∧ (-1 ≤ c.toInt ∧ c.toInt ≤ 63)
def isB (f : Nat → Int32) (b : Int32) : Prop := 0 ≤ b.toInt ∧ b.toInt < (f 1).toInt
def stR (f : Nat → Int32) (b a e : Int) (c : Int32) : Nat → Int32 := bfill f (110 + 24 * b + a) (110 + 24 * b + e + 1) c
noncomputable def sstay (f : Nat → Int32) (b a e c : Int32) : Nat → Int32 := cif (okS a e c ∧ isB f b ∧ ¬ wallAt f c.toInt) (stR f b.toInt a.toInt e.toInt c) f
noncomputable def astay (f : Nat → Int32) (b a e c : Int32) : Int32 := cif (okS a e c) (cif (isB f b) (cif (¬ wallAt f c.toInt) 0 (-3)) (-2)) (-1)
theorem stay_1 {f : Nat → Int32} {b a e c : Int32} (h : ¬ okS a e c) : astay f b a e c = -1 ∧ sstay f b a e c = f := ⟨cif_f h, cif_f (fun q => h q.1)⟩
theorem stay_2 {f : Nat → Int32} {b a e c : Int32} (h : okS a e c) (h2 : ¬ isB f b) : astay f b a e c = -2 ∧ sstay f b a e c = f := ⟨(cif_t h).trans (cif_f h2), cif_f (fun q => h2 q.2.1)⟩
theorem stay_3 {f : Nat → Int32} {b a e c : Int32} (h : okS a e c) (h2 : isB f b) (h3 : wallAt f c.toInt) : astay f b a e c = -3 ∧ sstay f b a e c = f := ⟨(cif_t h).trans ((cif_t h2).trans (cif_f (fun q => q h3))), cif_f (fun q => q.2.2 h3)⟩
theorem stay_0 {f : Nat → Int32} {b a e c : Int32} (h : okS a e c) (h2 : isB f b) (h3 : ¬ wallAt f c.toInt) : astay f b a e c = 0 ∧ sstay f b a e c = stR f b.toInt a.toInt e.toInt c := ⟨(cif_t h).trans ((cif_t h2).trans (cif_t h3)), cif_t ⟨h, h2, h3⟩⟩
theorem kp_stR {f : Nat → Int32} {b a e : Int} {c : Int32} {j : Nat} (hb : 0 ≤ b ∧ b < 5) (ha : 0 ≤ a) (he : e ≤ 23) (h : j < 110 ∨ 230 ≤ j) : stR f b a e c j = f j := by
  unfold stR; exact bf_ne (by omega)
theorem kp_stay {f : Nat → Int32} {b a e c : Int32} {j : Nat} (bd : (f 1).toInt ≤ 5) (h : j < 110 ∨ 230 ≤ j) : sstay f b a e c j = f j := by
  by_cases q : okS a e c ∧ isB f b ∧ ¬ wallAt f c.toInt
  · have q1 := q.1
    have q2 := q.2.1
    unfold okS at q1
    unfold isB at q2
    unfold sstay; rw [cif_t q]
    exact kp_stR (by omega) (by omega) (by omega) h
  · unfold sstay; rw [cif_f q]
theorem isb_y {n : Int32} {t : Nat → Int32} {bb : Nat → Int64} {f : Nat → Int32} {g : Int32} (h : QB n t bb f) (q : 0 ≤ g.toInt ∧ g.toInt < n.toInt) : isB f g := by unfold isB; rw [h.2.1]; exact q
theorem isb_n {n : Int32} {t : Nat → Int32} {bb : Nat → Int64} {f : Nat → Int32} {g : Int32} (h : QB n t bb f) (q : g.toInt < 0 ∨ n.toInt ≤ g.toInt) : ¬ isB f g := by unfold isB; rw [h.2.1]; omega
theorem hb_put {n : Int32} {t t' : Nat → Int32} {bb bb' : Nat → Int64} {f : Nat → Int32} {r a e : Int} {c : Int32} (h : QB n t bb f) (hr : 0 ≤ r ∧ r < n.toInt) (ha : 0 ≤ a) (he : e ≤ 23) (hc : -1 ≤ c.toInt ∧ c.toInt ≤ 63) (ht : t' = bput t n.toInt r a (e + 1) c) (hbb : ∀ c : Nat, c < 24 → bb' c = bbd t' n.toInt c n.toInt.toNat) : QB n t' bb' (stR f r a e c) := by
  obtain ⟨hb, h2, h3, h4, h5⟩ := h
  have g : ∀ r' c' : Int, 0 ≤ r' → r' < n.toInt → 0 ≤ c' → c' < 24 → tget t' n.toInt 24 r' c' = if r' = r ∧ a ≤ c' ∧ c' ≤ e then c else tget t n.toInt 24 r' c' := by
    intro r' c' x y z w
    rw [ht]
    unfold tget bput
    have hq : 0 ≤ r' ∧ r' < n.toInt ∧ 0 ≤ c' ∧ c' < 24 := ⟨x, y, z, w⟩
    rw [if_pos hq, if_pos hq]
    by_cases q : r' = r ∧ a ≤ c' ∧ c' ≤ e
    · rw [if_pos q, if_pos (by omega)]
    · rw [if_neg q, if_neg (by omega)]
  refine ⟨hb, ?_, ?_, hbb, ?_⟩
  · rw [kp_stR (by omega) ha he (by omega)]; exact h2
  · intro r' c' x y
    rw [g r' c' (by omega) x (by omega) (by omega)]
    unfold stR bfill
    by_cases q : (r' : Int) = r ∧ a ≤ (c' : Int) ∧ (c' : Int) ≤ e
    · rw [if_pos q, if_pos (by omega)]
    · rw [if_neg q, if_neg (by omega)]; exact h3 r' c' x y
  · intro r' c' x y z w
    rw [g r' c' x y z w]
    by_cases q : r' = r ∧ a ≤ c' ∧ c' ≤ e
    · rw [if_pos q]; exact hc
    · rw [if_neg q]; exact h5 r' c' x y z w
noncomputable def awhere (f : Nat → Int32) (b h : Int32) : Int32 := cif (isB f b ∧ 0 ≤ h.toInt ∧ h.toInt ≤ 23) (f (110 + 24 * b.toInt.toNat + h.toInt.toNat)) (-1)
theorem where_x {n : Int32} {t : Nat → Int32} {bb : Nat → Int64} {f : Nat → Int32} {b hr : Int32} (h : QB n t bb f) : tget t n.toInt 24 b.toInt hr.toInt = awhere f b hr := by
  unfold awhere
  by_cases q : isB f b ∧ 0 ≤ hr.toInt ∧ hr.toInt ≤ 23
  · have q1 := q.1
    unfold isB at q1
    rw [h.2.1] at q1
    rw [cif_t q]
    have z := h.2.2.1 b.toInt.toNat hr.toInt.toNat (by omega) (by omega)
    rw [Int.toNat_of_nonneg q1.1, Int.toNat_of_nonneg q.2.1] at z
    exact z.symm
  · rw [cif_f q]
    unfold tget
    rw [if_neg]
    intro r
    exact q ⟨isb_y h ⟨r.1, r.2.1⟩, by omega, by omega⟩
/-! least, start -/
noncomputable def sleast (f : Nat → Int32) (v : Int32) : Nat → Int32 := cif (0 ≤ v.toInt ∧ v.toInt ≤ 1000000) (upd f 4 v) f
noncomputable def aleast (f : Nat → Int32) (v : Int32) : Int32 := cif (0 ≤ v.toInt ∧ v.toInt ≤ 1000000) (f 4) (-1)
theorem least_1 {f : Nat → Int32} {v : Int32} (h : v.toInt < 0 ∨ 1000000 < v.toInt) : aleast f v = -1 ∧ sleast f v = f := ⟨cif_f (fun q => by omega), cif_f (fun q => by omega)⟩
theorem least_0 {f : Nat → Int32} {v : Int32} (h : 0 ≤ v.toInt ∧ v.toInt ≤ 1000000) : aleast f v = f 4 ∧ sleast f v = upd f 4 v := ⟨cif_t h, cif_t h⟩
theorem kp_least {f : Nat → Int32} {v : Int32} {j : Nat} (h : j ≠ 4) : sleast f v j = f j := by
  by_cases q : 0 ≤ v.toInt ∧ v.toInt ≤ 1000000
  · rw [(least_0 q).2, upd_ne h]
  · rw [(least_1 (by omega)).2]
theorem hh_least {wa : Int64} {le st : Int32} {f : Nat → Int32} {v : Int32} (hH : QH wa le st f) (h : 0 ≤ v.toInt ∧ v.toInt ≤ 1000000) : QH wa v st (sleast f v) := by
  rw [(least_0 h).2]
  exact ⟨fun c hc => by rw [upd_ne (by omega)]; exact hH.1 c hc, upd_eq, by rw [upd_ne (by omega)]; exact hH.2.2⟩
noncomputable def sstart (f : Nat → Int32) (c : Int32) : Nat → Int32 := cif ((-1 ≤ c.toInt ∧ c.toInt ≤ 63) ∧ ¬ wallAt f c.toInt) (upd f 6 c) f
noncomputable def astart (f : Nat → Int32) (c : Int32) : Int32 := cif (-1 ≤ c.toInt ∧ c.toInt ≤ 63) (cif (¬ wallAt f c.toInt) (f 6) (-3)) (-1)
theorem start_1 {f : Nat → Int32} {c : Int32} (h : c.toInt < -1 ∨ 63 < c.toInt) : astart f c = -1 ∧ sstart f c = f := ⟨cif_f (fun q => by omega), cif_f (fun q => by omega)⟩
theorem start_3 {f : Nat → Int32} {c : Int32} (h : -1 ≤ c.toInt ∧ c.toInt ≤ 63) (h2 : wallAt f c.toInt) : astart f c = -3 ∧ sstart f c = f := ⟨(cif_t h).trans (cif_f (fun q => q h2)), cif_f (fun q => q.2 h2)⟩
theorem start_0 {f : Nat → Int32} {c : Int32} (h : -1 ≤ c.toInt ∧ c.toInt ≤ 63) (h2 : ¬ wallAt f c.toInt) : astart f c = f 6 ∧ sstart f c = upd f 6 c := ⟨(cif_t h).trans (cif_t h2), cif_t ⟨h, h2⟩⟩
theorem kp_start {f : Nat → Int32} {c : Int32} {j : Nat} (h : j ≠ 6) : sstart f c j = f j := by
  by_cases q : (-1 ≤ c.toInt ∧ c.toInt ≤ 63) ∧ ¬ wallAt f c.toInt
  · rw [(start_0 q.1 q.2).2, upd_ne h]
  · unfold sstart; rw [cif_f q]
theorem hh_start {wa : Int64} {le st : Int32} {f : Nat → Int32} {c : Int32} (hH : QH wa le st f) (h : -1 ≤ c.toInt ∧ c.toInt ≤ 63) (h2 : ¬ wallAt f c.toInt) : QH wa le c (sstart f c) := by
  rw [(start_0 h h2).2]
  exact ⟨fun x hx => by rw [upd_ne (by omega)]; exact hH.1 x hx, by rw [upd_ne (by omega)]; exact hH.2.1, upd_eq⟩
/-! sightings -/
def okL (c w h : Int32) : Prop := (0 ≤ c.toInt ∧ c.toInt ≤ 63) ∧ (0 ≤ w.toInt ∧ w.toInt ≤ 3) ∧ (0 ≤ h.toInt ∧ h.toInt ≤ 23)
def okI (c w h s : Int32) : Prop := okL c w h ∧ (0 ≤ s.toInt ∧ s.toInt ≤ 1)
def rmS (f : Nat → Int32) (s : Int32) : Prop := (f 5).toInt ≠ 10 ∧ ¬ (s.toInt = 1 ∧ mSN f = 5)
noncomputable def ssight (f : Nat → Int32) (c w h s : Int32) : Nat → Int32 := cif (okI c w h s ∧ rmS f s) (addRow f 5 230 4 (f 5).toInt.toNat (f 5 + 1) (v4 c w h s)) f
noncomputable def asight (f : Nat → Int32) (c w h s : Int32) : Int32 := cif (okI c w h s) (cif (rmS f s) (f 5 + 1) (-5)) (-1)
theorem sight_1 {f : Nat → Int32} {c w h s : Int32} (q : ¬ okI c w h s) : asight f c w h s = -1 ∧ ssight f c w h s = f := ⟨cif_f q, cif_f (fun z => q z.1)⟩
theorem sight_5 {f : Nat → Int32} {c w h s : Int32} (q : okI c w h s) (q2 : ¬ rmS f s) : asight f c w h s = -5 ∧ ssight f c w h s = f := ⟨(cif_t q).trans (cif_f q2), cif_f (fun z => q2 z.2)⟩
theorem sight_0 {f : Nat → Int32} {c w h s : Int32} (q : okI c w h s) (q2 : rmS f s) : asight f c w h s = f 5 + 1 ∧ ssight f c w h s = addRow f 5 230 4 (f 5).toInt.toNat (f 5 + 1) (v4 c w h s) := ⟨(cif_t q).trans (cif_t q2), cif_t ⟨q, q2⟩⟩
theorem kp_sight {f : Nat → Int32} {c w h s : Int32} {j : Nat} (b : (f 5).toInt ≤ 10) (q : j ≠ 5 ∧ (j < 230 ∨ 270 ≤ j)) : ssight f c w h s j = f j := by
  by_cases z : okI c w h s ∧ rmS f s
  · have y := z.2.1
    rw [(sight_0 z.1 z.2).2, ar_ne q.1 (by omega)]
  · unfold ssight; rw [cif_f z]
theorem hs_sn {n : Int32} {t f : Nat → Int32} (h : QS n t f) : snS t n.toInt n.toInt.toNat = mSN f := by
  unfold mSN
  rw [h.2.1]
  refine sg_sn _ (fun j hj => ?_)
  have z3 : (3 : Int32).toInt = 3 := (by decide)
  have y := h.2.2 j 3 (by omega) (by omega)
  rw [z3]
  have w : tget (fun j => f (230 + j)) n.toInt 4 (j : Int) 3 = f (230 + 4 * j + 3) := by
    unfold tget
    rw [if_pos (by omega)]
    show f (230 + ((j : Int) * 4 + 3).toNat) = _
    congr 1; omega
  rw [w]; exact y.symm
theorem rm_y {n : Int32} {t f : Nat → Int32} {s : Int32} (h : QS n t f) (q : n.toInt < 10) (q2 : s.toInt = 1 → snS t n.toInt n.toInt.toNat < 5) : rmS f s := by
  refine ⟨by rw [h.2.1]; omega, fun z => ?_⟩
  have y := q2 z.1
  rw [hs_sn h] at y
  omega
theorem rm_n1 {n : Int32} {t f : Nat → Int32} {s : Int32} (h : QS n t f) (q : n.toInt = 10) : ¬ rmS f s := fun z => z.1 (by rw [h.2.1]; exact q)
theorem rm_n2 {n : Int32} {t f : Nat → Int32} {s : Int32} (h : QS n t f) (q : s.toInt = 1) (q2 : 5 ≤ snS t n.toInt n.toInt.toNat) (q3 : snS t n.toInt n.toInt.toNat ≤ 5) : ¬ rmS f s := fun z => z.2 ⟨q, by rw [← hs_sn h]; omega⟩
theorem hs_sight {n N : Int32} {t f : Nat → Int32} {c w h s : Int32} (hS : QS n t f) (hn : n.toInt < 10) (hN : N.toInt = n.toInt + 1) (ok : okI c w h s) (rm : rmS f s) : QS N (tset (tset (tset (tset (tfil t n.toInt 4 0 4) N.toInt 4 n.toInt (0 : Int32).toInt c) N.toInt 4 n.toInt (1 : Int32).toInt w) N.toInt 4 n.toInt (2 : Int32).toInt h) N.toInt 4 n.toInt (3 : Int32).toInt s) (ssight f c w h s) := by
  obtain ⟨hb, h2, h3⟩ := hS
  have z0 : (0 : Int32).toInt = 0 := (by decide)
  have z1 : (1 : Int32).toInt = 1 := (by decide)
  have z2 : (2 : Int32).toInt = 2 := (by decide)
  have z3 : (3 : Int32).toInt = 3 := (by decide)
  have hN' : N = n + 1 := Int32.toInt_inj.mp (by rw [hN]; exact (g5_iadd rfl (by decide) (by omega) (by omega)).symm)
  rw [(sight_0 ok rm).2, h2]
  refine ⟨by omega, by rw [ar_ci, hN'], ?_⟩
  refine ht_add h3 hb.1 hN (by omega) (fun r c' a b => ?_) (fun c' hc => ?_)
  · rw [z0, z1, z2, z3, tg_set4 (by omega), if_neg (by omega), tg_set4 (by omega), if_neg (by omega), tg_set4 (by omega), if_neg (by omega), tg_set4 (by omega), if_neg (by omega), hN, tg_fil4 hb.1 (by omega) (by omega), if_neg (by omega)]
  · rcases (show c' = 0 ∨ c' = 1 ∨ c' = 2 ∨ c' = 3 by omega) with rfl | rfl | rfl | rfl
    · rw [z0, z1, z2, z3, tg_set4 (by omega), if_neg (by omega), tg_set4 (by omega), if_neg (by omega), tg_set4 (by omega), if_neg (by omega), tg_set4 (by omega), if_pos (by omega)]; rfl
    · rw [z0, z1, z2, z3, tg_set4 (by omega), if_neg (by omega), tg_set4 (by omega), if_neg (by omega), tg_set4 (by omega), if_pos (by omega)]; rfl
    · rw [z0, z1, z2, z3, tg_set4 (by omega), if_neg (by omega), tg_set4 (by omega), if_pos (by omega)]; rfl
    · rw [z0, z1, z2, z3, tg_set4 (by omega), if_pos (by omega)]; rfl
def isI (f : Nat → Int32) (i : Int32) : Prop := 0 ≤ i.toInt ∧ i.toInt < (f 5).toInt
noncomputable def sdrop (f : Nat → Int32) (i : Int32) : Nat → Int32 := cif (isI f i) (upd (mshf f i.toInt 266) 5 (f 5 - 1)) f
noncomputable def adrop (f : Nat → Int32) (i : Int32) : Int32 := cif (isI f i) (f 5 - 1) (-2)
theorem drop_2 {f : Nat → Int32} {i : Int32} (h : ¬ isI f i) : adrop f i = -2 ∧ sdrop f i = f := ⟨cif_f h, cif_f h⟩
theorem drop_0 {f : Nat → Int32} {i : Int32} (h : isI f i) : adrop f i = f 5 - 1 ∧ sdrop f i = upd (mshf f i.toInt 266) 5 (f 5 - 1) := ⟨cif_t h, cif_t h⟩
theorem kp_drop {f : Nat → Int32} {i : Int32} {j : Nat} (q : j ≠ 5 ∧ (j < 230 ∨ 270 ≤ j)) : sdrop f i j = f j := by
  by_cases z : isI f i
  · have y := z
    unfold isI at y
    rw [(drop_0 z).2, upd_ne q.1]
    unfold mshf
    rw [if_neg (by omega)]
  · rw [(drop_2 z).2]
theorem isi_y {n : Int32} {t f : Nat → Int32} {g : Int32} (h : QS n t f) (q : 0 ≤ g.toInt ∧ g.toInt < n.toInt) : isI f g := by unfold isI; rw [h.2.1]; exact q
theorem isi_n {n : Int32} {t f : Nat → Int32} {g : Int32} (h : QS n t f) (q : g.toInt < 0 ∨ n.toInt ≤ g.toInt) : ¬ isI f g := by unfold isI; rw [h.2.1]; omega
theorem hs_drop {n N : Int32} {t f : Nat → Int32} {i : Int32} (hS : QS n t f) (hi : 0 ≤ i.toInt ∧ i.toInt < n.toInt) (hN : N.toInt = n.toInt - 1) : QS N (trem t n.toInt 4 i.toInt) (sdrop f i) := by
  have is := isi_y hS hi
  obtain ⟨hb, h2, h3⟩ := hS
  have hN' : N = n - 1 := Int32.toInt_inj.mp (by rw [hN]; exact (g5_isub rfl (by decide) (by omega) (by omega)).symm)
  rw [(drop_0 is).2]
  refine ⟨by omega, by rw [upd_eq, h2, hN'], ?_⟩
  intro r c hr hc
  rw [upd_ne (by omega)]
  unfold mshf tget trem
  rw [if_pos (c := 0 ≤ (r : Int) ∧ _) (by omega)]
  by_cases q : (r : Int) < i.toInt
  · rw [if_neg (by omega), if_neg (by omega)]
    have z := h3 r c (by omega) hc
    unfold tget at z
    rw [if_pos (by omega)] at z
    exact z
  · rw [if_pos (by omega), if_pos (by omega)]
    have z := h3 (r + 1) c (by omega) hc
    unfold tget at z
    rw [if_pos (by omega)] at z
    rw [show 230 + 4 * r + c + 4 = 230 + 4 * (r + 1) + c by omega, z]
    congr 1; omega
/-! spots, wishes -/
def okP (c s l : Int32) : Prop := (0 ≤ c.toInt ∧ c.toInt ≤ 63) ∧ (0 ≤ s.toInt ∧ s.toInt ≤ 5) ∧ (0 ≤ l.toInt ∧ l.toInt ≤ 23)
noncomputable def sspot (f : Nat → Int32) (c s l : Int32) : Nat → Int32 := cif (okP c s l ∧ canR f c.toInt ∧ (f 7).toInt ≠ 8) (addRow f 7 270 3 (f 7).toInt.toNat (f 7 + 1) (v3 c s l)) f
noncomputable def aspot (f : Nat → Int32) (c s l : Int32) : Int32 := cif (okP c s l) (cif (canR f c.toInt) (cif ((f 7).toInt ≠ 8) (f 7) (-5)) (-3)) (-1)
theorem spot_1 {f : Nat → Int32} {c s l : Int32} (h : ¬ okP c s l) : aspot f c s l = -1 ∧ sspot f c s l = f := ⟨cif_f h, cif_f (fun q => h q.1)⟩
theorem spot_3 {f : Nat → Int32} {c s l : Int32} (h : okP c s l) (h2 : ¬ canR f c.toInt) : aspot f c s l = -3 ∧ sspot f c s l = f := ⟨(cif_t h).trans (cif_f h2), cif_f (fun q => h2 q.2.1)⟩
theorem spot_5 {f : Nat → Int32} {c s l : Int32} (h : okP c s l) (h2 : canR f c.toInt) (h3 : (f 7).toInt = 8) : aspot f c s l = -5 ∧ sspot f c s l = f := ⟨(cif_t h).trans ((cif_t h2).trans (cif_f (fun q => q h3))), cif_f (fun q => q.2.2 h3)⟩
theorem spot_0 {f : Nat → Int32} {c s l : Int32} (h : okP c s l) (h2 : canR f c.toInt) (h3 : (f 7).toInt ≠ 8) : aspot f c s l = f 7 ∧ sspot f c s l = addRow f 7 270 3 (f 7).toInt.toNat (f 7 + 1) (v3 c s l) := ⟨(cif_t h).trans ((cif_t h2).trans (cif_t h3)), cif_t ⟨h, h2, h3⟩⟩
theorem kp_spot {f : Nat → Int32} {c s l : Int32} {j : Nat} (b : (f 7).toInt ≤ 8) (h : j ≠ 7 ∧ (j < 270 ∨ 294 ≤ j)) : sspot f c s l j = f j := by
  by_cases q : okP c s l ∧ canR f c.toInt ∧ (f 7).toInt ≠ 8
  · rw [(spot_0 q.1 q.2.1 q.2.2).2, ar_ne h.1 (by omega)]
  · unfold sspot; rw [cif_f q]
theorem hp_spot {n N : Int32} {t : Nat → Int32} {f : Nat → Int32} {c s l : Int32} (h : QP n t f) (hn : n.toInt < 8) (hN : N.toInt = n.toInt + 1) (ok : okP c s l) (cn : canR f c.toInt) : QP N (tset (tset (tset (tfil t n.toInt 5 0 5) N.toInt 5 n.toInt (0 : Int32).toInt c) N.toInt 5 n.toInt (1 : Int32).toInt s) N.toInt 5 n.toInt (2 : Int32).toInt l) (sspot f c s l) := by
  obtain ⟨hb, h2, h3⟩ := h
  have z0 : (0 : Int32).toInt = 0 := (by decide)
  have z1 : (1 : Int32).toInt = 1 := (by decide)
  have z2 : (2 : Int32).toInt = 2 := (by decide)
  have hN' : N = n + 1 := Int32.toInt_inj.mp (by rw [hN]; exact (g5_iadd rfl (by decide) (by omega) (by omega)).symm)
  rw [(spot_0 ok cn (by rw [h2]; omega)).2, h2]
  refine ⟨by omega, by rw [ar_ci, hN'], ?_⟩
  refine ht_add h3 hb.1 hN (by omega) (fun r c' a b => ?_) (fun c' hc => ?_)
  · rw [z0, z1, z2, tg_set5 (by omega), if_neg (by omega), tg_set5 (by omega), if_neg (by omega), tg_set5 (by omega), if_neg (by omega), hN, tg_fil5 hb.1 (by omega) (by omega), if_neg (by omega)]
  · rcases (show c' = 0 ∨ c' = 1 ∨ c' = 2 by omega) with rfl | rfl | rfl
    · rw [z0, z1, z2, tg_set5 (by omega), if_neg (by omega), tg_set5 (by omega), if_neg (by omega), tg_set5 (by omega), if_pos (by omega)]; rfl
    · rw [z0, z1, z2, tg_set5 (by omega), if_neg (by omega), tg_set5 (by omega), if_pos (by omega)]; rfl
    · rw [z0, z1, z2, tg_set5 (by omega), if_pos (by omega)]; rfl
def okW (c w h a t i : Int32) : Prop := okL c w h ∧ (0 ≤ a.toInt ∧ a.toInt ≤ 63) ∧ (0 ≤ t.toInt ∧ t.toInt ≤ 23) ∧ (0 ≤ i.toInt ∧ i.toInt ≤ 1)
noncomputable def swish (f : Nat → Int32) (c w h a t i : Int32) : Nat → Int32 := cif (okW c w h a t i ∧ (f 8).toInt ≠ 6) (addRow f 8 300 6 (f 8).toInt.toNat (f 8 + 1) (v6 c w h a t i)) f
noncomputable def awish (f : Nat → Int32) (c w h a t i : Int32) : Int32 := cif (okW c w h a t i) (cif ((f 8).toInt ≠ 6) (f 8 + 1) (-5)) (-1)
theorem wish_1 {f : Nat → Int32} {c w h a t i : Int32} (q : ¬ okW c w h a t i) : awish f c w h a t i = -1 ∧ swish f c w h a t i = f := ⟨cif_f q, cif_f (fun z => q z.1)⟩
theorem wish_5 {f : Nat → Int32} {c w h a t i : Int32} (q : okW c w h a t i) (q2 : (f 8).toInt = 6) : awish f c w h a t i = -5 ∧ swish f c w h a t i = f := ⟨(cif_t q).trans (cif_f (fun z => z q2)), cif_f (fun z => z.2 q2)⟩
theorem wish_0 {f : Nat → Int32} {c w h a t i : Int32} (q : okW c w h a t i) (q2 : (f 8).toInt ≠ 6) : awish f c w h a t i = f 8 + 1 ∧ swish f c w h a t i = addRow f 8 300 6 (f 8).toInt.toNat (f 8 + 1) (v6 c w h a t i) := ⟨(cif_t q).trans (cif_t q2), cif_t ⟨q, q2⟩⟩
theorem kp_wish {f : Nat → Int32} {c w h a t i : Int32} {j : Nat} (b : (f 8).toInt ≤ 6) (q : j ≠ 8 ∧ (j < 300 ∨ 336 ≤ j)) : swish f c w h a t i j = f j := by
  by_cases z : okW c w h a t i ∧ (f 8).toInt ≠ 6
  · rw [(wish_0 z.1 z.2).2, ar_ne q.1 (by omega)]
  · unfold swish; rw [cif_f z]
theorem hwi_wish {n N : Int32} {u f : Nat → Int32} {c w h a t i : Int32} (hW : QW n u f) (hn : n.toInt < 6) (hN : N.toInt = n.toInt + 1) (ok : okW c w h a t i) : QW N (tset (tset (tset (tset (tset (tset (tfil u n.toInt 6 0 6) N.toInt 6 n.toInt (0 : Int32).toInt c) N.toInt 6 n.toInt (1 : Int32).toInt w) N.toInt 6 n.toInt (2 : Int32).toInt h) N.toInt 6 n.toInt (3 : Int32).toInt a) N.toInt 6 n.toInt (4 : Int32).toInt t) N.toInt 6 n.toInt (5 : Int32).toInt i) (swish f c w h a t i) := by
  obtain ⟨hb, h2, h3⟩ := hW
  have z0 : (0 : Int32).toInt = 0 := (by decide)
  have z1 : (1 : Int32).toInt = 1 := (by decide)
  have z2 : (2 : Int32).toInt = 2 := (by decide)
  have z3 : (3 : Int32).toInt = 3 := (by decide)
  have z4 : (4 : Int32).toInt = 4 := (by decide)
  have z5 : (5 : Int32).toInt = 5 := (by decide)
  have hN' : N = n + 1 := Int32.toInt_inj.mp (by rw [hN]; exact (g5_iadd rfl (by decide) (by omega) (by omega)).symm)
  rw [(wish_0 ok (by rw [h2]; omega)).2, h2]
  refine ⟨by omega, by rw [ar_ci, hN'], ?_⟩
  refine ht_add h3 hb.1 hN (by omega) (fun r c' a b => ?_) (fun c' hc => ?_)
  · rw [z0, z1, z2, z3, z4, z5, tg_set6 (by omega), if_neg (by omega), tg_set6 (by omega), if_neg (by omega), tg_set6 (by omega), if_neg (by omega), tg_set6 (by omega), if_neg (by omega), tg_set6 (by omega), if_neg (by omega), tg_set6 (by omega), if_neg (by omega), hN, tg_fil6 hb.1 (by omega) (by omega), if_neg (by omega)]
  · rcases (show c' = 0 ∨ c' = 1 ∨ c' = 2 ∨ c' = 3 ∨ c' = 4 ∨ c' = 5 by omega) with rfl | rfl | rfl | rfl | rfl | rfl
    · rw [z0, z1, z2, z3, z4, z5, tg_set6 (by omega), if_neg (by omega), tg_set6 (by omega), if_neg (by omega), tg_set6 (by omega), if_neg (by omega), tg_set6 (by omega), if_neg (by omega), tg_set6 (by omega), if_neg (by omega), tg_set6 (by omega), if_pos (by omega)]; rfl
    · rw [z0, z1, z2, z3, z4, z5, tg_set6 (by omega), if_neg (by omega), tg_set6 (by omega), if_neg (by omega), tg_set6 (by omega), if_neg (by omega), tg_set6 (by omega), if_neg (by omega), tg_set6 (by omega), if_pos (by omega)]; rfl
    · rw [z0, z1, z2, z3, z4, z5, tg_set6 (by omega), if_neg (by omega), tg_set6 (by omega), if_neg (by omega), tg_set6 (by omega), if_neg (by omega), tg_set6 (by omega), if_pos (by omega)]; rfl
    · rw [z0, z1, z2, z3, z4, z5, tg_set6 (by omega), if_neg (by omega), tg_set6 (by omega), if_neg (by omega), tg_set6 (by omega), if_pos (by omega)]; rfl
    · rw [z0, z1, z2, z3, z4, z5, tg_set6 (by omega), if_neg (by omega), tg_set6 (by omega), if_pos (by omega)]; rfl
    · rw [z0, z1, z2, z3, z4, z5, tg_set6 (by omega), if_pos (by omega)]; rfl
/-! no wall where something is: kept -/
theorem tk_c {f g : Nat → Int32} {x : Int} (b0 : (f 0).toInt ≤ 6) (b1 : (f 1).toInt ≤ 5) (b7 : (f 7).toInt ≤ 8) (e : ∀ j : Nat, (j = 0 ∨ j = 1 ∨ j = 6 ∨ j = 7 ∨ (80 ≤ j ∧ j < 110 ∧ (j - 80) % 5 = 0) ∨ (110 ≤ j ∧ j < 230) ∨ (270 ≤ j ∧ j < 294 ∧ (j - 270) % 3 = 0)) → g j = f j) (h : takenR g x) : takenR f x := by
  rcases h with ⟨k, a, b⟩ | ⟨k, a, b⟩ | ⟨k, a, b⟩ | b
  · rw [e 0 (by omega)] at a
    rw [e _ (by omega)] at b
    exact Or.inl ⟨k, a, b⟩
  · rw [e 7 (by omega)] at a
    rw [e _ (by omega)] at b
    exact Or.inr (Or.inl ⟨k, a, b⟩)
  · rw [e 1 (by omega)] at a
    rw [e _ (by omega)] at b
    exact Or.inr (Or.inr (Or.inl ⟨k, a, b⟩))
  · rw [e 6 (by omega)] at b
    exact Or.inr (Or.inr (Or.inr b))
def bd3 (f : Nat → Int32) : Prop := (f 0).toInt ≤ 6 ∧ (f 1).toInt ≤ 5 ∧ (f 7).toInt ≤ 8
theorem bd3_of {n m k : Int32} {t u v : Nat → Int32} {gb : Int64} {bb : Nat → Int64} {f : Nat → Int32} (hG : QG n t gb f) (hB : QB m u bb f) (hP : QP k v f) : bd3 f := ⟨by rw [hG.2.1]; exact hG.1.2, by rw [hB.2.1]; exact hB.1.2, by rw [hP.2.1]; exact hP.1.2⟩
theorem nw_c {f g : Nat → Int32} (b : bd3 f) (e : ∀ j : Nat, (j = 0 ∨ j = 1 ∨ j = 6 ∨ j = 7 ∨ (10 ≤ j ∧ j < 74) ∨ (80 ≤ j ∧ j < 110 ∧ (j - 80) % 5 = 0) ∨ (110 ≤ j ∧ j < 230) ∨ (270 ≤ j ∧ j < 294 ∧ (j - 270) % 3 = 0)) → g j = f j) (h : NW f) : NW g := by
  intro c h0 h1 q
  rw [e _ (by omega)]
  exact h c h0 h1 (tk_c b.1 b.2.1 b.2.2 (fun j hj => e j (by omega)) q)
theorem nw_wall {f : Nat → Int32} {c i : Int32} (b : bd3 f) (h : NW f) : NW (swall f c i) := by
  intro x h0 h1 q
  have q2 : takenR f x := tk_c b.1 b.2.1 b.2.2 (fun j hj => kp_wall (by omega)) q
  by_cases z : (0 ≤ c.toInt ∧ c.toInt ≤ 63) ∧ (0 ≤ i.toInt ∧ i.toInt ≤ 1) ∧ ¬ (i.toInt = 1 ∧ takenR f c.toInt)
  · rw [wall_0 z.1 z.2.1 z.2.2]
    by_cases w : x = c.toInt
    · rw [w, upd_eq]
      intro y
      exact z.2.2 ⟨y, by rw [← w]; exact q2⟩
    · rw [upd_ne (by omega)]; exact h x h0 h1 q2
  · have y : swall f c i = f := by unfold swall; exact cif_f z
    rw [y]; exact h x h0 h1 q2
theorem nw_glass {f : Nat → Int32} {c s l d : Int32} (b : bd3 f) (b0 : 0 ≤ (f 0).toInt) (h : NW f) : NW (sglass f c s l d) := by
  by_cases z : okG c s l d ∧ canR f c.toInt ∧ (f 0).toInt ≠ 6
  · intro x h0 h1 q
    rw [kp_glass b.1 (by omega)]
    have k : ∀ j : Nat, (j ≠ 0 ∧ (j < 80 ∨ 110 ≤ j)) → sglass f c s l d j = f j := fun j hj => kp_glass b.1 hj
    rcases q with ⟨g, a, e⟩ | ⟨g, a, e⟩ | ⟨g, a, e⟩ | e
    · rw [(glass_0 z.1 z.2.1 z.2.2).2] at a e
      rw [ar_ci] at a
      have n1 : (f 0 + 1).toInt = (f 0).toInt + 1 := g5_iadd rfl (by decide) (by omega) (by have := b.1; omega)
      by_cases w : (g : Int) = (f 0).toInt
      · have w2 : (f 0).toInt.toNat = g := by omega
        have y : addRow f 0 80 5 (f 0).toInt.toNat (f 0 + 1) (v5 c s l d 0) (80 + 5 * g) = c := by
          unfold addRow
          rw [if_neg (by omega), if_pos (by omega), w2, Nat.sub_self]; rfl
        rw [y] at e
        rw [← e]; exact z.2.1.1
      · rw [ar_ne (by omega) (by omega)] at e
        exact h x h0 h1 (Or.inl ⟨g, by omega, e⟩)
    · have := b.2.2
      rw [k 7 (by omega)] at a
      rw [k _ (by omega)] at e
      exact h x h0 h1 (Or.inr (Or.inl ⟨g, a, e⟩))
    · have := b.2.1
      rw [k 1 (by omega)] at a
      rw [k _ (by omega)] at e
      exact h x h0 h1 (Or.inr (Or.inr (Or.inl ⟨g, a, e⟩)))
    · rw [k 6 (by omega)] at e
      exact h x h0 h1 (Or.inr (Or.inr (Or.inr e)))
  · have y : sglass f c s l d = f := by unfold sglass; exact cif_f z
    rw [y]; exact h
theorem nw_spot {f : Nat → Int32} {c s l : Int32} (b : bd3 f) (b0 : 0 ≤ (f 7).toInt) (h : NW f) : NW (sspot f c s l) := by
  by_cases z : okP c s l ∧ canR f c.toInt ∧ (f 7).toInt ≠ 8
  · intro x h0 h1 q
    rw [kp_spot b.2.2 (by omega)]
    have k : ∀ j : Nat, (j ≠ 7 ∧ (j < 270 ∨ 294 ≤ j)) → sspot f c s l j = f j := fun j hj => kp_spot b.2.2 hj
    rcases q with ⟨g, a, e⟩ | ⟨g, a, e⟩ | ⟨g, a, e⟩ | e
    · have := b.1
      rw [k 0 (by omega)] at a
      rw [k _ (by omega)] at e
      exact h x h0 h1 (Or.inl ⟨g, a, e⟩)
    · rw [(spot_0 z.1 z.2.1 z.2.2).2] at a e
      rw [ar_ci] at a
      have n1 : (f 7 + 1).toInt = (f 7).toInt + 1 := g5_iadd rfl (by decide) (by omega) (by have := b.2.2; omega)
      by_cases w : (g : Int) = (f 7).toInt
      · have w2 : (f 7).toInt.toNat = g := by omega
        have y : addRow f 7 270 3 (f 7).toInt.toNat (f 7 + 1) (v3 c s l) (270 + 3 * g) = c := by
          unfold addRow
          rw [if_neg (by omega), if_pos (by omega), w2, Nat.sub_self]; rfl
        rw [y] at e
        rw [← e]; exact z.2.1.1
      · rw [ar_ne (by omega) (by omega)] at e
        exact h x h0 h1 (Or.inr (Or.inl ⟨g, by omega, e⟩))
    · have := b.2.1
      rw [k 1 (by omega)] at a
      rw [k _ (by omega)] at e
      exact h x h0 h1 (Or.inr (Or.inr (Or.inl ⟨g, a, e⟩)))
    · rw [k 6 (by omega)] at e
      exact h x h0 h1 (Or.inr (Or.inr (Or.inr e)))
  · have y : sspot f c s l = f := by unfold sspot; exact cif_f z
    rw [y]; exact h
theorem nw_body {f : Nat → Int32} (b : bd3 f) (b0 : 0 ≤ (f 1).toInt) (h : NW f) : NW (sbody f) := by
  by_cases z : (f 1).toInt ≠ 5
  · intro x h0 h1 q
    rw [kp_body b.2.1 (by omega)]
    have k : ∀ j : Nat, (j ≠ 1 ∧ (j < 110 ∨ 230 ≤ j)) → sbody f j = f j := fun j hj => kp_body b.2.1 hj
    rcases q with ⟨g, a, e⟩ | ⟨g, a, e⟩ | ⟨g, a, e⟩ | e
    · have := b.1
      rw [k 0 (by omega)] at a
      rw [k _ (by omega)] at e
      exact h x h0 h1 (Or.inl ⟨g, a, e⟩)
    · have := b.2.2
      rw [k 7 (by omega)] at a
      rw [k _ (by omega)] at e
      exact h x h0 h1 (Or.inr (Or.inl ⟨g, a, e⟩))
    · rw [(body_0 z).2] at a e
      rw [ar_ci] at a
      have n1 : (f 1 + 1).toInt = (f 1).toInt + 1 := g5_iadd rfl (by decide) (by omega) (by have := b.2.1; omega)
      by_cases w : 24 * (f 1).toInt ≤ (g : Int)
      · have y : addRow f 1 110 24 (f 1).toInt.toNat (f 1 + 1) (fun _ => -1) (110 + g) = -1 := by
          unfold addRow
          rw [if_neg (by omega), if_pos (by omega)]
        rw [y] at e
        have y1 : (-1 : Int32).toInt = -1 := (by decide)
        omega
      · rw [ar_ne (by omega) (by omega)] at e
        exact h x h0 h1 (Or.inr (Or.inr (Or.inl ⟨g, by omega, e⟩)))
    · rw [k 6 (by omega)] at e
      exact h x h0 h1 (Or.inr (Or.inr (Or.inr e)))
  · rw [(body_5 (by omega)).2]; exact h
theorem nw_stR {f : Nat → Int32} {b a e : Int} {c : Int32} (bd : bd3 f) (hb : 0 ≤ b ∧ b < 5) (ha : 0 ≤ a) (he : e ≤ 23) (hw : ¬ wallAt f c.toInt) (h : NW f) : NW (stR f b a e c) := by
  intro x h0 h1 q
  rw [kp_stR hb ha he (by omega)]
  have k : ∀ j : Nat, (j < 110 ∨ 230 ≤ j) → stR f b a e c j = f j := fun j hj => kp_stR hb ha he hj
  rcases q with ⟨g, y, z⟩ | ⟨g, y, z⟩ | ⟨g, y, z⟩ | z
  · have := bd.1
    rw [k 0 (by omega)] at y
    rw [k _ (by omega)] at z
    exact h x h0 h1 (Or.inl ⟨g, y, z⟩)
  · have := bd.2.2
    rw [k 7 (by omega)] at y
    rw [k _ (by omega)] at z
    exact h x h0 h1 (Or.inr (Or.inl ⟨g, y, z⟩))
  · rw [k 1 (by omega)] at y
    unfold stR bfill at z
    by_cases w : 110 + 24 * b + a ≤ ((110 + g : Nat) : Int) ∧ ((110 + g : Nat) : Int) < 110 + 24 * b + e + 1
    · rw [if_pos w] at z
      intro v
      exact hw ⟨by omega, by rw [z]; exact v⟩
    · rw [if_neg w] at z
      exact h x h0 h1 (Or.inr (Or.inr (Or.inl ⟨g, y, z⟩)))
  · rw [k 6 (by omega)] at z
    exact h x h0 h1 (Or.inr (Or.inr (Or.inr z)))
theorem nw_stay {f : Nat → Int32} {b a e c : Int32} (bd : bd3 f) (h : NW f) : NW (sstay f b a e c) := by
  by_cases q : okS a e c ∧ isB f b ∧ ¬ wallAt f c.toInt
  · have q1 := q.1
    have q2 := q.2.1
    have q3 := bd.2.1
    unfold okS at q1
    unfold isB at q2
    unfold sstay; rw [cif_t q]
    exact nw_stR bd (by omega) (by omega) (by omega) q.2.2 h
  · unfold sstay; rw [cif_f q]; exact h
theorem nw_start {f : Nat → Int32} {c : Int32} (b : bd3 f) (h : NW f) : NW (sstart f c) := by
  by_cases q : (-1 ≤ c.toInt ∧ c.toInt ≤ 63) ∧ ¬ wallAt f c.toInt
  · intro x h0 h1 z
    have k : ∀ j : Nat, j ≠ 6 → sstart f c j = f j := fun j hj => kp_start hj
    rw [k _ (by omega)]
    rcases z with ⟨g, y, z⟩ | ⟨g, y, z⟩ | ⟨g, y, z⟩ | z
    · rw [k 0 (by omega)] at y
      rw [k _ (by omega)] at z
      exact h x h0 h1 (Or.inl ⟨g, y, z⟩)
    · rw [k 7 (by omega)] at y
      rw [k _ (by omega)] at z
      exact h x h0 h1 (Or.inr (Or.inl ⟨g, y, z⟩))
    · rw [k 1 (by omega)] at y
      rw [k _ (by omega)] at z
      exact h x h0 h1 (Or.inr (Or.inr (Or.inl ⟨g, y, z⟩)))
    · rw [(start_0 q.1 q.2).2, upd_eq] at z
      intro v
      exact q.2 ⟨by omega, by rw [z]; exact v⟩
  · unfold sstart; rw [cif_f q]; exact h
