/-! the tape -/
def byteA (v : Int32) (k : Nat) : Int32 := (v >>> (nI (24 - 8 * k) &&& 31)) &&& 255
def wr4 (t : Nat → Int32) (n : Nat) (v : Int32) : Nat → (Nat → Int32)
  | 0 => t
  | k + 1 => upd (wr4 t n v k) (n + k) (byteA v k)
def w20 (t : Nat → Int32) (n : Nat) (a b c d e : Int32) : Nat → Int32 := wr4 (wr4 (wr4 (wr4 (wr4 t n a 4) (n + 4) b 4) (n + 8) c 4) (n + 12) d 4) (n + 16) e 4
noncomputable def sfeedT (t : Nat → Int32) (td a b c d e : Int32) : Nat → Int32 := cif (td.toInt ≤ 380) (w20 t td.toInt.toNat a b c d e) t
noncomputable def sfeedN (td : Int32) : Int32 := cif (td.toInt ≤ 380) (td + 20) td
noncomputable def afeed (td : Int32) : Int32 := cif (td.toInt ≤ 380) (td + 20) (-1)
theorem byte_u (v : Int32) (k : Nat) (hk : k < 4) {s : Int32} (hs : s.toInt = 24 - 8 * (k : Int)) : ((v.toUInt32 >>> (s.toUInt32 &&& Int32.toUInt32 31)).toInt32 &&& 255) = byteA v k := by
  have es : s = nI (24 - 8 * k) := by
    rw [g5_nI (x := s) (by omega)]
    congr 1; omega
  subst es
  unfold byteA
  apply Int32.toBitVec_inj.mp
  apply BitVec.eq_of_getLsbD_eq
  intro i hi
  rw [Int32.toBitVec_and, Int32.toBitVec_and, BitVec.getLsbD_and, BitVec.getLsbD_and]
  by_cases q : i < 8
  · congr 1
    have hsh : ∀ k : Nat, k < 4 → ((nI (24 - 8 * k)).toUInt32 &&& Int32.toUInt32 31).toNat % 32 = 24 - 8 * k ∧ (((nI (24 - 8 * k) &&& 31)).toBitVec.smod 32).toNat = 24 - 8 * k := by decide +kernel
    have h1 := (hsh k hk).1
    have h2 := (hsh k hk).2
    have e1 : ((v.toUInt32 >>> ((nI (24 - 8 * k)).toUInt32 &&& Int32.toUInt32 31)).toInt32).toBitVec = v.toBitVec >>> (24 - 8 * k) := by
      show (v.toUInt32 >>> ((nI (24 - 8 * k)).toUInt32 &&& Int32.toUInt32 31)).toBitVec = _
      rw [UInt32.toBitVec_shiftRight]
      show v.toUInt32.toBitVec >>> (((nI (24 - 8 * k)).toUInt32 &&& Int32.toUInt32 31).toBitVec % 32) = _
      rw [BitVec.ushiftRight_eq']
      show v.toBitVec >>> ((((nI (24 - 8 * k)).toUInt32 &&& Int32.toUInt32 31).toBitVec % 32).toNat) = _
      rw [show (((nI (24 - 8 * k)).toUInt32 &&& Int32.toUInt32 31).toBitVec % 32).toNat = 24 - 8 * k by rw [BitVec.toNat_umod]; exact h1]
    have e2 : (v >>> (nI (24 - 8 * k) &&& 31)).toBitVec = v.toBitVec.sshiftRight (24 - 8 * k) := by
      rw [Int32.toBitVec_shiftRight, BitVec.sshiftRight_eq', h2]
    rw [e1, e2, BitVec.getLsbD_ushiftRight, BitVec.getLsbD_sshiftRight, decide_eq_false (by omega), if_pos (by omega)]
    rfl
  · have z : (255 : Int32).toBitVec.getLsbD i = false := by
      have key : ∀ i : Nat, i < 32 → ¬ i < 8 → (255 : Int32).toBitVec.getLsbD i = false := by decide +kernel
      exact key i (by omega) q
    rw [z, Bool.and_false, Bool.and_false]
theorem byte_s (v : Int32) (k : Nat) {s : Int32} (hs : s.toInt = 24 - 8 * (k : Int)) (hk : k < 4) : ((v >>> (s &&& 31)) &&& 255) = byteA v k := by
  have es : s = nI (24 - 8 * k) := by
    rw [g5_nI (x := s) (by omega)]
    congr 1; omega
  rw [es]; rfl
theorem wr_S {t g : Nat → Int32} {n k x : Nat} {v b : Int32} (h : g = wr4 t n v k) (hx : x = n + k) (hb : b = byteA v k) : upd g x b = wr4 t n v (k + 1) := by
  subst h; subst hx; subst hb; rfl
theorem feed_0 {t : Nat → Int32} {td a b c d e : Int32} (h : td.toInt ≤ 380) : sfeedT t td a b c d e = w20 t td.toInt.toNat a b c d e ∧ sfeedN td = td + 20 ∧ afeed td = td + 20 := ⟨cif_t h, cif_t h, cif_t h⟩
theorem feed_1 {t : Nat → Int32} {td a b c d e : Int32} (h : 380 < td.toInt) : sfeedT t td a b c d e = t ∧ sfeedN td = td ∧ afeed td = -1 := ⟨cif_f (by omega), cif_f (by omega), cif_f (by omega)⟩
theorem w20_of {t x1 x2 x3 x4 x5 : Nat → Int32} {td t1 t2 t3 t4 a b c d e : Int32} (h0 : 0 ≤ td.toInt) (e1 : x1 = wr4 t td.toInt.toNat a 4) (n1 : t1.toInt = td.toInt + 4) (e2 : x2 = wr4 x1 t1.toInt.toNat b 4) (n2 : t2.toInt = t1.toInt + 4) (e3 : x3 = wr4 x2 t2.toInt.toNat c 4) (n3 : t3.toInt = t2.toInt + 4) (e4 : x4 = wr4 x3 t3.toInt.toNat d 4) (n4 : t4.toInt = t3.toInt + 4) (e5 : x5 = wr4 x4 t4.toInt.toNat e 4) : x5 = w20 t td.toInt.toNat a b c d e := by
  unfold w20
  rw [e5, e4, e3, e2, e1, show t1.toInt.toNat = td.toInt.toNat + 4 by omega, show t2.toInt.toNat = td.toInt.toNat + 8 by omega, show t3.toInt.toNat = td.toInt.toNat + 12 by omega, show t4.toInt.toNat = td.toInt.toNat + 16 by omega]
theorem tp_wr4 {t : Nat → Int32} {n : Nat} {v : Int32} (h : TPI t) : ∀ k : Nat, TPI (wr4 t n v k) := by
  intro k
  induction k with
  | zero => exact h
  | succ k ih => exact tp_upd ih (g_a255 _)
theorem tp_feed {t : Nat → Int32} {td a b c d e : Int32} (h : TPI t) : TPI (sfeedT t td a b c d e) := by
  by_cases q : td.toInt ≤ 380
  · rw [(feed_0 q).1]; exact tp_wr4 (tp_wr4 (tp_wr4 (tp_wr4 (tp_wr4 h 4) 4) 4) 4) 4
  · rw [(feed_1 (by omega)).1]; exact h
noncomputable def sendN (td n : Int32) : Int32 := cif (0 ≤ n.toInt ∧ n.toInt ≤ td.toInt) n td
noncomputable def aend (td n : Int32) : Int32 := cif (0 ≤ n.toInt ∧ n.toInt ≤ td.toInt) n (-1)
theorem tend_0 {td n : Int32} (h : 0 ≤ n.toInt ∧ n.toInt ≤ td.toInt) : sendN td n = n ∧ aend td n = n := ⟨cif_t h, cif_t h⟩
theorem tend_1 {td n : Int32} (h : n.toInt < 0 ∨ td.toInt < n.toInt) : sendN td n = td ∧ aend td n = -1 := ⟨cif_f (by omega), cif_f (by omega)⟩
/-! rows of stays -/
def cellQ (x : Int32) : Int32 := if x.toInt = 255 then -1 else x
def canQ (t : Nat → Int32) (td : Int) (f : Nat → Int32) (k : Nat) : Prop := (k : Int) + 3 < td ∧ isB f (t k) ∧ okS (t (k + 1)) (t (k + 2)) (cellQ (t (k + 3))) ∧ ¬ wallAt f (cellQ (t (k + 3))).toInt
theorem cq_255 {x : Int32} (h : x.toInt = 255) : cellQ x = -1 := if_pos h
theorem cq_n {x : Int32} (h : x.toInt ≠ 255) : cellQ x = x := if_neg h
theorem cq_mk {t : Nat → Int32} {td : Int} {f : Nat → Int32} {k : Nat} {y0 y1 y2 y3 c : Int32} (e0 : t k = y0) (e1 : t (k + 1) = y1) (e2 : t (k + 2) = y2) (e3 : t (k + 3) = y3) (ec : cellQ y3 = c) : canQ t td f k ↔ ((k : Int) + 3 < td ∧ isB f y0 ∧ okS y1 y2 c ∧ ¬ wallAt f c.toInt) := by
  unfold canQ
  rw [e0, e1, e2, e3, ec]
noncomputable def rw1 (t : Nat → Int32) (td : Int) (f : Nat → Int32) (k : Nat) : Nat → Int32 := cif (canQ t td f k) (stR f (t k).toInt (t (k + 1)).toInt (t (k + 2)).toInt (cellQ (t (k + 3)))) f
noncomputable def rwS (t : Nat → Int32) (td : Int) (f : Nat → Int32) : Nat → (Nat → Int32)
  | 0 => f
  | n + 1 => rw1 t td (rwS t td f n) (4 * n)
noncomputable def rwC (t : Nat → Int32) (td : Int) (f : Nat → Int32) : Nat → Int
  | 0 => 0
  | n + 1 => rwC t td f n + cif (canQ t td (rwS t td f n) (4 * n)) 1 0
theorem rwS_S {t : Nat → Int32} {td : Int} {f : Nat → Int32} {n k : Nat} (h : 4 * n = k) : rwS t td f (n + 1) = rw1 t td (rwS t td f n) k := by subst h; rfl
theorem rwC_S {t : Nat → Int32} {td : Int} {f : Nat → Int32} {n k : Nat} (h : 4 * n = k) : rwC t td f (n + 1) = rwC t td f n + cif (canQ t td (rwS t td f n) k) 1 0 := by subst h; rfl
def rwN (td : Int32) : Nat := ((td.toInt + 3) / 4).toNat
noncomputable def srow (t : Nat → Int32) (td : Int32) (f : Nat → Int32) : Nat → Int32 := rwS t td.toInt f (rwN td)
noncomputable def arow (t : Nat → Int32) (td : Int32) (f : Nat → Int32) : Int32 := cif (td.toInt = 0) (-6) (Int32.ofInt (rwC t td.toInt f (rwN td)))
noncomputable def srowF (t : Nat → Int32) (td fd : Int32) (f : Nat → Int32) : Int32 := cif (td.toInt = 0) fd (Int32.ofInt ((rwN td : Int) - rwC t td.toInt f (rwN td)))
theorem ofInt_i {x : Int32} {n : Int} (h : x.toInt = n) : x = Int32.ofInt n := by
  subst h
  exact Int32.toInt_inj.mp (by
    have r := g5_rg x
    rw [Int32.toInt_ofInt, g5_bm (by omega) (by omega)])
theorem row_6 {t : Nat → Int32} {td fd : Int32} {f : Nat → Int32} (h : td.toInt = 0) : arow t td f = -6 ∧ srow t td f = f ∧ srowF t td fd f = fd := by
  refine ⟨cif_t h, ?_, cif_t h⟩
  unfold srow rwN
  rw [h]; rfl
theorem row_0 {t : Nat → Int32} {td fd a c g : Int32} {f : Nat → Int32} (h : td.toInt ≠ 0) (h0 : 0 ≤ td.toInt) (ha : td.toInt ≤ a.toInt) (hb : a.toInt ≤ td.toInt + 3) (h4 : a.toInt % 4 = 0) (hc : c.toInt = rwC t td.toInt f (a.toInt / 4).toNat) (hg : c.toInt + g.toInt = a.toInt / 4) : c = arow t td f ∧ rwS t td.toInt f (a.toInt / 4).toNat = srow t td f ∧ g = srowF t td fd f := by
  have e : (a.toInt / 4).toNat = rwN td := by unfold rwN; omega
  refine ⟨?_, ?_, ?_⟩
  · unfold arow; rw [cif_f h, ← e]; exact ofInt_i hc
  · unfold srow; rw [e]
  · unfold srowF; rw [cif_f h, ← e, ← hc]; exact ofInt_i (by omega)
theorem rw_stayY {t : Nat → Int32} {td : Int} {f : Nat → Int32} {k : Nat} (h : canQ t td f k) : rw1 t td f k = stR f (t k).toInt (t (k + 1)).toInt (t (k + 2)).toInt (cellQ (t (k + 3))) := by unfold rw1; exact cif_t h
theorem rw_stayN {t : Nat → Int32} {td : Int} {f : Nat → Int32} {k : Nat} (h : ¬ canQ t td f k) : rw1 t td f k = f := by unfold rw1; exact cif_f h
theorem kp_rw1 {t : Nat → Int32} {td : Int} {f : Nat → Int32} {k j : Nat} (bd : (f 1).toInt ≤ 5) (h : j < 110 ∨ 230 ≤ j) : rw1 t td f k j = f j := by
  by_cases q : canQ t td f k
  · rw [rw_stayY q]
    have q2 := q.2.1
    have q3 := q.2.2.1
    unfold isB at q2
    unfold okS at q3
    exact kp_stR (by omega) (by omega) (by omega) h
  · rw [rw_stayN q]
theorem kp_rwS {t : Nat → Int32} {td : Int} {f : Nat → Int32} (bd : (f 1).toInt ≤ 5) : ∀ n j : Nat, (j < 110 ∨ 230 ≤ j) → rwS t td f n j = f j := by
  intro n
  induction n with
  | zero => intro j _; rfl
  | succ n ih =>
    intro j hj
    show rw1 t td (rwS t td f n) (4 * n) j = f j
    rw [kp_rw1 (by rw [ih 1 (by omega)]; exact bd) hj, ih j hj]
theorem kp_row {t : Nat → Int32} {td : Int32} {f : Nat → Int32} {j : Nat} (bd : (f 1).toInt ≤ 5) (h : j < 110 ∨ 230 ≤ j) : srow t td f j = f j := kp_rwS bd _ j h
theorem nw_rwS {t : Nat → Int32} {td : Int} {f : Nat → Int32} (bd : bd3 f) (h : NW f) : ∀ n : Nat, NW (rwS t td f n) := by
  intro n
  induction n with
  | zero => exact h
  | succ n ih =>
    have k := kp_rwS (t := t) (td := td) bd.2.1 n
    have bd2 : bd3 (rwS t td f n) := ⟨by rw [k 0 (by omega)]; exact bd.1, by rw [k 1 (by omega)]; exact bd.2.1, by rw [k 7 (by omega)]; exact bd.2.2⟩
    show NW (rw1 t td (rwS t td f n) (4 * n))
    by_cases q : canQ t td (rwS t td f n) (4 * n)
    · rw [rw_stayY q]
      have q2 := q.2.1
      have q3 := q.2.2.1
      have q4 := bd2.2.1
      unfold isB at q2
      unfold okS at q3
      exact nw_stR bd2 (by omega) (by omega) (by omega) q.2.2.2 ih
    · rw [rw_stayN q]; exact ih
theorem nw_row {t : Nat → Int32} {td : Int32} {f : Nat → Int32} (bd : bd3 f) (h : NW f) : NW (srow t td f) := nw_rwS bd h _
/-! images -/
def QALL (wa : Int64) (le st : Int32) (ng : Int32) (tg : Nat → Int32) (gb : Int64) (nb : Int32) (tb : Nat → Int32) (bb : Nat → Int64) (ns : Int32) (ts : Nat → Int32) (np : Int32) (tp : Nat → Int32) (nw : Int32) (tw : Nat → Int32) (f : Nat → Int32) : Prop := QH wa le st f ∧ QG ng tg gb f ∧ QB nb tb bb f ∧ QS ns ts f ∧ QP np tp f ∧ QW nw tw f ∧ NW f
theorem bbd_cpy {t x : Nat → Int32} {n h : Int} (hn : n ≤ 5) : ∀ k : Nat, bbd (va_cpy t x 0 0 120) n h k = bbd t n h k := by
  intro k
  induction k with
  | zero => rfl
  | succ k ih =>
    show bbd (va_cpy t x 0 0 120) n h k ||| _ = bbd t n h k ||| _
    rw [ih, tget_cpyN (by omega) (by omega)]
theorem inT_cpyN {x : Int64} {f g : Nat → Int32} {N : Nat} {n : Int} (h : inT x f n) (hn : n * 5 ≤ (N : Int)) : inT x (va_cpy f g 0 0 N) n := by
  intro c h0 h1 h2
  obtain ⟨r, a, b, e⟩ := h c h0 h1 h2
  exact ⟨r, a, b, by rw [tget_cpyN hn (by omega)]; exact e⟩
theorem hall_cpy {wa : Int64} {le st : Int32} {ng : Int32} {tg : Nat → Int32} {gb : Int64} {nb : Int32} {tb : Nat → Int32} {bb : Nat → Int64} {ns : Int32} {ts : Nat → Int32} {np : Int32} {tp : Nat → Int32} {nw : Int32} {tw : Nat → Int32} {f g : Nat → Int32} {x1 x2 x3 x4 x5 : Nat → Int32} {xb : Nat → Int64} (h : QALL wa le st ng tg gb nb tb bb ns ts np tp nw tw f) (e : ∀ j : Nat, j < 340 → g j = f j) : QALL wa le st ng (va_cpy tg x1 0 0 30) gb nb (va_cpy tb x2 0 0 120) (va_cpy bb xb 0 0 24) ns (va_cpy ts x3 0 0 40) np (va_cpy tp x4 0 0 40) nw (va_cpy tw x5 0 0 36) g := by
  obtain ⟨hH, hG, hB, hS, hP, hW, hN⟩ := h
  have bd := bd3_of hG hB hP
  refine ⟨hh_c hH (fun j hj => e j (by omega)), ?_, ?_, ?_, ?_, ?_, nw_c bd (fun j hj => e j (by omega)) hN⟩
  · obtain ⟨a, b, c, d, i⟩ := hg_c hG (fun j hj => e j (by omega))
    refine ⟨a, b, ht_cpy c (by omega) (by omega) (fun _ _ _ _ => rfl), inT_cpyN d (by omega), fun r x y => ?_⟩
    rw [tget_cpyN (by omega) (by omega)]; exact i r x y
  · obtain ⟨a, b, c, d, i⟩ := hb_c hB (fun j hj => e j (by omega))
    refine ⟨a, b, ht_cpy c (by omega) (by omega) (fun _ _ _ _ => rfl), fun q hq => ?_, fun r q x y z w => ?_⟩
    · rw [cpy_atN hq, bbd_cpy (by omega)]; exact d q hq
    · rw [tget_cpyN (by omega) (by omega)]; exact i r q x y z w
  · obtain ⟨a, b, c⟩ := hs_c hS (fun j hj => e j (by omega))
    exact ⟨a, b, ht_cpy c (by omega) (by omega) (fun _ _ _ _ => rfl)⟩
  · obtain ⟨a, b, c⟩ := hp_c hP (fun j hj => e j (by omega))
    exact ⟨a, b, ht_cpy c (by omega) (by omega) (fun _ _ _ _ => rfl)⟩
  · obtain ⟨a, b, c⟩ := hwi_c hW (fun j hj => e j (by omega))
    exact ⟨a, b, ht_cpy c (by omega) (by omega) (fun _ _ _ _ => rfl)⟩
theorem hall_c {wa : Int64} {le st : Int32} {ng : Int32} {tg : Nat → Int32} {gb : Int64} {nb : Int32} {tb : Nat → Int32} {bb : Nat → Int64} {ns : Int32} {ts : Nat → Int32} {np : Int32} {tp : Nat → Int32} {nw : Int32} {tw : Nat → Int32} {f g : Nat → Int32} (h : QALL wa le st ng tg gb nb tb bb ns ts np tp nw tw f) (e : ∀ j : Nat, j < 340 → g j = f j) : QALL wa le st ng tg gb nb tb bb ns ts np tp nw tw g := by
  obtain ⟨hH, hG, hB, hS, hP, hW, hN⟩ := h
  have bd := bd3_of hG hB hP
  exact ⟨hh_c hH (fun j hj => e j (by omega)), hg_c hG (fun j hj => e j (by omega)), hb_c hB (fun j hj => e j (by omega)), hs_c hS (fun j hj => e j (by omega)), hp_c hP (fun j hj => e j (by omega)), hwi_c hW (fun j hj => e j (by omega)), nw_c bd (fun j hj => e j (by omega)) hN⟩
def QIM (k : Nat) (ke im : Nat → Int32) (wa : Int64) (le st : Int32) (ng : Int32) (tg : Nat → Int32) (gb : Int64) (nb : Int32) (tb : Nat → Int32) (bb : Nat → Int64) (ns : Int32) (ts : Nat → Int32) (np : Int32) (tp : Nat → Int32) (nw : Int32) (tw : Nat → Int32) : Prop := (ke k).toInt ≠ 0 → QALL wa le st ng tg gb nb tb bb ns ts np tp nw tw (fun j => im (5740 * k + j))
def okM (p : Int32) : Prop := 0 ≤ p.toInt ∧ p.toInt ≤ 1
def imgR (im f : Nat → Int32) (k : Nat) : Nat → Int32 := fun j => if 5740 * k ≤ j ∧ j < 5740 * k + 5740 then f (j - 5740 * k) else im j
noncomputable def simg (im f : Nat → Int32) (p : Int32) : Nat → Int32 := cif (okM p) (imgR im f p.toInt.toNat) im
noncomputable def skep (ke : Nat → Int32) (p : Int32) : Nat → Int32 := cif (okM p) (upd ke p.toInt.toNat 1) ke
noncomputable def aimg (p : Int32) : Int32 := cif (okM p) 0 (-1)
noncomputable def sback (f im ke : Nat → Int32) (p : Int32) : Nat → Int32 := cif (okM p ∧ (ke p.toInt.toNat).toInt ≠ 0) (fun j => im (5740 * p.toInt.toNat + j)) f
noncomputable def aback (ke : Nat → Int32) (p : Int32) : Int32 := cif (okM p) (cif ((ke p.toInt.toNat).toInt ≠ 0) 0 (-2)) (-1)
theorem img_0 {im f ke : Nat → Int32} {p : Int32} (h : okM p) : aimg p = 0 ∧ simg im f p = imgR im f p.toInt.toNat ∧ skep ke p = upd ke p.toInt.toNat 1 := ⟨cif_t h, cif_t h, cif_t h⟩
theorem img_1 {im f ke : Nat → Int32} {p : Int32} (h : ¬ okM p) : aimg p = -1 ∧ simg im f p = im ∧ skep ke p = ke := ⟨cif_f h, cif_f h, cif_f h⟩
theorem back_0 {f im ke : Nat → Int32} {p : Int32} (h : okM p) (h2 : (ke p.toInt.toNat).toInt ≠ 0) : aback ke p = 0 ∧ sback f im ke p = (fun j => im (5740 * p.toInt.toNat + j)) := ⟨(cif_t h).trans (cif_t h2), cif_t ⟨h, h2⟩⟩
theorem back_2 {f im ke : Nat → Int32} {p : Int32} (h : okM p) (h2 : (ke p.toInt.toNat).toInt = 0) : aback ke p = -2 ∧ sback f im ke p = f := ⟨(cif_t h).trans (cif_f (fun q => q h2)), cif_f (fun q => q.2 h2)⟩
theorem back_1 {f im ke : Nat → Int32} {p : Int32} (h : ¬ okM p) : aback ke p = -1 ∧ sback f im ke p = f := ⟨cif_f h, cif_f (fun q => h q.1)⟩
theorem okM_n {p : Int32} (h : p.toInt < 0 ∨ 1 < p.toInt) : ¬ okM p := fun q => by unfold okM at q; omega
theorem him_new {k : Nat} {p : Int32} {ke im f : Nat → Int32} {wa : Int64} {le st : Int32} {ng : Int32} {tg : Nat → Int32} {gb : Int64} {nb : Int32} {tb : Nat → Int32} {bb : Nat → Int64} {ns : Int32} {ts : Nat → Int32} {np : Int32} {tp : Nat → Int32} {nw : Int32} {tw : Nat → Int32} {x1 x2 x3 x4 x5 : Nat → Int32} {xb : Nat → Int64} (hk : p.toInt = (k : Int)) (ok : okM p) (h : QALL wa le st ng tg gb nb tb bb ns ts np tp nw tw f) : QIM k (skep ke p) (simg im f p) wa le st ng (va_cpy tg x1 0 0 30) gb nb (va_cpy tb x2 0 0 120) (va_cpy bb xb 0 0 24) ns (va_cpy ts x3 0 0 40) np (va_cpy tp x4 0 0 40) nw (va_cpy tw x5 0 0 36) := by
  intro _
  refine hall_cpy h (fun j hj => ?_)
  show simg im f p (5740 * k + j) = f j
  rw [(img_0 (ke := ke) ok).2.1]
  unfold imgR
  rw [if_pos (by omega)]
  congr 1; omega
theorem him_oth {k : Nat} {p : Int32} {ke im f : Nat → Int32} {wa : Int64} {le st : Int32} {ng : Int32} {tg : Nat → Int32} {gb : Int64} {nb : Int32} {tb : Nat → Int32} {bb : Nat → Int64} {ns : Int32} {ts : Nat → Int32} {np : Int32} {tp : Nat → Int32} {nw : Int32} {tw : Nat → Int32} (hk : p.toInt ≠ (k : Int)) (h : QIM k ke im wa le st ng tg gb nb tb bb ns ts np tp nw tw) : QIM k (skep ke p) (simg im f p) wa le st ng tg gb nb tb bb ns ts np tp nw tw := by
  by_cases ok : okM p
  · have ok2 := ok
    unfold okM at ok2
    intro q
    rw [(img_0 (im := im) (f := f) ok).2.2, upd_ne (by omega)] at q
    refine hall_c (h q) (fun j hj => ?_)
    show simg im f p (5740 * k + j) = im (5740 * k + j)
    rw [(img_0 (ke := ke) ok).2.1]
    unfold imgR
    rw [if_neg (by omega)]
  · rw [(img_1 (ke := ke) ok).2.1, (img_1 (im := im) (f := f) ok).2.2]; exact h
theorem him_0 {k : Nat} {ke im : Nat → Int32} {wa : Int64} {le st : Int32} {ng : Int32} {tg : Nat → Int32} {gb : Int64} {nb : Int32} {tb : Nat → Int32} {bb : Nat → Int64} {ns : Int32} {ts : Nat → Int32} {np : Int32} {tp : Nat → Int32} {nw : Int32} {tw : Nat → Int32} (h : (ke k).toInt = 0) : QIM k ke im wa le st ng tg gb nb tb bb ns ts np tp nw tw := fun q => absurd h q
theorem hall_back {k : Nat} {p : Int32} {ke im f : Nat → Int32} {wa : Int64} {le st : Int32} {ng : Int32} {tg : Nat → Int32} {gb : Int64} {nb : Int32} {tb : Nat → Int32} {bb : Nat → Int64} {ns : Int32} {ts : Nat → Int32} {np : Int32} {tp : Nat → Int32} {nw : Int32} {tw : Nat → Int32} {x1 x2 x3 x4 x5 : Nat → Int32} {xb : Nat → Int64} (hk : p.toInt = (k : Int)) (ok : okM p) (hne : (ke k).toInt ≠ 0) (h : QIM k ke im wa le st ng tg gb nb tb bb ns ts np tp nw tw) : QALL wa le st ng (va_cpy tg x1 0 0 30) gb nb (va_cpy tb x2 0 0 120) (va_cpy bb xb 0 0 24) ns (va_cpy ts x3 0 0 40) np (va_cpy tp x4 0 0 40) nw (va_cpy tw x5 0 0 36) (sback f im ke p) := by
  have ek : p.toInt.toNat = k := by omega
  refine hall_cpy (h hne) (fun j hj => ?_)
  rw [(back_0 ok (by rw [ek]; exact hne)).2, ek]
/-- the row at first -/
theorem hall_start {f : Nat → Int32} (h4 : f 4 = 1000) (h6 : f 6 = -1) (e : ∀ j : Nat, j ≠ 3 → j ≠ 4 → j ≠ 6 → f j = 0) {tg tb ts tp tw : Nat → Int32} : QALL 0 1000 (-1) 0 tg 0 0 tb (fun _ => 0) 0 ts 0 tp 0 tw f := by
  have z0 : (0 : Int32).toInt = 0 := (by decide)
  have e0 : f 0 = 0 := e 0 (by omega) (by omega) (by omega)
  have e1 : f 1 = 0 := e 1 (by omega) (by omega) (by omega)
  have e7 : f 7 = 0 := e 7 (by omega) (by omega) (by omega)
  refine ⟨⟨fun c hc => ?_, h4, h6⟩, ⟨by decide, e0, fun r c hr _ => absurd hr (by rw [z0]; omega), inT_zero, fun r a b => absurd b (by rw [z0]; omega)⟩, ⟨by decide, e1, fun r c hr _ => absurd hr (by rw [z0]; omega), fun c hc => rfl, fun r c a b _ _ => absurd b (by rw [z0]; omega)⟩, ⟨by decide, e 5 (by omega) (by omega) (by omega), fun r c hr _ => absurd hr (by rw [z0]; omega)⟩, ⟨by decide, e7, fun r c hr _ => absurd hr (by rw [z0]; omega)⟩, ⟨by decide, e 8 (by omega) (by omega) (by omega), fun r c hr _ => absurd hr (by rw [z0]; omega)⟩, ?_⟩
  · rw [e _ (by omega) (by omega) (by omega), onB_zero, if_neg (by decide)]; exact z0
  · intro c h0 h1 q
    rw [e _ (by omega) (by omega) (by omega), z0]; omega
