/-! sums of rows; rows ahead and behind, hour by hour, and their number -/
theorem sumF_add (f g : Nat → Int64) : ∀ n : Nat, sumF (fun i => f i + g i) n = sumF f n + sumF g n := by
  intro n
  induction n with
  | zero => rfl
  | succ n ih =>
    show sumF (fun i => f i + g i) n + (f n + g n) = (sumF f n + f n) + (sumF g n + g n)
    rw [ih, Int64.add_assoc, Int64.add_assoc]; congr 1
    rw [← Int64.add_assoc, ← Int64.add_assoc, Int64.add_comm (sumF g n)]
theorem sumF_mul (a : Int64) (f : Nat → Int64) : ∀ n : Nat, sumF (fun i => a * f i) n = a * sumF f n := by
  intro n
  induction n with
  | zero => exact Int64.mul_zero.symm
  | succ n ih =>
    show sumF (fun i => a * f i) n + a * f n = a * (sumF f n + f n)
    rw [ih, Int64.mul_add]
theorem sumF_zero : ∀ n : Nat, sumF (fun _ => 0) n = 0 := by
  intro n
  induction n with
  | zero => rfl
  | succ n ih =>
    show sumF (fun _ => 0) n + 0 = 0
    rw [ih, Int64.add_zero]
theorem sumF_swap (f : Nat → Nat → Int64) (m : Nat) : ∀ n : Nat, sumF (fun i => sumF (fun j => f i j) m) n = sumF (fun j => sumF (fun i => f i j) n) m := by
  intro n
  induction n with
  | zero => exact (sumF_zero m).symm
  | succ n ih =>
    show sumF (fun i => sumF (fun j => f i j) m) n + sumF (fun j => f n j) m = sumF (fun j => sumF (fun i => f i j) n + f n j) m
    rw [ih, ← sumF_add]
theorem sumF_pick (f : Nat → Int64) (x : Int) : ∀ n : Nat, sumF (fun d => (if x = (d : Int) then (1 : Int64) else 0) * f d) n = if 0 ≤ x ∧ x < (n : Int) then f x.toNat else 0 := by
  intro n
  induction n with
  | zero =>
    show (0 : Int64) = if 0 ≤ x ∧ x < ((0 : Nat) : Int) then f x.toNat else 0
    rw [if_neg (by omega)]
  | succ n ih =>
    show sumF (fun d => (if x = (d : Int) then (1 : Int64) else 0) * f d) n + (if x = (n : Int) then (1 : Int64) else 0) * f n = _
    rw [ih]
    by_cases e : x = (n : Int)
    · rw [if_neg (by omega), if_pos e, if_pos (by omega), Int64.zero_add, Int64.one_mul, show x.toNat = n by omega]
    · rw [if_neg e, Int64.zero_mul, Int64.add_zero]
      by_cases q : 0 ≤ x ∧ x < (n : Int)
      · rw [if_pos q, if_pos (by omega)]
      · rw [if_neg q, if_neg (by omega)]
/-- the ways from c to d -/
def kS (c : Int) (d : Nat) : Nat → Int64
  | 0 => 0
  | w + 1 => kS c d w + (if bs c w = (d : Int) then (1 : Int64) else 0)
theorem kS_symN : ∀ c : Nat, c < 64 → ∀ d : Nat, d < 64 → kS (c : Int) d 5 = kS (d : Int) c 5 := by decide +kernel
theorem psum_kS (f : Nat → Int64) {c : Int} (h0 : 0 ≤ c) (h1 : c ≤ 63) : ∀ n : Nat, psum f c n = sumF (fun d => kS c d n * f d) 64 := by
  intro n
  induction n with
  | zero =>
    show (0 : Int64) = sumF (fun d => 0 * f d) 64
    rw [show (fun d => 0 * f d) = (fun _ => (0 : Int64)) from funext fun d => Int64.zero_mul, sumF_zero]
  | succ n ih =>
    have hb := bs_lo (w := n) h0 h1
    have e : (fun d : Nat => kS c d (n + 1) * f d) = (fun d : Nat => kS c d n * f d + (if bs c n = (d : Int) then (1 : Int64) else 0) * f d) := by
      funext d
      show (kS c d n + (if bs c n = (d : Int) then (1 : Int64) else 0)) * f d = _
      rw [Int64.add_mul]
    rw [e, sumF_add (fun d : Nat => kS c d n * f d) (fun d : Nat => (if bs c n = (d : Int) then (1 : Int64) else 0) * f d), ← ih, sumF_pick]
    show (if bs c n = -1 then psum f c n else psum f c n + f (bs c n).toNat) = _
    by_cases z : bs c n = -1
    · rw [if_pos z, if_neg (by omega), Int64.add_zero]
    · rw [if_neg z, if_pos (by omega)]
def gF (fr : Nat → Nat → Bool) : Nat → Nat → Int64
  | 0 => fun c => if fr 0 c = true then 1 else 0
  | t + 1 => fun d => if fr (t + 1) d = true then psum (gF fr t) d 5 else 0
def gB (fr : Nat → Nat → Bool) : Nat → Nat → Int64
  | 0 => fun _ => 1
  | n + 1 => fun c => psum (fun d => if fr (23 - n) d = true then gB fr n d else 0) c 5
def gX (fr : Nat → Nat → Bool) (n d : Nat) : Int64 := if fr (23 - n) d = true then gB fr n d else 0
theorem g_inv (fr : Nat → Nat → Bool) {t n : Nat} (h : t + 1 + n = 23) : sumF (fun c => gF fr t c * gB fr (n + 1) c) 64 = sumF (fun d => gF fr (t + 1) d * gB fr n d) 64 := by
  have e1 : sumF (fun c => gF fr t c * gB fr (n + 1) c) 64 = sumF (fun c => sumF (fun d => gF fr t c * (kS (c : Int) d 5 * gX fr n d)) 64) 64 := by
    refine sumF_congr fun c hc => ?_
    show gF fr t c * psum (gX fr n) (c : Int) 5 = sumF (fun d => gF fr t c * (kS (c : Int) d 5 * gX fr n d)) 64
    rw [psum_kS (gX fr n) (by omega) (by omega)]
    exact (sumF_mul (gF fr t c) (fun d => kS (c : Int) d 5 * gX fr n d) 64).symm
  have e2 : sumF (fun d => gF fr (t + 1) d * gB fr n d) 64 = sumF (fun d => sumF (fun c => gF fr t c * (kS (c : Int) d 5 * gX fr n d)) 64) 64 := by
    refine sumF_congr fun d hd => ?_
    have e3 : gF fr (t + 1) d * gB fr n d = gX fr n d * psum (gF fr t) (d : Int) 5 := by
      show (if fr (t + 1) d = true then psum (gF fr t) (d : Int) 5 else 0) * gB fr n d = (if fr (23 - n) d = true then gB fr n d else 0) * psum (gF fr t) (d : Int) 5
      rw [show 23 - n = t + 1 by omega]
      by_cases z : fr (t + 1) d = true
      · rw [if_pos z, if_pos z, Int64.mul_comm]
      · rw [if_neg z, if_neg z, Int64.zero_mul, Int64.zero_mul]
    show gF fr (t + 1) d * gB fr n d = sumF (fun c => gF fr t c * (kS (c : Int) d 5 * gX fr n d)) 64
    rw [e3, psum_kS (gF fr t) (by omega) (by omega)]
    refine (sumF_mul (gX fr n d) (fun c => kS (d : Int) c 5 * gF fr t c) 64).symm.trans ?_
    refine sumF_congr fun c hc => ?_
    show gX fr n d * (kS (d : Int) c 5 * gF fr t c) = gF fr t c * (kS (c : Int) d 5 * gX fr n d)
    rw [kS_symN d hd c hc, Int64.mul_comm (gX fr n d), Int64.mul_comm (kS (c : Int) d 5) (gF fr t c), Int64.mul_assoc]
  exact e1.trans ((sumF_swap (fun c d => gF fr t c * (kS (c : Int) d 5 * gX fr n d)) 64 64).trans e2.symm)
theorem g_tot (fr : Nat → Nat → Bool) : ∀ n : Nat, n ≤ 23 → sumF (fun c => gF fr (23 - n) c * gB fr n c) 64 = sumF (gF fr 23) 64 := by
  intro n
  induction n with
  | zero => intro _; exact sumF_congr fun c _ => Int64.mul_one _
  | succ n ih =>
    intro h
    rw [g_inv fr (t := 23 - (n + 1)) (n := n) (by omega), show 23 - (n + 1) + 1 = 23 - n by omega]
    exact ih (by omega)
theorem gF_congr {fr fs : Nat → Nat → Bool} {T : Nat} (h : ∀ t c : Nat, t ≤ T → c < 64 → fr t c = fs t c) : ∀ t : Nat, t ≤ T → ∀ c : Nat, c < 64 → gF fr t c = gF fs t c := by
  intro t
  induction t with
  | zero => intro ht c hc; show (if fr 0 c = true then (1 : Int64) else 0) = if fs 0 c = true then 1 else 0; rw [h 0 c ht hc]
  | succ t ih =>
    intro ht c hc
    show (if fr (t + 1) c = true then psum (gF fr t) (c : Int) 5 else 0) = if fs (t + 1) c = true then psum (gF fs t) (c : Int) 5 else 0
    rw [h (t + 1) c ht hc, psum_congr (ih (by omega)) (by omega) (by omega)]
theorem gB_congr {fr fs : Nat → Nat → Bool} {T : Nat} (h : ∀ t c : Nat, T < t → t ≤ 23 → c < 64 → fr t c = fs t c) : ∀ n : Nat, n + T ≤ 23 → ∀ c : Nat, c < 64 → gB fr n c = gB fs n c := by
  intro n
  induction n with
  | zero => intro _ c _; rfl
  | succ n ih =>
    intro hn c hc
    show psum (fun d => if fr (23 - n) d = true then gB fr n d else 0) (c : Int) 5 = psum (fun d => if fs (23 - n) d = true then gB fs n d else 0) (c : Int) 5
    refine psum_congr (fun d hd => ?_) (by omega) (by omega) 5
    show (if fr (23 - n) d = true then gB fr n d else 0) = if fs (23 - n) d = true then gB fs n d else 0
    rw [h (23 - n) d (by omega) (by omega) hd, ih (by omega) d hd]
/-- where the class's boards leave a thief free -/
def frB (b : Nat → Int64) (t c : Nat) : Bool := !(onB (b t) (c : Int))
/-- where the model's meets do -/
def frM (M : Nat → Int32) (t c : Nat) : Bool := decide ((M (64 * t + c)).toInt < 64)
theorem itF_gF (b : Nat → Int64) : ∀ t : Nat, itF b t = gF (frB b) t := by
  intro t
  induction t with
  | zero =>
    funext c
    show (if onB (b 0) (c : Int) = true then (0 : Int64) else 1) = if (!(onB (b 0) (c : Int))) = true then 1 else 0
    cases onB (b 0) (c : Int) <;> rfl
  | succ t ih =>
    funext c
    show (if onB (b (t + 1)) (c : Int) = true then (0 : Int64) else psum (itF b t) (c : Int) 5) = if (!(onB (b (t + 1)) (c : Int))) = true then psum (gF (frB b) t) (c : Int) 5 else 0
    rw [ih]
    cases onB (b (t + 1)) (c : Int) <;> rfl
theorem cntF_gF (b : Nat → Int64) : cntF b = sumF (gF (frB b) 23) 64 := by
  unfold cntF; rw [itF_gF]
theorem stF_iff {M : Nat → Int32} {c w : Int} {h d : Nat} : stF M c w ((h : Int) + 1) = (d : Int) ↔ bs c w = (d : Int) ∧ frM M (h + 1) d = true := by
  unfold stF frM
  have e : ∀ x : Int, x = (d : Int) → (64 * ((h : Int) + 1) + x).toNat = 64 * (h + 1) + d := by intro x hx; omega
  rw [decide_eq_true_iff]
  constructor
  · intro q
    split at q
    · rename_i z
      rw [e _ q] at z
      exact ⟨q, z.2⟩
    · omega
  · rintro ⟨a, b⟩
    rw [if_pos ⟨by omega, by rw [e _ a]; exact b⟩]; exact a
theorem addW_kS {M : Nat → Int32} {c : Int} {h d : Nat} {v x : Int64} : ∀ k : Nat, addW M (h : Int) c (d : Int) v x k = v + (if frM M (h + 1) d = true then kS c d k * x else 0) := by
  intro k
  induction k with
  | zero =>
    show v = v + (if frM M (h + 1) d = true then 0 * x else 0)
    rw [Int64.zero_mul]
    split <;> exact (Int64.add_zero v).symm
  | succ k ih =>
    unfold addW
    rw [ih]
    by_cases z : frM M (h + 1) d = true
    · rw [if_pos z, if_pos z]
      show _ = v + (kS c d k + (if bs c k = (d : Int) then (1 : Int64) else 0)) * x
      by_cases y : bs c k = (d : Int)
      · rw [if_pos (stF_iff.mpr ⟨y, z⟩), if_pos y, Int64.add_mul, Int64.one_mul, Int64.add_assoc]
      · rw [if_neg (fun q => y (stF_iff.mp q).1), if_neg y, Int64.add_zero]
    · rw [if_neg z, if_neg z, if_neg (fun q => z (stF_iff.mp q).2)]
theorem puS_sum {M : Nat → Int32} {h d : Nat} {g : Int → Int64} : ∀ n : Nat, puS M (h : Int) g (d : Int) n = if frM M (h + 1) d = true then sumF (fun c => kS (c : Int) d 5 * g (c : Int)) n else 0 := by
  intro n
  induction n with
  | zero =>
    show (0 : Int64) = if frM M (h + 1) d = true then 0 else 0
    split <;> rfl
  | succ n ih =>
    show addW M (h : Int) (n : Int) (d : Int) (puS M (h : Int) g (d : Int) n) (g (n : Int)) 5 = _
    rw [addW_kS, ih]
    by_cases z : frM M (h + 1) d = true
    · rw [if_pos z, if_pos z, if_pos z] <;> rfl
    · rw [if_neg z, if_neg z, if_neg z, Int64.add_zero]
theorem aF_gF (M : Nat → Int32) : ∀ t c : Nat, c < 64 → aF M t (c : Int) 0 = gF (frM M) t c := by
  intro t
  induction t with
  | zero =>
    intro c hc
    show (if (0 : Int) = 0 ∧ (M ((c : Int)).toNat).toInt < 64 then (1 : Int64) else 0) = if decide ((M (64 * 0 + c)).toInt < 64) = true then 1 else 0
    rw [show ((c : Int)).toNat = 64 * 0 + c by omega]
    by_cases z : (M (64 * 0 + c)).toInt < 64
    · rw [if_pos ⟨rfl, z⟩, if_pos (decide_eq_true z)]
    · rw [if_neg (fun q => z q.2), if_neg (fun q => z (of_decide_eq_true q))]
  | succ t ih =>
    intro d hd
    show puS M (t : Int) (fun c => aF M t c 0) (d : Int) 64 = if frM M (t + 1) d = true then psum (gF (frM M) t) (d : Int) 5 else 0
    rw [psum_kS (gF (frM M) t) (by omega) (by omega)]
    have e : sumF (fun c => kS (c : Int) d 5 * aF M t (c : Int) 0) 64 = sumF (fun c => kS (d : Int) c 5 * gF (frM M) t c) 64 := by
      refine sumF_congr fun c hc => ?_
      show kS (c : Int) d 5 * aF M t (c : Int) 0 = kS (d : Int) c 5 * gF (frM M) t c
      rw [ih c hc, kS_symN c hc d hd]
    refine (puS_sum (M := M) (h := t) (d := d) (g := fun c => aF M t c 0) 64).trans ?_
    show (if frM M (t + 1) d = true then sumF (fun c => kS (c : Int) d 5 * aF M t (c : Int) 0) 64 else 0) = _
    rw [e]
theorem aF_zero (M : Nat → Int32) {q : Int} (hq : q ≠ 0) : ∀ t c : Nat, aF M t (c : Int) q = 0 := by
  intro t
  induction t with
  | zero =>
    intro c
    show (if q = 0 ∧ (M ((c : Int)).toNat).toInt < 64 then (1 : Int64) else 0) = 0
    rw [if_neg (fun z => hq z.1)]
  | succ t ih =>
    intro d
    show puS M (t : Int) (fun c => aF M t c q) (d : Int) 64 = 0
    refine (puS_sum (M := M) (h := t) (d := d) (g := fun c => aF M t c q) 64).trans ?_
    have e : sumF (fun c => kS (c : Int) d 5 * aF M t (c : Int) q) 64 = 0 := by
      rw [show (fun c : Nat => kS (c : Int) d 5 * aF M t (c : Int) q) = (fun _ => (0 : Int64)) from funext fun c => by rw [ih c, Int64.mul_zero], sumF_zero]
    split
    · exact e
    · rfl
theorem psB_psum {M : Nat → Int32} {h : Nat} {g : Int → Int64} {c : Int} (h0 : 0 ≤ c) (h1 : c ≤ 63) : ∀ k : Nat, psB M (h : Int) g c k = psum (fun d => if frM M (h + 1) d = true then g (d : Int) else 0) c k := by
  intro k
  induction k with
  | zero => rfl
  | succ k ih =>
    have hb := bs_lo (w := k) h0 h1
    show (if stF M c k ((h : Int) + 1) = -1 then psB M (h : Int) g c k else psB M (h : Int) g c k + g (stF M c k ((h : Int) + 1))) = (if bs c k = -1 then psum (fun d => if frM M (h + 1) d = true then g (d : Int) else 0) c k else psum (fun d => if frM M (h + 1) d = true then g (d : Int) else 0) c k + (if frM M (h + 1) (bs c k).toNat = true then g (((bs c k).toNat : Nat) : Int) else 0))
    rw [ih]
    by_cases z : bs c k = -1
    · have e : stF M c k ((h : Int) + 1) = -1 := g5_stF1 z
      rw [if_pos e, if_pos z]
    · rw [if_neg z]
      have eb : bs c k = (((bs c k).toNat : Nat) : Int) := by omega
      by_cases y : frM M (h + 1) (bs c k).toNat = true
      · have e : stF M c k ((h : Int) + 1) = (((bs c k).toNat : Nat) : Int) := stF_iff.mpr ⟨eb, y⟩
        rw [if_neg (by omega), if_pos y, e]
      · have e : stF M c k ((h : Int) + 1) = -1 := by
          rcases stF_rng (M := M) (k := (k : Int)) (h := (h : Int) + 1) h0 h1 with q | q
          · exact q
          · have q2 : stF M c k ((h : Int) + 1) = (((stF M c k ((h : Int) + 1)).toNat : Nat) : Int) := by omega
            have q3 := stF_iff.mp q2
            have q4 : (stF M c k ((h : Int) + 1)).toNat = (bs c k).toNat := by have := q3.1; omega
            have q5 := q3.2
            rw [q4] at q5
            exact absurd q5 y
        rw [if_pos e, if_neg y, Int64.add_zero]
theorem bG_gB (M : Nat → Int32) : ∀ n : Nat, n ≤ 23 → ∀ c : Nat, c < 64 → bG M n (c : Int) 0 = gB (frM M) n c := by
  intro n
  induction n with
  | zero => intro _ c _; rfl
  | succ n ih =>
    intro hn c hc
    show psB M (22 - (n : Int)) (fun d => bG M n d 0) (c : Int) 5 = psum (fun d => if frM M (23 - n) d = true then gB (frM M) n d else 0) (c : Int) 5
    rw [show (22 - (n : Int)) = ((22 - n : Nat) : Int) by omega, psB_psum (by omega) (by omega), show 22 - n + 1 = 23 - n by omega]
    refine psum_congr (fun d hd => ?_) (by omega) (by omega) 5
    show (if frM M (23 - n) d = true then bG M n (d : Int) 0 else 0) = if frM M (23 - n) d = true then gB (frM M) n d else 0
    rw [ih (by omega) d hd]
def isE (M : Nat → Int32) (e : Nat → Int64) : Prop := ∀ (t : Nat) (c q : Int), (t : Int) ≤ 23 → 0 ≤ c → c ≤ 63 → 0 ≤ q → q < 32 → fz e (32 * (64 * (t : Int) + c) + q) = aF M t c q
def isD (M : Nat → Int32) (d : Nat → Int64) : Prop := ∀ (t : Nat) (c q : Int), (t : Int) ≤ 23 → 0 ≤ c → c ≤ 63 → 0 ≤ q → q < 32 → fz d (32 * (64 * (t : Int) + c) + q) = bG M (23 - t) c q
theorem rw_at {M : Nat → Int32} {e d : Nat → Int64} (hE : isE M e) (hD : isD M d) {t c : Nat} (ht : t ≤ 23) (hc : c < 64) : rwF e d (32 * (64 * (t : Int) + (c : Int))) 32 = gF (frM M) t c * gB (frM M) (23 - t) c := by
  have k : ∀ n : Nat, n < 32 → rwF e d (32 * (64 * (t : Int) + (c : Int))) (n + 1) = gF (frM M) t c * gB (frM M) (23 - t) c := by
    intro n
    induction n with
    | zero =>
      intro _
      show (0 : Int64) + fz e (32 * (64 * (t : Int) + (c : Int)) + ((0 : Nat) : Int)) * fz d (32 * (64 * (t : Int) + (c : Int)) + ((0 : Nat) : Int)) = _
      rw [hE t c ((0 : Nat) : Int) (by omega) (by omega) (by omega) (by omega) (by omega), hD t c ((0 : Nat) : Int) (by omega) (by omega) (by omega) (by omega) (by omega), Int64.zero_add]
      show aF M t (c : Int) 0 * bG M (23 - t) (c : Int) 0 = _
      rw [aF_gF M t c hc, bG_gB M (23 - t) (by omega) c hc]
    | succ n ih =>
      intro hn
      show rwF e d (32 * (64 * (t : Int) + (c : Int))) (n + 1) + fz e (32 * (64 * (t : Int) + (c : Int)) + ((n + 1 : Nat) : Int)) * fz d (32 * (64 * (t : Int) + (c : Int)) + ((n + 1 : Nat) : Int)) = _
      rw [ih (by omega), hE t c ((n + 1 : Nat) : Int) (by omega) (by omega) (by omega) (by omega) (by omega), aF_zero M (by omega), Int64.zero_mul, Int64.add_zero]
  exact k 31 (by omega)
theorem ar_sum {M : Nat → Int32} {e d : Nat → Int64} (hE : isE M e) (hD : isD M d) : ∀ n : Nat, n ≤ 64 → arF e d n = sumF (fun c => gF (frM M) 0 c * gB (frM M) 23 c) n := by
  intro n
  induction n with
  | zero => intro _; rfl
  | succ n ih =>
    intro h
    have k : rwF e d (32 * (n : Int)) 32 = gF (frM M) 0 n * gB (frM M) 23 n := by
      have k0 := rw_at hE hD (t := 0) (c := n) (by omega) (by omega)
      rw [show (64 * ((0 : Nat) : Int) + (n : Int)) = (n : Int) by omega] at k0
      exact k0
    show arF e d n + rwF e d (32 * (n : Int)) 32 = sumF (fun c => gF (frM M) 0 c * gB (frM M) 23 c) n + gF (frM M) 0 n * gB (frM M) 23 n
    rw [ih (by omega), k]
theorem ar_cnt {M : Nat → Int32} {e d b : Nat → Int64} (hE : isE M e) (hD : isD M d) (h : ∀ t c : Nat, t ≤ 23 → c < 64 → frM M t c = frB b t c) : arF e d 64 = cntF b := by
  have e2 : sumF (gF (frM M) 23) 64 = sumF (gF (frB b) 23) 64 := sumF_congr (fun c hc => gF_congr h 23 (by omega) c hc)
  rw [ar_sum hE hD 64 (by omega), cntF_gF, ← e2]
  exact g_tot (frM M) 23 (by omega)
theorem frM_zero (t c : Nat) : frM (fun _ => 0) t c = true := by
  show decide ((0 : Int32).toInt < 64) = true
  decide
theorem onB_zero (c : Int) : onB 0 c = false := by unfold onB; simp
theorem g5_fitsA {e d : Nat → Int64} (hE : isE (fun _ => 0) e) (hD : isD (fun _ => 0) d) : arF e d 64 = cntF (fun _ => 0) := by
  refine ar_cnt hE hD fun t c _ _ => ?_
  rw [frM_zero]
  show true = !(onB 0 (c : Int))
  rw [onB_zero] <;> rfl
theorem pt64_ray {h : Int} {g : Nat → Int} (hh : 0 ≤ h) {n : Nat} (hg : ∀ j, j < n → 0 ≤ g j ∧ g j ≤ 63) : ∀ (k x : Nat), x < 64 → (64 ≤ (pt64 h g n (64 * k + x)).toInt ↔ ((k : Int) = h ∧ onB (rayN 0 g n) x = true)) := by
  induction n with
  | zero =>
    intro k x hx
    show 64 ≤ (0 : Int32).toInt ↔ ((k : Int) = h ∧ onB 0 x = true)
    rw [onB_zero]
    constructor
    · intro q; exact absurd q (by decide)
    · rintro ⟨_, q⟩; exact absurd q (by decide)
  | succ n ih =>
    intro k x hx
    have ih := ih (fun j hj => hg j (by omega)) k x hx
    have hgn := hg n (by omega)
    unfold pt64 rayN upd
    rw [onB_or _ hgn.1 hgn.2 (by omega) (by omega)]
    by_cases e : 64 * k + x = (h * 64 + g n).toNat
    · rw [if_pos e]
      have h1 : (k : Int) = h := by omega
      have h2 : (x : Int) = g n := by omega
      constructor
      · intro _; exact ⟨h1, by rw [decide_eq_true h2, Bool.or_true]⟩
      · intro _; decide
    · rw [if_neg e, ih]
      constructor
      · rintro ⟨a, b⟩; exact ⟨a, by rw [b, Bool.true_or]⟩
      · rintro ⟨a, b⟩
        refine ⟨a, ?_⟩
        rw [Bool.or_eq_true] at b
        rcases b with b | b
        · exact b
        · have := of_decide_eq_true b; omega
theorem g5_tellsA {M : Nat → Int32} {e d : Nat → Int64} {h : Int} {g : Nat → Int} {n : Nat} (hM : M = pt64 h g n) (hE : isE M e) (hD : isD M d) (hh : 0 ≤ h) (hg : ∀ j, j < n → 0 ≤ g j ∧ g j ≤ 63) : arF e d 64 = cntF (vp_updL (fun _ => 0) h.toNat (rayN 0 g n)) := by
  refine ar_cnt hE hD fun t c _ hc => ?_
  have k := pt64_ray hh hg t c hc
  rw [hM]
  unfold frM frB vp_updL
  by_cases e : t = h.toNat
  · rw [if_pos e]
    cases q : onB (rayN 0 g n) (c : Int)
    · rw [q] at k
      exact decide_eq_true (Int.not_le.mp fun z => absurd (k.mp z).2 (by decide))
    · exact decide_eq_false (fun z => by have := k.mpr ⟨by omega, q⟩; omega)
  · rw [if_neg e, onB_zero]
    exact decide_eq_true (Int.not_le.mp fun z => e (by have := (k.mp z).1; omega))
theorem onB_but : ∀ c : Nat, c < 64 → ∀ x : Nat, x < 64 → onB (bitI (c : Int) ^^^ (-1)) (x : Int) = decide (x ≠ c) := by decide +kernel
/-- all rows that are in c at hour h -/
theorem cnt_at {h c : Nat} (hh : h ≤ 23) (hc : c < 64) : cntF (vp_updL (fun _ => 0) h (bitI (c : Int) ^^^ (-1))) = gF (fun _ _ => true) h c * gB (fun _ _ => true) (23 - h) c := by
  have fr0 : ∀ t x : Nat, t ≠ h → frB (vp_updL (fun _ => 0) h (bitI (c : Int) ^^^ (-1))) t x = true := by
    intro t x e
    unfold frB vp_updL; rw [if_neg e, onB_zero] <;> rfl
  have fr1 : ∀ x : Nat, x < 64 → frB (vp_updL (fun _ => 0) h (bitI (c : Int) ^^^ (-1))) h x = decide (x = c) := by
    intro x hx
    unfold frB vp_updL; rw [if_pos rfl, onB_but c hc x hx]
    by_cases e : x = c <;> simp [e]
  rw [cntF_gF, ← g_tot _ (23 - h) (by omega), show 23 - (23 - h) = h by omega]
  have e1 : ∀ x : Nat, x < 64 → gF (frB (vp_updL (fun _ => 0) h (bitI (c : Int) ^^^ (-1)))) h x = if (c : Int) = (x : Int) then gF (fun _ _ => true) h x else 0 := by
    intro x hx
    cases h with
    | zero =>
      show (if frB (vp_updL (fun _ => 0) 0 (bitI (c : Int) ^^^ (-1))) 0 x = true then (1 : Int64) else 0) = if (c : Int) = (x : Int) then 1 else 0
      rw [fr1 x hx]
      by_cases e : x = c
      · rw [if_pos (decide_eq_true e), if_pos (by omega)]
      · rw [if_neg (fun z => e (of_decide_eq_true z)), if_neg (by omega)]
    | succ t =>
      show (if frB (vp_updL (fun _ => 0) (t + 1) (bitI (c : Int) ^^^ (-1))) (t + 1) x = true then psum (gF (frB (vp_updL (fun _ => 0) (t + 1) (bitI (c : Int) ^^^ (-1)))) t) (x : Int) 5 else 0) = if (c : Int) = (x : Int) then psum (gF (fun _ _ => true) t) (x : Int) 5 else 0
      rw [fr1 x hx, psum_congr (gF_congr (T := t) (fs := fun _ _ => true) (fun t' c' h1 _ => fr0 t' c' (by omega)) t (by omega)) (by omega) (by omega)]
      by_cases e : x = c
      · rw [if_pos (decide_eq_true e), if_pos (by omega)]
      · rw [if_neg (fun z => e (of_decide_eq_true z)), if_neg (by omega)]
  have e2 : sumF (fun x => gF (frB (vp_updL (fun _ => 0) h (bitI (c : Int) ^^^ (-1)))) h x * gB (frB (vp_updL (fun _ => 0) h (bitI (c : Int) ^^^ (-1)))) (23 - h) x) 64 = sumF (fun x => (if (c : Int) = (x : Int) then (1 : Int64) else 0) * (gF (fun _ _ => true) h x * gB (fun _ _ => true) (23 - h) x)) 64 := by
    refine sumF_congr fun x hx => ?_
    show gF (frB (vp_updL (fun _ => 0) h (bitI (c : Int) ^^^ (-1)))) h x * gB (frB (vp_updL (fun _ => 0) h (bitI (c : Int) ^^^ (-1)))) (23 - h) x = (if (c : Int) = (x : Int) then (1 : Int64) else 0) * (gF (fun _ _ => true) h x * gB (fun _ _ => true) (23 - h) x)
    rw [e1 x hx, gB_congr (T := h) (fs := fun _ _ => true) (fun t' c' h1 _ _ => fr0 t' c' (by omega)) (23 - h) (by omega) x hx]
    by_cases e : (c : Int) = (x : Int)
    · rw [if_pos e, if_pos e, Int64.one_mul]
    · rw [if_neg e, if_neg e, Int64.zero_mul, Int64.zero_mul]
  rw [e2, sumF_pick (fun x => gF (fun _ _ => true) h x * gB (fun _ _ => true) (23 - h) x) (c : Int) 64, if_pos (by omega)] <;> rfl
theorem frM_true : frM (fun _ => 0) = fun _ _ => true := by funext t c; exact frM_zero t c
theorem g5_couldA {e d : Nat → Int64} {r : Int64} {h c : Int} (hE : isE (fun _ => 0) e) (hD : isD (fun _ => 0) d) (hr : r = rwF e d (32 * (64 * h + c)) 32) (h0 : 0 ≤ h) (h1 : h ≤ 23) (c0 : 0 ≤ c) (c1 : c ≤ 63) : r = spL_could h c := by
  have k := rw_at hE hD (t := h.toNat) (c := c.toNat) (by omega) (by omega)
  have k2 := cnt_at (h := h.toNat) (c := c.toNat) (by omega) (by omega)
  rw [Int.toNat_of_nonneg h0, Int.toNat_of_nonneg c0, frM_true] at k
  rw [Int.toNat_of_nonneg c0] at k2
  unfold spL_could
  rw [if_pos (by omega), if_neg (by omega), hr, k, k2]
/-! bounds -/
theorem g5_ladd {x y : Int64} (h1 : -9223372036854775808 ≤ x.toInt + y.toInt) (h2 : x.toInt + y.toInt < 9223372036854775808) : (x + y).toInt = x.toInt + y.toInt := by
  rw [Int64.toInt_add]; exact g5_bm64 h1 h2
theorem g5_lmul {x y : Int64} (h1 : -9223372036854775808 ≤ x.toInt * y.toInt) (h2 : x.toInt * y.toInt < 9223372036854775808) : (x * y).toInt = x.toInt * y.toInt := by
  rw [Int64.toInt_mul]; exact g5_bm64 h1 h2
theorem psum_b {f : Nat → Int64} {K : Int} (hK : 0 ≤ K) (h5 : 5 * K < 9223372036854775808) (hf : ∀ j : Nat, j < 64 → 1 ≤ (f j).toInt ∧ (f j).toInt ≤ K) {c : Int} (h0 : 0 ≤ c) (h1 : c ≤ 63) : 1 ≤ (psum f c 5).toInt ∧ (psum f c 5).toInt ≤ 5 * K := by
  have z0 : (0 : Int64).toInt = 0 := by decide
  have st : ∀ (w : Nat) (B : Int), B + K < 9223372036854775808 → 0 ≤ (psum f c w).toInt → (psum f c w).toInt ≤ B → 0 ≤ (psum f c (w + 1)).toInt ∧ (psum f c (w + 1)).toInt ≤ B + K ∧ (bs c w ≠ -1 → 1 ≤ (psum f c (w + 1)).toInt) := by
    intro w B hB a b
    have hb := bs_lo (w := w) h0 h1
    show 0 ≤ (if bs c w = -1 then psum f c w else psum f c w + f (bs c w).toNat).toInt ∧ (if bs c w = -1 then psum f c w else psum f c w + f (bs c w).toNat).toInt ≤ B + K ∧ (bs c w ≠ -1 → 1 ≤ (if bs c w = -1 then psum f c w else psum f c w + f (bs c w).toNat).toInt)
    by_cases z : bs c w = -1
    · rw [if_pos z]; exact ⟨a, by omega, fun q => absurd z q⟩
    · rw [if_neg z]
      have k := hf (bs c w).toNat (by omega)
      rw [g5_ladd (by omega) (by omega)]
      exact ⟨by omega, by omega, fun _ => by omega⟩
  have s0 : (psum f c 0).toInt = 0 := z0
  have s1 := st 0 0 (by omega) (by omega) (by omega)
  have s2 := st 1 (0 + K) (by omega) s1.1 s1.2.1
  have s3 := st 2 (0 + K + K) (by omega) s2.1 s2.2.1
  have s4 := st 3 (0 + K + K + K) (by omega) s3.1 s3.2.1
  have s5 := st 4 (0 + K + K + K + K) (by omega) s4.1 s4.2.1
  have b4 : bs c ((4 : Nat) : Int) ≠ -1 := by
    have e : bs c ((4 : Nat) : Int) = c := by unfold bs; simp
    omega
  exact ⟨s5.2.2 b4, Int.le_trans s5.2.1 (by omega)⟩
theorem pow_b {t : Nat} (h : t ≤ 23) : 1 ≤ ((5 ^ t : Nat) : Int) ∧ ((5 ^ t : Nat) : Int) ≤ 11920928955078125 := by
  have h1 : 5 ^ t ≤ 5 ^ 23 := Nat.pow_le_pow_right (by decide) h
  have h2 : (5 : Nat) ^ 23 = 11920928955078125 := by decide
  have h3 : 0 < 5 ^ t := Nat.pow_pos (by decide)
  rw [h2] at h1
  omega
theorem pow_s (t : Nat) : ((5 ^ (t + 1) : Nat) : Int) = 5 * ((5 ^ t : Nat) : Int) := by
  rw [Nat.pow_succ]; omega
theorem gF_b : ∀ t : Nat, t ≤ 23 → ∀ c : Nat, c < 64 → 1 ≤ (gF (fun _ _ => true) t c).toInt ∧ (gF (fun _ _ => true) t c).toInt ≤ ((5 ^ t : Nat) : Int) := by
  intro t
  induction t with
  | zero => intro _ c _; show 1 ≤ (1 : Int64).toInt ∧ (1 : Int64).toInt ≤ ((1 : Nat) : Int); decide
  | succ t ih =>
    intro ht c hc
    have p := pow_b (t := t) (by omega)
    rw [pow_s]
    have k := psum_b (f := gF (fun _ _ => true) t) (c := (c : Int)) (by omega) (by omega) (ih (by omega)) (by omega) (by omega)
    exact k
theorem gB_b : ∀ t : Nat, t ≤ 23 → ∀ c : Nat, c < 64 → 1 ≤ (gB (fun _ _ => true) t c).toInt ∧ (gB (fun _ _ => true) t c).toInt ≤ ((5 ^ t : Nat) : Int) := by
  intro t
  induction t with
  | zero => intro _ c _; show 1 ≤ (1 : Int64).toInt ∧ (1 : Int64).toInt ≤ ((1 : Nat) : Int); decide
  | succ t ih =>
    intro ht c hc
    have p := pow_b (t := t) (by omega)
    rw [pow_s]
    have k := psum_b (f := fun d => if true = true then gB (fun _ _ => true) t d else 0) (c := (c : Int)) (by omega) (by omega) (ih (by omega)) (by omega) (by omega)
    exact k
theorem gFB_b {t c : Nat} (ht : t ≤ 23) (hc : c < 64) : 1 ≤ (gF (fun _ _ => true) t c * gB (fun _ _ => true) (23 - t) c).toInt ∧ (gF (fun _ _ => true) t c * gB (fun _ _ => true) (23 - t) c).toInt ≤ 11920928955078125 := by
  have a := gF_b t ht c hc
  have b := gB_b (23 - t) (by omega) c hc
  have p := pow_b (t := 23) (by omega)
  have e : ((5 ^ t : Nat) : Int) * ((5 ^ (23 - t) : Nat) : Int) = ((5 ^ 23 : Nat) : Int) := by
    rw [← Int.natCast_mul, ← Nat.pow_add, show t + (23 - t) = 23 by omega]
  have u : (gF (fun _ _ => true) t c).toInt * (gB (fun _ _ => true) (23 - t) c).toInt ≤ ((5 ^ 23 : Nat) : Int) := by
    rw [← e]; exact Int.mul_le_mul a.2 b.2 (by omega) (by omega)
  have l : 1 * 1 ≤ (gF (fun _ _ => true) t c).toInt * (gB (fun _ _ => true) (23 - t) c).toInt := Int.mul_le_mul a.1 b.1 (by omega) (by omega)
  rw [g5_lmul (by omega) (by omega)]
  omega
theorem g5_rwpos {e d : Nat → Int64} {r : Int64} {h c : Int} (hE : isE (fun _ => 0) e) (hD : isD (fun _ => 0) d) (hr : r = rwF e d (32 * (64 * h + c)) 32) (h0 : 0 ≤ h) (h1 : h ≤ 23) (c0 : 0 ≤ c) (c1 : c ≤ 63) : 0 < r.toInt := by
  have k := rw_at hE hD (t := h.toNat) (c := c.toNat) (by omega) (by omega)
  rw [Int.toNat_of_nonneg h0, Int.toNat_of_nonneg c0, frM_true] at k
  have b := gFB_b (t := h.toNat) (c := c.toNat) (by omega) (by omega)
  rw [hr, k]; omega
theorem g5_bpos {d : Nat → Int64} {h c : Int} {x : Int32} (hD : isD (fun _ => 0) d) (hx : x.toInt = 32 * (64 * h + c)) (h0 : 0 ≤ h) (h1 : h ≤ 23) (c0 : 0 ≤ c) (c1 : c ≤ 63) : 0 < (d x.toNatClampNeg).toInt := by
  have k := hD h.toNat c 0 (by omega) c0 c1 (by omega) (by omega)
  have e : d x.toNatClampNeg = fz d (32 * (64 * ((h.toNat : Nat) : Int) + c) + 0) := by
    unfold fz; rw [g5_clamp]; congr 1; omega
  have b := gB_b (23 - h.toNat) (by omega) c.toNat (by omega)
  have k2 := bG_gB (fun _ => 0) (23 - h.toNat) (by omega) c.toNat (by omega)
  rw [Int.toNat_of_nonneg c0, frM_true] at k2
  rw [e, k, k2]; omega
theorem sum_b {f : Nat → Int64} : ∀ n : Nat, n ≤ 64 → (∀ c : Nat, c < n → 1 ≤ (f c).toInt ∧ (f c).toInt ≤ 11920928955078125) → (n : Int) ≤ (sumF f n).toInt ∧ (sumF f n).toInt ≤ 11920928955078125 * (n : Int) := by
  intro n
  induction n with
  | zero => intro _ _; show ((0 : Nat) : Int) ≤ (0 : Int64).toInt ∧ (0 : Int64).toInt ≤ 11920928955078125 * ((0 : Nat) : Int); decide
  | succ n ih =>
    intro hn hf
    have a := ih (by omega) (fun c hc => hf c (by omega))
    have b := hf n (by omega)
    show ((n + 1 : Nat) : Int) ≤ (sumF f n + f n).toInt ∧ (sumF f n + f n).toInt ≤ 11920928955078125 * ((n + 1 : Nat) : Int)
    rw [g5_ladd (by omega) (by omega)]
    omega
theorem g5_arpos {e d : Nat → Int64} {r : Int64} (hE : isE (fun _ => 0) e) (hD : isD (fun _ => 0) d) (hr : r = arF e d 64) : 0 < r.toInt := by
  rw [hr, ar_sum hE hD 64 (by omega), frM_true]
  have k := sum_b (f := fun c => gF (fun _ _ => true) 0 c * gB (fun _ _ => true) 23 c) 64 (by omega) (fun c hc => gFB_b (t := 0) (by omega) hc)
  omega
