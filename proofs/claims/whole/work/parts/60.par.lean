/-! two rows that stand for each other below n: what the steps do to them is the same -/
def Pm (n : Nat) (f g : Nat → Int32) : Prop := ((∀ i j, i < n → j < n → f i = f j → i = j) → ∀ i j, i < n → j < n → g i = g j → i = j) ∧ ∀ x, (∃ i, i < n ∧ f i = x) ↔ ∃ i, i < n ∧ g i = x
theorem Pm_rf {n : Nat} {f : Nat → Int32} : Pm n f f := ⟨fun h => h, fun _ => Iff.rfl⟩
theorem Pm_tr {n : Nat} {f g h : Nat → Int32} (a : Pm n f g) (b : Pm n g h) : Pm n f h := ⟨fun z => b.1 (a.1 z), fun x => (a.2 x).trans (b.2 x)⟩
def tsp (i j x : Nat) : Nat := if x = j then i else if x = i then j else x
theorem tsp_lt {n i j x : Nat} (hi : i < n) (hj : j < n) (hx : x < n) : tsp i j x < n := by
  unfold tsp
  split
  · exact hi
  · split
    · exact hj
    · exact hx
theorem tsp_inv (i j x : Nat) : tsp i j (tsp i j x) = x := by
  unfold tsp
  by_cases e1 : x = j
  · rw [if_pos e1]
    by_cases e2 : i = j
    · rw [if_pos e2, e1, e2]
    · rw [if_neg e2, if_pos rfl, e1]
  · rw [if_neg e1]
    by_cases e2 : x = i
    · rw [if_pos e2, if_pos rfl, e2]
    · rw [if_neg e2, if_neg e1, if_neg e2]
theorem sw_tsp (f : Nat → Int32) (i j x : Nat) : sw f i j x = f (tsp i j x) := by
  unfold tsp
  by_cases e1 : x = j
  · rw [if_pos e1, e1, sw_at_j]
  · rw [if_neg e1]
    by_cases e2 : x = i
    · rw [if_pos e2, e2, sw_at_i]
    · rw [if_neg e2, sw_at_o e2 e1]
theorem Pm_sw {n i j : Nat} {f : Nat → Int32} (hi : i < n) (hj : j < n) : Pm n f (sw f i j) := by
  constructor
  · intro h a b ha hb e
    rw [sw_tsp, sw_tsp] at e
    have := h _ _ (tsp_lt hi hj ha) (tsp_lt hi hj hb) e
    rw [← tsp_inv i j a, this, tsp_inv]
  · intro x
    constructor
    · intro ⟨a, ha, e⟩
      exact ⟨tsp i j a, tsp_lt hi hj ha, by rw [sw_tsp, tsp_inv]; exact e⟩
    · intro ⟨a, ha, e⟩
      exact ⟨tsp i j a, tsp_lt hi hj ha, (sw_tsp f i j a).symm.trans e⟩
def RP (e : Int32 → Int32) (V : Int32 → Prop) (n : Nat) (d : Int32) (g : Nat → Int32) (s1 s2 : QS) : Prop := (∀ i, i < n → s1.1 i = e (s2.1 i)) ∧ (∀ i, i < n → V (s2.1 i)) ∧ s1.2 = s2.2 + d ∧ Pm n g s2.1
theorem ck1 {a b d : Int32} (h : a = b + d) : a + 1 = b + 1 + d := by rw [h, Int32.add_assoc, Int32.add_comm d 1, ← Int32.add_assoc]
section PAR
variable {e : Int32 → Int32} {V : Int32 → Prop} {n : Nat} {d : Int32} {g : Nat → Int32} {s1 s2 : QS} {l1 l2 : QL}
theorem RP_if {c : Prop} {dc : Decidable c} {a1 b1 a2 b2 : QS} (h1 : c → RP e V n d g a1 a2) (h2 : ¬ c → RP e V n d g b1 b2) : RP e V n d g (@ite _ c dc a1 b1) (@ite _ c dc a2 b2) := by
  by_cases h : c
  · rw [if_pos h, if_pos h]; exact h1 h
  · rw [if_neg h, if_neg h]; exact h2 h
theorem RP_sw (R : RP e V n d g s1 s2) {i j : Nat} (hi : i < n) (hj : j < n) {c1 c2 : Int32} (hc : c1 = c2 + d) : RP e V n d g (sw s1.1 i j, c1) (sw s2.1 i j, c2) := by
  refine ⟨fun x hx => ?_, fun x hx => ?_, hc, Pm_tr R.2.2.2 (Pm_sw hi hj)⟩
  · show sw s1.1 i j x = e (sw s2.1 i j x)
    rw [sw_tsp, sw_tsp]
    exact R.1 _ (tsp_lt hi hj hx)
  · show V (sw s2.1 i j x)
    rw [sw_tsp]
    exact R.2.1 _ (tsp_lt hi hj hx)
theorem RP_c (R : RP e V n d g s1 s2) {c1 c2 : Int32} (hc : c1 = c2 + d) : RP e V n d g (s1.1, c1) (s2.1, c2) := ⟨R.1, R.2.1, hc, R.2.2.2⟩
theorem RP_lt (hl : ∀ x y, V x → V y → l1 (e x) (e y) = l2 x y) (R : RP e V n d g s1 s2) {i j : Nat} (hi : i < n) (hj : j < n) : l1 (s1.1 i) (s1.1 j) = l2 (s2.1 i) (s2.1 j) := by
  rw [R.1 i hi, R.1 j hj]
  exact hl _ _ (R.2.1 i hi) (R.2.1 j hj)
theorem RP_ld (hl : ∀ x y, V x → V y → l1 (e x) (e y) = l2 x y) (R : RP e V n d g s1 s2) (low : Bool) {i j : Nat} (hi : i < n) (hj : j < n) : ld l1 low (s1.1 i) (s1.1 j) = ld l2 low (s2.1 i) (s2.1 j) := by
  unfold ld
  rw [RP_lt hl R hi hj, RP_lt hl R hj hi]
theorem par_order (hl : ∀ x y, V x → V y → l1 (e x) (e y) = l2 x y) (R : RP e V n d g s1 s2) (k : Nat) : RP e V n d g (orderS l1 n k s1) (orderS l2 n k s2) := by
  unfold orderS
  refine RP_if (fun h => ?_) (fun _ => R)
  rw [RP_lt hl R h (show 2 * k < n by omega)]
  exact RP_if (fun _ => RP_sw R h (by omega) (ck1 R.2.2.1)) (fun _ => RP_c R (ck1 R.2.2.1))
theorem par_riseLow (hl : ∀ x y, V x → V y → l1 (e x) (e y) = l2 x y) (u : Nat) : ∀ (k : Nat) (s1 s2 : QS), 2 * k < n → RP e V n d g s1 s2 → RP e V n d g (riseLowS l1 u k s1) (riseLowS l2 u k s2) := by
  induction u with
  | zero => intro k s1 s2 _ R; exact R
  | succ u ih =>
    intro k s1 s2 hk R
    rw [riseLowS, riseLowS]
    refine RP_if (fun _ => R) (fun z => ?_)
    rw [RP_lt hl R hk (show 2 * ((k - 1) / 2) < n by omega)]
    exact RP_if (fun _ => ih _ _ _ (by omega) (RP_sw R hk (by omega) (ck1 R.2.2.1))) (fun _ => RP_c R (ck1 R.2.2.1))
theorem par_riseHigh (hl : ∀ x y, V x → V y → l1 (e x) (e y) = l2 x y) (u : Nat) : ∀ (k i : Nat) (s1 s2 : QS), 2 * k < n → i < n → RP e V n d g s1 s2 → RP e V n d g (riseHighS l1 u k i s1) (riseHighS l2 u k i s2) := by
  induction u with
  | zero => intro k i s1 s2 _ _ R; exact R
  | succ u ih =>
    intro k i s1 s2 hk hi R
    rw [riseHighS, riseHighS]
    refine RP_if (fun _ => R) (fun z => ?_)
    have h2 : 2 * ((k - 1) / 2) + 1 < n := by omega
    rw [RP_lt hl R h2 hi]
    exact RP_if (fun _ => ih _ _ _ _ (by omega) h2 (RP_sw R h2 hi (ck1 R.2.2.1))) (fun _ => RP_c R (ck1 R.2.2.1))
theorem par_sinkLow (hl : ∀ x y, V x → V y → l1 (e x) (e y) = l2 x y) (u : Nat) : ∀ (k : Nat) (s1 s2 : QS), RP e V n d g s1 s2 → RP e V n d g (sinkLowS l1 n u k s1) (sinkLowS l2 n u k s2) := by
  induction u with
  | zero => intro k s1 s2 R; exact R
  | succ u ih =>
    intro k s1 s2 R
    have R1 := par_order hl R k
    by_cases h : 2 * (2 * k + 1) < n
    · by_cases z : 2 * (2 * k + 2) < n
      · rw [sinkLowS_s h (decide_eq_true z) (RP_lt hl R1 z h), sinkLowS_s h (decide_eq_true z) rfl, if_pos (rfl : true = true), if_pos (rfl : true = true)]
        have hc := chS_lt (p := l2 ((orderS l2 n k s2).1 (2 * (2 * k + 2))) ((orderS l2 n k s2).1 (2 * (2 * k + 1)))) h
        rw [decide_eq_true z] at hc
        rw [RP_lt hl R1 hc (show 2 * k < n by omega)]
        exact RP_if (fun _ => ih _ _ _ (RP_sw R1 hc (by omega) (ck1 (ck1 R1.2.2.1)))) (fun _ => RP_c R1 (ck1 (ck1 R1.2.2.1)))
      · rw [sinkLowS_s h (decide_eq_false z) rfl, sinkLowS_s h (decide_eq_false z) rfl, chS_0, chS_0, if_neg Bool.false_ne_true, if_neg Bool.false_ne_true]
        rw [RP_lt hl R1 h (show 2 * k < n by omega)]
        exact RP_if (fun _ => ih _ _ _ (RP_sw R1 h (by omega) (ck1 R1.2.2.1))) (fun _ => RP_c R1 (ck1 R1.2.2.1))
    · rw [sinkLowS_n h, sinkLowS_n h]
      exact R1
theorem par_sinkHigh (hl : ∀ x y, V x → V y → l1 (e x) (e y) = l2 x y) (u : Nat) : ∀ (k : Nat) (s1 s2 : QS), RP e V n d g s1 s2 → RP e V n d g (sinkHighS l1 n u k s1) (sinkHighS l2 n u k s2) := by
  induction u with
  | zero => intro k s1 s2 R; exact R
  | succ u ih =>
    intro k s1 s2 R
    have R1 := par_order hl R k
    by_cases h : 2 * (2 * k + 1) < n
    · have ht := topN_lt (n := n) (k := k) (by omega)
      have h1 := topN_lt h
      by_cases z : 2 * (2 * k + 2) < n
      · rw [sinkHighS_s h (decide_eq_true z) (RP_lt hl R1 h1 (topN_lt z)), sinkHighS_s h (decide_eq_true z) rfl, if_pos (rfl : true = true), if_pos (rfl : true = true)]
        have hc := chS_lt (p := l2 ((orderS l2 n k s2).1 (topN n (2 * k + 1))) ((orderS l2 n k s2).1 (topN n (2 * k + 2)))) h
        rw [decide_eq_true z] at hc
        have hc2 := topN_lt hc
        rw [RP_lt hl R1 ht hc2]
        exact RP_if (fun _ => ih _ _ _ (RP_sw R1 ht hc2 (ck1 (ck1 R1.2.2.1)))) (fun _ => RP_c R1 (ck1 (ck1 R1.2.2.1)))
      · rw [sinkHighS_s h (decide_eq_false z) rfl, sinkHighS_s h (decide_eq_false z) rfl, chS_0, chS_0, if_neg Bool.false_ne_true, if_neg Bool.false_ne_true]
        rw [RP_lt hl R1 ht h1]
        exact RP_if (fun _ => ih _ _ _ (RP_sw R1 ht h1 (ck1 R1.2.2.1))) (fun _ => RP_c R1 (ck1 R1.2.2.1))
    · rw [sinkHighS_n h, sinkHighS_n h]
      exact R1
theorem par_settle0 (hl : ∀ x y, V x → V y → l1 (e x) (e y) = l2 x y) (R : RP e V n d g s1 s2) {k : Nat} (hk : 2 * k < n) : RP e V n d g (settleS0 l1 n k s1) (settleS0 l2 n k s2) := par_sinkHigh hl _ _ _ _ (par_sinkLow hl _ _ _ _ (par_riseHigh hl _ _ _ _ _ hk (topN_lt hk) (par_riseLow hl _ _ _ _ hk (par_order hl R k))))
theorem par_enter0 (hl : ∀ x y, V x → V y → l1 (e x) (e y) = l2 x y) (R : RP e V n d g s1 s2) {p : Nat} (hp : p < n) : RP e V n d g (enterS0 l1 p s1) (enterS0 l2 p s2) := by
  unfold enterS0
  refine RP_if (fun _ => R) (fun z => RP_if (fun h => ?_) (fun h => ?_))
  · have h1 : 2 * (p / 2) < n := by omega
    rw [RP_lt hl R hp h1]
    exact RP_if (fun _ => par_riseLow hl _ _ _ _ h1 (RP_sw R hp h1 (ck1 R.2.2.1))) (fun _ => par_riseHigh hl _ _ _ _ _ h1 hp (RP_c R (ck1 R.2.2.1)))
  · have h1 : 2 * (p / 2) < n := by omega
    rw [RP_lt hl R hp (show 2 * ((p / 2 - 1) / 2) < n by omega)]
    exact RP_if (fun _ => par_riseLow hl _ _ _ _ h1 (RP_c R (ck1 R.2.2.1))) (fun _ => par_riseHigh hl _ _ _ _ _ h1 hp (RP_c R (ck1 R.2.2.1)))
theorem par_rise1 (hl : ∀ x y, V x → V y → l1 (e x) (e y) = l2 x y) (low : Bool) (u : Nat) : ∀ (i : Nat) (s1 s2 : QS), i < n → RP e V n d g s1 s2 → RP e V n d g (riseS1 l1 low u i s1) (riseS1 l2 low u i s2) := by
  induction u with
  | zero => intro i s1 s2 _ R; exact R
  | succ u ih =>
    intro i s1 s2 hi R
    rw [riseS1, riseS1]
    refine RP_if (fun _ => R) (fun z => ?_)
    have h2 : (i - 3) / 4 < n := by omega
    rw [RP_ld hl R low hi h2]
    exact RP_if (fun _ => ih _ _ _ h2 (RP_sw R hi h2 (ck1 R.2.2.1))) (fun _ => RP_c R (ck1 R.2.2.1))
theorem par_enter1 (hl : ∀ x y, V x → V y → l1 (e x) (e y) = l2 x y) (R : RP e V n d g s1 s2) {i : Nat} (hi : i < n) : RP e V n d g (enterS1 l1 i s1) (enterS1 l2 i s2) := by
  unfold enterS1
  refine RP_if (fun _ => R) (fun z => ?_)
  have h2 : (i - 1) / 2 < n := by omega
  rw [RP_ld hl R _ h2 hi]
  exact RP_if (fun _ => par_rise1 hl _ _ _ _ _ h2 (RP_sw R h2 hi (ck1 R.2.2.1))) (fun _ => par_rise1 hl _ _ _ _ _ hi (RP_c R (ck1 R.2.2.1)))
theorem par_fb (hl : ∀ x y, V x → V y → l1 (e x) (e y) = l2 x y) (R : RP e V n d g s1 s2) (low : Bool) (i : Nat) (u : Nat) : ∀ (m x : Nat) (c1 c2 : Int32), x < n → c1 = c2 + d → (fbS l1 low n s1.1 i u m (x, c1)).1 = (fbS l2 low n s2.1 i u m (x, c2)).1 ∧ (fbS l1 low n s1.1 i u m (x, c1)).2 = (fbS l2 low n s2.1 i u m (x, c2)).2 + d := by
  induction u with
  | zero => intro m x c1 c2 _ hc; exact ⟨rfl, hc⟩
  | succ u ih =>
    intro m x c1 c2 hx hc
    rw [fbS, fbS]
    by_cases h : cand i m < n
    · rw [if_pos h, if_pos h, RP_ld hl R low h hx]
      by_cases z : ld l2 low (s2.1 (cand i m)) (s2.1 x) = true
      · rw [if_pos z, if_pos z]
        exact ih _ _ _ _ h (ck1 hc)
      · rw [if_neg z, if_neg z]
        exact ih _ _ _ _ hx (ck1 hc)
    · rw [if_neg h, if_neg h]
      exact ih _ _ _ _ hx hc
theorem sinkS1_s {lt : QL} {low : Bool} {n u i : Nat} {s : QS} (h : 2 * i + 1 < n) {b : Nat × Int32} (hb : fbS lt low n s.1 i 5 1 (2 * i + 1, s.2) = b) : sinkS1 lt low n (u + 1) i s = (if ld lt low (s.1 b.1) (s.1 i) = true then (if (b.1 - 1) / 2 = i then (sw s.1 b.1 i, b.2 + 1) else if ld lt low (sw s.1 b.1 i ((b.1 - 1) / 2)) (sw s.1 b.1 i b.1) = true then sinkS1 lt low n u b.1 (sw (sw s.1 b.1 i) ((b.1 - 1) / 2) b.1, b.2 + 1 + 1) else sinkS1 lt low n u b.1 (sw s.1 b.1 i, b.2 + 1 + 1)) else (s.1, b.2 + 1)) := by
  subst hb
  rw [sinkS1]
  exact if_pos h
theorem par_sink1 (hl : ∀ x y, V x → V y → l1 (e x) (e y) = l2 x y) (low : Bool) (u : Nat) : ∀ (i : Nat) (s1 s2 : QS), RP e V n d g s1 s2 → RP e V n d g (sinkS1 l1 low n u i s1) (sinkS1 l2 low n u i s2) := by
  induction u with
  | zero => intro i s1 s2 R; exact R
  | succ u ih =>
    intro i s1 s2 R
    by_cases h : 2 * i + 1 < n
    · have hf := par_fb hl R low i 5 1 (2 * i + 1) s1.2 s2.2 h R.2.2.1
      have hb := (fbS_lt (lt := l2) (low := low) (n := n) (f := s2.1) (i := i) 5 1 (2 * i + 1, s2.2) h (by show 2 * i + 1 ≠ 0; omega) (by decide)).1
      rw [sinkS1_s (lt := l1) h (b := ((fbS l2 low n s2.1 i 5 1 (2 * i + 1, s2.2)).1, (fbS l2 low n s2.1 i 5 1 (2 * i + 1, s2.2)).2 + d)) (Prod.ext hf.1 hf.2), sinkS1_s (lt := l2) h rfl]
      generalize fbS l2 low n s2.1 i 5 1 (2 * i + 1, s2.2) = b at hb
      obtain ⟨x, c⟩ := b
      have hb' : x < n := hb
      have hi : i < n := by omega
      have hp : (x - 1) / 2 < n := by omega
      show RP e V n d g (if ld l1 low (s1.1 x) (s1.1 i) = true then (if (x - 1) / 2 = i then (sw s1.1 x i, c + d + 1) else if ld l1 low (sw s1.1 x i ((x - 1) / 2)) (sw s1.1 x i x) = true then sinkS1 l1 low n u x (sw (sw s1.1 x i) ((x - 1) / 2) x, c + d + 1 + 1) else sinkS1 l1 low n u x (sw s1.1 x i, c + d + 1 + 1)) else (s1.1, c + d + 1)) (if ld l2 low (s2.1 x) (s2.1 i) = true then (if (x - 1) / 2 = i then (sw s2.1 x i, c + 1) else if ld l2 low (sw s2.1 x i ((x - 1) / 2)) (sw s2.1 x i x) = true then sinkS1 l2 low n u x (sw (sw s2.1 x i) ((x - 1) / 2) x, c + 1 + 1) else sinkS1 l2 low n u x (sw s2.1 x i, c + 1 + 1)) else (s2.1, c + 1))
      rw [RP_ld hl R low hb' hi]
      have c1 : c + d + 1 = c + 1 + d := ck1 rfl
      refine RP_if (fun _ => RP_if (fun _ => RP_sw R hb' hi c1) (fun _ => ?_)) (fun _ => RP_c R c1)
      have R2 := RP_sw R hb' hi (ck1 c1)
      rw [show ld l1 low (sw s1.1 x i ((x - 1) / 2)) (sw s1.1 x i x) = ld l2 low (sw s2.1 x i ((x - 1) / 2)) (sw s2.1 x i x) from RP_ld hl R2 low hp hb']
      exact RP_if (fun _ => ih _ _ _ (RP_sw R2 hp hb' (ck1 c1))) (fun _ => ih _ _ _ R2)
    · rw [sinkS1_n h, sinkS1_n h]
      exact R
theorem par_settle1 (hl : ∀ x y, V x → V y → l1 (e x) (e y) = l2 x y) (R : RP e V n d g s1 s2) {i : Nat} (hi : i < n) : RP e V n d g (settleS1 l1 n i s1) (settleS1 l2 n i s2) := par_sink1 hl _ _ _ _ _ (par_enter1 hl R hi)
theorem par_up (hl : ∀ x y, V x → V y → l1 (e x) (e y) = l2 x y) (low : Bool) (u : Nat) : ∀ (i : Nat) (s1 s2 : QS), i < n → RP e V n d g s1 s2 → RP e V n d g (upS l1 low u i s1) (upS l2 low u i s2) := by
  induction u with
  | zero => intro i s1 s2 _ R; exact R
  | succ u ih =>
    intro i s1 s2 hi R
    rw [upS, upS]
    refine RP_if (fun _ => R) (fun z => ?_)
    have h2 : (i - 1) / 2 < n := by omega
    rw [RP_ld hl R low hi h2]
    exact RP_if (fun _ => ih _ _ _ h2 (RP_sw R hi h2 (ck1 R.2.2.1))) (fun _ => RP_c R (ck1 R.2.2.1))
theorem par_down (hl : ∀ x y, V x → V y → l1 (e x) (e y) = l2 x y) (low : Bool) (u : Nat) : ∀ (i : Nat) (s1 s2 : QS), RP e V n d g s1 s2 → RP e V n d g (downS l1 low n u i s1) (downS l2 low n u i s2) := by
  induction u with
  | zero => intro i s1 s2 R; exact R
  | succ u ih =>
    intro i s1 s2 R
    by_cases h : 2 * i + 1 < n
    · by_cases z : 2 * i + 2 < n
      · rw [downS_s h (decide_eq_true z) (RP_ld hl R low z h), downS_s h (decide_eq_true z) rfl, if_pos (rfl : true = true), if_pos (rfl : true = true)]
        have hc := chS_lt2 (p := ld l2 low (s2.1 (2 * i + 2)) (s2.1 (2 * i + 1))) h
        rw [decide_eq_true z] at hc
        rw [RP_ld hl R low hc (show i < n by omega)]
        exact RP_if (fun _ => ih _ _ _ (RP_sw R hc (by omega) (ck1 (ck1 R.2.2.1)))) (fun _ => RP_c R (ck1 (ck1 R.2.2.1)))
      · rw [downS_s h (decide_eq_false z) rfl, downS_s h (decide_eq_false z) rfl, chS_0, chS_0, if_neg Bool.false_ne_true, if_neg Bool.false_ne_true]
        rw [RP_ld hl R low h (show i < n by omega)]
        exact RP_if (fun _ => ih _ _ _ (RP_sw R h (by omega) (ck1 R.2.2.1))) (fun _ => RP_c R (ck1 R.2.2.1))
    · rw [downS_n h, downS_n h]
      exact R
theorem par_enterK (hl : ∀ x y, V x → V y → l1 (e x) (e y) = l2 x y) (R : RP e V n d g s1 s2) (k : Nat) {p : Nat} (hp : p < n) : RP e V n d g (enterK l1 k p s1) (enterK l2 k p s2) := by
  unfold enterK
  exact RP_if (fun _ => par_enter0 hl R hp) (fun _ => RP_if (fun _ => par_enter1 hl R hp) (fun _ => RP_if (fun _ => par_up hl _ _ _ _ _ hp R) (fun _ => par_up hl _ _ _ _ _ hp R)))
theorem par_settleK (hl : ∀ x y, V x → V y → l1 (e x) (e y) = l2 x y) (R : RP e V n d g s1 s2) (k : Nat) {p : Nat} (hp : p < n) : RP e V n d g (settleK l1 k n p s1) (settleK l2 k n p s2) := by
  unfold settleK settleS2
  exact RP_if (fun _ => par_settle0 hl R (by omega)) (fun _ => RP_if (fun _ => par_settle1 hl R hp) (fun _ => RP_if (fun _ => par_down hl _ _ _ _ _ (par_up hl _ _ _ _ _ hp R)) (fun _ => par_down hl _ _ _ _ _ (par_up hl _ _ _ _ _ hp R))))
theorem par_bldK (hl : ∀ x y, V x → V y → l1 (e x) (e y) = l2 x y) (R : RP e V n d g s1 s2) (k m : Nat) : RP e V n d g (bldK l1 k n m s1) (bldK l2 k n m s2) := by
  unfold bldK
  exact RP_if (fun _ => par_sinkHigh hl _ _ _ _ (par_sinkLow hl _ _ _ _ R)) (fun _ => RP_if (fun _ => par_sink1 hl _ _ _ _ _ R) (fun _ => RP_if (fun _ => par_down hl _ _ _ _ _ R) (fun _ => par_down hl _ _ _ _ _ R)))
theorem par_bldL (hl : ∀ x y, V x → V y → l1 (e x) (e y) = l2 x y) (k m : Nat) : ∀ (s1 s2 : QS), RP e V n d g s1 s2 → RP e V n d g (bldL l1 k n m s1) (bldL l2 k n m s2) := by
  induction m with
  | zero => intro s1 s2 R; exact R
  | succ m ih => intro s1 s2 R; exact ih _ _ (par_bldK hl R k m)
end PAR
theorem allS0_b {lt : QL} {n : Nat} (m : Nat) (s : QS) : allS0 lt n m s = bldL lt 0 n m s := by
  induction m generalizing s with
  | zero => rfl
  | succ m ih => rw [allS0, bldL, ih, bldJ_0]
theorem allS1_b {lt : QL} {n : Nat} (m : Nat) (s : QS) : allS1 lt n m s = bldL lt 1 n m s := by
  induction m generalizing s with
  | zero => rfl
  | succ m ih => rw [allS1, bldL, ih, bldJ_1]
theorem allS2_b {lt : QL} {n : Nat} (m : Nat) (s : QS) : allS2 lt true n m s = bldL lt 2 n m s := by
  induction m generalizing s with
  | zero => rfl
  | succ m ih => rw [allS2, bldL, ih, bldJ_2, lowK_2]
theorem allS3_b {lt : QL} {n : Nat} (m : Nat) (s : QS) : allS2 lt false n m s = bldL lt 3 n m s := by
  induction m generalizing s with
  | zero => rfl
  | succ m ih => rw [allS2, bldL, ih, bldJ_3, lowK_3]
theorem allK_b {lt : QL} {k n : Nat} (hk : k < 4) (s : QS) : allK lt k n s = bldL lt k n (cK k n) s := by
  rcases (show k = 0 ∨ k = 1 ∨ k = 2 ∨ k = 3 by omega) with rfl | rfl | rfl | rfl
  · rw [allK_0, allS0_b]; rfl
  · rw [allK_1, allS1_b]; rfl
  · rw [allK_2, allS2_b]; rfl
  · rw [allK_3, allS3_b]; rfl
section BRK
variable {e : Int32 → Int32} {V : Int32 → Prop} {n : Nat} {f1 f2 : Nat → Int32} {l1 l2 : QL}
theorem bk_lt (hl : ∀ x y, V x → V y → l1 (e x) (e y) = l2 x y) (h1 : ∀ i, i < n → f1 i = e (f2 i)) (h2 : ∀ i, i < n → V (f2 i)) {i j : Nat} (hi : i < n) (hj : j < n) : l1 (f1 i) (f1 j) = l2 (f2 i) (f2 j) := by
  rw [h1 i hi, h1 j hj]
  exact hl _ _ (h2 i hi) (h2 j hj)
theorem bk_ld (hl : ∀ x y, V x → V y → l1 (e x) (e y) = l2 x y) (h1 : ∀ i, i < n → f1 i = e (f2 i)) (h2 : ∀ i, i < n → V (f2 i)) (low : Bool) {i j : Nat} (hi : i < n) (hj : j < n) : ld l1 low (f1 i) (f1 j) = ld l2 low (f2 i) (f2 j) := by
  unfold ld
  rw [bk_lt hl h1 h2 hi hj, bk_lt hl h1 h2 hj hi]
theorem par_brk0 (hl : ∀ x y, V x → V y → l1 (e x) (e y) = l2 x y) (h1 : ∀ i, i < n → f1 i = e (f2 i)) (h2 : ∀ i, i < n → V (f2 i)) (m : Nat) (hm : m ≤ (n + 1) / 2) : brk0 l1 n f1 m = brk0 l2 n f2 m := by
  induction m with
  | zero => rfl
  | succ m ih =>
    have ht := topN_lt (n := n) (k := m) (by omega)
    rw [brk0, brk0, ih (by omega), brkA, brkA, brkB, brkB, brkC, brkC, bk_lt hl h1 h2 ht (show 2 * m < n by omega)]
    by_cases e0 : m = 0
    · rw [if_pos e0, if_pos e0, if_pos e0, if_pos e0]
    · rw [if_neg e0, if_neg e0, if_neg e0, if_neg e0, bk_lt hl h1 h2 (show 2 * m < n by omega) (show 2 * ((m - 1) / 2) < n by omega), bk_lt hl h1 h2 (show 2 * ((m - 1) / 2) + 1 < n by omega) ht]
theorem par_brkU (hl : ∀ x y, V x → V y → l1 (e x) (e y) = l2 x y) (h1 : ∀ i, i < n → f1 i = e (f2 i)) (h2 : ∀ i, i < n → V (f2 i)) {j : Nat} (hj : j < n) (u : Nat) : ∀ i, i < n → brkU l1 f1 j u i = brkU l2 f2 j u i := by
  induction u with
  | zero => intro i _; rfl
  | succ u ih =>
    intro i hi
    rw [brkU, brkU]
    by_cases e0 : i = 0
    · rw [if_pos e0, if_pos e0]
    · rw [if_neg e0, if_neg e0, bk_ld hl h1 h2 _ hj (show (i - 1) / 2 < n by omega), ih _ (by omega)]
theorem par_brk1 (hl : ∀ x y, V x → V y → l1 (e x) (e y) = l2 x y) (h1 : ∀ i, i < n → f1 i = e (f2 i)) (h2 : ∀ i, i < n → V (f2 i)) (m : Nat) (hm : m ≤ n) : brk1 l1 f1 m = brk1 l2 f2 m := by
  induction m with
  | zero => rfl
  | succ m ih => rw [brk1, brk1, ih (by omega), par_brkU hl h1 h2 (by omega) 30 m (by omega)]
theorem par_brk2 (hl : ∀ x y, V x → V y → l1 (e x) (e y) = l2 x y) (h1 : ∀ i, i < n → f1 i = e (f2 i)) (h2 : ∀ i, i < n → V (f2 i)) (low : Bool) (m : Nat) (hm : m ≤ n) : brk2 l1 low f1 m = brk2 l2 low f2 m := by
  induction m with
  | zero => rfl
  | succ m ih =>
    rw [brk2, brk2, ih (by omega)]
    by_cases e0 : m = 0
    · rw [if_pos e0, if_pos e0]
    · rw [if_neg e0, if_neg e0, bk_ld hl h1 h2 low (show m < n by omega) (show (m - 1) / 2 < n by omega)]
theorem par_brkK (hl : ∀ x y, V x → V y → l1 (e x) (e y) = l2 x y) (h1 : ∀ i, i < n → f1 i = e (f2 i)) (h2 : ∀ i, i < n → V (f2 i)) {k : Nat} (hk : k < 4) : brkK l1 k n f1 = brkK l2 k n f2 := by
  rcases (show k = 0 ∨ k = 1 ∨ k = 2 ∨ k = 3 by omega) with rfl | rfl | rfl | rfl
  · rw [brkK_0, brkK_0]; exact par_brk0 hl h1 h2 _ (Nat.le_refl _)
  · rw [brkK_1, brkK_1]; exact par_brk1 hl h1 h2 _ (Nat.le_refl _)
  · rw [brkK_2, brkK_2]; exact par_brk2 hl h1 h2 _ _ (Nat.le_refl _)
  · rw [brkK_3, brkK_3]; exact par_brk2 hl h1 h2 _ _ (Nat.le_refl _)
end BRK
