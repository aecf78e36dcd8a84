/-! the model's state, well formed on the layouts that a mask q names -/
def cntT (A : Nat → Int32) : Nat → Nat
  | 0 => 0
  | u + 1 => cntT A u + (if A (30 + u) = 1 then 1 else 0)
def rowW (A : Nat → Int32) (n k : Nat) : Prop := (∀ i j, i < n → j < n → (getL A k).1 i = (getL A k).1 j → i = j) ∧ ∀ h, h < 30 → (A (30 + h) = 1 ↔ ∃ i, i < n ∧ (getL A k).1 i = nI h)
def mWF (q : Int32) (A : Nat → Int32) (n : Nat) : Prop := mI A ∧ A 180 = nI n ∧ n ≤ 30 ∧ (∀ h, h < 30 → A (30 + h) = 0 ∨ A (30 + h) = 1) ∧ cntT A 30 = n ∧ (∀ h, h < 30 → A (30 + h) = 1 → isKeyB (A h) = true) ∧ ∀ k, k < 4 → mskB q k = true → rowW A n k
def nA (A : Nat → Int32) : Nat := (A 180).toNatClampNeg
theorem cntT_congr {A B : Nat → Int32} (u : Nat) (h : ∀ i, i < u → A (30 + i) = B (30 + i)) : cntT A u = cntT B u := by
  induction u with
  | zero => rfl
  | succ u ih => rw [cntT, cntT, ih (fun i hi => h i (by omega)), h u (by omega)]
theorem cntT_all {A : Nat → Int32} (u : Nat) (h : ∀ i, i < u → A (30 + i) = 1) : cntT A u = u := by
  induction u with
  | zero => rfl
  | succ u ih => rw [cntT, ih (fun i hi => h i (by omega)), if_pos (h u (by omega))]
theorem cntT_1 {A : Nat → Int32} {j : Nat} (u : Nat) (hj : j < u) (h : ¬ A (30 + j) = 1) : cntT (upd A (30 + j) 1) u = cntT A u + 1 := by
  induction u with
  | zero => omega
  | succ u ih =>
    rw [cntT, cntT]
    by_cases e : j = u
    · subst e
      rw [cntT_congr (A := upd A (30 + j) 1) (B := A) j (fun i hi => pk_un (by omega)), pk_us, if_pos rfl, if_neg h]
    · rw [ih (by omega), pk_un (show 30 + u ≠ 30 + j by omega)]
      omega
theorem cntT_0 {A : Nat → Int32} {j : Nat} (u : Nat) (hj : j < u) (h : A (30 + j) = 1) : cntT (upd A (30 + j) 0) u + 1 = cntT A u := by
  induction u with
  | zero => omega
  | succ u ih =>
    rw [cntT, cntT]
    by_cases e : j = u
    · subst e
      rw [cntT_congr (A := upd A (30 + j) 0) (B := A) j (fun i hi => pk_un (by omega)), pk_us, if_neg (by decide), if_pos h]
    · have := ih (by omega)
      rw [pk_un (show 30 + u ≠ 30 + j by omega)]
      omega
theorem frA_lt {A : Nat → Int32} {n : Nat} (hc : cntT A 30 = n) (hn : n < 30) : frA A < 30 := by
  rcases Nat.lt_or_ge (frA A) 30 with h | h
  · exact h
  · have := cntT_all (A := A) 30 (fun i hi => by
      have := ff_miss (fun h => !decide (A (30 + h) = 1)) 30 0 i (Nat.zero_le _) (by show i < frA A; omega)
      simpa using this)
    omega
theorem frA_free {A : Nat → Int32} (h : frA A < 30) : ¬ A (30 + frA A) = 1 := by
  have := ff_hit (fun h => !decide (A (30 + h) = 1)) 30 0 (by show frA A < 0 + 30; omega)
  simpa [frA] using this
theorem fndH_iff {f : Nat → Int32} {n : Nat} {x : Int32} : fndH f n x < n ↔ ∃ i, i < n ∧ f i = x := by
  constructor
  · intro h
    exact ⟨fndH f n x, h, of_decide_eq_true (ff_hit (fun j => decide (f j = x)) n 0 (by show fndH f n x < 0 + n; omega))⟩
  · intro ⟨i, hi, e⟩
    exact Nat.lt_of_le_of_lt (ff_lt (Nat.zero_le _) (by omega) (decide_eq_true e)) hi
theorem fndH_at {f : Nat → Int32} {n : Nat} {x : Int32} (h : fndH f n x < n) : f (fndH f n x) = x := of_decide_eq_true (ff_hit (fun j => decide (f j = x)) n 0 (by show fndH f n x < 0 + n; omega))
theorem mskB_7 {k : Nat} (hk : k < 4) : mskB 7 k = true := by
  rcases (show k = 0 ∨ k = 1 ∨ k = 2 ∨ k = 3 by omega) with rfl | rfl | rfl | rfl <;> decide +kernel
theorem mskB_q {k i : Nat} (hk : k < 3) (hi : i < 4) : mskB (1 <<< (nI k &&& 31)) i = decide (cq i = k) := by
  rcases (show k = 0 ∨ k = 1 ∨ k = 2 by omega) with rfl | rfl | rfl <;> rcases (show i = 0 ∨ i = 1 ∨ i = 2 ∨ i = 3 by omega) with rfl | rfl | rfl | rfl <;> decide +kernel
theorem mWF_sub {q q2 : Int32} {A : Nat → Int32} {n : Nat} (h : mWF q A n) (hq : ∀ k, k < 4 → mskB q2 k = true → mskB q k = true) : mWF q2 A n := ⟨h.1, h.2.1, h.2.2.1, h.2.2.2.1, h.2.2.2.2.1, h.2.2.2.2.2.1, fun k hk hm => h.2.2.2.2.2.2 k hk (hq k hk hm)⟩
theorem mWF_any {q : Int32} {A : Nat → Int32} {n : Nat} (h : mWF 7 A n) : mWF q A n := mWF_sub h (fun _ hk _ => mskB_7 hk)
theorem mWF_hf {q : Int32} {A : Nat → Int32} {n j : Nat} (h : mWF q A n) (hj : j < 30) (ht : A (30 + j) = 1) : ∀ i, i < 4 → mskB q i = true → fndH (getL A i).1 n (nI j) < n := fun i hi hm => fndH_iff.mpr (((h.2.2.2.2.2.2 i hi hm).2 j hj).mp ht)
theorem mWF_tk {q : Int32} {A : Nat → Int32} {n k i : Nat} (h : mWF q A n) (hk : k < 4) (hm : mskB q k = true) (hi : i < n) : ∃ j, j < 30 ∧ (getL A k).1 i = nI j ∧ A (30 + j) = 1 := by
  have hn := h.2.2.1
  obtain ⟨j, hj, e⟩ := h.1 k hk i (by omega)
  exact ⟨j, hj, e, ((h.2.2.2.2.2.2 k hk hm).2 j hj).mpr ⟨i, hi, e⟩⟩
theorem lsA_tk {q : Int32} {A : Nat → Int32} {n k : Nat} (h : mWF q A n) (hk : k < 4) (hm : mskB q k = true) (h1 : 1 ≤ n) : ∃ j, j < 30 ∧ lsA A n k = nI j ∧ A (30 + j) = 1 := by
  obtain ⟨j, hj, e, ht⟩ := mWF_tk h hk hm (i := 0) (by omega)
  exact ⟨j, hj, by rw [lsA, if_neg (by omega)]; exact e, ht⟩
theorem grA_tk {q : Int32} {A : Nat → Int32} {n : Nat} (h : mWF q A n) (hm : mskB q 0 = true) (h1 : 1 ≤ n) : ∃ j, j < 30 ∧ grA A n 0 = nI j ∧ A (30 + j) = 1 := by
  obtain ⟨j, hj, e, ht⟩ := mWF_tk h (by decide) hm (i := topN n 0) (topN_lt (by omega))
  exact ⟨j, hj, by rw [grA, if_neg (by omega), if_pos rfl]; exact e, ht⟩
theorem itB_iff {A : Nat → Int32} {x : Int32} : itB A x = true ↔ ∃ j, j < 30 ∧ x = nI j ∧ A (30 + j) = 1 := by
  constructor
  · intro h
    unfold itB at h
    have h1 := Bool.and_eq_true_iff.mp h
    have h2 := Bool.and_eq_true_iff.mp h1.1
    have h3 : 0 ≤ x := of_decide_eq_true h2.1
    have h4 : x ≤ 29 := of_decide_eq_true h2.2
    obtain ⟨j, hj, e⟩ := nI_of2 (M := 29) (n := 29) (by decide) (Int32.not_lt.mpr h3) h4
    refine ⟨j, by omega, e, ?_⟩
    have h5 := of_decide_eq_true h1.2
    rw [e, nI_clamp (by omega)] at h5
    exact h5
  · intro ⟨j, hj, e, ht⟩
    unfold itB
    rw [e, nI_clamp (by omega), decide_eq_true ht, decide_eq_true (nI_pos' (n := j) (by omega)), decide_eq_true (show nI j ≤ 29 from nI_le (a := j) (b := 29) (by omega) (by decide))]
    rfl
theorem nA_eq {q : Int32} {A : Nat → Int32} {n : Nat} (h : mWF q A n) : nA A = n := by
  unfold nA
  rw [h.2.1, nI_clamp (by have := h.2.2.1; omega)]
def canA (what : Nat) (x : Int32) (n : Nat) (A : Nat → Int32) : Bool := if what = 0 then isKeyB x && decide (n < 30) else if what = 3 then itB A x else decide (what = 4) || decide (0 < n)
def doA (q : Int32) (what : Nat) (x : Int32) (n : Nat) (A : Nat → Int32) : Nat → Int32 := if what = 0 then insA q n x A else if what = 1 then goF q n (lsA A n 0).toNatClampNeg A else if what = 2 then goF q n (grA A n 0).toNatClampNeg (upd A 182 (A 182 + bI (tgB q n))) else if what = 3 then goF q n x.toNatClampNeg A else fldA (blA n) q 4 0 A
def chF (n : Nat) (x ky : Int32) (A : Nat → Int32) : Nat → Int32 := fl4 (chgA n x) 4 0 (upd A x.toNatClampNeg ky)
def whatOf (c : Nat) : Nat := if c = 105 then 0 else if c = 108 then 1 else if c = 103 then 2 else if c = 98 then 4 else 3
def stA (c : Nat) (a b : Int32) (n : Nat) (A : Nat → Int32) : Nat → Int32 := if canA (whatOf c) a n A = true then (if c = 99 then chF n a b A else doA 7 (whatOf c) a n A) else A
def rnS (t : Nat → Nat) (ln : Nat) : Nat → Nat → (Nat → Int32) → Nat → (Nat → Int32) × Nat × Nat
  | 0, c, A, b => (A, b, c)
  | u + 1, c, A, b => if c < ln then rnS t ln u (mCmd t ln c).1.2 (stA (curN t ln c) (mCmd t ln c).2.1 (mCmd t ln c).2.2 (nA A) A) (if canA (whatOf (curN t ln c)) (mCmd t ln c).2.1 (nA A) A = true then b + 1 else b) else (A, b, c)
