/-! a queue's nine cells: the object at q, layout k at q + 1 + 2 k, its row behind it -/
abbrev QK : Type := Nat × QS
abbrev QU : Type := Nat → QK
def quC (q : Nat) (Q : QU) (r : Nat) : MC := if r % 2 = 0 then .inr (kci (r / 2), .ref (q + 1 + r + 1) :: .int (nI (Q (r / 2)).1) :: .int (Q (r / 2)).2.2 :: kxt (r / 2)) else .inl (.int, 30, .inl (Q (r / 2)).2.1)
def quW (w : MW) (q : Nat) (Q : QU) : MW := (w.1, fun a => if a = q then .inr (4, [.ref (q + 1), .ref (q + 3), .ref (q + 5), .ref (q + 7)]) else if q < a ∧ a ≤ q + 8 then quC q Q (a - q - 1) else w.2 a)
section QUW
variable {w : MW} {q : Nat} {Q : QU} {k : Nat}
theorem quC_e (q : Nat) (Q : QU) (k : Nat) : quC q Q (2 * k) = .inr (kci k, .ref (q + 1 + 2 * k + 1) :: .int (nI (Q k).1) :: .int (Q k).2.2 :: kxt k) := by
  unfold quC
  rw [if_pos (by omega), show 2 * k / 2 = k by omega]
theorem quC_o (q : Nat) (Q : QU) (k : Nat) : quC q Q (2 * k + 1) = .inl (.int, 30, .inl (Q k).2.1) := by
  unfold quC
  rw [if_neg (by omega), show (2 * k + 1) / 2 = k by omega]
theorem quW_at (hk : k < 4) : (quW w q Q).2 (q + 1 + 2 * k) = .inr (kci k, .ref (q + 1 + 2 * k + 1) :: .int (nI (Q k).1) :: .int (Q k).2.2 :: kxt k) := by
  show (if q + 1 + 2 * k = q then _ else if q < q + 1 + 2 * k ∧ q + 1 + 2 * k ≤ q + 8 then quC q Q (q + 1 + 2 * k - q - 1) else w.2 (q + 1 + 2 * k)) = _
  rw [if_neg (by omega), if_pos (by omega), show q + 1 + 2 * k - q - 1 = 2 * k by omega, quC_e]
theorem quW_at2 (hk : k < 4) : (quW w q Q).2 (q + 1 + 2 * k + 1) = .inl (.int, 30, .inl (Q k).2.1) := by
  show (if q + 1 + 2 * k + 1 = q then _ else if q < q + 1 + 2 * k + 1 ∧ q + 1 + 2 * k + 1 ≤ q + 8 then quC q Q (q + 1 + 2 * k + 1 - q - 1) else w.2 (q + 1 + 2 * k + 1)) = _
  rw [if_neg (by omega), if_pos (by omega), show q + 1 + 2 * k + 1 - q - 1 = 2 * k + 1 by omega, quC_o]
theorem quW_lay (hk : k < 4) : layW (quW w q Q) (q + 1 + 2 * k) (kci k) (kxt k) (Q k).2.1 (Q k).1 (Q k).2.2 = quW w q Q := by
  refine Prod.ext rfl (funext fun a => ?_)
  show va_up (va_up (quW w q Q).2 _ _) _ _ a = (quW w q Q).2 a
  by_cases e1 : a = q + 1 + 2 * k + 1
  · rw [e1, quW_at2 hk]; simp [va_up]
  · by_cases e2 : a = q + 1 + 2 * k
    · rw [e2, quW_at hk]; simp [va_up]
    · simp [va_up, e1, e2]
theorem quW_set (hk : k < 4) (f : Nat → Int32) (n : Nat) (c : Int32) : layW (quW w q Q) (q + 1 + 2 * k) (kci k) (kxt k) f n c = quW w q (va_up Q k (n, f, c)) := by
  refine Prod.ext rfl (funext fun a => ?_)
  show va_up (va_up (quW w q Q).2 _ _) _ _ a = (quW w q (va_up Q k (n, f, c))).2 a
  by_cases e1 : a = q + 1 + 2 * k + 1
  · rw [e1, quW_at2 hk]; simp [va_up]
  · by_cases e2 : a = q + 1 + 2 * k
    · rw [e2, quW_at hk]; simp [va_up]
    · rw [va_up, if_neg e1, va_up, if_neg e2]
      show (if a = q then _ else if q < a ∧ a ≤ q + 8 then quC q Q (a - q - 1) else w.2 a) = (if a = q then _ else if q < a ∧ a ≤ q + 8 then quC q (va_up Q k (n, f, c)) (a - q - 1) else w.2 a)
      by_cases e3 : a = q
      · rw [if_pos e3, if_pos e3]
      · rw [if_neg e3, if_neg e3]
        by_cases e4 : q < a ∧ a ≤ q + 8
        · rw [if_pos e4, if_pos e4]
          have e5 : (a - q - 1) / 2 ≠ k := by omega
          unfold quC
          rw [show va_up Q k (n, f, c) ((a - q - 1) / 2) = Q ((a - q - 1) / 2) by simp [va_up, e5]]
        · rw [if_neg e4, if_neg e4]
theorem quW_ob (hq : q + 8 < w.1) : mm_ob (quW w q Q) q 4 [.ref (q + 1), .ref (q + 3), .ref (q + 5), .ref (q + 7)] := ⟨by show q < w.1; omega, by simp [quW]⟩
theorem quW_obk (hq : q + 8 < w.1) (hk : k < 4) {a : Nat} (ha : a = q + 1 + 2 * k) {ci : Nat} (hc : ci = kci k) : mm_ob (quW w q Q) a ci (.ref (a + 1) :: .int (nI (Q k).1) :: .int (Q k).2.2 :: kxt k) := by
  subst ha; subst hc
  exact ⟨by show q + 1 + 2 * k < w.1; omega, quW_at hk⟩
theorem quW_ark (hq : q + 8 < w.1) (hk : k < 4) {a : Nat} (ha : a = q + 1 + 2 * k + 1) : mm_ar (quW w q Q) a .int (30, .inl (Q k).2.1) := by
  subst ha
  exact ⟨by show q + 1 + 2 * k + 1 < w.1; omega, quW_at2 hk⟩
theorem quW_get {a : Nat} (h : a < q ∨ q + 8 < a) : (quW w q Q).2 a = w.2 a := by
  show (if a = q then _ else if q < a ∧ a ≤ q + 8 then quC q Q (a - q - 1) else w.2 a) = _
  rw [if_neg (by omega), if_neg (by omega)]
def mapU (op : Nat → QK → QK) (Q : QU) (i : Nat) : QU := fun k => if k < i then op k (Q k) else Q k
theorem mapU_0 {op : Nat → QK → QK} : mapU op Q 0 = Q := by funext k; simp [mapU]
theorem mapU_at {op : Nat → QK → QK} {i : Nat} : mapU op Q i i = Q i := by simp [mapU]
theorem mapU_s {op : Nat → QK → QK} {i : Nat} : va_up (mapU op Q i) i (op i (Q i)) = mapU op Q (i + 1) := by
  funext k
  by_cases e : k = i
  · subst e; simp [va_up, mapU]
  · by_cases e2 : k < i
    · simp [va_up, mapU, e, e2, Nat.lt_succ_of_lt e2]
    · have e3 : ¬ k < i + 1 := by omega
      simp [va_up, mapU, e, e2, e3]
end QUW
def opPut (ky x : Int32) (k : Nat) (p : QK) : QK := (p.1 + 1, enterK ltI k p.1 (upd p.2.1 p.1 (encI ky x), p.2.2))
def opTake (x : Int32) (k : Nat) (p : QK) : QK := (p.1 - 1, takeK ltI k p.1 (fndN p.2.1 p.1 x) p.2)
def opGive (x ky : Int32) (k : Nat) (p : QK) : QK := (p.1, settleK ltI k p.1 (fndN p.2.1 p.1 x) (upd p.2.1 (fndN p.2.1 p.1 x) (encI ky x), p.2.2))
def opArr (k : Nat) (p : QK) : QK := (p.1, allK ltI k p.1 (lineS p.1 30 0 0 p.2.1, p.2.2))
def opEmpty (_ : Nat) (p : QK) : QK := (0, p.2)
def opForget (_ : Nat) (p : QK) : QK := (p.1, p.2.1, 0)
def opCopy (P : QU) (k : Nat) (p : QK) : QK := ((P k).1, va_cpy (P k).2.1 p.2.1 0 0 30, (P k).2.2)
def hasB (Q : QU) (x : Int32) : Bool := decide (fndN (Q 0).2.1 (Q 0).1 x < (Q 0).1)
