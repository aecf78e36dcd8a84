/-! the model's world: the object at p, now p + 1, past p + 2, kept p + 3, text p + 4 -/
abbrev XS : Type := Int32 × Int32 × Int32 × Int32 × Int32 × Int32 × Int64
def mdO (p : Nat) (x : XS) : List Value := [.ref (p + 1), .ref (p + 2), .ref (p + 3), .int x.1, .int x.2.1, .ref (p + 4), .int x.2.2.1, .int x.2.2.2.1, .int x.2.2.2.2.1, .int x.2.2.2.2.2.1, .long x.2.2.2.2.2.2]
def mdW (w : MW) (p : Nat) (A P K T : Nat → Int32) (x : XS) : MW := (w.1, fun a => if a = p then .inr (7, mdO p x) else if a = p + 1 then .inl (.int, 184, .inl A) else if a = p + 2 then .inl (.int, 920, .inl P) else if a = p + 3 then .inl (.int, 184, .inl K) else if a = p + 4 then .inl (.int, 120, .inl T) else w.2 a)
section MDW
variable {w : MW} {p : Nat} {A P K T : Nat → Int32} {x : XS}
theorem mdW_ob (hp : p + 4 < w.1) : mm_ob (mdW w p A P K T x) p 7 [.ref (p + 1), .ref (p + 2), .ref (p + 3), .int x.1, .int x.2.1, .ref (p + 4), .int x.2.2.1, .int x.2.2.2.1, .int x.2.2.2.2.1, .int x.2.2.2.2.2.1, .long x.2.2.2.2.2.2] := ⟨by show p < w.1; omega, by simp [mdW, mdO]⟩
theorem mdW_A (hp : p + 4 < w.1) : mm_ar (mdW w p A P K T x) (p + 1) .int (184, .inl A) := ⟨by show p + 1 < w.1; omega, by simp [mdW]⟩
theorem mdW_P (hp : p + 4 < w.1) : mm_ar (mdW w p A P K T x) (p + 2) .int (920, .inl P) := ⟨by show p + 2 < w.1; omega, by simp [mdW]⟩
theorem mdW_K (hp : p + 4 < w.1) : mm_ar (mdW w p A P K T x) (p + 3) .int (184, .inl K) := ⟨by show p + 3 < w.1; omega, by simp [mdW]⟩
theorem mdW_T (hp : p + 4 < w.1) : mm_ar (mdW w p A P K T x) (p + 4) .int (120, .inl T) := ⟨by show p + 4 < w.1; omega, by simp [mdW]⟩
theorem mdW_uA (B : Nat → Int32) : mm_up (mdW w p A P K T x) (p + 1) (.inl (.int, 184, .inl B)) = mdW w p B P K T x := by
  refine Prod.ext rfl (funext fun j => ?_)
  show va_up (mdW w p A P K T x).2 (p + 1) _ j = _
  by_cases e : j = p + 1 <;> simp [va_up, mdW, e]
theorem mdW_uP (B : Nat → Int32) : mm_up (mdW w p A P K T x) (p + 2) (.inl (.int, 920, .inl B)) = mdW w p A B K T x := by
  refine Prod.ext rfl (funext fun j => ?_)
  show va_up (mdW w p A P K T x).2 (p + 2) _ j = _
  by_cases e : j = p + 2 <;> simp [va_up, mdW, e]
theorem mdW_uK (B : Nat → Int32) : mm_up (mdW w p A P K T x) (p + 3) (.inl (.int, 184, .inl B)) = mdW w p A P B T x := by
  refine Prod.ext rfl (funext fun j => ?_)
  show va_up (mdW w p A P K T x).2 (p + 3) _ j = _
  by_cases e : j = p + 3 <;> simp [va_up, mdW, e]
theorem mdW_uT (B : Nat → Int32) : mm_up (mdW w p A P K T x) (p + 4) (.inl (.int, 120, .inl B)) = mdW w p A P K B x := by
  refine Prod.ext rfl (funext fun j => ?_)
  show va_up (mdW w p A P K T x).2 (p + 4) _ j = _
  by_cases e : j = p + 4 <;> simp [va_up, mdW, e]
theorem mdW_uX (z : XS) : mm_up (mdW w p A P K T x) p (.inr (7, [.ref (p + 1), .ref (p + 2), .ref (p + 3), .int z.1, .int z.2.1, .ref (p + 4), .int z.2.2.1, .int z.2.2.2.1, .int z.2.2.2.2.1, .int z.2.2.2.2.2.1, .long z.2.2.2.2.2.2])) = mdW w p A P K T z := by
  refine Prod.ext rfl (funext fun j => ?_)
  show va_up (mdW w p A P K T x).2 p _ j = _
  by_cases e : j = p <;> simp [va_up, mdW, mdO, e]
end MDW
theorem a_row (k i : Nat) : 60 + 30 * nI k + nI i = nI (60 + 30 * k + i) := by
  rw [show (30 : Int32) * nI k = nI (30 * k) from pk_mul 30 k, show (60 : Int32) + nI (30 * k) = nI (60 + 30 * k) from nI_add 60 (30 * k), nI_add]
def cq (k : Nat) : Nat := if k < 2 then k else 2
theorem cq_lt (k : Nat) : cq k < 3 := by unfold cq; split <;> omega
def okH (x : Int32) : Prop := ∃ h : Nat, h < 30 ∧ x = nI h
def rowOK (f : Nat → Int32) : Prop := ∀ i, i < 30 → okH (f i)
def ltA (A : Nat → Int32) : QL := fun a b => if A a.toNatClampNeg = A b.toNatClampNeg then decide (a < b) else decide (A a.toNatClampNeg < A b.toNatClampNeg)
def setL (A : Nat → Int32) (k : Nat) (s : QS) : Nat → Int32 := fun a => if 60 + 30 * k ≤ a ∧ a < 60 + 30 * k + 30 then s.1 (a - (60 + 30 * k)) else if a = 181 + cq k then s.2 else A a
section SETL
variable {A : Nat → Int32} {k : Nat} {s : QS}
theorem setL_row {i : Nat} (hi : i < 30) : setL A k s (60 + 30 * k + i) = s.1 i := by
  unfold setL
  rw [if_pos (by omega), show 60 + 30 * k + i - (60 + 30 * k) = i by omega]
theorem setL_cnt (hk : k < 4) : setL A k s (181 + cq k) = s.2 := by
  unfold setL
  rw [if_neg (by omega), if_pos rfl]
theorem setL_lo {a : Nat} (ha : a < 60) : setL A k s a = A a := by
  unfold setL
  rw [if_neg (by omega), if_neg (by omega)]
theorem setL_n (hk : k < 4) : setL A k s 180 = A 180 := by
  unfold setL
  rw [if_neg (by omega), if_neg (by omega)]
theorem setL_uR {i : Nat} (hk : k < 4) (hi : i < 30) (v : Int32) : upd (setL A k s) (60 + 30 * k + i) v = setL A k (upd s.1 i v, s.2) := by
  funext a
  by_cases e : a = 60 + 30 * k + i
  · subst e
    rw [setL_row hi]
    simp [upd]
  · by_cases h : 60 + 30 * k ≤ a ∧ a < 60 + 30 * k + 30
    · simp only [upd, setL, if_neg e, if_pos h]
      rw [if_neg (by omega)]
    · simp only [upd, setL, if_neg e, if_neg h]
theorem setL_uC (hk : k < 4) (c : Int32) : upd (setL A k s) (181 + cq k) c = setL A k (s.1, c) := by
  funext a
  have := cq_lt k
  by_cases e : a = 181 + cq k
  · subst e
    rw [setL_cnt hk]
    simp [upd]
  · by_cases h : 60 + 30 * k ≤ a ∧ a < 60 + 30 * k + 30
    · simp only [upd, setL, if_neg e, if_pos h]
    · simp only [upd, setL, if_neg e, if_neg h]
theorem setL_same (hk : k < 4) : setL A k (fun i => A (60 + 30 * k + i), A (181 + cq k)) = A := by
  funext a
  unfold setL
  by_cases h : 60 + 30 * k ≤ a ∧ a < 60 + 30 * k + 30
  · rw [if_pos h]
    show A (60 + 30 * k + (a - (60 + 30 * k))) = A a
    rw [show 60 + 30 * k + (a - (60 + 30 * k)) = a by omega]
  · rw [if_neg h]
    by_cases e : a = 181 + cq k
    · rw [if_pos e, e]
    · rw [if_neg e]
theorem ltA_set {x z : Int32} (hx : okH x) (hz : okH z) : ltA (setL A k s) x z = ltA A x z := by
  obtain ⟨a, ha, rfl⟩ := hx
  obtain ⟨b, hb, rfl⟩ := hz
  simp only [ltA, nI_clamp (show a < 2 ^ 31 by omega), nI_clamp (show b < 2 ^ 31 by omega)]
  rw [setL_lo (by omega), setL_lo (by omega)]
end SETL
theorem rowOK_upd {f : Nat → Int32} {i : Nat} {v : Int32} (h : rowOK f) (hv : okH v) : rowOK (upd f i v) := by
  intro j hj
  simp only [upd]
  split
  · exact hv
  · exact h j hj
theorem rowOK_sw {f : Nat → Int32} {i j : Nat} (h : rowOK f) (hi : i < 30) (hj : j < 30) : rowOK (sw f i j) := rowOK_upd (rowOK_upd h (h j hj)) (h i hi)
