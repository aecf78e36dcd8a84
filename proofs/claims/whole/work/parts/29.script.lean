/-! the script reader of the class: its text t, length ln, and (cursor, number, command, handle, key) -/
abbrev PS : Type := Nat × Nat × Int32 × Int32 × Int32
def scW (w : MW) (p : Nat) (t : Nat → Nat) (ln : Nat) (s : PS) : MW := (w.1, va_up (va_up w.2 p (.inr (5, [.ref (p + 1), .int (nI s.1), .int (nI s.2.1), .int (nI ln), .int s.2.2.1, .int s.2.2.2.1, .int s.2.2.2.2]))) (p + 1) (.inl (.char, 120, .inl (fun i => nI (t i)))))
section SCW
variable {w : MW} {p : Nat} {t : Nat → Nat} {ln : Nat} {s : PS}
theorem scW_ob (hp : p + 1 < w.1) : mm_ob (scW w p t ln s) p 5 [.ref (p + 1), .int (nI s.1), .int (nI s.2.1), .int (nI ln), .int s.2.2.1, .int s.2.2.2.1, .int s.2.2.2.2] := ⟨by show p < w.1; omega, by simp [scW, va_up]⟩
theorem scW_ar (hp : p + 1 < w.1) : mm_ar (scW w p t ln s) (p + 1) .char (120, .inl (fun i => nI (t i))) := ⟨hp, by simp [scW, va_up]⟩
theorem scW_up (t2 : Nat → Nat) (ln2 : Nat) (s2 : PS) : mm_up (scW w p t ln s) p (.inr (5, [.ref (p + 1), .int (nI s2.1), .int (nI s2.2.1), .int (nI ln2), .int s2.2.2.1, .int s2.2.2.2.1, .int s2.2.2.2.2])) = scW w p t ln2 s2 := by
  refine Prod.ext rfl (funext fun j => ?_)
  show va_up (va_up (va_up w.2 p _) (p + 1) _) p _ j = va_up (va_up w.2 p _) (p + 1) _ j
  by_cases e : j = p + 1
  · have e2 : ¬ j = p := by omega
    simp [va_up, e]
  · by_cases e2 : j = p <;> simp [va_up, e, e2]
theorem scW_upA (t2 : Nat → Nat) : mm_up (scW w p t ln s) (p + 1) (.inl (.char, 120, .inl (fun i => nI (t2 i)))) = scW w p t2 ln s := by
  refine Prod.ext rfl (funext fun j => ?_)
  show va_up (va_up (va_up w.2 p _) (p + 1) _) (p + 1) _ j = va_up (va_up w.2 p _) (p + 1) _ j
  by_cases e : j = p + 1 <;> simp [va_up, e]
end SCW
def curN (t : Nat → Nat) (ln cu : Nat) : Nat := if cu < ln then t cu else 0
def rdN (t : Nat → Nat) (ln : Nat) : Nat → Nat → Nat → Nat × Nat
  | 0, cu, v => (cu, v)
  | u + 1, cu, v => if 48 ≤ curN t ln cu ∧ curN t ln cu ≤ 57 then rdN t ln u (cu + 1) (10 * v + (curN t ln cu - 48)) else (cu, v)
def rdSign (t : Nat → Nat) (ln c : Nat) (s : PS) : Bool × PS := if curN t ln s.1 = c then (true, s.1 + 1, s.2) else (false, s)
def sgn1 (t : Nat → Nat) (ln : Nat) (s : PS) : Nat := if curN t ln s.1 = 45 then s.1 + 1 else s.1
def rdKey (t : Nat → Nat) (ln : Nat) (s : PS) : Bool × PS := (decide (sgn1 t ln s < (rdN t ln 3 (sgn1 t ln s) 0).1), (rdN t ln 3 (sgn1 t ln s) 0).1, (rdN t ln 3 (sgn1 t ln s) 0).2, s.2.2.1, s.2.2.2.1, if curN t ln s.1 = 45 then -nI (rdN t ln 3 (sgn1 t ln s) 0).2 else nI (rdN t ln 3 (sgn1 t ln s) 0).2)
def rdHand (t : Nat → Nat) (ln : Nat) (s : PS) : Bool × PS := (decide (s.1 < (rdN t ln 2 s.1 0).1), (rdN t ln 2 s.1 0).1, (rdN t ln 2 s.1 0).2, s.2.2.1, nI (rdN t ln 2 s.1 0).2, s.2.2.2.2)
def rdArgs (t : Nat → Nat) (ln : Nat) (s : PS) : Bool × PS := if s.2.2.1 = 0 then rdKey t ln s else if s.2.2.1 = 3 then rdHand t ln s else if s.2.2.1 = 5 then (if (rdHand t ln s).1 then (if (rdSign t ln 44 (rdHand t ln s).2).1 then rdKey t ln (rdSign t ln 44 (rdHand t ln s).2).2 else (false, (rdSign t ln 44 (rdHand t ln s).2).2)) else (false, (rdHand t ln s).2)) else (true, s)
def cmdOf (c : Nat) : Int32 := if c = 105 then 0 else if c = 108 then 1 else if c = 103 then 2 else if c = 114 then 3 else if c = 99 then 5 else if c = 98 then 4 else -1
def rdCmd (t : Nat → Nat) (ln : Nat) (s : PS) : Bool × PS := if cmdOf (curN t ln s.1) = -1 then (false, s.1, s.2.1, -1, s.2.2.2) else (if (rdArgs t ln (s.1 + 1, s.2.1, cmdOf (curN t ln s.1), s.2.2.2)).1 then rdSign t ln 59 (rdArgs t ln (s.1 + 1, s.2.1, cmdOf (curN t ln s.1), s.2.2.2)).2 else (false, (rdArgs t ln (s.1 + 1, s.2.1, cmdOf (curN t ln s.1), s.2.2.2)).2))
def fltS (t : Nat → Nat) (ln : Nat) : Nat → PS → Int32 × PS
  | 0, s => (-1, s)
  | u + 1, s => if s.1 < ln then (if (rdCmd t ln s).1 then fltS t ln u (rdCmd t ln s).2 else (nI (rdCmd t ln s).2.1, (rdCmd t ln s).2)) else (-1, s)
theorem cur_lt {t : Nat → Nat} {ln cu : Nat} (h : curN t ln cu ≠ 0) : cu < ln := by
  rcases Nat.lt_or_ge cu ln with z | z
  · exact z
  · exact absurd (by unfold curN; rw [if_neg (by omega)]) h
theorem cur_128 {t : Nat → Nat} {ln cu : Nat} (ht : ∀ i, t i < 128) : curN t ln cu < 128 := by unfold curN; split; exact ht _; omega
theorem rdN_le {t : Nat → Nat} {ln : Nat} (u cu v : Nat) (h : cu ≤ ln) : (rdN t ln u cu v).1 ≤ ln ∧ cu ≤ (rdN t ln u cu v).1 := by
  induction u generalizing cu v with
  | zero => exact ⟨h, Nat.le_refl _⟩
  | succ u ih =>
    unfold rdN
    split
    · rename_i z
      have := cur_lt (t := t) (ln := ln) (cu := cu) (by omega)
      have := ih (cu + 1) (10 * v + (curN t ln cu - 48)) (by omega)
      omega
    · exact ⟨h, Nat.le_refl _⟩
theorem rdSign_le {t : Nat → Nat} {ln c : Nat} {s : PS} (hc : c ≠ 0) (h : s.1 ≤ ln) : (rdSign t ln c s).2.1 ≤ ln := by
  unfold rdSign
  split
  · rename_i z
    have := cur_lt (t := t) (ln := ln) (cu := s.1) (by rw [z]; exact hc)
    show s.1 + 1 ≤ ln
    omega
  · exact h
theorem sgn1_le {t : Nat → Nat} {ln : Nat} {s : PS} (h : s.1 ≤ ln) : sgn1 t ln s ≤ ln := by
  unfold sgn1
  split
  · rename_i z
    have := cur_lt (t := t) (ln := ln) (cu := s.1) (by rw [z]; decide)
    omega
  · exact h
theorem rdKey_le {t : Nat → Nat} {ln : Nat} {s : PS} (h : s.1 ≤ ln) : (rdKey t ln s).2.1 ≤ ln := (rdN_le 3 _ 0 (sgn1_le h)).1
theorem rdHand_le {t : Nat → Nat} {ln : Nat} {s : PS} (h : s.1 ≤ ln) : (rdHand t ln s).2.1 ≤ ln := (rdN_le 2 _ 0 h).1
theorem rdArgs_le {t : Nat → Nat} {ln : Nat} {s : PS} (h : s.1 ≤ ln) : (rdArgs t ln s).2.1 ≤ ln := by
  unfold rdArgs
  split
  · exact rdKey_le h
  · split
    · exact rdHand_le h
    · split
      · split
        · split
          · exact rdKey_le (rdSign_le (by decide) (rdHand_le h))
          · exact rdSign_le (by decide) (rdHand_le h)
        · exact rdHand_le h
      · exact h
theorem cmdOf_0 : cmdOf 0 = -1 := by decide
theorem rdCmd_le {t : Nat → Nat} {ln : Nat} {s : PS} (h : s.1 ≤ ln) : (rdCmd t ln s).2.1 ≤ ln := by
  unfold rdCmd
  split
  · exact h
  · rename_i z
    have hl := cur_lt (t := t) (ln := ln) (cu := s.1) (fun e => z (by rw [e]; exact cmdOf_0))
    split
    · exact rdSign_le (by decide) (rdArgs_le (by show s.1 + 1 ≤ ln; omega))
    · exact rdArgs_le (by show s.1 + 1 ≤ ln; omega)
theorem nar_char {k : Nat} (h : k < 128) : narrow .char (.int (nI k)) = .int (nI k) := (pk_charN (by omega)).1
theorem rdN_y {t : Nat → Nat} {ln u cu v : Nat} (h : 48 ≤ curN t ln cu ∧ curN t ln cu ≤ 57) : rdN t ln (u + 1) cu v = rdN t ln u (cu + 1) (10 * v + (curN t ln cu - 48)) := by rw [rdN, if_pos h]
theorem rdN_n {t : Nat → Nat} {ln u cu v : Nat} (h : ¬ (48 ≤ curN t ln cu ∧ curN t ln cu ≤ 57)) : rdN t ln (u + 1) cu v = (cu, v) := by rw [rdN, if_neg h]
def updN (t : Nat → Nat) (j k : Nat) : Nat → Nat := fun i => if i = j then k else t i
theorem upd_char {t : Nat → Nat} {j k : Nat} (hk : k < 128) : upd (fun i => nI (t i)) j (vp_nar .char (nI k)) = fun i => nI (updN t j k i) := by
  refine funext fun i => ?_
  have e : vp_nar .char (nI k) = nI k := by
    have := nar_char hk
    unfold vp_nar
    rw [this]
  rw [e]
  simp only [upd, updN]
  split <;> rfl
theorem bI_ff {b : Bool} (h : bI b = 0) : ¬ b = true := by rw [bI_eq.mp h]; exact Bool.false_ne_true
theorem cmdOf_c {c : Nat} (h : ¬ cmdOf c = -1) : cmdOf c = 0 ∨ cmdOf c = 1 ∨ cmdOf c = 2 ∨ cmdOf c = 3 ∨ cmdOf c = 4 ∨ cmdOf c = 5 := by
  revert h
  unfold cmdOf
  repeat' split
  all_goals simp
