/-! numbers -/
theorem a_par {k : Nat} (h0 : 0 < k) (hk : k < 2 ^ 30) : (nI k - 1) / 2 = nI ((k - 1) / 2) := by
  have e : nI k - 1 = nI (k - 1) := by
    obtain ⟨j, rfl⟩ : ∃ j, k = j + 1 := ⟨k - 1, by omega⟩
    rw [nI_pred]; rfl
  rw [e]
  exact pk_div (a := k - 1) (d := 2) (by omega) (by decide) (by decide)
theorem a_pred {k : Nat} (h0 : 0 < k) : nI k - 1 = nI (k - 1) := by
  obtain ⟨j, rfl⟩ : ∃ j, k = j + 1 := ⟨k - 1, by omega⟩
  rw [nI_pred]; rfl
theorem a_pred' {k : Nat} (h0 : 0 < k) : nI k + -1 = nI (k - 1) := by
  obtain ⟨j, rfl⟩ : ∃ j, k = j + 1 := ⟨k - 1, by omega⟩
  rw [pk_m1]; rfl
theorem a_2 (k : Nat) : 2 * nI k = nI (2 * k) := pk_mul 2 k
theorem a_2r (k : Nat) : nI k * 2 = nI (k * 2) := pk_mul k 2
theorem a_k1 (k : Nat) : nI k + 1 = nI (k + 1) := nI_1 k
theorem a_k2 (k : Nat) : nI k + 2 = nI (k + 2) := nI_add k 2
theorem a_div2 {k : Nat} (hk : k < 2 ^ 31) : nI k / 2 = nI (k / 2) := pk_div hk (by decide) (by decide)
theorem n_nle {a b : Nat} (h : b < a) (ha : a < 2 ^ 31) : ¬ nI a ≤ nI b := nI_ge h ha
theorem n_ne {a b : Nat} (h : a ≠ b) (ha : a < 2 ^ 31) (hb : b < 2 ^ 31) : ¬ nI a = nI b := fun e => h ((nI_eq ha hb).mp e)
theorem n_0 : (0 : Int32) = nI 0 := rfl
theorem n_le0 {a : Nat} (h : 0 < a) (ha : a < 2 ^ 31) : ¬ nI a ≤ 0 := nI_nle h ha
/-- the first place from j on, within k, that p takes -/
def ff (p : Nat → Bool) : Nat → Nat → Nat
  | 0, j => j
  | k + 1, j => if p j then j else ff p k (j + 1)
theorem ff_yes {p : Nat → Bool} {k j : Nat} (h : p j = true) : ff p (k + 1) j = j := by unfold ff; rw [if_pos h]
theorem ff_no {p : Nat → Bool} {k j : Nat} (h : p j = false) : ff p (k + 1) j = ff p k (j + 1) := by rw [ff, h]; rfl
theorem ff_ge (p : Nat → Bool) (k j : Nat) : j ≤ ff p k j ∧ ff p k j ≤ j + k := by
  induction k generalizing j with
  | zero => exact ⟨Nat.le_refl _, Nat.le_refl _⟩
  | succ k ih =>
    unfold ff
    have := ih (j + 1)
    split
    · omega
    · omega
theorem ff_hit (p : Nat → Bool) (k j : Nat) (h : ff p k j < j + k) : p (ff p k j) = true := by
  induction k generalizing j with
  | zero => exact absurd h (by unfold ff; omega)
  | succ k ih =>
    unfold ff at h ⊢
    by_cases e : p j = true
    · rw [if_pos e]; exact e
    · rw [if_neg e] at h ⊢
      exact ih (j + 1) (by omega)
theorem ff_miss (p : Nat → Bool) (k j i : Nat) (h1 : j ≤ i) (h2 : i < ff p k j) : p i = false := by
  induction k generalizing j with
  | zero => unfold ff at h2; omega
  | succ k ih =>
    unfold ff at h2
    by_cases e : p j = true
    · rw [if_pos e] at h2; omega
    · rw [if_neg e] at h2
      by_cases e2 : i = j
      · rw [e2]; simpa using e
      · exact ih (j + 1) (by omega) h2
theorem ff_lt {p : Nat → Bool} {k j i : Nat} (h1 : j ≤ i) (h2 : i < j + k) (hp : p i = true) : ff p k j ≤ i := by
  rcases Nat.lt_or_ge i (ff p k j) with q | q
  · have := ff_miss p k j i h1 q
    rw [hp] at this; cases this
  · exact q
/-- two places change -/
def sw (f : Nat → Int32) (i j : Nat) : Nat → Int32 := upd (upd f i (f j)) j (f i)
def bI (b : Bool) : Int32 := if b then 1 else 0
theorem bI_t : bI true = 1 := rfl
theorem bI_f : bI false = 0 := rfl
theorem bI_d1 {p : Prop} {d : Decidable p} (h : p) : bI (@decide p d) = 1 := by rw [decide_eq_true h]; rfl
theorem bI_d0 {p : Prop} {d : Decidable p} (h : ¬ p) : bI (@decide p d) = 0 := by rw [decide_eq_false h]; rfl
theorem bI_ne {b : Bool} : ¬ bI b = 0 ↔ b = true := by cases b <;> decide
theorem bI_eq {b : Bool} : bI b = 0 ↔ b = false := by cases b <;> decide
/-- an item's place in a row -/
def hs (x : Int32) : Int32 := x &&& 31
def fndN (f : Nat → Int32) (n : Nat) (x : Int32) : Nat := ff (fun j => decide (hs (f j) = x)) n 0
def fndR (f : Nat → Int32) (n : Nat) (x : Int32) : Int32 := if fndN f n x < n then nI (fndN f n x) else -1
section LV
variable {l : Launch} {y : MethodName} {cc : ByteArray} {nL : Nat} {ret : Option FieldType} {hh : List (Nat × Nat × Nat × Nat)} {ext : Option (Nat × (Nat → Int32))} {Z : MZ} {d bc bs : Nat} {pc : Nat} {lv : List (Nat × Value)} {st : List Value} {w : MW}
def mm_sub (lv : List (Nat × Value)) : List (Nat × Value) → Prop
  | [] => True
  | q :: l => mm_lk lv q.1 = some q.2 ∧ mm_sub lv l
theorem mm_sub_all {lv lv0 : List (Nat × Value)} (h : mm_sub lv lv0) : ∀ q ∈ lv0, mm_lk lv q.1 = some q.2 := by
  induction lv0 with
  | nil => intro q hq; cases hq
  | cons a b ih =>
    intro q hq
    rcases List.mem_cons.mp hq with e | e
    · rw [e]; exact h.1
    · exact ih h.2 q e
theorem go_sub (lv0 : List (Nat × Value)) (hs : mm_sub lv lv0) (h : Go l y cc nL ret hh ext Z d bc bs pc lv0 st w) : Go l y cc nL ret hh ext Z d bc bs pc lv st w := go_lv lv0 (mm_sub_all hs) h
end LV
