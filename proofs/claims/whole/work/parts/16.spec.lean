/-! what the three queues do, over any row and any order lt; a state is (row, count) -/
abbrev QS : Type := (Nat → Int32) × Int32
abbrev QL : Type := Int32 → Int32 → Bool
def ltI : QL := fun a b => decide (a < b)
def topN (n k : Nat) : Nat := if 2 * k + 1 < n then 2 * k + 1 else 2 * k
def orderS (lt : QL) (n k : Nat) (s : QS) : QS := if 2 * k + 1 < n then (if lt (s.1 (2 * k + 1)) (s.1 (2 * k)) then (sw s.1 (2 * k + 1) (2 * k), s.2 + 1) else (s.1, s.2 + 1)) else s
def riseLowS (lt : QL) : Nat → Nat → QS → QS
  | 0, _, s => s
  | u + 1, k, s => if k = 0 then s else if lt (s.1 (2 * k)) (s.1 (2 * ((k - 1) / 2))) then riseLowS lt u ((k - 1) / 2) (sw s.1 (2 * k) (2 * ((k - 1) / 2)), s.2 + 1) else (s.1, s.2 + 1)
def riseHighS (lt : QL) : Nat → Nat → Nat → QS → QS
  | 0, _, _, s => s
  | u + 1, k, i, s => if k = 0 then s else if lt (s.1 (2 * ((k - 1) / 2) + 1)) (s.1 i) then riseHighS lt u ((k - 1) / 2) (2 * ((k - 1) / 2) + 1) (sw s.1 (2 * ((k - 1) / 2) + 1) i, s.2 + 1) else (s.1, s.2 + 1)
/-- which child: the second, if it is there and p says so -/
def chS (b p : Bool) (k : Nat) : Nat := if b && p then 2 * k + 2 else 2 * k + 1
def sinkLowS (lt : QL) (n : Nat) : Nat → Nat → QS → QS
  | 0, _, s => s
  | u + 1, k, s =>
    let s1 := orderS lt n k s
    if 2 * (2 * k + 1) < n then
      let b := decide (2 * (2 * k + 2) < n)
      let c1 := if b then s1.2 + 1 else s1.2
      let ch := chS b (lt (s1.1 (2 * (2 * k + 2))) (s1.1 (2 * (2 * k + 1)))) k
      if lt (s1.1 (2 * ch)) (s1.1 (2 * k)) then sinkLowS lt n u ch (sw s1.1 (2 * ch) (2 * k), c1 + 1) else (s1.1, c1 + 1)
    else s1
def sinkHighS (lt : QL) (n : Nat) : Nat → Nat → QS → QS
  | 0, _, s => s
  | u + 1, k, s =>
    let s1 := orderS lt n k s
    if 2 * (2 * k + 1) < n then
      let b := decide (2 * (2 * k + 2) < n)
      let c1 := if b then s1.2 + 1 else s1.2
      let ch := chS b (lt (s1.1 (topN n (2 * k + 1))) (s1.1 (topN n (2 * k + 2)))) k
      if lt (s1.1 (topN n k)) (s1.1 (topN n ch)) then sinkHighS lt n u ch (sw s1.1 (topN n k) (topN n ch), c1 + 1) else (s1.1, c1 + 1)
    else s1
def settleS0 (lt : QL) (n k : Nat) (s : QS) : QS := sinkHighS lt n 30 k (sinkLowS lt n 30 k (riseHighS lt 30 k (topN n k) (riseLowS lt 30 k (orderS lt n k s))))
/-- the item at the last place p comes in -/
def enterS0 (lt : QL) (p : Nat) (s : QS) : QS :=
  if p = 0 then s
  else if p = 2 * (p / 2) + 1 then
    (if lt (s.1 p) (s.1 (2 * (p / 2))) then riseLowS lt 30 (p / 2) (sw s.1 p (2 * (p / 2)), s.2 + 1) else riseHighS lt 30 (p / 2) p (s.1, s.2 + 1))
  else (if lt (s.1 p) (s.1 (2 * ((p / 2 - 1) / 2))) then riseLowS lt 30 (p / 2) (s.1, s.2 + 1) else riseHighS lt 30 (p / 2) p (s.1, s.2 + 1))
def allS0 (lt : QL) (n : Nat) : Nat → QS → QS
  | 0, s => s
  | m + 1, s => allS0 lt n m (sinkHighS lt n 30 m (sinkLowS lt n 30 m s))
abbrev layP (w : MW) (h ci : Nat) (xt : List Value) (n : Nat) (s : QS) : MW := layW w h ci xt s.1 n s.2
theorem topN_lt {n k : Nat} (h : 2 * k < n) : topN n k < n := by unfold topN; split <;> omega
theorem topN_bd (n k : Nat) : topN n k ≤ 2 * k + 1 := by unfold topN; split <;> omega
theorem n_lt' {a b : Nat} (h : ¬ nI b ≤ nI a) (ha : a < 2 ^ 31) : a < b := by
  rcases Nat.lt_or_ge a b with z | z
  · exact z
  · exact absurd (nI_le z ha) h
theorem n_le' {a b : Nat} (h : nI a ≤ nI b) (ha : a < 2 ^ 31) (hb : b < 2 ^ 31) : a ≤ b := (nI_leI ha hb).mp h
theorem n_lt2 {a b : Nat} (h : nI a < nI b) (ha : a < 2 ^ 31) (hb : b < 2 ^ 31) : a < b := (nI_ltI ha hb).mp h
theorem n_ge2 {a b : Nat} (h : ¬ nI a < nI b) (hb : b < 2 ^ 31) : b ≤ a := by
  rcases Nat.lt_or_ge a b with z | z
  · exact absurd (nI_lt z hb) h
  · exact z
theorem topN_1 {n k : Nat} (h : 2 * k + 1 < n) : topN n k = 2 * k + 1 := if_pos h
theorem topN_0 {n k : Nat} (h : ¬ 2 * k + 1 < n) : topN n k = 2 * k := if_neg h
theorem chS_t {p : Bool} {k : Nat} (h : p = true) : chS true p k = 2 * k + 2 := by unfold chS; rw [h]; rfl
theorem chS_f {p : Bool} {k : Nat} (h : p = false) : chS true p k = 2 * k + 1 := by unfold chS; rw [h]; rfl
theorem chS_0 {p : Bool} {k : Nat} : chS false p k = 2 * k + 1 := by unfold chS; rfl
def bN (b : Bool) : Nat := if b then 1 else 0
theorem bN_1 {b : Bool} (h : b = true) : bN b = 1 := by rw [h]; rfl
theorem bN_0 {b : Bool} (h : b = false) : bN b = 0 := by rw [h]; rfl
/-- pairs of the interval heap that are out of order, over the nodes below m -/
def brkA (lt : QL) (n : Nat) (f : Nat → Int32) (m : Nat) : Nat := bN (lt (f (topN n m)) (f (2 * m)))
def brkB (lt : QL) (f : Nat → Int32) (m : Nat) : Nat := if m = 0 then 0 else bN (lt (f (2 * m)) (f (2 * ((m - 1) / 2))))
def brkC (lt : QL) (n : Nat) (f : Nat → Int32) (m : Nat) : Nat := if m = 0 then 0 else bN (lt (f (2 * ((m - 1) / 2) + 1)) (f (topN n m)))
def brk0 (lt : QL) (n : Nat) (f : Nat → Int32) : Nat → Nat
  | 0 => 0
  | m + 1 => brk0 lt n f m + brkA lt n f m + brkB lt f m + brkC lt n f m
