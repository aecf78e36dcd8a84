/-! the levels and the heaps -/
def ld (lt : QL) (low : Bool) (x z : Int32) : Bool := if low then lt x z else lt z x
def lvl (p : Nat) : Nat := Nat.log2 (p + 1)
def lowB (p : Nat) : Bool := decide (lvl p % 2 = 0)
theorem lvl_0 : lvl 0 = 0 := by decide +kernel
theorem lvl_s {p : Nat} (h : 0 < p) : lvl p = lvl ((p - 1) / 2) + 1 := by
  unfold lvl
  have e : (p - 1) / 2 + 1 = (p + 1) / 2 := by omega
  rw [e, Nat.log2_def (p + 1), if_pos (by omega)]
theorem lvl_le {p : Nat} : lvl p ≤ p := by
  induction p using Nat.strongRecOn with
  | ind p ih =>
    by_cases h : p = 0
    · rw [h, lvl_0]; exact Nat.le_refl _
    · rw [lvl_s (by omega)]
      have := ih ((p - 1) / 2) (by omega)
      omega
theorem lowB_s {p : Nat} (h : 0 < p) : lowB ((p - 1) / 2) = !lowB p := by
  unfold lowB
  rw [lvl_s h]
  by_cases e : lvl ((p - 1) / 2) % 2 = 0
  · rw [decide_eq_true e, decide_eq_false (by omega)]; rfl
  · rw [decide_eq_false e, decide_eq_true (by omega)]; rfl
def riseS1 (lt : QL) (low : Bool) : Nat → Nat → QS → QS
  | 0, _, s => s
  | u + 1, i, s => if i ≤ 2 then s else if ld lt low (s.1 i) (s.1 ((i - 3) / 4)) then riseS1 lt low u ((i - 3) / 4) (sw s.1 i ((i - 3) / 4), s.2 + 1) else (s.1, s.2 + 1)
def cand (i m : Nat) : Nat := if m = 1 then 2 * i + 2 else 4 * i + 1 + m
def fbS (lt : QL) (low : Bool) (n : Nat) (f : Nat → Int32) (i : Nat) : Nat → Nat → Nat × Int32 → Nat × Int32
  | 0, _, s => s
  | u + 1, m, s => if cand i m < n then (if ld lt low (f (cand i m)) (f s.1) then fbS lt low n f i u (m + 1) (cand i m, s.2 + 1) else fbS lt low n f i u (m + 1) (s.1, s.2 + 1)) else fbS lt low n f i u (m + 1) s
def sinkS1 (lt : QL) (low : Bool) (n : Nat) : Nat → Nat → QS → QS
  | 0, _, s => s
  | u + 1, i, s =>
    if 2 * i + 1 < n then
      let b := fbS lt low n s.1 i 5 1 (2 * i + 1, s.2)
      if ld lt low (s.1 b.1) (s.1 i) then
        (if (b.1 - 1) / 2 = i then (sw s.1 b.1 i, b.2 + 1)
         else if ld lt low (sw s.1 b.1 i ((b.1 - 1) / 2)) (sw s.1 b.1 i b.1) then sinkS1 lt low n u b.1 (sw (sw s.1 b.1 i) ((b.1 - 1) / 2) b.1, b.2 + 1 + 1)
         else sinkS1 lt low n u b.1 (sw s.1 b.1 i, b.2 + 1 + 1))
      else (s.1, b.2 + 1)
    else s
def enterS1 (lt : QL) (i : Nat) (s : QS) : QS := if i = 0 then s else if ld lt (lowB i) (s.1 ((i - 1) / 2)) (s.1 i) then riseS1 lt (!lowB i) 30 ((i - 1) / 2) (sw s.1 ((i - 1) / 2) i, s.2 + 1) else riseS1 lt (lowB i) 30 i (s.1, s.2 + 1)
def settleS1 (lt : QL) (n i : Nat) (s : QS) : QS := sinkS1 lt (lowB i) n 30 i (enterS1 lt i s)
def allS1 (lt : QL) (n : Nat) : Nat → QS → QS
  | 0, s => s
  | m + 1, s => allS1 lt n m (sinkS1 lt (lowB m) n 30 m s)
def brkU (lt : QL) (f : Nat → Int32) (j : Nat) : Nat → Nat → Nat
  | 0, _ => 0
  | u + 1, i => if i = 0 then 0 else bN (ld lt (lowB ((i - 1) / 2)) (f j) (f ((i - 1) / 2))) + brkU lt f j u ((i - 1) / 2)
def brk1 (lt : QL) (f : Nat → Int32) : Nat → Nat
  | 0 => 0
  | m + 1 => brk1 lt f m + brkU lt f m 30 m
/-- heaps: up, down, for the least (low) or the greatest -/
def upS (lt : QL) (low : Bool) : Nat → Nat → QS → QS
  | 0, _, s => s
  | u + 1, i, s => if i = 0 then s else if ld lt low (s.1 i) (s.1 ((i - 1) / 2)) then upS lt low u ((i - 1) / 2) (sw s.1 i ((i - 1) / 2), s.2 + 1) else (s.1, s.2 + 1)
def downS (lt : QL) (low : Bool) (n : Nat) : Nat → Nat → QS → QS
  | 0, _, s => s
  | u + 1, i, s =>
    if 2 * i + 1 < n then
      let b := decide (2 * i + 2 < n)
      let c1 := if b then s.2 + 1 else s.2
      let ch := chS b (ld lt low (s.1 (2 * i + 2)) (s.1 (2 * i + 1))) i
      if ld lt low (s.1 ch) (s.1 i) then downS lt low n u ch (sw s.1 ch i, c1 + 1) else (s.1, c1 + 1)
    else s
def settleS2 (lt : QL) (low : Bool) (n i : Nat) (s : QS) : QS := downS lt low n 30 i (upS lt low 30 i s)
def allS2 (lt : QL) (low : Bool) (n : Nat) : Nat → QS → QS
  | 0, s => s
  | m + 1, s => allS2 lt low n m (downS lt low n 30 m s)
def brk2 (lt : QL) (low : Bool) (f : Nat → Int32) : Nat → Nat
  | 0 => 0
  | m + 1 => brk2 lt low f m + (if m = 0 then 0 else bN (ld lt low (f m) (f ((m - 1) / 2))))
theorem fbS_lt {lt : QL} {low : Bool} {n : Nat} {f : Nat → Int32} {i : Nat} (u m : Nat) (s : Nat × Int32) (h : s.1 < n) (hp : s.1 ≠ 0) (hm : 1 ≤ m) : (fbS lt low n f i u m s).1 < n ∧ (fbS lt low n f i u m s).1 ≠ 0 := by
  induction u generalizing m s with
  | zero => exact ⟨h, hp⟩
  | succ u ih =>
    unfold fbS
    have hc : cand i m ≠ 0 := by unfold cand; split <;> omega
    split
    · split
      · exact ih (m + 1) _ (by assumption) hc (by omega)
      · exact ih (m + 1) _ h hp (by omega)
    · exact ih (m + 1) _ h hp (by omega)
theorem fbS_bd {lt : QL} {low : Bool} {n : Nat} {f : Nat → Int32} {i : Nat} (u m : Nat) (s : Nat × Int32) (h : 2 * i + 1 ≤ s.1 ∧ s.1 ≤ 4 * i + 6) (hm : 1 ≤ m) (hu : u + m ≤ 6) : 2 * i + 1 ≤ (fbS lt low n f i u m s).1 ∧ (fbS lt low n f i u m s).1 ≤ 4 * i + 6 := by
  induction u generalizing m s with
  | zero => exact h
  | succ u ih =>
    unfold fbS
    have hc : 2 * i + 1 ≤ cand i m ∧ cand i m ≤ 4 * i + 6 := by unfold cand; split <;> omega
    split
    · split
      · exact ih (m + 1) _ hc (by omega) (by omega)
      · exact ih (m + 1) _ h (by omega) (by omega)
    · exact ih (m + 1) _ h (by omega) (by omega)
theorem c_aheadB (l : Launch) {w : MW} {h ci : Nat} {xt : List Value} {f : Nat → Int32} {n : Nat} {c : Int32} (hh : h + 1 < w.1) (hci : ci = 0 ∨ ci = 2 ∨ ci = 3) (hn : n ≤ 30) {i j : Nat} (hi : i < n) (hj : j < n) (low : Bool) : Ct l (.code yX3_ahead cX3_ahead 4 (some .boolean)) yX3_ahead 0 0 0 [.ref h, .int (nI i), .int (nI j), .int (bI low)] (layW w h ci xt f n c) (.inl (some (.int (bI (ld ltI low (f i) (f j)))))) (layW w h ci xt f n (c + 1)) := by
  cases low
  · exact c_aheadG l hh hci hn hi hj
  · exact c_aheadL l hh hci hn hi hj
