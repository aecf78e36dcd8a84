/-! the four layouts alike: k = 0 interval, 1 levels, 2 least first, 3 greatest first -/
def kci (k : Nat) : Nat := if k = 0 then 2 else if k = 1 then 3 else 0
def kxt (k : Nat) : List Value := if k = 0 then [] else if k = 1 then [] else if k = 2 then [.int (bI true)] else [.int (bI false)]
def enterK (lt : QL) (k p : Nat) (s : QS) : QS := if k = 0 then enterS0 lt p s else if k = 1 then enterS1 lt p s else if k = 2 then upS lt true 30 p s else upS lt false 30 p s
def settleK (lt : QL) (k n p : Nat) (s : QS) : QS := if k = 0 then settleS0 lt n (p / 2) s else if k = 1 then settleS1 lt n p s else if k = 2 then settleS2 lt true n p s else settleS2 lt false n p s
def allK (lt : QL) (k n : Nat) (s : QS) : QS := if k = 0 then allS0 lt n ((n + 1) / 2) s else if k = 1 then allS1 lt n n s else if k = 2 then allS2 lt true n n s else allS2 lt false n n s
def brkK (lt : QL) (k n : Nat) (f : Nat → Int32) : Nat := if k = 0 then brk0 lt n f ((n + 1) / 2) else if k = 1 then brk1 lt f n else if k = 2 then brk2 lt true f n else brk2 lt false f n
def encI (ky hd : Int32) : Int32 := (ky <<< (5 &&& 31)) + hd
def takeK (lt : QL) (k n p : Nat) (s : QS) : QS := if p < n - 1 then settleK lt k (n - 1) p (upd s.1 p (s.1 (n - 1)), s.2) else (upd s.1 p (s.1 (n - 1)), s.2)
def lineS (n : Nat) : Nat → Nat → Nat → (Nat → Int32) → (Nat → Int32)
  | 0, _, _, f => f
  | u + 1, hd, x, f => if fndN f n (nI hd) < n then lineS n u (hd + 1) (x + 1) (sw f x (fndN f n (nI hd))) else lineS n u (hd + 1) x f
theorem kci_ok {k : Nat} : kci k = 0 ∨ kci k = 2 ∨ kci k = 3 := by unfold kci; split <;> (try split) <;> simp
theorem layW_get {w : MW} {h ci : Nat} {xt : List Value} {f : Nat → Int32} {n : Nat} {c : Int32} {a : Nat} (h1 : a ≠ h) (h2 : a ≠ h + 1) : (layW w h ci xt f n c).2 a = w.2 a := by simp [layW, va_up, h1, h2]
theorem layW_obo {w : MW} {h ci : Nat} {xt : List Value} {f : Nat → Int32} {n : Nat} {c : Int32} {a cj : Nat} {fs : List Value} (ho : mm_ob w a cj fs) (h1 : a ≠ h) (h2 : a ≠ h + 1) : mm_ob (layW w h ci xt f n c) a cj fs := ⟨ho.1, by rw [layW_get h1 h2]; exact ho.2⟩
theorem layW_aro {w : MW} {h ci : Nat} {xt : List Value} {f : Nat → Int32} {n : Nat} {c : Int32} {a : Nat} {ty : FieldType} {x : vp_A} (ho : mm_ar w a ty x) (h1 : a ≠ h) (h2 : a ≠ h + 1) : mm_ar (layW w h ci xt f n c) a ty x := ⟨ho.1, by rw [layW_get h1 h2]; exact ho.2⟩
theorem sw_at_i {f : Nat → Int32} {i j : Nat} : sw f i j i = f j := by
  unfold sw
  by_cases e : i = j
  · subst e; exact pk_us
  · rw [pk_un e, pk_us]
theorem sw_at_o {f : Nat → Int32} {i j x : Nat} (h1 : x ≠ i) (h2 : x ≠ j) : sw f i j x = f x := by unfold sw; rw [pk_un h2, pk_un h1]
theorem sw_at_j {f : Nat → Int32} {i j : Nat} : sw f i j j = f i := by unfold sw; exact pk_us
theorem sw_comm (f : Nat → Int32) (i j : Nat) : sw f i j = sw f j i := by
  funext x
  by_cases e1 : x = i
  · subst e1; rw [sw_at_i, sw_at_j]
  · by_cases e2 : x = j
    · subst e2; rw [sw_at_i, sw_at_j]
    · rw [sw_at_o e1 e2, sw_at_o e2 e1]
theorem brk1_max (lt : QL) (f : Nat → Int32) (n : Nat) : brk1 lt f (max 1 n) = brk1 lt f n := by
  cases n with
  | zero => rfl
  | succ n => rw [show max 1 (n + 1) = n + 1 by omega]
theorem brk2_max (lt : QL) (low : Bool) (f : Nat → Int32) (n : Nat) : brk2 lt low f (max 1 n) = brk2 lt low f n := by
  cases n with
  | zero => rfl
  | succ n => rw [show max 1 (n + 1) = n + 1 by omega]
theorem enterK_0 (lt : QL) (p : Nat) (s : QS) : enterK lt 0 p s = enterS0 lt p s := by simp [enterK]
theorem settleK_0 (lt : QL) (n p : Nat) (s : QS) : settleK lt 0 n p s = settleS0 lt n (p / 2) s := by simp [settleK]
theorem allK_0 (lt : QL) (n : Nat) (s : QS) : allK lt 0 n s = allS0 lt n ((n + 1) / 2) s := by simp [allK]
theorem brkK_0 (lt : QL) (n : Nat) (f : Nat → Int32) : brkK lt 0 n f = brk0 lt n f ((n + 1) / 2) := by simp [brkK]
theorem enterK_1 (lt : QL) (p : Nat) (s : QS) : enterK lt 1 p s = enterS1 lt p s := by simp [enterK]
theorem settleK_1 (lt : QL) (n p : Nat) (s : QS) : settleK lt 1 n p s = settleS1 lt n p s := by simp [settleK]
theorem allK_1 (lt : QL) (n : Nat) (s : QS) : allK lt 1 n s = allS1 lt n n s := by simp [allK]
theorem brkK_1 (lt : QL) (n : Nat) (f : Nat → Int32) : brkK lt 1 n f = brk1 lt f n := by simp [brkK]
theorem enterK_2 (lt : QL) (p : Nat) (s : QS) : enterK lt 2 p s = upS lt true 30 p s := by simp [enterK]
theorem settleK_2 (lt : QL) (n p : Nat) (s : QS) : settleK lt 2 n p s = settleS2 lt true n p s := by simp [settleK]
theorem allK_2 (lt : QL) (n : Nat) (s : QS) : allK lt 2 n s = allS2 lt true n n s := by simp [allK]
theorem brkK_2 (lt : QL) (n : Nat) (f : Nat → Int32) : brkK lt 2 n f = brk2 lt true f n := by simp [brkK]
theorem enterK_3 (lt : QL) (p : Nat) (s : QS) : enterK lt 3 p s = upS lt false 30 p s := by simp [enterK]
theorem settleK_3 (lt : QL) (n p : Nat) (s : QS) : settleK lt 3 n p s = settleS2 lt false n p s := by simp [settleK]
theorem allK_3 (lt : QL) (n : Nat) (s : QS) : allK lt 3 n s = allS2 lt false n n s := by simp [allK]
theorem brkK_3 (lt : QL) (n : Nat) (f : Nat → Int32) : brkK lt 3 n f = brk2 lt false f n := by simp [brkK]
theorem kci_0 : kci 0 = 2 := rfl
theorem kci_1 : kci 1 = 3 := rfl
theorem kci_2 : kci 2 = 0 := rfl
theorem kci_3 : kci 3 = 0 := rfl
