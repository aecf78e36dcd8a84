/-! the class's world: object 0, queues at 1 and 10, history 19 and 20, records at 21 + 9 j, script 66 and 67 -/
abbrev HS : Type := (Nat → QU) × Nat × Nat
def rngF : Nat → Option Nat := fun j => if j < 5 then some (21 + 9 * j) else none
theorem rng_at {j : Nat} (h : j < 5) : va_rf (rngF j) = .ref (21 + 9 * j) := by
  unfold rngF
  rw [if_pos h]
  rfl
def tqW (w : MW) (Q U : QU) (H : HS) (t : Nat → Nat) (ln : Nat) (s : PS) : MW := (w.1, fun a =>
  if a = 0 then .inr (6, [.ref 1, .ref 10, .ref 19, .ref 66])
  else if a ≤ 9 then (quW w 1 Q).2 a
  else if a ≤ 18 then (quW w 10 U).2 a
  else if a = 19 then .inr (1, [.ref 20, .int (nI H.2.1), .int (nI H.2.2)])
  else if a = 20 then .inl (.object RX5, 5, .inr (.inr (.inr (.inr rngF))))
  else if a ≤ 65 then (quW w (21 + 9 * ((a - 21) / 9)) (H.1 ((a - 21) / 9))).2 a
  else if a ≤ 67 then (scW w 66 t ln s).2 a
  else w.2 a)
theorem quW_in {w w' : MW} {q : Nat} {Q : QU} {a : Nat} (h1 : q ≤ a) (h2 : a ≤ q + 8) : (quW w q Q).2 a = (quW w' q Q).2 a := by
  show (if a = q then _ else if q < a ∧ a ≤ q + 8 then quC q Q (a - q - 1) else w.2 a) = (if a = q then _ else if q < a ∧ a ≤ q + 8 then quC q Q (a - q - 1) else w'.2 a)
  by_cases e : a = q
  · rw [if_pos e, if_pos e]
  · rw [if_neg e, if_neg e, if_pos (by omega), if_pos (by omega)]
theorem scW_in {w w' : MW} {p : Nat} {t : Nat → Nat} {ln : Nat} {s : PS} {a : Nat} (h : a = p ∨ a = p + 1) : (scW w p t ln s).2 a = (scW w' p t ln s).2 a := by
  rcases h with e | e <;> subst e <;> simp [scW, va_up]
theorem scW_get {w : MW} {p : Nat} {t : Nat → Nat} {ln : Nat} {s : PS} {a : Nat} (h1 : a ≠ p) (h2 : a ≠ p + 1) : (scW w p t ln s).2 a = w.2 a := by simp [scW, va_up, h1, h2]
section TQW
variable {w : MW} {Q U : QU} {H : HS} {t : Nat → Nat} {ln : Nat} {s : PS}
theorem tq_f1 (Q' : QU) : quW (tqW w Q U H t ln s) 1 Q' = tqW w Q' U H t ln s := by
  refine Prod.ext rfl (funext fun a => ?_)
  by_cases h : 1 ≤ a ∧ a ≤ 9
  · rw [quW_in (w' := w) h.1 h.2]
    show _ = (if a = 0 then _ else if a ≤ 9 then _ else _)
    rw [if_neg (by omega), if_pos h.2]
  · rw [quW_get (by omega)]
    show (if a = 0 then _ else if a ≤ 9 then _ else _) = (if a = 0 then _ else if a ≤ 9 then _ else _)
    by_cases h0 : a = 0
    · rw [if_pos h0, if_pos h0]
    · have h1 : ¬ a ≤ 9 := by omega
      rw [if_neg h0, if_neg h0, if_neg h1, if_neg h1]
theorem tq_f10 (U' : QU) : quW (tqW w Q U H t ln s) 10 U' = tqW w Q U' H t ln s := by
  refine Prod.ext rfl (funext fun a => ?_)
  by_cases h : 10 ≤ a ∧ a ≤ 18
  · rw [quW_in (w' := w) h.1 h.2]
    show _ = (if a = 0 then _ else if a ≤ 9 then _ else if a ≤ 18 then _ else _)
    rw [if_neg (by omega), if_neg (by omega), if_pos h.2]
  · rw [quW_get (by omega)]
    show (if a = 0 then _ else if a ≤ 9 then _ else if a ≤ 18 then _ else _) = (if a = 0 then _ else if a ≤ 9 then _ else if a ≤ 18 then _ else _)
    by_cases h0 : a = 0
    · rw [if_pos h0, if_pos h0]
    · by_cases h1 : a ≤ 9
      · rw [if_neg h0, if_neg h0, if_pos h1, if_pos h1]
      · have h2 : ¬ a ≤ 18 := by omega
        rw [if_neg h0, if_neg h0, if_neg h1, if_neg h1, if_neg h2, if_neg h2]
theorem tq_in {a : Nat} (h : 21 ≤ a) : (tqW w Q U H t ln s).2 a = (if a ≤ 65 then (quW w (21 + 9 * ((a - 21) / 9)) (H.1 ((a - 21) / 9))).2 a else if a ≤ 67 then (scW w 66 t ln s).2 a else w.2 a) := by
  show (if a = 0 then _ else if a ≤ 9 then _ else if a ≤ 18 then _ else if a = 19 then _ else if a = 20 then _ else _) = _
  rw [if_neg (by omega), if_neg (by omega), if_neg (by omega), if_neg (by omega), if_neg (by omega)]
theorem tq_lo {H2 : HS} {t2 : Nat → Nat} {ln2 : Nat} {s2 : PS} {a : Nat} (h : a < 21) (h2 : a ≠ 19 ∨ H.2 = H2.2) : (tqW w Q U H t ln s).2 a = (tqW w Q U H2 t2 ln2 s2).2 a := by
  show (if a = 0 then _ else if a ≤ 9 then _ else if a ≤ 18 then _ else if a = 19 then _ else if a = 20 then _ else _) = (if a = 0 then _ else if a ≤ 9 then _ else if a ≤ 18 then _ else if a = 19 then _ else if a = 20 then _ else _)
  by_cases h0 : a = 0
  · rw [if_pos h0, if_pos h0]
  rw [if_neg h0, if_neg h0]
  by_cases h1 : a ≤ 9
  · rw [if_pos h1, if_pos h1]
  rw [if_neg h1, if_neg h1]
  by_cases h3 : a ≤ 18
  · rw [if_pos h3, if_pos h3]
  rw [if_neg h3, if_neg h3]
  by_cases h4 : a = 19
  · rw [if_pos h4, if_pos h4]
    rcases h2 with h2 | h2
    · exact absurd h4 h2
    · rw [h2]
  rw [if_neg h4, if_neg h4, if_pos (by omega), if_pos (by omega)]
theorem tq_fr {j : Nat} (hj : j < 5) (P : QU) : quW (tqW w Q U H t ln s) (21 + 9 * j) P = tqW w Q U (va_up H.1 j P, H.2) t ln s := by
  refine Prod.ext rfl (funext fun a => ?_)
  by_cases h : 21 + 9 * j ≤ a ∧ a ≤ 21 + 9 * j + 8
  · rw [quW_in (w' := w) h.1 h.2, tq_in (by omega), if_pos (by omega), show (a - 21) / 9 = j by omega]
    show _ = (quW w (21 + 9 * j) (va_up H.1 j P j)).2 a
    rw [show va_up H.1 j P j = P from by simp [va_up]]
  · rw [quW_get (by omega)]
    rcases Nat.lt_or_ge a 21 with h1 | h1
    · exact tq_lo h1 (Or.inr rfl)
    · rw [tq_in h1, tq_in h1]
      by_cases h2 : a ≤ 65
      · rw [if_pos h2, if_pos h2]
        rw [show (va_up H.1 j P, H.2).1 ((a - 21) / 9) = H.1 ((a - 21) / 9) from by simp only [va_up]; rw [if_neg (by omega)]]
      · rw [if_neg h2, if_neg h2]
theorem tq_fs (t' : Nat → Nat) (ln' : Nat) (s' : PS) : scW (tqW w Q U H t ln s) 66 t' ln' s' = tqW w Q U H t' ln' s' := by
  refine Prod.ext rfl (funext fun a => ?_)
  by_cases h : a = 66 ∨ a = 67
  · rw [scW_in (w' := w) h, tq_in (by omega), if_neg (by omega), if_pos (by omega)]
  · rw [scW_get (by omega) (by omega)]
    rcases Nat.lt_or_ge a 21 with h1 | h1
    · exact tq_lo h1 (Or.inr rfl)
    · rw [tq_in h1, tq_in h1]
      by_cases h2 : a ≤ 65
      · rw [if_pos h2, if_pos h2]
      · rw [if_neg h2, if_neg h2, if_neg (by omega), if_neg (by omega)]
theorem tq_fh (n k : Nat) : mm_up (tqW w Q U H t ln s) 19 (.inr (1, [.ref 20, .int (nI n), .int (nI k)])) = tqW w Q U (H.1, n, k) t ln s := by
  refine Prod.ext rfl (funext fun a => ?_)
  show va_up (tqW w Q U H t ln s).2 19 _ a = _
  by_cases e : a = 19
  · subst e
    simp [va_up, tqW]
  · rw [show va_up (tqW w Q U H t ln s).2 19 (.inr (1, [.ref 20, .int (nI n), .int (nI k)])) a = (tqW w Q U H t ln s).2 a from by simp [va_up, e]]
    rcases Nat.lt_or_ge a 21 with h1 | h1
    · exact tq_lo h1 (Or.inl e)
    · rw [tq_in h1, tq_in h1]
theorem tq_ob (hw : 74 ≤ w.1) : mm_ob (tqW w Q U H t ln s) 0 6 [.ref 1, .ref 10, .ref 19, .ref 66] := ⟨by show 0 < w.1; omega, by simp [tqW]⟩
theorem tq_obh (hw : 74 ≤ w.1) : mm_ob (tqW w Q U H t ln s) 19 1 [.ref 20, .int (nI H.2.1), .int (nI H.2.2)] := ⟨by show 19 < w.1; omega, by simp [tqW]⟩
theorem tq_arh (hw : 74 ≤ w.1) : mm_ar (tqW w Q U H t ln s) 20 (.object RX5) (5, .inr (.inr (.inr (.inr rngF)))) := ⟨by show 20 < w.1; omega, by simp [tqW]⟩
theorem tq_ob1 (hw : 74 ≤ w.1) : mm_ob (tqW w Q U H t ln s) 1 4 [.ref 2, .ref 4, .ref 6, .ref 8] := by
  have := quW_ob (w := tqW w Q U H t ln s) (q := 1) (Q := Q) (by show 1 + 8 < w.1; omega)
  rw [tq_f1] at this
  exact this
theorem tq_ob10 (hw : 74 ≤ w.1) : mm_ob (tqW w Q U H t ln s) 10 4 [.ref 11, .ref 13, .ref 15, .ref 17] := by
  have := quW_ob (w := tqW w Q U H t ln s) (q := 10) (Q := U) (by show 10 + 8 < w.1; omega)
  rw [tq_f10] at this
  exact this
theorem tq_same {j : Nat} (hj : j < 5) : quW (tqW w Q U H t ln s) (21 + 9 * j) (H.1 j) = tqW w Q U H t ln s := by
  rw [tq_fr hj]
  refine congrArg (fun z => tqW w Q U z t ln s) (Prod.ext (funext fun k => ?_) rfl)
  show va_up H.1 j (H.1 j) k = H.1 k
  by_cases e : k = j <;> simp [va_up, e]
theorem tq_obr (hw : 74 ≤ w.1) {j : Nat} (hj : j < 5) : mm_ob (tqW w Q U H t ln s) (21 + 9 * j) 4 [.ref (21 + 9 * j + 1), .ref (21 + 9 * j + 3), .ref (21 + 9 * j + 5), .ref (21 + 9 * j + 7)] := by
  have := quW_ob (w := tqW w Q U H t ln s) (q := 21 + 9 * j) (Q := H.1 j) (by show 21 + 9 * j + 8 < w.1; omega)
  rw [tq_same hj] at this
  exact this
theorem tq_obs (hw : 74 ≤ w.1) : mm_ob (tqW w Q U H t ln s) 66 5 [.ref 67, .int (nI s.1), .int (nI s.2.1), .int (nI ln), .int s.2.2.1, .int s.2.2.2.1, .int s.2.2.2.2] := by
  have := scW_ob (w := tqW w Q U H t ln s) (p := 66) (t := t) (ln := ln) (s := s) (by show 66 + 1 < w.1; omega)
  rw [tq_fs] at this
  exact this
theorem tq_obk (hw : 74 ≤ w.1) {k a ci : Nat} (hk : k < 4) (ha : a = 2 + 2 * k) (hc : ci = kci k) : mm_ob (tqW w Q U H t ln s) a ci (.ref (a + 1) :: .int (nI (Q k).1) :: .int (Q k).2.2 :: kxt k) := by
  have := quW_obk (w := tqW w Q U H t ln s) (q := 1) (Q := Q) (by show 1 + 8 < w.1; omega) hk (a := a) (by omega) hc
  rw [tq_f1] at this
  exact this
variable {l : Launch} {hd : Cond} {y : MethodName} {d mc ms : Nat} {as : List Value} {o : MO}
theorem tq_1 {Q' : QU} (h : Ct l hd y d mc ms as (quW (tqW w Q U H t ln s) 1 Q) o (quW (tqW w Q U H t ln s) 1 Q')) : Ct l hd y d mc ms as (tqW w Q U H t ln s) o (tqW w Q' U H t ln s) := ct_w h (tq_f1 Q) (tq_f1 Q') rfl
theorem tq_10 {U' : QU} (h : Ct l hd y d mc ms as (quW (tqW w Q U H t ln s) 10 U) o (quW (tqW w Q U H t ln s) 10 U')) : Ct l hd y d mc ms as (tqW w Q U H t ln s) o (tqW w Q U' H t ln s) := ct_w h (tq_f10 U) (tq_f10 U') rfl
theorem tq_s {t' : Nat → Nat} {ln' : Nat} {s' : PS} (h : Ct l hd y d mc ms as (scW (tqW w Q U H t ln s) 66 t ln s) o (scW (tqW w Q U H t ln s) 66 t' ln' s')) : Ct l hd y d mc ms as (tqW w Q U H t ln s) o (tqW w Q U H t' ln' s') := ct_w h (tq_fs t ln s) (tq_fs t' ln' s') rfl
theorem tq_cp10 {U' : QU} (h : Ct l hd y d mc ms as (quW (quW (tqW w Q U H t ln s) 1 Q) 10 U) o (quW (quW (tqW w Q U H t ln s) 1 Q) 10 U')) : Ct l hd y d mc ms as (tqW w Q U H t ln s) o (tqW w Q U' H t ln s) := ct_w h (by rw [tq_f1, tq_f10]) (by rw [tq_f1, tq_f10]) rfl
theorem tq_cpr {j : Nat} (hj : j < 5) {P' : QU} (h : Ct l hd y d mc ms as (quW (quW (tqW w Q U H t ln s) 1 Q) (21 + 9 * j) (H.1 j)) o (quW (quW (tqW w Q U H t ln s) 1 Q) (21 + 9 * j) P')) : Ct l hd y d mc ms as (tqW w Q U H t ln s) o (tqW w Q U (va_up H.1 j P', H.2) t ln s) := ct_w h (by rw [tq_f1, tq_same hj]) (by rw [tq_f1, tq_fr hj]) rfl
theorem tq_cpq {j : Nat} (hj : j < 5) {Q' : QU} (h : Ct l hd y d mc ms as (quW (quW (tqW w Q U H t ln s) (21 + 9 * j) (H.1 j)) 1 Q) o (quW (quW (tqW w Q U H t ln s) (21 + 9 * j) (H.1 j)) 1 Q')) : Ct l hd y d mc ms as (tqW w Q U H t ln s) o (tqW w Q' U H t ln s) := ct_w h (by rw [tq_same hj, tq_f1]) (by rw [tq_same hj, tq_f1]) rfl
end TQW
def cpU (P Q : QU) : QU := mapU (opCopy P) Q 4
def keepH (Q : QU) (H : HS) : HS := (va_up H.1 H.2.1 (cpU Q (H.1 H.2.1)), (H.2.1 + 1) % 5, min (H.2.2 + 1) 5)
def lastN (H : HS) : Nat := (H.2.1 + 4) % 5
def undoH (H : HS) : HS := (H.1, lastN H, H.2.2 - 1)
section THR
variable {l : Launch} {y : MethodName} {cc : ByteArray} {nL : Nat} {ret : Option FieldType} {ext : Option (Nat × (Nat → Int32))} {d bc bs : Nat} {pc : Nat} {lv : List (Nat × Value)} {st rest : List Value} {w w' : MW}
theorem go_thrV {E : String} {y1 : MethodName} {c1 : ByteArray} {n1 : Nat} {r1 : Option FieldType} {d1 n idx ci a : Nat} {fs As : List Value} (hd : decode cc pc = .ok (.invokevirtual idx, 3)) (hM : Ct l (.code y1 c1 n1 r1) y1 d1 1 6 (.ref a :: As) w (.inr E) w') (hV : mm_V y.cls idx ci y1 c1 n1 r1 n) (hn : As.length = n) (ho : mm_ob w a ci fs) (hst : st = As.reverse ++ .ref a :: rest)
    (hcat : (rest.map fun v => v.category).sum ≤ 8) (hdp : d1 + 1 ≤ d) (hmx : n1 ≤ 21) : Go l y cc nL ret [] ext (mm_Z (mm_eq (.inr E) w')) d (1 + bc) (6 + bs) pc lv st w :=
  go_virt (bc := bc) (bs := bs) hd hM hV hn ho hst hcat hdp hmx (fun v hv => by cases hv) (fun E' hE => by cases hE; exact gox_out)
theorem go_thrS {E : String} {y1 : MethodName} {c1 : ByteArray} {n1 : Nat} {r1 : Option FieldType} {d1 n idx : Nat} {As : List Value} (hd : decode cc pc = .ok (.invokestatic idx, 3)) (hM : Ct l (.code y1 c1 n1 r1) y1 d1 1 6 As w (.inr E) w') (hV : mm_St y.cls idx y1 n) (hcd : Cond.code y1 c1 n1 r1 ∈ mm_GW) (hn : As.length = n) (hst : st = As.reverse ++ rest)
    (hcat : (rest.map fun v => v.category).sum ≤ 8) (hdp : d1 + 1 ≤ d) (hmx : n1 ≤ 21) : Go l y cc nL ret [] ext (mm_Z (mm_eq (.inr E) w')) d (1 + bc) (6 + bs) pc lv st w :=
  go_stat (bc := bc) (bs := bs) hd hM hV hcd hn hst hcat hdp hmx (fun v hv => by cases hv) (fun E' hE => by cases hE; exact gox_out)
end THR
