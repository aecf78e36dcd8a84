/-! class and model side by side: the class at 0 .. 67, the model at 68 .. 72, the law's long row at 73 -/
theorem tq_ind {w w2 : MW} {Q U : QU} {H : HS} {t : Nat → Nat} {ln : Nat} {s : PS} {a : Nat} (h : a ≤ 67) : (tqW w Q U H t ln s).2 a = (tqW w2 Q U H t ln s).2 a := by
  by_cases h1 : a = 0
  · subst h1; rfl
  · by_cases h2 : a ≤ 9
    · show (if a = 0 then _ else if a ≤ 9 then (quW w 1 Q).2 a else _) = (if a = 0 then _ else if a ≤ 9 then (quW w2 1 Q).2 a else _)
      rw [if_neg h1, if_neg h1, if_pos h2, if_pos h2]
      exact quW_in (by omega) (by omega)
    · by_cases h3 : a ≤ 18
      · show (if a = 0 then _ else if a ≤ 9 then (quW w 1 Q).2 a else if a ≤ 18 then (quW w 10 U).2 a else _) = (if a = 0 then _ else if a ≤ 9 then (quW w2 1 Q).2 a else if a ≤ 18 then (quW w2 10 U).2 a else _)
        rw [if_neg h1, if_neg h1, if_neg h2, if_neg h2, if_pos h3, if_pos h3]
        exact quW_in (by omega) (by omega)
      · by_cases h4 : a = 19
        · subst h4; rfl
        · by_cases h5 : a = 20
          · subst h5; rfl
          · rw [tq_in (by omega), tq_in (by omega)]
            by_cases h6 : a ≤ 65
            · rw [if_pos h6, if_pos h6]
              exact quW_in (by omega) (by omega)
            · rw [if_neg h6, if_neg h6, if_pos h, if_pos h]
              exact scW_in (by omega)
theorem tq_hi {w : MW} {Q U : QU} {H : HS} {t : Nat → Nat} {ln : Nat} {s : PS} {a : Nat} (h : 68 ≤ a) : (tqW w Q U H t ln s).2 a = w.2 a := by rw [tq_in (by omega), if_neg (by omega), if_neg (by omega)]
theorem md_ne {w : MW} {p : Nat} {A P K T : Nat → Int32} {x : XS} {a : Nat} (h : a < p ∨ p + 4 < a) : (mdW w p A P K T x).2 a = w.2 a := by
  show (if a = p then _ else if a = p + 1 then _ else if a = p + 2 then _ else if a = p + 3 then _ else if a = p + 4 then _ else w.2 a) = _
  rw [if_neg (by omega), if_neg (by omega), if_neg (by omega), if_neg (by omega), if_neg (by omega)]
theorem md_in {w w2 : MW} {p : Nat} {A P K T : Nat → Int32} {x : XS} {a : Nat} (h1 : p ≤ a) (h2 : a ≤ p + 4) : (mdW w p A P K T x).2 a = (mdW w2 p A P K T x).2 a := by
  rcases (show a = p ∨ a = p + 1 ∨ a = p + 2 ∨ a = p + 3 ∨ a = p + 4 by omega) with e | e | e | e | e <;> subst e <;> simp [mdW]
def oW (f : Nat → Int64) : MW := (74, fun a => if a = 73 then .inl (.long, 1, .inr (.inl f)) else .inr (0, []))
def cW (Q U : QU) (H : HS) (t : Nat → Nat) (ln : Nat) (s : PS) (A P K T : Nat → Int32) (x : XS) (f : Nat → Int64) : MW := tqW (mdW (oW f) 68 A P K T x) Q U H t ln s
section CW
variable {Q U : QU} {H : HS} {t : Nat → Nat} {ln : Nat} {s : PS} {A P K T : Nat → Int32} {x : XS} {f : Nat → Int64}
theorem cW_md : cW Q U H t ln s A P K T x f = mdW (tqW (oW f) Q U H t ln s) 68 A P K T x := by
  refine Prod.ext rfl (funext fun a => ?_)
  by_cases h : a ≤ 67
  · rw [md_ne (by omega)]
    exact tq_ind h
  · show (tqW (mdW (oW f) 68 A P K T x) Q U H t ln s).2 a = _
    rw [tq_hi (by omega)]
    by_cases h2 : a ≤ 72
    · exact md_in (by omega) (by omega)
    · rw [md_ne (by omega), md_ne (by omega), tq_hi (by omega)]
theorem cW_73 : (cW Q U H t ln s A P K T x f).2 73 = .inl (.long, 1, .inr (.inl f)) := by
  unfold cW
  rw [tq_hi (by decide), md_ne (by decide)]
  rfl
theorem cW_out : mm_ar (cW Q U H t ln s A P K T x f) 73 .long (1, .inr (.inl f)) := ⟨by show 73 < 74; decide, cW_73⟩
theorem cW_up (g : Nat → Int64) : mm_up (cW Q U H t ln s A P K T x f) 73 (.inl (.long, 1, .inr (.inl g))) = cW Q U H t ln s A P K T x g := by
  refine Prod.ext rfl (funext fun a => ?_)
  show va_up (cW Q U H t ln s A P K T x f).2 73 _ a = _
  by_cases e : a = 73
  · rw [e, cW_73]
    simp [va_up]
  · simp only [va_up, if_neg e]
    unfold cW
    by_cases h : a ≤ 67
    · exact tq_ind h
    · rw [tq_hi (by omega), tq_hi (by omega)]
      by_cases h2 : a ≤ 72
      · exact md_in (by omega) (by omega)
      · rw [md_ne (by omega), md_ne (by omega)]
        show (if a = 73 then _ else _) = (if a = 73 then _ else _)
        rw [if_neg e, if_neg e]
theorem cW_hw : 74 ≤ (mdW (oW f) 68 A P K T x).1 := Nat.le_refl 74
theorem cW_hp : 68 + 4 < (tqW (oW f) Q U H t ln s).1 := by show 72 < 74; decide
theorem cW_ob : mm_ob (cW Q U H t ln s A P K T x f) 0 6 [.ref 1, .ref 10, .ref 19, .ref 66] := tq_ob cW_hw
theorem cW_obm : mm_ob (cW Q U H t ln s A P K T x f) 68 7 (mdO 68 x) := by
  rw [cW_md]
  exact mdW_ob cW_hp
variable {l : Launch} {hd : Cond} {y : MethodName} {d mc ms : Nat} {as : List Value} {o : MO}
theorem cM {A2 P2 K2 T2 : Nat → Int32} {x2 : XS} (h : Ct l hd y d mc ms as (mdW (tqW (oW f) Q U H t ln s) 68 A P K T x) o (mdW (tqW (oW f) Q U H t ln s) 68 A2 P2 K2 T2 x2)) : Ct l hd y d mc ms as (cW Q U H t ln s A P K T x f) o (cW Q U H t ln s A2 P2 K2 T2 x2 f) := ct_w h cW_md.symm cW_md.symm rfl
end CW
/-! the records, the text -/
def RecR (H : HS) (P : Nat → Int32) (sv : Nat) : Prop := H.2.1 < 5 ∧ H.2.2 = sv ∧ sv ≤ 5 ∧ ∀ i, i < sv → ∃ n, Sim 7 (H.1 ((H.2.1 + 5 - sv + i) % 5)) (fun a => P (184 * i + a)) n
def LsR (Q : QU) (H : HS) (t : Nat → Nat) (ln : Nat) (A P : Nat → Int32) (sv n : Nat) : Prop := Sim 7 Q A n ∧ RecR H P sv ∧ ln ≤ 120 ∧ ∀ i, t i < 128
theorem Rec_keep {Q : QU} {H : HS} {A P : Nat → Int32} {sv n : Nat} (S : Sim 7 Q A n) (R : RecR H P sv) : RecR (keepH Q H) (svP A P sv) (min (sv + 1) 5) := by
  obtain ⟨h1, h2, h3, h4⟩ := R
  obtain ⟨rg, nx, kp⟩ := H
  have h1' : nx < 5 := h1
  have h2' : kp = sv := h2
  subst h2'
  have h4' : ∀ i, i < kp → ∃ n, Sim 7 (rg ((nx + 5 - kp + i) % 5)) (fun a => P (184 * i + a)) n := h4
  refine ⟨Nat.mod_lt _ (by decide), rfl, Nat.min_le_right _ _, fun i hi => ?_⟩
  show ∃ n, Sim 7 (va_up rg nx (cpU Q (rg nx)) (((nx + 1) % 5 + 5 - min (kp + 1) 5 + i) % 5)) (fun a => svP A P kp (184 * i + a)) n
  by_cases e5 : kp = 5
  · subst e5
    rw [show min (5 + 1) 5 = 5 from rfl] at hi ⊢
    have ei : ((nx + 1) % 5 + 5 - 5 + i) % 5 = (nx + 1 + i) % 5 := by omega
    rw [ei]
    by_cases e4 : i = 4
    · subst e4
      rw [show (nx + 1 + 4) % 5 = nx by omega, show va_up rg nx (cpU Q (rg nx)) nx = cpU Q (rg nx) by simp [va_up]]
      refine ⟨n, Sim_cg (Sim_cp S) (fun a ha => ?_)⟩
      show svP A P 5 (184 * 4 + a) = A a
      unfold svP
      rw [if_pos rfl, cpyF_i (by omega)]
      exact congrArg A (by omega)
    · have ne : ¬ (nx + 1 + i) % 5 = nx := by omega
      rw [show va_up rg nx (cpU Q (rg nx)) ((nx + 1 + i) % 5) = rg ((nx + 1 + i) % 5) by simp [va_up, ne]]
      obtain ⟨m, Sm⟩ := h4' (i + 1) (by omega)
      rw [show (nx + 5 - 5 + (i + 1)) % 5 = (nx + 1 + i) % 5 by omega] at Sm
      refine ⟨m, Sim_cg Sm (fun a ha => ?_)⟩
      show svP A P 5 (184 * i + a) = P (184 * (i + 1) + a)
      unfold svP
      rw [if_pos rfl, cpyF_o (by omega), cpyF_i (by omega)]
      exact congrArg P (by omega)
  · rw [show min (kp + 1) 5 = kp + 1 by omega] at hi ⊢
    have ei : ((nx + 1) % 5 + 5 - (kp + 1) + i) % 5 = (nx + 5 - kp + i) % 5 := by omega
    rw [ei]
    by_cases el : i = kp
    · subst el
      rw [show (nx + 5 - i + i) % 5 = nx by omega, show va_up rg nx (cpU Q (rg nx)) nx = cpU Q (rg nx) by simp [va_up]]
      refine ⟨n, Sim_cg (Sim_cp S) (fun a ha => ?_)⟩
      show svP A P i (184 * i + a) = A a
      unfold svP
      rw [if_neg e5, cpyF_i (by omega)]
      exact congrArg A (by omega)
    · have ne : ¬ (nx + 5 - kp + i) % 5 = nx := by omega
      rw [show va_up rg nx (cpU Q (rg nx)) ((nx + 5 - kp + i) % 5) = rg ((nx + 5 - kp + i) % 5) by simp [va_up, ne]]
      obtain ⟨m, Sm⟩ := h4' i (by omega)
      refine ⟨m, Sim_cg Sm (fun a ha => ?_)⟩
      show svP A P kp (184 * i + a) = P (184 * i + a)
      unfold svP
      rw [if_neg e5, cpyF_o (by omega)]
theorem Rec_undo {H : HS} {P : Nat → Int32} {sv : Nat} (R : RecR H P (sv + 1)) : RecR (undoH H) P sv ∧ ∃ n, Sim 7 (H.1 (lastN H)) (fun a => P (184 * sv + a)) n := by
  obtain ⟨h1, h2, h3, h4⟩ := R
  obtain ⟨rg, nx, kp⟩ := H
  have h1' : nx < 5 := h1
  have h2' : kp = sv + 1 := h2
  subst h2'
  have h4' : ∀ i, i < sv + 1 → ∃ n, Sim 7 (rg ((nx + 5 - (sv + 1) + i) % 5)) (fun a => P (184 * i + a)) n := h4
  refine ⟨⟨Nat.mod_lt _ (by decide), rfl, by omega, fun i hi => ?_⟩, ?_⟩
  · show ∃ n, Sim 7 (rg (((nx + 4) % 5 + 5 - sv + i) % 5)) (fun a => P (184 * i + a)) n
    rw [show ((nx + 4) % 5 + 5 - sv + i) % 5 = (nx + 5 - (sv + 1) + i) % 5 by omega]
    exact h4' i (by omega)
  · show ∃ n, Sim 7 (rg ((nx + 4) % 5)) (fun a => P (184 * sv + a)) n
    rw [show (nx + 4) % 5 = (nx + 5 - (sv + 1) + sv) % 5 by omega]
    exact h4' sv (by omega)
/-- a good state of both, with the latest refusal and the long row -/
def LSt (W : MW) (rf : Int32) (f : Nat → Int64) : Prop := ∃ (Q U : QU) (H : HS) (t : Nat → Nat) (ln : Nat) (s : PS) (A P K : Nat → Int32) (sv : Nat) (pl wr dn : Int32) (ha : Int64) (n : Nat), W = cW Q U H t ln s A P K (tI t) (nI sv, rf, nI ln, pl, wr, dn, ha) f ∧ LsR Q H t ln A P sv n
theorem updL0 {f : Nat → Int64} {x : Int64} : vp_updL f 0 x 0 = x := by simp [vp_updL]
