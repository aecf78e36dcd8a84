theorem mWF_cg {q : Int32} {A B : Nat → Int32} {n : Nat} (h : mWF q A n) (e : ∀ i, i < 181 → B i = A i) : mWF q B n := by
  have er : ∀ k, k < 4 → ∀ i, i < 30 → (getL B k).1 i = (getL A k).1 i := fun k hk i hi => e (60 + 30 * k + i) (by omega)
  obtain ⟨h1, h2, h3, h4, h5, h6, h7⟩ := h
  refine ⟨fun k hk i hi => by rw [er k hk i hi]; exact h1 k hk i hi, by rw [e 180 (by omega)]; exact h2, h3, fun h hh => by rw [e _ (by omega)]; exact h4 h hh, (cntT_congr 30 (fun i hi => e _ (by omega))).trans h5, fun h hh ht => ?_, fun k hk hm => ?_⟩
  · rw [e _ (by omega)] at ht
    rw [e _ (by omega)]
    exact h6 h hh ht
  · obtain ⟨w1, w2⟩ := h7 k hk hm
    refine ⟨fun i j hi hj z => w1 i j hi hj (by rw [← er k hk i (by omega), ← er k hk j (by omega)]; exact z), fun h hh => ?_⟩
    rw [e _ (by omega), w2 h hh]
    constructor
    · intro ⟨i, hi, z⟩
      exact ⟨i, hi, by rw [er k hk i (by omega)]; exact z⟩
    · intro ⟨i, hi, z⟩
      exact ⟨i, hi, by rw [← er k hk i (by omega)]; exact z⟩
theorem Sim_cnt {q : Int32} {Q P : QU} {A B : Nat → Int32} {n : Nat} (S : Sim q Q A n) (e : ∀ i, i < 181 → B i = A i) (hQ : ∀ k, k < 4 → mskB q k = true → (P k).1 = (Q k).1 ∧ ∀ i, i < 30 → (P k).2.1 i = (Q k).2.1 i) (hc : ∀ k, k < 3 → mskB q k = true → cntV P k = B (181 + k)) : Sim q P B n := by
  have hn := S.1.2.2.1
  refine ⟨mWF_cg S.1 e, fun k hk hm => ⟨(hQ k hk hm).1.trans (Sim_n S hk hm), fun i hi => ?_⟩, hc⟩
  rw [(hQ k hk hm).2 i (by omega), Sim_row S hk hm hi, show (getL B k).1 i = (getL A k).1 i from e (60 + 30 * k + i) (by omega)]
  exact (eH_cg (S.1.1 k hk i (by omega)) (fun h hh => e h (by omega))).symm
theorem Sim_cg {q : Int32} {Q : QU} {A B : Nat → Int32} {n : Nat} (S : Sim q Q A n) (e : ∀ i, i < 184 → B i = A i) : Sim q Q B n := Sim_cnt S (fun i hi => e i (by omega)) (fun _ _ _ => ⟨rfl, fun _ _ => rfl⟩) (fun k hk hm => by rw [e _ (by omega)]; exact S.2.2 k hk hm)
theorem cpU_at {P U : QU} {k : Nat} (hk : k < 4) : cpU P U k = ((P k).1, va_cpy (P k).2.1 (U k).2.1 0 0 30, (P k).2.2) := if_pos hk
theorem cpy_at {f g : Nat → Int32} {i : Nat} (hi : i < 30) : va_cpy f g 0 0 30 i = f i := by
  simp [va_cpy, hi]
theorem cntV_e {Q P : QU} {k : Nat} (hk : k < 3) (h : ∀ i, i < 4 → (P i).2.2 = (Q i).2.2) : cntV P k = cntV Q k := by
  unfold cntV
  by_cases e : k = 2
  · rw [if_pos e, if_pos e, h 2 (by decide), h 3 (by decide)]
  · rw [if_neg e, if_neg e, h k (by omega)]
theorem Sim_cp {q : Int32} {Q U : QU} {A : Nat → Int32} {n : Nat} (S : Sim q Q A n) : Sim q (cpU Q U) A n := Sim_cnt S (fun _ _ => rfl) (fun k hk _ => by rw [cpU_at hk]; exact ⟨rfl, fun i hi => cpy_at hi⟩) (fun k hk hm => by rw [cntV_e (Q := Q) hk (fun i hi => by rw [cpU_at hi])]; exact S.2.2 k hk hm)
/-- the comparison that finds the greatest -/
theorem Sim_cfg {q : Int32} {Q : QU} {A : Nat → Int32} {n : Nat} (S : Sim q Q A n) (hq : mskB q 1 = true → q / 2 - q / 2 / 2 * 2 = 1) : Sim q (cfgU Q) (upd A 182 (A 182 + bI (tgB q n))) n := by
  have hcf : ∀ k, k < 4 → (cfgU Q k).1 = (Q k).1 ∧ ∀ i, i < 30 → (cfgU Q k).2.1 i = (Q k).2.1 i := by
    intro k hk
    unfold cfgU
    by_cases e : k = 1
    · subst e; simp [va_up]
    · simp [va_up, e]
  refine Sim_cnt S (fun i hi => pk_un (by omega)) (fun k hk _ => hcf k hk) (fun k hk hm => ?_)
  rcases (show k = 0 ∨ k = 1 ∨ k = 2 by omega) with rfl | rfl | rfl
  · rw [pk_un (by decide), ← S.2.2 0 (by decide) hm]
    rfl
  · rw [show 181 + 1 = 182 from rfl, pk_us, ← S.2.2 1 (by decide) hm]
    show (if 3 ≤ (Q 1).1 then (Q 1).2.2 + 1 else (Q 1).2.2) = (Q 1).2.2 + bI (tgB q n)
    rw [Sim_n S (by decide) hm]
    by_cases e : 3 ≤ n
    · rw [if_pos e, tgB_2 (by omega) (hq hm)]
    · rw [if_neg e, tgB_0 (by omega), Int32.add_zero]
  · rw [pk_un (by decide), ← S.2.2 2 (by decide) hm]
    rfl
theorem Sim_forget {Q : QU} {A : Nat → Int32} {n : Nat} (S : Sim 7 Q A n) : Sim 7 (mapU opForget Q 4) (fgA A 3) n := by
  refine Sim_cnt S (fun i hi => if_neg (by omega)) (fun k hk _ => by rw [mapU4 hk]; exact ⟨rfl, fun _ _ => rfl⟩) (fun k hk _ => ?_)
  rw [show fgA A 3 (181 + k) = 0 from if_pos (by omega)]
  unfold cntV
  by_cases e : k = 2
  · rw [if_pos e, mapU4 (by decide), mapU4 (by decide)]
    rfl
  · rw [if_neg e, mapU4 (by omega)]
    rfl
theorem cntT_z {A : Nat → Int32} (u : Nat) (h : ∀ i, i < u → A (30 + i) = 0) : cntT A u = 0 := by
  induction u with
  | zero => rfl
  | succ u ih => rw [cntT, ih (fun i hi => h i (by omega)), h u (by omega), if_neg (by decide)]
theorem Sim_zero {Q : QU} {A : Nat → Int32} (hz : ∀ i, i < 181 → A i = 0) (hQ : ∀ k, k < 4 → (Q k).1 = 0) (hc : ∀ k, k < 3 → cntV Q k = A (181 + k)) : Sim 7 Q A 0 := by
  refine Sim_of (fun k hk i hi => ?_) (hz 180 (by decide)) (by decide) (fun h hh => Or.inl (hz _ (by omega))) (cntT_z 30 (fun i hi => hz _ (by omega))) (fun h hh ht => ?_) (fun k hk hm => ⟨fun _ => 0, ⟨hQ k hk, fun i hi => absurd hi (Nat.not_lt_zero i), Pm_eq (fun i hi => absurd hi (Nat.not_lt_zero i))⟩, fun i j hi => absurd hi (Nat.not_lt_zero i), fun h hh => ?_⟩) (fun k hk _ => hc k hk)
  · rw [show (getL A k).1 i = 0 from hz (60 + 30 * k + i) (by omega)]
    exact okH_0
  · rw [hz _ (by omega)] at ht
    exact absurd ht (by decide)
  · rw [hz _ (by omega)]
    exact ⟨fun z => absurd z (by decide), fun ⟨i, hi, _⟩ => absurd hi (Nat.not_lt_zero i)⟩
theorem Sim_clear {Q : QU} {A : Nat → Int32} {n : Nat} (S : Sim 7 Q A n) : Sim 7 (mapU opEmpty Q 4) (zrA A 181) 0 := Sim_zero (fun i hi => if_pos hi) (fun k hk => by rw [mapU4 hk]; rfl) (fun k hk => by rw [show zrA A 181 (181 + k) = A (181 + k) from if_neg (by omega), ← S.2.2 k hk (mskB_7 (by omega))]; exact cntV_e hk (fun i hi => by rw [mapU4 hi]; rfl))
theorem Sim_dist {Q : QU} {A : Nat → Int32} {n k a b : Nat} (S : Sim 7 Q A n) (hk : k < 4) (ha : a < n) (hb : b < n) : Sim 7 (va_up Q k ((Q k).1, sw (Q k).2.1 a b, (Q k).2.2)) (setL A k (sw (getL A k).1 a b, (getL A k).2)) n := by
  have hn := S.1.2.2.1
  have low : ∀ i, i < 60 → setL A k (sw (getL A k).1 a b, (getL A k).2) i = A i := fun i hi => setL_lo hi
  refine Sim_of (mI_set hk S.1.1 (rowOK_sw (S.1.1 k hk) (by omega) (by omega))) ((setL_n hk).trans S.1.2.1) hn (fun h hh => by rw [low _ (by omega)]; exact S.1.2.2.2.1 h hh) ((cntT_congr 30 (fun i hi => low _ (by omega))).trans S.1.2.2.2.2.1) (fun h hh ht => ?_) (fun j hj hm => ?_) (fun c hc hm => ?_)
  · rw [low _ (by omega)] at ht
    rw [low _ (by omega)]
    exact S.1.2.2.2.2.2.1 h hh ht
  · have w := S.1.2.2.2.2.2.2 j hj hm
    refine ⟨(getL A j).1, ?_, w.1, fun h hh => by rw [low _ (by omega)]; exact w.2 h hh⟩
    by_cases e : j = k
    · subst e
      have er : ∀ i, i < 30 → (getL (setL A j (sw (getL A j).1 a b, (getL A j).2)) j).1 i = sw (getL A j).1 a b i := fun i hi => setL_row hi
      refine NR_E (NR_cg hn (E := eH A) (f := sw (getL A j).1 a b) ⟨?_, fun i hi => ?_, Pm_sw ha hb⟩ er) (fun i hi => ?_)
      · simp [va_up]; exact Sim_n S hj hm
      · simp only [va_up, if_true]
        rw [sw_tsp, sw_tsp]
        exact Sim_row S hj hm (tsp_lt ha hb hi)
      · refine eH_cg ?_ (fun h hh => (low h (by omega)).symm)
        rw [er i (by omega), sw_tsp]
        have := tsp_lt ha hb hi
        exact S.1.1 j hj _ (by omega)
    · have er : ∀ i, i < 30 → (getL (setL A k (sw (getL A k).1 a b, (getL A k).2)) j).1 i = (getL A j).1 i := fun i hi => getL_ne hk hj e hi
      refine NR_E (NR_cg hn (E := eH A) (f := (getL A j).1) ⟨?_, fun i hi => ?_, Pm_rf⟩ er) (fun i hi => ?_)
      · simp [va_up, e]; exact Sim_n S hj hm
      · simp only [va_up, if_neg e]
        exact Sim_row S hj hm hi
      · refine eH_cg ?_ (fun h hh => (low h (by omega)).symm)
        rw [er i (by omega)]
        exact S.1.1 j hj i (by omega)
  · have e2 : setL A k (sw (getL A k).1 a b, (getL A k).2) (181 + c) = A (181 + c) := by
      by_cases e : c = cq k
      · rw [e, setL_cnt hk]; rfl
      · exact setL_at hk e
    rw [e2, ← S.2.2 c hc hm]
    refine cntV_e hc (fun i hi => ?_)
    by_cases e : i = k
    · subst e; simp [va_up]
    · simp [va_up, e]
/-- an item gets another key -/
theorem Sim_give {Q P : QU} {A : Nat → Int32} {n j : Nat} {ky : Int32} (S : Sim 7 Q A n) (hj : j < 30) (ht : A (30 + j) = 1) (hk : isKeyB ky = true) (hP : ∀ k, k < 4 → P k = opGive (nI j) ky k (Q k)) : Sim 7 P (chF n (nI j) ky A) n := by
  have hn := S.1.2.2.1
  have hF := mWF_hf S.1 hj ht
  unfold chF
  rw [nI_clamp (by omega), fold4c]
  have hA1 : mI (upd A j ky) := mI_up (Or.inl (by omega)) S.1.1
  have kj : upd A j ky j = ky := pk_us
  have J := fold4 (q := 7) (E := eH (upd A j ky)) (n := n) (g := fun k => (getL A k).1) (opc := opGive (nI j) ky) (op := chgA n (nI j)) (Q := Q) (A := upd A j ky) hn hA1 (by
    intro k hk4 hm B d hB h60 hr hd
    have hrA : ∀ i, i < 30 → (getL B k).1 i = (getL A k).1 i := fun i hi => (hr i hi).trans (getL_up (Or.inl (by omega)) hk4 hi)
    refine ⟨settleK (ltA B) k n (fndH (getL B k).1 n (nI j)) (getL B k), rfl, ?_⟩
    have hf := hF k hk4 hm
    have ea := fndH_at hf
    have w := S.1.2.2.2.2.2.2 k hk4 hm
    have ef : fndH (getL B k).1 n (nI j) = fndH (getL A k).1 n (nI j) := fndH_congr (fun i hi => hrA i (by omega))
    have hQ := Sim_n S hk4 hm
    have eq := Sim_fnd S hk4 hm (nI j)
    rw [hQ] at eq
    have eo : opGive (nI j) ky k (Q k) = (n, settleK ltI k n (fndH (getL A k).1 n (nI j)) (upd (Q k).2.1 (fndH (getL A k).1 n (nI j)) (encI ky (nI j)), (Q k).2.2)) := by
      unfold opGive
      rw [hQ, eq]
    have ne : ∀ i, i < n → i ≠ fndH (getL A k).1 n (nI j) → ∃ h, h < 30 ∧ (getL A k).1 i = nI h ∧ A (30 + h) = 1 ∧ h ≠ j := by
      intro i hi z
      obtain ⟨h, hh, e1, ht1⟩ := mWF_tk S.1 hk4 hm (i := i) hi
      exact ⟨h, hh, e1, ht1, fun y => z (w.1 i _ hi hf (by rw [e1, ea, y]))⟩
    have R : RP (eH (upd A j ky)) (vH (upd A j ky)) n d (getL A k).1 (upd (Q k).2.1 (fndH (getL A k).1 n (nI j)) (encI ky (nI j)), (Q k).2.2) (getL B k) := by
      refine ⟨fun i hi => ?_, fun i hi => ?_, hd, Pm_eq (fun i hi => (hrA i (by omega)).symm)⟩
      · show upd (Q k).2.1 (fndH (getL A k).1 n (nI j)) (encI ky (nI j)) i = _
        rw [hrA i (by omega)]
        by_cases e : i = fndH (getL A k).1 n (nI j)
        · rw [e, pk_us, ea, eH_n hj, kj]
        · obtain ⟨h, hh, e1, ht1, hne⟩ := ne i hi e
          rw [pk_un e, Sim_row S hk4 hm hi, e1, eH_up hh hne]
      · rw [hrA i (by omega)]
        by_cases e : i = fndH (getL A k).1 n (nI j)
        · rw [e, ea]
          exact ⟨j, hj, rfl, by rw [kj]; exact hk⟩
        · obtain ⟨h, hh, e1, ht1, hne⟩ := ne i hi e
          exact ⟨h, hh, e1, by rw [pk_un hne]; exact S.1.2.2.2.2.2.1 h hh ht1⟩
    have R2 := par_settleK (l1 := ltI) (l2 := ltA B) (eH_lt2 (fun i hi => h60 i (Or.inl (by omega)))) R k hf
    rw [eo, ef]
    exact ⟨⟨rfl, R2.1, R2.2.2.2⟩, R2.2.2.1, settleK_ok hf hn (hB k hk4)⟩)
  generalize fldA (chgA n (nI j)) 7 4 0 (upd A j ky) = B at J ⊢
  obtain ⟨b1, b2, b3, b4, b5⟩ := J
  have low : ∀ h, h < 30 → B h = upd A j ky h := fun h hh => b1 h (Or.inl (by omega))
  have flg : ∀ h, h < 30 → B (30 + h) = A (30 + h) := fun h hh => by rw [b1 _ (Or.inl (by omega)), pk_un (by omega)]
  refine Sim_of b4 ?_ hn (fun h hh => by rw [flg h hh]; exact S.1.2.2.2.1 h hh) ((cntT_congr 30 flg).trans S.1.2.2.2.2.1) ?_ ?_ ?_
  · rw [b1 180 (Or.inr rfl), pk_un (by omega)]
    exact S.1.2.1
  · intro h hh h2
    rw [flg h hh] at h2
    rw [low h hh]
    by_cases e : h = j
    · rw [e, kj]; exact hk
    · rw [pk_un e]; exact S.1.2.2.2.2.2.1 h hh h2
  · intro k hk4 hm
    have w := S.1.2.2.2.2.2.2 k hk4 hm
    refine ⟨(getL A k).1, ?_, w.1, fun h hh => by rw [flg h hh]; exact w.2 h hh⟩
    rw [hP k hk4]
    exact NR_E (b3 k hk4 hm) (fun i hi => eH_cg (b4 k hk4 i (by omega)) (fun h hh => (low h hh).symm))
  · intro k hk3 hm
    rw [← fold_cnt (A := upd A j ky) (fun k hk3 hm => (S.2.2 k hk3 hm).trans (pk_un (by omega)).symm) b5 k hk3 hm]
    exact cntV_cg (fun i hi mi => (hP i hi).trans (mapU4 hi).symm) hk3 hm
