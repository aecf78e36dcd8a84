/-! both put the items in a row by their handles -/
theorem itB_n {A : Nat → Int32} {h : Nat} (hh : h < 30) : itB A (nI h) = true ↔ A (30 + h) = 1 := by
  rw [itB_iff]
  constructor
  · intro ⟨j, hj, e, ht⟩
    rw [(nI_eq (by omega) (by omega)).mp e]
    exact ht
  · intro ht
    exact ⟨h, hh, rfl, ht⟩
theorem itB_cg {A B : Nat → Int32} {h : Nat} (hh : h < 30) (e : B (30 + h) = A (30 + h)) : itB B (nI h) = itB A (nI h) := by
  have h1 := itB_n (A := A) hh
  have h2 := itB_n (A := B) hh
  rw [e] at h2
  cases x : itB A (nI h)
  · cases y : itB B (nI h)
    · rfl
    · rw [h1.mpr (h2.mp y)] at x; cases x
  · exact h2.mpr (h1.mp x)
theorem lyS_cg {A B : Nat → Int32} (e : ∀ h, h < 30 → B (30 + h) = A (30 + h)) (u : Nat) : ∀ (h c : Nat) (f : Nat → Int32), u + h = 30 → lyS B u h c f = lyS A u h c f := by
  induction u with
  | zero => intro h c f _; rfl
  | succ u ih =>
    intro h c f hu
    rw [lyS, lyS, itB_cg (by omega) (e h (by omega)), ih _ _ _ (by omega), ih _ _ _ (by omega)]
theorem lyS_f {A : Nat → Int32} (u : Nat) : ∀ (h c : Nat) (f g : Nat → Int32), (∀ i, i < 30 → f i = g i) → ∀ i, i < 30 → lyS A u h c f i = lyS A u h c g i := by
  induction u with
  | zero => intro h c f g e; exact e
  | succ u ih =>
    intro h c f g e
    rw [lyS, lyS]
    by_cases z : itB A (nI h) = true
    · rw [if_pos z, if_pos z]
      refine ih _ _ _ _ (fun i hi => ?_)
      by_cases ei : i = c
      · rw [ei, pk_us, pk_us]
      · rw [pk_un ei, pk_un ei]; exact e i hi
    · rw [if_neg z, if_neg z]
      exact ih _ _ _ _ e
def LI (A : Nat → Int32) (n h c : Nat) (f1 f2 : Nat → Int32) : Prop := c = cntT A h ∧ (∀ i, i < c → f1 i = eH A (f2 i) ∧ ∃ j, j < h ∧ f2 i = nI j ∧ A (30 + j) = 1) ∧ (∀ i j, i < c → j < c → f2 i = f2 j → i = j) ∧ (∀ j, j < h → A (30 + j) = 1 → ∃ i, i < c ∧ f2 i = nI j) ∧ (∀ i, i < n → ∃ j, j < 30 ∧ f1 i = eH A (nI j) ∧ A (30 + j) = 1) ∧ ∀ j, j < 30 → A (30 + j) = 1 → ∃ i, i < n ∧ f1 i = eH A (nI j)
theorem line_ly {A : Nat → Int32} {n : Nat} (hn : n ≤ 30) (hk : ∀ h, h < 30 → A (30 + h) = 1 → isKeyB (A h) = true) (u : Nat) : ∀ (h c : Nat) (f1 f2 : Nat → Int32), u + h = 30 → LI A n h c f1 f2 → LI A n 30 (cntT A 30) (lineS n u h c f1) (lyS A u h c f2) := by
  induction u with
  | zero =>
    intro h c f1 f2 hu I
    have e : h = 30 := by omega
    subst e
    rw [← I.1]
    exact I
  | succ u ih =>
    intro h c f1 f2 hu I
    obtain ⟨i1, i2, i3, i4, i5, i6⟩ := I
    have hh : h < 30 := by omega
    have hsv : ∀ j, j < 30 → A (30 + j) = 1 → hs (eH A (nI j)) = nI j := fun j hj ht => eH_hs ⟨j, hj, rfl, hk j hj ht⟩
    rw [lineS, lyS]
    by_cases z : A (30 + h) = 1
    · obtain ⟨x, hx, ex⟩ := i6 h hh z
      have hF : fndN f1 n (nI h) < n := Nat.lt_of_le_of_lt (ff_lt (Nat.zero_le _) (by omega) (decide_eq_true (by rw [ex]; exact hsv h hh z))) hx
      have ha : hs (f1 (fndN f1 n (nI h))) = nI h := of_decide_eq_true (ff_hit (fun j => decide (hs (f1 j) = nI h)) n 0 (by show fndN f1 n (nI h) < 0 + n; omega))
      rw [if_pos hF, if_pos ((itB_n hh).mpr z)]
      generalize fndN f1 n (nI h) = F at hF ha
      obtain ⟨j, hj, ej, tj⟩ := i5 F hF
      have ejh : j = h := by
        rw [ej, hsv j hj tj] at ha
        exact (nI_eq (by omega) (by omega)).mp ha
      subst ejh
      have hcF : c ≤ F := by
        rcases Nat.lt_or_ge F c with y | y
        · obtain ⟨e1, j2, hj2, e2, t2⟩ := i2 F y
          rw [e1, e2, hsv j2 (by omega) t2] at ha
          have := (nI_eq (by omega) (by omega)).mp ha
          omega
        · exact y
      refine ih (j + 1) (c + 1) _ _ (by omega) ⟨?_, ?_, ?_, ?_, ?_, ?_⟩
      · rw [cntT, if_pos z, i1]
      · intro i hi
        by_cases ei : i = c
        · rw [ei, sw_at_i, pk_us]
          exact ⟨ej, j, by omega, rfl, tj⟩
        · rw [sw_at_o ei (by omega), pk_un ei]
          obtain ⟨e1, j2, hj2, e2, t2⟩ := i2 i (by omega)
          exact ⟨e1, j2, by omega, e2, t2⟩
      · intro a b ha2 hb2 e
        have key : ∀ i, i < c → f2 i ≠ nI j := fun i hi y => by
          obtain ⟨_, j2, hj2, e2, _⟩ := i2 i hi
          rw [e2] at y
          have := (nI_eq (by omega) (by omega)).mp y
          omega
        by_cases ea : a = c
        · by_cases eb : b = c
          · rw [ea, eb]
          · rw [ea, pk_us, pk_un eb] at e
            exact absurd e.symm (key b (by omega))
        · by_cases eb : b = c
          · rw [eb, pk_us, pk_un ea] at e
            exact absurd e (key a (by omega))
          · rw [pk_un ea, pk_un eb] at e
            exact i3 a b (by omega) (by omega) e
      · intro j2 hj2 t2
        by_cases e : j2 = j
        · exact ⟨c, by omega, by rw [e, pk_us]⟩
        · obtain ⟨i, hi, e2⟩ := i4 j2 (by omega) t2
          exact ⟨i, by omega, by rw [pk_un (by omega)]; exact e2⟩
      · intro i hi
        rw [sw_tsp]
        exact i5 _ (tsp_lt (by omega) hF hi)
      · intro j2 hj2 t2
        obtain ⟨i, hi, e2⟩ := i6 j2 hj2 t2
        exact ⟨tsp c F i, tsp_lt (by omega) hF hi, by rw [sw_tsp, tsp_inv]; exact e2⟩
    · have hF : ¬ fndN f1 n (nI h) < n := by
        intro y
        have ha : hs (f1 (fndN f1 n (nI h))) = nI h := of_decide_eq_true (ff_hit (fun j => decide (hs (f1 j) = nI h)) n 0 (by show fndN f1 n (nI h) < 0 + n; omega))
        obtain ⟨j, hj, ej, tj⟩ := i5 _ y
        rw [ej, hsv j hj tj] at ha
        rw [(nI_eq (by omega) (by omega)).mp ha] at tj
        exact z tj
      rw [if_neg hF, if_neg (fun y => z ((itB_n hh).mp y))]
      refine ih (h + 1) c _ _ (by omega) ⟨?_, ?_, i3, ?_, i5, i6⟩
      · rw [cntT, if_neg z, Nat.add_zero]; exact i1
      · intro i hi
        obtain ⟨e1, j2, hj2, e2, t2⟩ := i2 i hi
        exact ⟨e1, j2, by omega, e2, t2⟩
      · intro j2 hj2 t2
        by_cases e : j2 = h
        · rw [e] at t2; exact absurd t2 z
        · exact i4 j2 (by omega) t2
theorem Sim_build {q : Int32} {Q P : QU} {A : Nat → Int32} {n : Nat} (S : Sim q Q A n) (hP : ∀ k, k < 4 → mskB q k = true → P k = opArr k (Q k)) : Sim q P (fldA (blA n) q 4 0 A) n := by
  have hn := S.1.2.2.1
  have hc := S.1.2.2.2.2.1
  have L : ∀ k, k < 4 → mskB q k = true → ∀ f2, LI A n 30 n (lineS n 30 0 0 (Q k).2.1) (lyS A 30 0 0 f2) := by
    intro k hk hm f2
    have w := S.1.2.2.2.2.2.2 k hk hm
    have := line_ly (A := A) hn S.1.2.2.2.2.2.1 30 0 0 (Q k).2.1 f2 rfl ⟨rfl, fun i hi => absurd hi (Nat.not_lt_zero i), fun i _ hi => absurd hi (Nat.not_lt_zero i), fun j hj => absurd hj (Nat.not_lt_zero j), fun i hi => ?_, fun j hj t => ?_⟩
    · rw [hc] at this
      exact this
    · obtain ⟨j, hj, e, t⟩ := mWF_tk S.1 hk hm hi
      exact ⟨j, hj, by rw [Sim_row S hk hm hi, e], t⟩
    · obtain ⟨i, hi, e⟩ := (w.2 j hj).mp t
      exact ⟨i, hi, by rw [Sim_row S hk hm hi, e]⟩
  have J := fold4 (q := q) (E := eH A) (n := n) (g := fun k => lyS A 30 0 0 (getL A k).1) (opc := opArr) (op := blA n) (Q := Q) (A := A) hn S.1.1 (by
    intro k hk4 hm B d hB h60 hr hd
    refine ⟨bldL (ltA B) k n (cK k n) (lyS B 30 0 0 (getL B k).1, (getL B k).2), rfl, ?_⟩
    have hQ := Sim_n S hk4 hm
    have eo : opArr k (Q k) = (n, bldL ltI k n (cK k n) (lineS n 30 0 0 (Q k).2.1, (Q k).2.2)) := by
      unfold opArr
      rw [hQ, allK_b hk4]
    have el : lyS B 30 0 0 (getL B k).1 = lyS A 30 0 0 (getL B k).1 := lyS_cg (fun h hh => h60 _ (Or.inl (by omega))) 30 0 0 _ rfl
    have I := L k hk4 hm (getL B k).1
    have R : RP (eH A) (vH A) n d (lyS A 30 0 0 (getL A k).1) (lineS n 30 0 0 (Q k).2.1, (Q k).2.2) (lyS B 30 0 0 (getL B k).1, (getL B k).2) := by
      rw [el]
      refine ⟨fun i hi => (I.2.1 i hi).1, fun i hi => ?_, hd, Pm_eq (fun i hi => lyS_f 30 0 0 _ _ (fun i hi => (hr i hi).symm) i (by omega))⟩
      obtain ⟨_, j, hj, e, t⟩ := I.2.1 i hi
      exact ⟨j, hj, e, S.1.2.2.2.2.2.1 j hj t⟩
    have R2 := par_bldL (l1 := ltI) (l2 := ltA B) (eH_lt2 (fun i hi => h60 i (Or.inl (by omega)))) k (cK k n) _ _ R
    rw [eo]
    exact ⟨⟨rfl, R2.1, R2.2.2.2⟩, R2.2.2.1, bldL_ok hn _ _ (lyS_ok 30 0 0 _ rfl (hB k hk4))⟩)
  generalize fldA (blA n) q 4 0 A = B at J ⊢
  obtain ⟨b1, b2, b3, b4, b5⟩ := J
  have low : ∀ h, h < 60 → B h = A h := fun h hh => b1 h (Or.inl hh)
  refine Sim_of b4 ((b1 180 (Or.inr rfl)).trans S.1.2.1) hn (fun h hh => by rw [low _ (by omega)]; exact S.1.2.2.2.1 h hh) ((cntT_congr 30 (fun i hi => low _ (by omega))).trans hc) (fun h hh t => ?_) (fun k hk4 hm => ?_) (fun k hk3 hm => ?_)
  · rw [low _ (by omega)] at t
    rw [low _ (by omega)]
    exact S.1.2.2.2.2.2.1 h hh t
  · have I := L k hk4 hm (getL A k).1
    refine ⟨lyS A 30 0 0 (getL A k).1, ?_, I.2.2.1, fun h hh => ?_⟩
    · rw [hP k hk4 hm]
      exact NR_E (b3 k hk4 hm) (fun i hi => eH_cg (b4 k hk4 i (by omega)) (fun h hh => (low h (by omega)).symm))
    · rw [low _ (by omega)]
      constructor
      · intro t
        exact I.2.2.2.1 h hh t
      · intro ⟨i, hi, e⟩
        obtain ⟨_, j, hj, e2, t⟩ := I.2.1 i hi
        rw [e2] at e
        rw [← (nI_eq (by omega) (by omega)).mp e]
        exact t
  · rw [← fold_cnt S.2.2 b5 k hk3 hm]
    exact cntV_cg (fun i hi mi => (hP i hi mi).trans (mapU4 hi).symm) hk3 hm
