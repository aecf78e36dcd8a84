/-! what the operations do to both sides -/
theorem Sim_of {q : Int32} {Q : QU} {A : Nat → Int32} {n : Nat} (hI : mI A) (h180 : A 180 = nI n) (hn : n ≤ 30) (hf : ∀ h, h < 30 → A (30 + h) = 0 ∨ A (30 + h) = 1) (hc : cntT A 30 = n) (hk : ∀ h, h < 30 → A (30 + h) = 1 → isKeyB (A h) = true)
    (hrow : ∀ k, k < 4 → mskB q k = true → ∃ g, NR (eH A) n g (Q k) (getL A k).1 ∧ (∀ i j, i < n → j < n → g i = g j → i = j) ∧ ∀ h, h < 30 → (A (30 + h) = 1 ↔ ∃ i, i < n ∧ g i = nI h)) (hcnt : ∀ k, k < 3 → mskB q k = true → cntV Q k = A (181 + k)) : Sim q Q A n := by
  refine ⟨⟨hI, h180, hn, hf, hc, hk, fun k hk4 hm => ?_⟩, fun k hk4 hm => ?_, hcnt⟩
  · obtain ⟨g, h1, h2, h3⟩ := hrow k hk4 hm
    exact ⟨h1.2.2.1 h2, fun h hh => (h3 h hh).trans (h1.2.2.2 (nI h))⟩
  · obtain ⟨g, h1, h2, h3⟩ := hrow k hk4 hm
    exact ⟨h1.1, h1.2.1⟩
theorem cntV_cg {q : Int32} {Q P : QU} (h : ∀ k, k < 4 → mskB q k = true → Q k = P k) {k : Nat} (hk : k < 3) (hm : mskB q k = true) : cntV Q k = cntV P k := by
  unfold cntV
  by_cases e : k = 2
  · subst e
    rw [if_pos rfl, if_pos rfl, h 2 (by decide) hm, h 3 (by decide) (mskB_23.trans hm)]
  · rw [if_neg e, if_neg e, h k (by omega) hm]
theorem NR_E {E F : Int32 → Int32} {n : Nat} {g f : Nat → Int32} {P : QK} (h : NR E n g P f) (e : ∀ i, i < n → E (f i) = F (f i)) : NR F n g P f := ⟨h.1, fun i hi => by rw [h.2.1 i hi]; exact e i hi, h.2.2⟩
theorem NR_of {E : Int32 → Int32} {V : Int32 → Prop} {n m : Nat} {d c : Int32} {g f : Nat → Int32} {s1 s2 : QS} (R : RP E V n d g s1 s2) (hm : m = n) : NR E n g (m, s1) s2.1 := ⟨hm, R.1, R.2.2.2⟩
/-- an item goes in -/
theorem Sim_put {q : Int32} {Q P : QU} {A : Nat → Int32} {n : Nat} {ky : Int32} (S : Sim q Q A n) (hn : n < 30) (hk : isKeyB ky = true) (hP : ∀ k, k < 4 → mskB q k = true → P k = opPut ky (nI (frA A)) k (Q k)) : Sim q P (insA q n ky A) (n + 1) := by
  have hj := frA_lt S.1.2.2.2.2.1 hn
  have hfr := frA_free hj
  unfold insA
  generalize frA A = j at hj hfr hP ⊢
  have hA1 : mI (upd A j ky) := mI_up (Or.inl (by omega)) S.1.1
  have kj : upd A j ky j = ky := pk_us
  have hrow : ∀ k, k < 4 → mskB q k = true → ∀ i, i < n → ∃ h, h < 30 ∧ (getL A k).1 i = nI h ∧ A (30 + h) = 1 ∧ h ≠ j := by
    intro k hk4 hm i hi
    obtain ⟨h, hh, e, ht⟩ := mWF_tk S.1 hk4 hm hi
    exact ⟨h, hh, e, ht, fun z => hfr (by rw [← z]; exact ht)⟩
  have J := fold4 (q := q) (E := eH (upd A j ky)) (n := n + 1) (g := fun k => upd (getL A k).1 n (nI j)) (opc := opPut ky (nI j)) (op := entA n (nI j)) (Q := Q) (A := upd A j ky) (by omega) hA1 (by
    intro k hk4 hm B d hB h60 hr hd
    have hrA : ∀ i, i < 30 → (getL B k).1 i = (getL A k).1 i := fun i hi => (hr i hi).trans (getL_up (Or.inl (by omega)) hk4 hi)
    refine ⟨enterK (ltA B) k n (upd (getL B k).1 n (nI j), (getL B k).2), rfl, ?_⟩
    have R : RP (eH (upd A j ky)) (vH (upd A j ky)) (n + 1) d (upd (getL A k).1 n (nI j)) (upd (Q k).2.1 n (encI ky (nI j)), (Q k).2.2) (upd (getL B k).1 n (nI j), (getL B k).2) := by
      refine ⟨fun i hi => ?_, fun i hi => ?_, hd, Pm_eq (fun i hi => ?_)⟩
      · show upd (Q k).2.1 n (encI ky (nI j)) i = eH (upd A j ky) (upd (getL B k).1 n (nI j) i)
        by_cases e : i = n
        · rw [e, pk_us, pk_us, eH_n hj, kj]
        · obtain ⟨h, hh, e1, ht, hne⟩ := hrow k hk4 hm i (by omega)
          rw [pk_un e, pk_un e, hrA i (by omega), Sim_row S hk4 hm (by omega), e1, eH_up hh hne]
      · show vH (upd A j ky) (upd (getL B k).1 n (nI j) i)
        by_cases e : i = n
        · rw [e, pk_us]
          exact ⟨j, hj, rfl, by rw [kj]; exact hk⟩
        · obtain ⟨h, hh, e1, ht, hne⟩ := hrow k hk4 hm i (by omega)
          rw [pk_un e, hrA i (by omega), e1]
          exact ⟨h, hh, rfl, by rw [pk_un hne]; exact S.1.2.2.2.2.2.1 h hh ht⟩
      · by_cases e : i = n
        · rw [e, pk_us]
          exact pk_us.symm
        · rw [pk_un e]
          show _ = upd (getL B k).1 n (nI j) i
          rw [pk_un e, hrA i (by omega)]
    have R2 := par_enterK (l1 := ltI) (l2 := ltA B) (eH_lt2 (fun i hi => h60 i (Or.inl (by omega)))) R k (p := n) (by omega)
    have hQ := Sim_n S hk4 hm
    have eo : opPut ky (nI j) k (Q k) = (n + 1, enterK ltI k n (upd (Q k).2.1 n (encI ky (nI j)), (Q k).2.2)) := by
      unfold opPut
      rw [hQ]
    rw [eo]
    exact ⟨⟨rfl, R2.1, R2.2.2.2⟩, R2.2.2.1, enterK_ok hn (rowOK_upd (hB k hk4) ⟨j, hj, rfl⟩)⟩)
  generalize fldA (entA n (nI j)) q 4 0 (upd A j ky) = B at J ⊢
  obtain ⟨b1, b2, b3, b4, b5⟩ := J
  have a2 : ∀ i, i ≠ 30 + j → i ≠ 180 → upd (upd B (30 + j) 1) 180 (nI (n + 1)) i = B i := fun i h1 h2 => by rw [pk_un h2, pk_un h1]
  have low : ∀ h, h < 30 → upd (upd B (30 + j) 1) 180 (nI (n + 1)) h = upd A j ky h := fun h hh => by rw [a2 h (by omega) (by omega), b1 h (Or.inl (by omega))]
  have flg : ∀ h, h < 30 → upd (upd B (30 + j) 1) 180 (nI (n + 1)) (30 + h) = upd A (30 + j) 1 (30 + h) := fun h hh => by
    rw [pk_un (by omega)]
    by_cases e : h = j
    · rw [e, pk_us, pk_us]
    · rw [pk_un (by omega), pk_un (by omega), b1 (30 + h) (Or.inl (by omega)), pk_un (by omega)]
  have rws : ∀ k, k < 4 → ∀ i, i < 30 → (getL (upd (upd B (30 + j) 1) 180 (nI (n + 1))) k).1 i = (getL B k).1 i := fun k hk4 i hi => by
    rw [getL_up (Or.inr (by omega)) hk4 hi, getL_up (Or.inl (by omega)) hk4 hi]
  refine Sim_of (mI_up (Or.inr (by omega)) (mI_up (Or.inl (by omega)) b4)) pk_us (by omega) ?_ ?_ ?_ ?_ ?_
  · intro h hh
    rw [flg h hh]
    by_cases e : h = j
    · rw [e, pk_us]; exact Or.inr rfl
    · rw [pk_un (by omega)]; exact S.1.2.2.2.1 h hh
  · rw [cntT_congr (B := upd A (30 + j) 1) 30 (fun i hi => flg i hi), cntT_1 30 hj hfr, S.1.2.2.2.2.1]
  · intro h hh ht
    rw [flg h hh] at ht
    rw [low h hh]
    by_cases e : h = j
    · rw [e, kj]; exact hk
    · rw [pk_un e]
      rw [pk_un (by omega)] at ht
      exact S.1.2.2.2.2.2.1 h hh ht
  · intro k hk4 hm
    have w := S.1.2.2.2.2.2.2 k hk4 hm
    refine ⟨upd (getL A k).1 n (nI j), ?_, ?_, ?_⟩
    · rw [hP k hk4 hm]
      refine NR_E (NR_cg (by omega) (b3 k hk4 hm) (rws k hk4)) (fun i hi => ?_)
      exact eH_cg (by rw [rws k hk4 i (by omega)]; exact b4 k hk4 i (by omega)) (fun h hh => (low h hh).symm)
    · intro a b ha hb e
      by_cases ea : a = n
      · by_cases eb : b = n
        · rw [ea, eb]
        · rw [ea, pk_us, pk_un eb] at e
          obtain ⟨h, hh, e1, ht, hne⟩ := hrow k hk4 hm b (by omega)
          rw [e1] at e
          exact absurd ((nI_eq (by omega) (by omega)).mp e).symm hne
      · by_cases eb : b = n
        · rw [eb, pk_us, pk_un ea] at e
          obtain ⟨h, hh, e1, ht, hne⟩ := hrow k hk4 hm a (by omega)
          rw [e1] at e
          exact absurd ((nI_eq (by omega) (by omega)).mp e) hne
        · rw [pk_un ea, pk_un eb] at e
          exact w.1 a b (by omega) (by omega) e
    · intro h hh
      rw [flg h hh]
      by_cases e : h = j
      · rw [e, pk_us]
        exact ⟨fun _ => ⟨n, by omega, pk_us⟩, fun _ => rfl⟩
      · rw [pk_un (by omega), w.2 h hh]
        constructor
        · intro ⟨i, hi, e1⟩
          exact ⟨i, by omega, by rw [pk_un (by omega)]; exact e1⟩
        · intro ⟨i, hi, e1⟩
          by_cases ei : i = n
          · rw [ei, pk_us] at e1
            exact absurd ((nI_eq (by omega) (by omega)).mp e1).symm e
          · rw [pk_un ei] at e1
            exact ⟨i, by omega, e1⟩
  · intro k hk3 hm
    rw [a2 (181 + k) (by omega) (by omega), ← fold_cnt (fun k hk3 hm => (S.2.2 k hk3 hm).trans (pk_un (by omega)).symm) b5 k hk3 hm]
    exact cntV_cg (fun i hi mi => (hP i hi mi).trans (mapU4 hi).symm) hk3 hm
/-- an item goes out -/
theorem Sim_take {q : Int32} {Q P : QU} {A : Nat → Int32} {n j : Nat} (S : Sim q Q A n) (hj : j < 30) (ht : A (30 + j) = 1) (h1 : 1 ≤ n) (hP : ∀ k, k < 4 → mskB q k = true → P k = opTake (nI j) k (Q k)) : Sim q P (goF q n j A) (n - 1) := by
  have hn := S.1.2.2.1
  have hF := mWF_hf S.1 hj ht
  unfold goF
  have J := fold4 (q := q) (E := eH A) (n := n - 1) (g := fun k => upd (getL A k).1 (fndH (getL A k).1 n (nI j)) ((getL A k).1 (n - 1))) (opc := opTake (nI j)) (op := goA n (nI j)) (Q := Q) (A := A) (by omega) S.1.1 (by
    intro k hk4 hm B d hB h60 hr hd
    refine ⟨goS (ltA B) k n (nI j) (getL B k), rfl, ?_⟩
    have hf := hF k hk4 hm
    have ef : fndH (getL B k).1 n (nI j) = fndH (getL A k).1 n (nI j) := fndH_congr (fun i hi => hr i (by omega))
    have hQ := Sim_n S hk4 hm
    have eq := Sim_fnd S hk4 hm (nI j)
    rw [hQ] at eq
    have eo : opTake (nI j) k (Q k) = (n - 1, takeK ltI k n (fndH (getL A k).1 n (nI j)) (Q k).2) := by
      unfold opTake
      rw [hQ, eq]
    have R : RP (eH A) (vH A) (n - 1) d (upd (getL A k).1 (fndH (getL A k).1 n (nI j)) ((getL A k).1 (n - 1))) (upd (Q k).2.1 (fndH (getL A k).1 n (nI j)) ((Q k).2.1 (n - 1)), (Q k).2.2) (upd (upd (getL B k).1 (fndH (getL A k).1 n (nI j)) ((getL B k).1 (n - 1))) (n - 1) 0, (getL B k).2) := by
      generalize fndH (getL A k).1 n (nI j) = f at hf
      refine ⟨fun i hi => ?_, fun i hi => ?_, hd, Pm_eq (fun i hi => ?_)⟩
      · show upd (Q k).2.1 f ((Q k).2.1 (n - 1)) i = eH A (upd (upd (getL B k).1 f ((getL B k).1 (n - 1))) (n - 1) 0 i)
        rw [pk_un (show i ≠ n - 1 by omega)]
        by_cases e : i = f
        · rw [e, pk_us, pk_us, hr _ (by omega), Sim_row S hk4 hm (by omega)]
        · rw [pk_un e, pk_un e, hr _ (by omega), Sim_row S hk4 hm (by omega)]
      · show vH A (upd (upd (getL B k).1 f ((getL B k).1 (n - 1))) (n - 1) 0 i)
        rw [pk_un (show i ≠ n - 1 by omega)]
        by_cases e : i = f
        · rw [e, pk_us, hr _ (by omega)]
          exact Sim_v S hk4 hm (by omega)
        · rw [pk_un e, hr _ (by omega)]
          exact Sim_v S hk4 hm (by omega)
      · show _ = upd (upd (getL B k).1 f ((getL B k).1 (n - 1))) (n - 1) 0 i
        rw [pk_un (show i ≠ n - 1 by omega)]
        by_cases e : i = f
        · rw [e, pk_us, pk_us, hr _ (by omega)]
        · rw [pk_un e, pk_un e, hr _ (by omega)]
    have R2 : RP (eH A) (vH A) (n - 1) d (upd (getL A k).1 (fndH (getL A k).1 n (nI j)) ((getL A k).1 (n - 1))) (takeK ltI k n (fndH (getL A k).1 n (nI j)) (Q k).2) (goS (ltA B) k n (nI j) (getL B k)) := by
      unfold takeK goS
      rw [ef]
      exact RP_if (fun z => par_settleK (l1 := ltI) (l2 := ltA B) (eH_lt2 (fun i hi => h60 i (Or.inl (by omega)))) R k z) (fun _ => R)
    rw [eo]
    exact ⟨⟨rfl, R2.1, R2.2.2.2⟩, R2.2.2.1, goS_ok h1 hn (hB k hk4)⟩)
  generalize fldA (goA n (nI j)) q 4 0 A = B at J ⊢
  obtain ⟨b1, b2, b3, b4, b5⟩ := J
  have a2 : ∀ i, i ≠ 30 + j → i ≠ j → i ≠ 180 → upd (upd (upd B (30 + j) 0) j 0) 180 (nI (n - 1)) i = B i := fun i h1 h2 h3 => by rw [pk_un h3, pk_un h2, pk_un h1]
  have low : ∀ h, h < 30 → h ≠ j → upd (upd (upd B (30 + j) 0) j 0) 180 (nI (n - 1)) h = A h := fun h hh hne => by rw [a2 h (by omega) hne (by omega), b1 h (Or.inl (by omega))]
  have flg : ∀ h, h < 30 → upd (upd (upd B (30 + j) 0) j 0) 180 (nI (n - 1)) (30 + h) = upd A (30 + j) 0 (30 + h) := fun h hh => by
    rw [pk_un (by omega), pk_un (show 30 + h ≠ j by omega)]
    by_cases e : h = j
    · rw [e, pk_us, pk_us]
    · rw [pk_un (by omega), pk_un (by omega), b1 (30 + h) (Or.inl (by omega))]
  have rws : ∀ k, k < 4 → ∀ i, i < 30 → (getL (upd (upd (upd B (30 + j) 0) j 0) 180 (nI (n - 1))) k).1 i = (getL B k).1 i := fun k hk4 i hi => by
    rw [getL_up (Or.inr (by omega)) hk4 hi, getL_up (Or.inl (by omega)) hk4 hi, getL_up (Or.inl (by omega)) hk4 hi]
  have img : ∀ k, k < 4 → mskB q k = true → ∀ i, i < n - 1 → ∃ h, h < 30 ∧ upd (getL A k).1 (fndH (getL A k).1 n (nI j)) ((getL A k).1 (n - 1)) i = nI h ∧ A (30 + h) = 1 ∧ h ≠ j := by
    intro k hk4 hm i hi
    have w := S.1.2.2.2.2.2.2 k hk4 hm
    have hf := hF k hk4 hm
    have ea := fndH_at hf
    by_cases e : i = fndH (getL A k).1 n (nI j)
    · rw [e, pk_us]
      obtain ⟨h, hh, e1, ht1⟩ := mWF_tk S.1 hk4 hm (i := n - 1) (by omega)
      refine ⟨h, hh, e1, ht1, fun z => ?_⟩
      have := w.1 (n - 1) (fndH (getL A k).1 n (nI j)) (by omega) hf (by rw [e1, ea, z])
      omega
    · rw [pk_un e]
      obtain ⟨h, hh, e1, ht1⟩ := mWF_tk S.1 hk4 hm (i := i) (by omega)
      refine ⟨h, hh, e1, ht1, fun z => e ?_⟩
      exact w.1 i (fndH (getL A k).1 n (nI j)) (by omega) hf (by rw [e1, ea, z])
  refine Sim_of (mI_up (Or.inr (by omega)) (mI_up (Or.inl (by omega)) (mI_up (Or.inl (by omega)) b4))) pk_us (by omega) ?_ ?_ ?_ ?_ ?_
  · intro h hh
    rw [flg h hh]
    by_cases e : h = j
    · rw [e, pk_us]; exact Or.inl rfl
    · rw [pk_un (by omega)]; exact S.1.2.2.2.1 h hh
  · have := cntT_0 30 hj ht
    rw [S.1.2.2.2.2.1] at this
    rw [cntT_congr (B := upd A (30 + j) 0) 30 (fun i hi => flg i hi)]
    omega
  · intro h hh h2
    rw [flg h hh] at h2
    by_cases e : h = j
    · rw [e, pk_us] at h2
      exact absurd h2 (by decide)
    · rw [pk_un (by omega)] at h2
      rw [low h hh e]
      exact S.1.2.2.2.2.2.1 h hh h2
  · intro k hk4 hm
    have w := S.1.2.2.2.2.2.2 k hk4 hm
    have hf := hF k hk4 hm
    have ea := fndH_at hf
    have im := img k hk4 hm
    refine ⟨upd (getL A k).1 (fndH (getL A k).1 n (nI j)) ((getL A k).1 (n - 1)), ?_, ?_, ?_⟩
    · rw [hP k hk4 hm]
      have b3k := b3 k hk4 hm
      refine NR_E (NR_cg (by omega) b3k (rws k hk4)) (fun i hi => ?_)
      rw [rws k hk4 i (by omega)]
      obtain ⟨i2, hi2, e2⟩ := (b3k.2.2.2 ((getL B k).1 i)).mpr ⟨i, hi, rfl⟩
      obtain ⟨h, hh, e3, ht3, hne⟩ := im i2 hi2
      have e4 : (getL B k).1 i = nI h := e2.symm.trans e3
      rw [e4, eH_n hh, eH_n hh, low h hh hne]
    · intro a b ha hb e
      by_cases ea1 : a = fndH (getL A k).1 n (nI j)
      · by_cases eb : b = fndH (getL A k).1 n (nI j)
        · rw [ea1, eb]
        · rw [ea1, pk_us, pk_un eb] at e
          have := w.1 (n - 1) b (by omega) (by omega) e
          omega
      · by_cases eb : b = fndH (getL A k).1 n (nI j)
        · rw [eb, pk_us, pk_un ea1] at e
          have := w.1 a (n - 1) (by omega) (by omega) e
          omega
        · rw [pk_un ea1, pk_un eb] at e
          exact w.1 a b (by omega) (by omega) e
    · intro h hh
      rw [flg h hh]
      constructor
      · intro h2
        by_cases e : h = j
        · rw [e, pk_us] at h2
          exact absurd h2 (by decide)
        · rw [pk_un (by omega)] at h2
          obtain ⟨i, hi, e1⟩ := (w.2 h hh).mp h2
          have ne : i ≠ fndH (getL A k).1 n (nI j) := fun z => by
            rw [z, ea] at e1
            exact e ((nI_eq (by omega) (by omega)).mp e1).symm
          by_cases el : i = n - 1
          · exact ⟨fndH (getL A k).1 n (nI j), by omega, by rw [pk_us, ← el]; exact e1⟩
          · exact ⟨i, by omega, by rw [pk_un ne]; exact e1⟩
      · intro ⟨i, hi, e1⟩
        obtain ⟨h3, hh3, e3, ht3, hne⟩ := im i hi
        rw [e3] at e1
        have : h3 = h := (nI_eq (by omega) (by omega)).mp e1
        rw [← this, pk_un (by omega)]
        exact ht3
  · intro k hk3 hm
    rw [a2 (181 + k) (by omega) (by omega) (by omega), ← fold_cnt S.2.2 b5 k hk3 hm]
    exact cntV_cg (fun i hi mi => (hP i hi mi).trans (mapU4 hi).symm) hk3 hm
