/-! the class's queues and the model's state stand for each other, on the layouts that q names -/
def LR (A : Nat → Int32) (n k : Nat) (P : QK) : Prop := P.1 = n ∧ ∀ i, i < n → P.2.1 i = eH A ((getL A k).1 i)
def Sim (q : Int32) (Q : QU) (A : Nat → Int32) (n : Nat) : Prop := mWF q A n ∧ (∀ k, k < 4 → mskB q k = true → LR A n k (Q k)) ∧ ∀ k, k < 3 → mskB q k = true → cntV Q k = A (181 + k)
theorem Sim_sub {q q2 : Int32} {Q : QU} {A : Nat → Int32} {n : Nat} (h : Sim q Q A n) (hq : ∀ k, k < 4 → mskB q2 k = true → mskB q k = true) : Sim q2 Q A n := ⟨mWF_sub h.1 hq, fun k hk hm => h.2.1 k hk (hq k hk hm), fun k hk hm => h.2.2 k hk (hq k (by omega) hm)⟩
theorem Sim_any {q : Int32} {Q : QU} {A : Nat → Int32} {n : Nat} (h : Sim 7 Q A n) : Sim q Q A n := Sim_sub h (fun _ hk _ => mskB_7 hk)
theorem Pm_eq {n : Nat} {f g : Nat → Int32} (h : ∀ i, i < n → f i = g i) : Pm n f g := by
  constructor
  · intro z i j hi hj e
    exact z i j hi hj (by rw [h i hi, h j hj]; exact e)
  · intro x
    constructor
    · intro ⟨i, hi, e⟩
      exact ⟨i, hi, by rw [← h i hi]; exact e⟩
    · intro ⟨i, hi, e⟩
      exact ⟨i, hi, by rw [h i hi]; exact e⟩
theorem grtV_0 {Q : QU} : grtV Q 0 = if 0 < (Q 0).1 then hs ((Q 0).2.1 (topN (Q 0).1 0)) else -1 := by unfold grtV; rw [if_pos (rfl : 0 = 0)]
theorem grtV_1 {Q : QU} : grtV Q 1 = if (Q 1).1 = 0 then -1 else if (Q 1).1 < 3 then hs ((Q 1).2.1 ((Q 1).1 - 1)) else hs ((Q 1).2.1 (if ltI ((Q 1).2.1 1) ((Q 1).2.1 2) = true then 2 else 1)) := by unfold grtV; rw [if_neg (show ¬ 1 = 0 by decide), if_pos (rfl : 1 = 1)]
theorem grtV_2 {Q : QU} : grtV Q 2 = if 0 < (Q 3).1 then hs ((Q 3).2.1 0) else -1 := by unfold grtV; rw [if_neg (show ¬ 2 = 0 by decide), if_neg (show ¬ 2 = 1 by decide)]
theorem grA_0 {A : Nat → Int32} {n : Nat} : grA A n 0 = if n = 0 then -1 else (getL A 0).1 (topN n 0) := by unfold grA; rw [if_pos (rfl : 0 = 0)]
theorem grA_1 {A : Nat → Int32} {n : Nat} : grA A n 1 = if n = 0 then -1 else if n < 3 then (getL A 1).1 (n - 1) else if ltA A ((getL A 1).1 1) ((getL A 1).1 2) = true then (getL A 1).1 2 else (getL A 1).1 1 := by unfold grA; rw [if_neg (show ¬ 1 = 0 by decide), if_neg (show ¬ 1 = 2 by decide)]
theorem grA_2 {A : Nat → Int32} {n : Nat} : grA A n 2 = if n = 0 then -1 else (getL A 3).1 0 := by unfold grA; rw [if_neg (show ¬ 2 = 0 by decide), if_pos (rfl : 2 = 2)]
theorem i_sw4 (c d x y : Int32) : c + d + (x + y) = (c + x) + (d + y) := by rw [Int32.add_assoc c d, Int32.add_assoc c x, ← Int32.add_assoc d x y, Int32.add_comm d x, Int32.add_assoc x d y]
section SIMF
variable {q : Int32} {Q : QU} {A : Nat → Int32} {n : Nat}
theorem Sim_v (S : Sim q Q A n) {k i : Nat} (hk : k < 4) (hm : mskB q k = true) (hi : i < n) : vH A ((getL A k).1 i) := by
  obtain ⟨j, hj, e, ht⟩ := mWF_tk S.1 hk hm hi
  exact ⟨j, hj, e, S.1.2.2.2.2.2.1 j hj ht⟩
theorem Sim_row (S : Sim q Q A n) {k i : Nat} (hk : k < 4) (hm : mskB q k = true) (hi : i < n) : (Q k).2.1 i = eH A ((getL A k).1 i) := (S.2.1 k hk hm).2 i hi
theorem Sim_n (S : Sim q Q A n) {k : Nat} (hk : k < 4) (hm : mskB q k = true) : (Q k).1 = n := (S.2.1 k hk hm).1
theorem Sim_hs (S : Sim q Q A n) {k i : Nat} (hk : k < 4) (hm : mskB q k = true) (hi : i < n) : hs ((Q k).2.1 i) = (getL A k).1 i := by
  rw [Sim_row S hk hm hi]
  exact eH_hs (Sim_v S hk hm hi)
theorem Sim_fnd (S : Sim q Q A n) {k : Nat} (hk : k < 4) (hm : mskB q k = true) (x : Int32) : fndN (Q k).2.1 (Q k).1 x = fndH (getL A k).1 n x := by
  rw [Sim_n S hk hm]
  exact ff_congr n 0 (fun i _ hi => by rw [Sim_hs S hk hm (by omega)])
theorem Sim_fl (S : Sim q Q A n) {k : Nat} (hk : k < 4) (hm : mskB q k = true) (x : Int32) : fndN (Q k).2.1 (Q k).1 x < (Q k).1 ↔ itB A x = true := by
  rw [Sim_fnd S hk hm, Sim_n S hk hm, fndH_iff, itB_iff]
  constructor
  · intro ⟨i, hi, e⟩
    obtain ⟨j, hj, ej, ht⟩ := mWF_tk S.1 hk hm hi
    exact ⟨j, hj, e.symm.trans ej, ht⟩
  · intro ⟨j, hj, e, ht⟩
    rw [e]
    exact ((S.1.2.2.2.2.2.2 k hk hm).2 j hj).mp ht
theorem Sim_has (S : Sim q Q A n) (hm : mskB q 0 = true) (x : Int32) : hasB Q x = itB A x := by
  unfold hasB
  have h := Sim_fl S (by decide) hm x
  cases e : itB A x
  · exact decide_eq_false (fun z => by rw [h.mp z] at e; cases e)
  · exact decide_eq_true (h.mpr e)
theorem Sim_free (S : Sim q Q A n) (hm : mskB q 0 = true) : freeN Q = frA A := by
  unfold freeN frA
  refine ff_congr 30 0 (fun i _ hi => ?_)
  rw [Sim_has S hm]
  congr 1
  cases e : itB A (nI i)
  · refine (decide_eq_false (fun z => ?_)).symm
    rw [itB_iff.mpr ⟨i, by omega, rfl, z⟩] at e
    cases e
  · obtain ⟨j, hj, ej, ht⟩ := itB_iff.mp e
    have : i = j := (nI_eq (by omega) (by omega)).mp ej
    rw [this]
    exact (decide_eq_true ht).symm
theorem Sim_lst (S : Sim q Q A n) {k : Nat} (hk : k < 4) (hm : mskB q k = true) : lstV Q k = lsA A n k := by
  unfold lstV lsA
  rw [Sim_n S hk hm]
  by_cases h : n = 0
  · rw [if_neg (by omega), if_pos h]
  · rw [if_pos (by omega), if_neg h, Sim_hs S hk hm (by omega)]
theorem Sim_grt (S : Sim 7 Q A n) {k : Nat} (hk : k < 3) : grtV Q k = grA A n k := by
  have m0 : mskB 7 0 = true := mskB_7 (by decide)
  have m1 : mskB 7 1 = true := mskB_7 (by decide)
  have m3 : mskB 7 3 = true := mskB_7 (by decide)
  rcases (show k = 0 ∨ k = 1 ∨ k = 2 by omega) with rfl | rfl | rfl
  · rw [grtV_0, grA_0, Sim_n S (by decide) m0]
    by_cases h : n = 0
    · rw [if_neg (by omega), if_pos h]
    · rw [if_pos (by omega), if_neg h, Sim_hs S (by decide) m0 (topN_lt (by omega))]
  · rw [grtV_1, grA_1, Sim_n S (by decide) m1]
    by_cases h : n = 0
    · rw [if_pos h, if_pos h]
    · rw [if_neg h, if_neg h]
      by_cases h3 : n < 3
      · rw [if_pos h3, if_pos h3, Sim_hs S (by decide) m1 (by omega)]
      · rw [if_neg h3, if_neg h3, Sim_row S (by decide) m1 (show 1 < n by omega), Sim_row S (by decide) m1 (show 2 < n by omega), eH_lt _ _ (Sim_v S (by decide) m1 (show 1 < n by omega)) (Sim_v S (by decide) m1 (show 2 < n by omega))]
        by_cases z : ltA A ((getL A 1).1 1) ((getL A 1).1 2) = true
        · rw [if_pos z, if_pos z, Sim_hs S (by decide) m1 (by omega)]
        · rw [if_neg z, if_neg z, Sim_hs S (by decide) m1 (by omega)]
  · rw [grtV_2, grA_2, Sim_n S (by decide) m3]
    by_cases h : n = 0
    · rw [if_neg (by omega), if_pos h]
    · rw [if_pos (by omega), if_neg h, Sim_hs S (by decide) m3 (by omega)]
theorem Sim_qI (S : Sim 7 Q A n) : qI Q := by
  have h0 := Sim_n S (k := 0) (by decide) (mskB_7 (by decide))
  refine ⟨fun k hk => by rw [Sim_n S hk (mskB_7 hk), h0], by rw [h0]; exact S.1.2.2.1, fun x hx k hk => ?_⟩
  rw [Sim_fl S hk (mskB_7 hk)]
  exact (Sim_fl S (by decide) (mskB_7 (by decide)) x).mp hx
theorem Sim_brk (S : Sim q Q A n) {k : Nat} (hk : k < 4) (hm : mskB q k = true) : brkV Q k = brkK (ltA A) k n (getL A k).1 := by
  unfold brkV
  rw [Sim_n S hk hm]
  exact par_brkK (V := vH A) eH_lt (fun i hi => Sim_row S hk hm hi) (fun i hi => Sim_v S hk hm hi) hk
theorem Sim_key (S : Sim 7 Q A n) {j : Nat} (hj : j < 30) (ht : A (30 + j) = 1) : (Q 0).2.1 (fndN (Q 0).2.1 (Q 0).1 (nI j)) >>> (5 &&& 31) = A j := by
  have m0 : mskB 7 0 = true := mskB_7 (by decide)
  have hf := mWF_hf S.1 hj ht 0 (by decide) m0
  rw [Sim_fnd S (by decide) m0, Sim_row S (by decide) m0 hf, fndH_at hf]
  exact eH_ky hj (S.1.2.2.2.2.2.1 j hj ht)
end SIMF
/-! all four layouts, one behind the other -/
def NR (E : Int32 → Int32) (n : Nat) (g : Nat → Int32) (P : QK) (f : Nat → Int32) : Prop := P.1 = n ∧ (∀ i, i < n → P.2.1 i = E (f i)) ∧ Pm n g f
theorem NR_cg {E : Int32 → Int32} {n : Nat} {g f f2 : Nat → Int32} {P : QK} (hn : n ≤ 30) (h : NR E n g P f) (e : ∀ i, i < 30 → f2 i = f i) : NR E n g P f2 := ⟨h.1, fun i hi => by rw [e i (by omega)]; exact h.2.1 i hi, Pm_tr h.2.2 (Pm_eq (fun i hi => (e i (by omega)).symm))⟩
def dl (opc : Nat → QK → QK) (Q : QU) (j : Nat) : Int32 := (opc j (Q j)).2.2 - (Q j).2.2
def smD (q : Int32) (opc : Nat → QK → QK) (Q : QU) (c : Nat) : Nat → Int32
  | 0 => 0
  | k + 1 => smD q opc Q c k + (if mskB q k = true ∧ cq k = c then dl opc Q k else 0)
def FJ (q : Int32) (E : Int32 → Int32) (n : Nat) (g : Nat → Nat → Int32) (opc : Nat → QK → QK) (Q : QU) (A : Nat → Int32) (k : Nat) (B : Nat → Int32) : Prop :=
  (∀ i, i < 60 ∨ i = 180 → B i = A i) ∧ (∀ j, k ≤ j → j < 4 → ∀ i, i < 30 → (getL B j).1 i = (getL A j).1 i) ∧ (∀ j, j < k → mskB q j = true → NR E n (g j) (opc j (Q j)) (getL B j).1) ∧ mI B ∧ ∀ c, c < 3 → B (181 + c) = A (181 + c) + smD q opc Q c k
theorem setL_at {A : Nat → Int32} {k c : Nat} {s : QS} (hk : k < 4) (e : c ≠ cq k) : setL A k s (181 + c) = A (181 + c) := by
  unfold setL
  rw [if_neg (by omega), if_neg (by omega)]
theorem i_cancel {a b c d : Int32} (h : a = b + d) (h2 : c = b + d) : a = c := by rw [h, h2]
theorem fold_step {q : Int32} {E : Int32 → Int32} {n : Nat} {g : Nat → Nat → Int32} {opc : Nat → QK → QK} {op : Nat → (Nat → Int32) → (Nat → Int32)} {Q : QU} {A : Nat → Int32} (hn : n ≤ 30)
    (hop : ∀ k, k < 4 → mskB q k = true → ∀ B d, mI B → (∀ i, i < 60 ∨ i = 180 → B i = A i) → (∀ i, i < 30 → (getL B k).1 i = (getL A k).1 i) → (Q k).2.2 = B (181 + cq k) + d → ∃ s : QS, op k B = setL B k s ∧ NR E n (g k) (opc k (Q k)) s.1 ∧ (opc k (Q k)).2.2 = s.2 + d ∧ rowOK s.1)
    {k : Nat} (hk : k < 4) {B : Nat → Int32} (J : FJ q E n g opc Q A k B) : FJ q E n g opc Q A (k + 1) (if mskB q k = true then op k B else B) := by
  obtain ⟨h1, h2, h3, h4, h5⟩ := J
  by_cases m : mskB q k = true
  · rw [if_pos m]
    obtain ⟨s, e, hs, hc, hr⟩ := hop k hk m B ((Q k).2.2 - B (181 + cq k)) h4 h1 (h2 k (Nat.le_refl _) hk) (by rw [Int32.add_comm, Int32.sub_add_cancel])
    rw [e]
    refine ⟨fun i hi => ?_, fun j hj hj4 i hi => ?_, fun j hj mj => ?_, mI_set hk h4 hr, fun c hc3 => ?_⟩
    · rw [← h1 i hi]
      rcases hi with z | z
      · exact setL_lo z
      · rw [z]; exact setL_n hk
    · rw [getL_ne hk hj4 (by omega) hi]
      exact h2 j (by omega) hj4 i hi
    · by_cases ej : j = k
      · subst ej
        exact NR_cg hn hs (fun i hi => setL_row hi)
      · exact NR_cg hn (h3 j (by omega) mj) (fun i hi => getL_ne hk (by omega) ej hi)
    · rw [smD]
      by_cases ec : cq k = c
      · rw [if_pos ⟨m, ec⟩, ← Int32.add_assoc, ← h5 c hc3, ← ec, setL_cnt hk]
        unfold dl
        have hc2 : s.2 = (opc k (Q k)).2.2 - ((Q k).2.2 - B (181 + cq k)) := by rw [hc, Int32.add_sub_cancel]
        rw [hc2, Int32.sub_eq_add_neg, Int32.neg_sub, Int32.sub_eq_add_neg, Int32.sub_eq_add_neg, Int32.add_comm (B (181 + cq k)), Int32.add_comm (B (181 + cq k)), ← Int32.add_assoc]
      · rw [if_neg (fun z => ec z.2), setL_at hk (fun z => ec z.symm), h5 c hc3, Int32.add_zero]
  · rw [if_neg m]
    refine ⟨h1, fun j hj => h2 j (by omega), fun j hj mj => ?_, h4, fun c hc3 => ?_⟩
    · by_cases ej : j = k
      · subst ej
        exact absurd mj m
      · exact h3 j (by omega) mj
    · rw [smD, if_neg (fun z => m z.1), Int32.add_zero]
      exact h5 c hc3
theorem fold4 {q : Int32} {E : Int32 → Int32} {n : Nat} {g : Nat → Nat → Int32} {opc : Nat → QK → QK} {op : Nat → (Nat → Int32) → (Nat → Int32)} {Q : QU} {A : Nat → Int32} (hn : n ≤ 30) (hA : mI A)
    (hop : ∀ k, k < 4 → mskB q k = true → ∀ B d, mI B → (∀ i, i < 60 ∨ i = 180 → B i = A i) → (∀ i, i < 30 → (getL B k).1 i = (getL A k).1 i) → (Q k).2.2 = B (181 + cq k) + d → ∃ s : QS, op k B = setL B k s ∧ NR E n (g k) (opc k (Q k)) s.1 ∧ (opc k (Q k)).2.2 = s.2 + d ∧ rowOK s.1) : FJ q E n g opc Q A 4 (fldA op q 4 0 A) := by
  have J0 : FJ q E n g opc Q A 0 A := ⟨fun _ _ => rfl, fun _ _ _ _ _ => rfl, fun j hj => absurd hj (Nat.not_lt_zero j), hA, fun c _ => by rw [smD, Int32.add_zero]⟩
  exact fold_step hn hop (by decide) (fold_step hn hop (by decide) (fold_step hn hop (by decide) (fold_step hn hop (by decide) J0)))
theorem fold4c {op : Nat → (Nat → Int32) → (Nat → Int32)} {A : Nat → Int32} : fl4 op 4 0 A = fldA op 7 4 0 A := by
  have e : ∀ k, k < 4 → ∀ B : Nat → Int32, (if mskB 7 k = true then op k B else B) = op k B := fun k hk B => if_pos (mskB_7 hk)
  rw [fldA, e 0 (by decide), fldA, e 1 (by decide), fldA, e 2 (by decide), fldA, e 3 (by decide), fldA, fl4, fl4, fl4, fl4, fl4]
theorem mapU4 {op : Nat → QK → QK} {Q : QU} {k : Nat} (hk : k < 4) : mapU op Q 4 k = op k (Q k) := if_pos hk
theorem mskB_23 {q : Int32} : mskB q 3 = mskB q 2 := rfl
/-- the counts behind all four -/
theorem fold_cnt {q : Int32} {opc : Nat → QK → QK} {Q : QU} {A B : Nat → Int32} (hc : ∀ k, k < 3 → mskB q k = true → cntV Q k = A (181 + k)) (h5 : ∀ c, c < 3 → B (181 + c) = A (181 + c) + smD q opc Q c 4) : ∀ k, k < 3 → mskB q k = true → cntV (mapU opc Q 4) k = B (181 + k) := by
  intro k hk m
  rw [h5 k hk, ← hc k hk m]
  simp only [smD, cntV]
  rcases (show k = 0 ∨ k = 1 ∨ k = 2 by omega) with rfl | rfl | rfl
  · rw [if_neg (by decide), if_neg (by decide), if_pos ⟨m, rfl⟩, if_neg (fun z => absurd z.2 (by decide)), if_neg (fun z => absurd z.2 (by decide)), if_neg (fun z => absurd z.2 (by decide)), mapU4 (by decide)]
    unfold dl
    rw [Int32.zero_add, Int32.add_zero, Int32.add_zero, Int32.add_zero, Int32.add_comm, Int32.sub_add_cancel]
  · rw [if_neg (by decide), if_neg (by decide), if_neg (fun z => absurd z.2 (by decide)), if_pos ⟨m, rfl⟩, if_neg (fun z => absurd z.2 (by decide)), if_neg (fun z => absurd z.2 (by decide)), mapU4 (by decide)]
    unfold dl
    rw [Int32.zero_add, Int32.zero_add, Int32.add_zero, Int32.add_zero, Int32.add_comm, Int32.sub_add_cancel]
  · rw [if_pos rfl, if_pos rfl, if_neg (fun z => absurd z.2 (by decide)), if_neg (fun z => absurd z.2 (by decide)), if_pos ⟨m, rfl⟩, if_pos ⟨mskB_23.trans m, rfl⟩, mapU4 (by decide), mapU4 (by decide)]
    unfold dl
    rw [Int32.zero_add, Int32.zero_add]
    generalize (opc 2 (Q 2)).2.2 = a
    generalize (opc 3 (Q 3)).2.2 = b
    generalize (Q 2).2.2 = c
    generalize (Q 3).2.2 = d
    rw [Int32.zero_add, i_sw4, Int32.add_comm c, Int32.sub_add_cancel, Int32.add_comm d, Int32.sub_add_cancel]
