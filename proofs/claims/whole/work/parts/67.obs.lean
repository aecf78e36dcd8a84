/-! longer runs, and what is seen of a state -/
theorem nA_S {q : Int32} {Q : QU} {A : Nat → Int32} {n : Nat} (S : Sim q Q A n) : nA A = n := nA_eq S.1
theorem Sim_put1 {Q : QU} {A : Nat → Int32} {n : Nat} {ky : Int32} (S : Sim 7 Q A n) (hn : n < 30) (hk : isKeyB ky = true) : Sim 7 (putQ ky Q) (insA 7 n ky A) (n + 1) := by
  unfold putQ
  rw [Sim_free S (mskB_7 (by decide))]
  exact Sim_put S hn hk (fun k hk _ => mapU4 hk)
theorem Sim_fill (u : Nat) : ∀ (x : Int64) (Q : QU) (A : Nat → Int32) (n : Nat), Sim 7 Q A n → n + u ≤ 30 → Sim 7 (fillS u x Q) (fiA u x A) (n + u) := by
  induction u with
  | zero => intro x Q A n S _; exact S
  | succ u ih =>
    intro x Q A n S h
    rw [fillS, fiA, nA_S S, show n + (u + 1) = n + 1 + u by omega]
    exact ih _ _ _ _ (Sim_put1 S (by omega) (lcgK_key _)) (by omega)
/-- one command of a script -/
theorem Sim_cmd {t : Nat → Nat} {ln : Nat} {Q : QU} {A : Nat → Int32} {n : Nat} {s : PS} (S : Sim 7 Q A n) (h : (rdCmd t ln s).1 = true) :
    posB Q (rdCmd t ln s).2.2.2.1.toNatClampNeg (rdCmd t ln s).2.2.2.2.1 (rdCmd t ln s).2.2.2.2.2 = canA (whatOf (curN t ln s.1)) (mCmd t ln s.1).2.1 n A ∧
    ∃ n', Sim 7 (crySt Q (rdCmd t ln s).2.2.2.1.toNatClampNeg (rdCmd t ln s).2.2.2.2.1 (rdCmd t ln s).2.2.2.2.2) (stA (curN t ln s.1) (mCmd t ln s.1).2.1 (mCmd t ln s.1).2.2 n A) n' := by
  have hv := cmd_val (t := t) (ln := ln) s h
  have K : ∀ (c : Nat), c < 5 → curN t ln s.1 ≠ 99 → whatOf (curN t ln s.1) = c → (rdCmd t ln s).2.2.2.1 = nI c → (c = 0 → (rdCmd t ln s).2.2.2.2.2 = (mCmd t ln s.1).2.1) → (c = 3 → (rdCmd t ln s).2.2.2.2.1 = (mCmd t ln s.1).2.1) →
      posB Q (rdCmd t ln s).2.2.2.1.toNatClampNeg (rdCmd t ln s).2.2.2.2.1 (rdCmd t ln s).2.2.2.2.2 = canA (whatOf (curN t ln s.1)) (mCmd t ln s.1).2.1 n A ∧
      ∃ n', Sim 7 (crySt Q (rdCmd t ln s).2.2.2.1.toNatClampNeg (rdCmd t ln s).2.2.2.2.1 (rdCmd t ln s).2.2.2.2.2) (stA (curN t ln s.1) (mCmd t ln s.1).2.1 (mCmd t ln s.1).2.2 n A) n' := by
    intro c hc h99 hw hcm h0 h3
    have hp := pos_can S hc (rdCmd t ln s).2.2.2.2.1 (rdCmd t ln s).2.2.2.2.2 (mCmd t ln s.1).2.1 h0 h3
    rw [hcm, nI_clamp (by omega), hw]
    refine ⟨hp, ?_⟩
    unfold crySt stA
    rw [hp, hw]
    cases hx : canA c (mCmd t ln s.1).2.1 n A
    · rw [if_neg Bool.false_ne_true, if_neg Bool.false_ne_true]
      exact ⟨n, S⟩
    · rw [if_pos (rfl : true = true), if_pos (rfl : true = true), if_neg h99]
      exact ⟨_, Sim_do S hq7 hc h0 h3 hx⟩
  rcases hv with ⟨e, c1, c2⟩ | ⟨e, c1⟩ | ⟨e, c1⟩ | ⟨e, c1, c2⟩ | ⟨e, c1⟩ | ⟨e, c1, c2, c3, b, c, v, ev, en⟩
  · exact K 0 (by decide) (by omega) (by rw [e]; rfl) c1 (fun _ => c2) (fun z => absurd z (by decide))
  · exact K 1 (by decide) (by omega) (by rw [e]; rfl) c1 (fun z => absurd z (by decide)) (fun z => absurd z (by decide))
  · exact K 2 (by decide) (by omega) (by rw [e]; rfl) c1 (fun z => absurd z (by decide)) (fun z => absurd z (by decide))
  · exact K 3 (by decide) (by omega) (by rw [e]; rfl) c1 (fun z => absurd z (by decide)) (fun _ => c2)
  · exact K 4 (by decide) (by omega) (by rw [e]; rfl) c1 (fun z => absurd z (by decide)) (fun z => absurd z (by decide))
  · have hky : isKeyB (mCmd t ln s.1).2.2 = true := by
      rw [en]
      refine ng_key ?_
      have := rdN_bd (t := t) (ln := ln) 3 c 0
      rw [← ev] at this
      omega
    rw [c1, c2, c3, e, show ((5 : Int32)).toNatClampNeg = 5 from by decide +kernel, show whatOf 99 = 3 from rfl]
    have hp : posB Q 5 (mCmd t ln s.1).2.1 (mCmd t ln s.1).2.2 = canA 3 (mCmd t ln s.1).2.1 n A := by
      unfold posB canA
      rw [if_neg (by decide), if_neg (by decide), if_neg (by decide), if_pos rfl, if_neg (by decide), if_pos rfl, hky, Bool.and_true, Sim_has S (mskB_7 (by decide))]
    refine ⟨hp, ?_⟩
    unfold crySt stA
    rw [hp, show whatOf 99 = 3 from rfl]
    cases hx : canA 3 (mCmd t ln s.1).2.1 n A
    · rw [if_neg Bool.false_ne_true, if_neg Bool.false_ne_true]
      exact ⟨n, S⟩
    · rw [if_pos (rfl : true = true), if_pos (rfl : true = true), if_pos rfl]
      unfold canA at hx
      rw [if_neg (by decide), if_pos rfl] at hx
      obtain ⟨j, hj, ej, ht⟩ := itB_iff.mp hx
      rw [ej]
      refine ⟨n, Sim_give S hj ht hky (fun k hk => ?_)⟩
      unfold cryQ
      rw [if_neg (by decide), if_neg (by decide), if_neg (by decide), if_neg (by decide), if_pos rfl]
      exact mapU4 hk
theorem Sim_run {t : Nat → Nat} {ln : Nat} (u : Nat) : ∀ (s : PS) (Q : QU) (A : Nat → Int32) (n b : Nat), Sim 7 Q A n → ln - s.1 ≤ u → s.1 ≤ ln → (mFlt t ln u s.1).1 = true → (runS t ln u Q s b).1 = (rnS t ln u s.1 A b).2.1 ∧ ∃ n', Sim 7 (runS t ln u Q s b).2.1 (rnS t ln u s.1 A b).1 n' := by
  induction u with
  | zero => intro s Q A n b S _ _ _; exact ⟨rfl, n, S⟩
  | succ u ih =>
    intro s Q A n b S hu hs hf
    have e := cmd_eq (t := t) (ln := ln) s
    have e1 : (rdCmd t ln s).1 = (mCmd t ln s.1).1.1 := congrArg Prod.fst e
    have e2 : (rdCmd t ln s).2.1 = (mCmd t ln s.1).1.2 := congrArg Prod.snd e
    rw [runS, rnS]
    by_cases h : s.1 < ln
    · have hm := mCmd_le (t := t) h
      rw [mFlt, if_pos h] at hf
      have eo : (mCmd t ln s.1).1.1 = true := by
        cases z : (mCmd t ln s.1).1.1
        · rw [z, if_neg Bool.false_ne_true] at hf
          rw [z] at hf
          exact hf
        · rfl
      rw [if_pos eo] at hf
      have eo2 : (rdCmd t ln s).1 = true := e1.trans eo
      obtain ⟨hp, n', S'⟩ := Sim_cmd S eo2
      rw [if_pos eo2, if_pos h, hp, nA_S S, ← e2]
      rw [← e2] at hf
      exact ih _ _ _ n' _ S' (by have := hm.2.2 eo; omega) (by omega) hf
    · have eo2 : ¬ (rdCmd t ln s).1 = true := by
        rw [rdCmd_no (by rw [show curN t ln s.1 = 0 from if_neg h]; rfl)]
        exact Bool.false_ne_true
      rw [if_neg eo2, if_neg h]
      exact ⟨rfl, n, S⟩
/-- sorting, in thought -/
theorem cq_k {k : Nat} (hk : k < 3) : cq k = k := by unfold cq; split <;> omega
theorem msk_k {k : Nat} (hk : k < 3) : mskB (1 <<< (nI k &&& 31)) k = true := by rw [mskB_q hk (by omega)]; exact decide_eq_true (cq_k hk)
theorem Sim_tak {k : Nat} (hk : k < 3) {U : QU} {A : Nat → Int32} {n : Nat} (S : Sim (1 <<< (nI k &&& 31)) U A (n + 1)) : (∀ j, j < 4 → j = k → fndN (U j).2.1 (U j).1 (lstV U k) < (U j).1) ∧ (k = 2 → fndN (U 3).2.1 (U 3).1 (lstV U k) < (U 3).1) ∧ Sim (1 <<< (nI k &&& 31)) (takU k U) (goF (1 <<< (nI k &&& 31)) (n + 1) (lsA A (n + 1) k).toNatClampNeg A) n := by
  have mk := msk_k hk
  obtain ⟨j, hj, ej, ht⟩ := lsA_tk S.1 (k := k) (by omega) mk (by omega)
  have el := Sim_lst S (k := k) (by omega) mk
  rw [ej] at el
  have hit : itB A (nI j) = true := itB_iff.mpr ⟨j, hj, rfl, ht⟩
  unfold takU
  rw [el, ej, nI_clamp (by omega)]
  refine ⟨fun i hi e => ?_, fun e => ?_, ?_⟩
  · subst e
    exact (Sim_fl S hi mk (nI j)).mpr hit
  · subst e
    exact (Sim_fl S (by decide) (mskB_23.trans mk) (nI j)).mpr hit
  · refine Sim_take S hj ht (by omega) (fun i hi mi => ?_)
    rw [mskB_q hk hi] at mi
    have ci : cq i = k := of_decide_eq_true mi
    unfold takeOf
    by_cases e : k = 2
    · rw [if_pos e]
      have : i = 2 ∨ i = 3 := by unfold cq at ci; split at ci <;> omega
      rcases this with z | z
      · subst z; simp [va_up]
      · subst z; simp [va_up]
    · rw [if_neg e]
      have : i = k := by unfold cq at ci; split at ci <;> omega
      subst this
      simp [va_up]
theorem Sim_sort {k : Nat} (hk : k < 3) (u : Nat) : ∀ (U : QU) (A : Nat → Int32), (∀ j, j < 4 → (U j).1 ≤ 30) → Sim (1 <<< (nI k &&& 31)) U A u → sortOK k u U ∧ Sim (1 <<< (nI k &&& 31)) (sortU k u U) (soA (1 <<< (nI k &&& 31)) k u A) 0 := by
  induction u with
  | zero => intro U A _ S; exact ⟨trivial, S⟩
  | succ u ih =>
    intro U A hU S
    obtain ⟨h1, h2, h3⟩ := Sim_tak hk S
    have hU2 : ∀ j, j < 4 → (takU k U j).1 ≤ 30 := by
      intro j hj
      have := hU j hj
      unfold takU takeOf
      by_cases e : k = 2
      · rw [if_pos e]
        by_cases e3 : j = 3
        · subst e3; simp [va_up, opTake]; have := hU 3 (by decide); omega
        · by_cases e2 : j = 2
          · subst e2; simp [va_up, opTake]; have := hU 2 (by decide); omega
          · simp [va_up, e3, e2]; exact this
      · rw [if_neg e]
        by_cases ej : j = k
        · subst ej; simp [va_up, opTake]; omega
        · simp [va_up, ej]; exact this
    have r := ih _ _ hU2 h3
    rw [sortOK, sortU, soA]
    exact ⟨⟨⟨hU, h1, h2⟩, r.1⟩, r.2⟩
section OBS
variable {Q : QU} {A : Nat → Int32} {n : Nat}
theorem keyV_e (S : Sim 7 Q A n) {i : Nat} (hi : i < 30) (ht : itB A (nI i) = true) : keyV Q (nI i) = A i := Sim_key S hi ((itB_n hi).mp ht)
theorem ob_btw (S : Sim 7 Q A n) (lo hi : Int32) (u : Nat) : ∀ i b, u + i = 30 → btS Q lo hi u i b = btA A lo hi u i b := by
  induction u with
  | zero => intro i b _; rfl
  | succ u ih =>
    intro i b hu
    rw [btS, btA, Sim_has S (mskB_7 (by decide))]
    by_cases z : itB A (nI i) = true
    · rw [keyV_e S (by omega) z]
      exact ih _ _ (by omega)
    · rw [if_neg (fun y => z y.1), if_neg (fun y => z y.1)]
      exact ih _ _ (by omega)
theorem ob_few (S : Sim 7 Q A n) (u : Nat) : ∀ i b, u + i = 3 → b < 3 → fewS Q u i b = fwA A u i b := by
  induction u with
  | zero => intro i b _ _; rfl
  | succ u ih =>
    intro i b hu hb
    rw [fewS, fwA, S.2.2 i (by omega) (mskB_7 (by omega)), S.2.2 b hb (mskB_7 (by omega))]
    exact ih _ _ (by omega) (by split <;> omega)
theorem ob_ky (S : Sim 7 Q A n) (u : Nat) : ∀ i h, u + i = 30 → kyS Q u i h = kyA A u i h := by
  induction u with
  | zero => intro i h _; rfl
  | succ u ih =>
    intro i h hu
    rw [kyS, kyA, Sim_has S (mskB_7 (by decide))]
    by_cases z : itB A (nI i) = true
    · rw [if_pos z, if_pos z, keyV_e S (by omega) z]
      exact ih _ _ (by omega)
    · rw [if_neg z, if_neg z]
      exact ih _ _ (by omega)
theorem ob_ro (S : Sim 7 Q A n) {k : Nat} (hk : k < 4) (u : Nat) : ∀ i h, u + i = n → roS (Q k).2.1 u i h = roA (getL A k).1 u i h := by
  induction u with
  | zero => intro i h _; rfl
  | succ u ih =>
    intro i h hu
    rw [roS, roA, Sim_hs S hk (mskB_7 hk) (by omega)]
    exact ih _ _ (by omega)
theorem ob_la (S : Sim 7 Q A n) (u : Nat) : ∀ k h, u + k = 4 → laS Q u k h = laA A n u k h := by
  induction u with
  | zero => intro k h _; rfl
  | succ u ih =>
    intro k h hu
    rw [laS, laA, Sim_n S (by decide) (mskB_7 (by decide)), ob_ro S (by omega) n 0 h rfl, Sim_brk S (by omega) (mskB_7 (by omega))]
    exact ih _ _ (by omega)
theorem ob_cn (S : Sim 7 Q A n) (u : Nat) : ∀ k h, u + k = 3 → cnS Q u k h = cnA A u k h := by
  induction u with
  | zero => intro k h _; rfl
  | succ u ih =>
    intro k h hu
    rw [cnS, cnA, S.2.2 k (by omega) (mskB_7 (by omega))]
    exact ih _ _ (by omega)
theorem ob_sum (S : Sim 7 Q A n) (hh : setS (Q 0).2.1 (Q 0).1 0 0 = hsA A 30 0 0) (ln kp : Nat) : sumT Q ln kp = sumA A n ln kp := by
  unfold sumT sumA
  rw [hh, Sim_n S (by decide) (mskB_7 (by decide)), ob_ky S 30 0 _ rfl, ob_la S 4 0 _ rfl, ob_cn S 3 0 _ rfl]
  rfl
theorem ob_ab (S : Sim 7 Q A n) {k : Nat} (hk : k < 4) (u : Nat) : ∀ i a, i < n → abS (Q k).2.1 u i a = abA (getL A k).1 u i a := by
  induction u with
  | zero => intro i a _; rfl
  | succ u ih =>
    intro i a hi
    rw [abS, abA]
    by_cases e : i = 0
    · rw [if_pos e, if_pos e]
    · rw [if_neg e, if_neg e, Sim_hs S hk (mskB_7 hk) (show (i - 1) / 2 < n by omega)]
      exact ih _ _ (by omega)
end OBS
