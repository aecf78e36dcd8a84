/-! commands on both sides -/
theorem pos_can {Q : QU} {A : Nat → Int32} {n c : Nat} (S : Sim 7 Q A n) (hc : c < 5) (hd ky x : Int32) (h0 : c = 0 → ky = x) (h3 : c = 3 → hd = x) : posB Q c hd ky = canA c x n A := by
  have hn := Sim_n S (k := 0) (by decide) (mskB_7 (by decide))
  unfold posB canA
  rw [hn]
  rcases (show c = 0 ∨ c = 1 ∨ c = 2 ∨ c = 3 ∨ c = 4 by omega) with rfl | rfl | rfl | rfl | rfl
  · rw [if_pos rfl, if_pos rfl, h0 rfl]
  · rw [if_neg (by decide), if_pos (Or.inl rfl), if_neg (by decide), if_neg (by decide)]; rfl
  · rw [if_neg (by decide), if_pos (Or.inr rfl), if_neg (by decide), if_neg (by decide)]; rfl
  · rw [if_neg (by decide), if_neg (by decide), if_pos rfl, if_neg (by decide), if_pos rfl, h3 rfl, Sim_has S (mskB_7 (by decide))]
  · rw [if_neg (by decide), if_neg (by decide), if_neg (by decide), if_neg (by decide), if_neg (by decide), if_neg (by decide)]; rfl
def nxN (c n : Nat) : Nat := if c = 0 then n + 1 else if c = 4 then n else n - 1
theorem Sim_do {q : Int32} {Q : QU} {A : Nat → Int32} {n c : Nat} (S : Sim 7 Q A n) (hq : mskB q 1 = true → q / 2 - q / 2 / 2 * 2 = 1) (hc : c < 5) {hd ky x : Int32} (h0 : c = 0 → ky = x) (h3 : c = 3 → hd = x) (hx : canA c x n A = true) : Sim q (cryQ Q c hd ky) (doA q c x n A) (nxN c n) := by
  have m0 : mskB 7 0 = true := mskB_7 (by decide)
  have Sq : Sim q Q A n := Sim_any S
  unfold cryQ doA
  rcases (show c = 0 ∨ c = 1 ∨ c = 2 ∨ c = 3 ∨ c = 4 by omega) with rfl | rfl | rfl | rfl | rfl
  · rw [if_pos rfl, if_pos rfl, h0 rfl, Sim_free S m0]
    unfold canA at hx
    rw [if_pos rfl] at hx
    have hx2 := Bool.and_eq_true_iff.mp hx
    exact Sim_put Sq (of_decide_eq_true hx2.2) hx2.1 (fun k hk _ => mapU4 hk)
  · rw [if_neg (by decide), if_pos rfl, if_neg (by decide), if_pos rfl]
    unfold canA at hx
    rw [if_neg (by decide), if_neg (by decide)] at hx
    have h1 : 0 < n := of_decide_eq_true (p := 0 < n) (by simpa using hx)
    obtain ⟨j, hj, ej, ht⟩ := lsA_tk S.1 (k := 0) (by decide) m0 (by omega)
    rw [Sim_lst S (by decide) m0, ej, nI_clamp (by omega)]
    exact Sim_take Sq hj ht (by omega) (fun k hk _ => mapU4 hk)
  · rw [if_neg (by decide), if_neg (by decide), if_pos rfl, if_neg (by decide), if_neg (by decide), if_pos rfl]
    unfold canA at hx
    rw [if_neg (by decide), if_neg (by decide)] at hx
    have h1 : 0 < n := of_decide_eq_true (p := 0 < n) (by simpa using hx)
    obtain ⟨j, hj, ej, ht⟩ := grA_tk S.1 m0 (by omega)
    rw [Sim_grt S (by decide), ej, nI_clamp (by omega)]
    exact Sim_take (Sim_cfg Sq hq) hj (by rw [pk_un (by omega)]; exact ht) (by omega) (fun k hk _ => mapU4 hk)
  · rw [if_neg (by decide), if_neg (by decide), if_neg (by decide), if_pos rfl, if_neg (by decide), if_neg (by decide), if_neg (by decide), if_pos rfl]
    unfold canA at hx
    rw [if_neg (by decide), if_pos rfl] at hx
    obtain ⟨j, hj, ej, ht⟩ := itB_iff.mp hx
    rw [h3 rfl, ej, nI_clamp (by omega)]
    have h1 : 1 ≤ n := by
      obtain ⟨i, hi, _⟩ := ((S.1.2.2.2.2.2.2 0 (by decide) m0).2 j hj).mp ht
      omega
    exact Sim_take Sq hj ht h1 (fun k hk _ => mapU4 hk)
  · rw [if_neg (by decide), if_neg (by decide), if_neg (by decide), if_neg (by decide), if_neg (by decide), if_neg (by decide), if_neg (by decide), if_neg (by decide), if_neg (by decide)]
    exact Sim_build Sq (fun k hk _ => mapU4 hk)
theorem hq7 : mskB 7 1 = true → (7 : Int32) / 2 - 7 / 2 / 2 * 2 = 1 := fun _ => by decide +kernel
theorem hqk {k : Nat} (hk : k < 3) : mskB (1 <<< (nI k &&& 31)) 1 = true → ((1 : Int32) <<< (nI k &&& 31)) / 2 - ((1 : Int32) <<< (nI k &&& 31)) / 2 / 2 * 2 = 1 := by
  rw [mskB_q hk (by decide)]
  intro h
  have e : cq 1 = k := of_decide_eq_true h
  rw [← e]
  decide +kernel
/-! the two readers -/
section RDR
variable {t : Nat → Nat} {ln : Nat}
theorem pNum_t {m c : Nat} {sg : Bool} : pNum t ln m sg (true, c) = ((decide (pnC t ln sg c < (rdN t ln m (pnC t ln sg c) 0).1) && !dgB t ln (rdN t ln m (pnC t ln sg c) 0).1, (rdN t ln m (pnC t ln sg c) 0).1), ngI (pnG t ln sg c) (rdN t ln m (pnC t ln sg c) 0).2) := if_pos rfl
theorem pNum_f {m c : Nat} {sg : Bool} : pNum t ln m sg (false, c) = ((false, c), 0) := if_neg Bool.false_ne_true
theorem pnG_f {c : Nat} : pnG t ln false c = false := rfl
theorem pnC_f {c : Nat} : pnC t ln false c = c := rfl
theorem sgn_C {s : PS} : sgn1 t ln s = pnC t ln true s.1 := by
  unfold sgn1 pnC pnG
  by_cases e : curN t ln s.1 = 45
  · rw [if_pos e, decide_eq_true e]; rfl
  · rw [if_neg e, decide_eq_false e]; rfl
theorem key_G {s : PS} {v : Nat} : (if curN t ln s.1 = 45 then -nI v else nI v) = ngI (pnG t ln true s.1) v := by
  unfold ngI pnG
  by_cases e : curN t ln s.1 = 45
  · rw [if_pos e, decide_eq_true e]; rfl
  · rw [if_neg e, decide_eq_false e]; rfl
theorem rdKey_e {s : PS} : rdKey t ln s = (decide (pnC t ln true s.1 < (rdN t ln 3 (pnC t ln true s.1) 0).1), (rdN t ln 3 (pnC t ln true s.1) 0).1, (rdN t ln 3 (pnC t ln true s.1) 0).2, s.2.2.1, s.2.2.2.1, ngI (pnG t ln true s.1) (rdN t ln 3 (pnC t ln true s.1) 0).2) := by
  unfold rdKey
  rw [sgn_C, key_G]
/-- a sign behind a number: the model's own test of one digit more changes nothing -/
theorem tk_dg {k c : Nat} {b : Bool} (hk : k < 48 ∨ 57 < k) : pTk t ln k (b && !dgB t ln c, c) = if b = true then (if curN t ln c = k then (true, c + 1) else (false, c)) else (false, c) := by
  unfold pTk
  cases b
  · rw [if_neg (fun z => Bool.false_ne_true z.1), if_neg Bool.false_ne_true]
  · rw [if_pos (rfl : true = true)]
    by_cases e : curN t ln c = k
    · have : dgB t ln c = false := by
        unfold dgB
        rw [e]
        rcases hk with z | z
        · rw [decide_eq_false (by omega)]; rfl
        · rw [decide_eq_false (p := k ≤ 57) (by omega), Bool.and_false]
      rw [if_pos e, if_pos ⟨by rw [this]; rfl, e⟩]
    · rw [if_neg e, if_neg (fun z => e z.2)]
theorem tk_t {k c : Nat} : pTk t ln k (true, c) = if curN t ln c = k then (true, c + 1) else (false, c) := by
  unfold pTk
  by_cases e : curN t ln c = k
  · rw [if_pos e, if_pos ⟨rfl, e⟩]
  · rw [if_neg e, if_neg (fun z => e z.2)]
theorem tk_f {k c : Nat} : pTk t ln k (false, c) = (false, c) := if_neg (fun z => Bool.false_ne_true z.1)
def pi2 (s : Bool × PS) : Bool × Nat := (s.1, s.2.1)
theorem pi_sign {k : Nat} {s : PS} : pi2 (rdSign t ln k s) = if curN t ln s.1 = k then (true, s.1 + 1) else (false, s.1) := by
  unfold pi2 rdSign
  by_cases e : curN t ln s.1 = k
  · rw [if_pos e, if_pos e]
  · rw [if_neg e, if_neg e]
theorem sign_2 {k : Nat} {s : PS} : (rdSign t ln k s).2.2 = s.2 := by
  unfold rdSign
  by_cases e : curN t ln s.1 = k
  · rw [if_pos e]
  · rw [if_neg e]
theorem sign_p {k : Nat} {s : PS} (h : (rdSign t ln k s).1 = true) : (rdSign t ln k s) = (true, s.1 + 1, s.2) ∧ curN t ln s.1 = k := by
  unfold rdSign at h ⊢
  by_cases e : curN t ln s.1 = k
  · rw [if_pos e]; exact ⟨rfl, e⟩
  · rw [if_neg e] at h; cases h
theorem sign_n {k : Nat} {s : PS} (h : ¬ (rdSign t ln k s).1 = true) : (rdSign t ln k s) = (false, s) ∧ ¬ curN t ln s.1 = k := by
  unfold rdSign at h ⊢
  by_cases e : curN t ln s.1 = k
  · rw [if_pos e] at h; exact absurd rfl h
  · rw [if_neg e]; exact ⟨rfl, e⟩
theorem rdA_0 {s : PS} (h : s.2.2.1 = 0) : rdArgs t ln s = rdKey t ln s := by unfold rdArgs; rw [if_pos h]
theorem rdA_3 {s : PS} (h : s.2.2.1 = 3) : rdArgs t ln s = rdHand t ln s := by unfold rdArgs; rw [if_neg (by rw [h]; decide), if_pos h]
theorem rdA_5 {s : PS} (h : s.2.2.1 = 5) : rdArgs t ln s = (if (rdHand t ln s).1 = true then (if (rdSign t ln 44 (rdHand t ln s).2).1 = true then rdKey t ln (rdSign t ln 44 (rdHand t ln s).2).2 else (false, (rdSign t ln 44 (rdHand t ln s).2).2)) else (false, (rdHand t ln s).2)) := by unfold rdArgs; rw [if_neg (by rw [h]; decide), if_neg (by rw [h]; decide), if_pos h]
theorem rdA_1 {s : PS} (h : s.2.2.1 = 1 ∨ s.2.2.1 = 2 ∨ s.2.2.1 = 4) : rdArgs t ln s = (true, s) := by
  unfold rdArgs
  rcases h with h | h | h
  · rw [if_neg (by rw [h]; decide), if_neg (by rw [h]; decide), if_neg (by rw [h]; decide)]
  · rw [if_neg (by rw [h]; decide), if_neg (by rw [h]; decide), if_neg (by rw [h]; decide)]
  · rw [if_neg (by rw [h]; decide), if_neg (by rw [h]; decide), if_neg (by rw [h]; decide)]
def fin (r : Bool × PS) (t : Nat → Nat) (ln : Nat) : Bool × PS := if r.1 = true then rdSign t ln 59 r.2 else (false, r.2)
theorem rdCmd_no {s : PS} (h : cmdOf (curN t ln s.1) = -1) : rdCmd t ln s = (false, s.1, s.2.1, -1, s.2.2.2) := by unfold rdCmd; rw [if_pos h]
theorem rdCmd_go {s : PS} {c : Int32} (h : cmdOf (curN t ln s.1) = c) (hc : ¬ c = -1) : rdCmd t ln s = fin (rdArgs t ln (s.1 + 1, s.2.1, c, s.2.2.2)) t ln := by
  unfold rdCmd fin
  rw [h, if_neg hc]
theorem fin_pi {r : Bool × PS} : pi2 (fin r t ln) = if r.1 = true then (if curN t ln r.2.1 = 59 then (true, r.2.1 + 1) else (false, r.2.1)) else (false, r.2.1) := by
  unfold fin
  by_cases e : r.1 = true
  · rw [if_pos e, if_pos e, pi_sign]
  · rw [if_neg e, if_neg e]; rfl
theorem fin_2 {r : Bool × PS} : (fin r t ln).2.2 = r.2.2 := by
  unfold fin
  by_cases e : r.1 = true
  · rw [if_pos e, sign_2]
  · rw [if_neg e]
theorem fin_1 {r : Bool × PS} (h : (fin r t ln).1 = true) : r.1 = true := by
  unfold fin at h
  by_cases e : r.1 = true
  · exact e
  · rw [if_neg e] at h; cases h
/-- the argument words of change -/
theorem rd5 {s : PS} (h : s.2.2.1 = 5) : pi2 (rdArgs t ln s) = (if s.1 < (rdN t ln 2 s.1 0).1 ∧ curN t ln (rdN t ln 2 s.1 0).1 = 44 then (decide (pnC t ln true ((rdN t ln 2 s.1 0).1 + 1) < (rdN t ln 3 (pnC t ln true ((rdN t ln 2 s.1 0).1 + 1)) 0).1), (rdN t ln 3 (pnC t ln true ((rdN t ln 2 s.1 0).1 + 1)) 0).1) else (false, (rdN t ln 2 s.1 0).1)) ∧ ((rdArgs t ln s).1 = true → (rdArgs t ln s).2.2.2.1 = 5 ∧ (rdArgs t ln s).2.2.2.2.1 = nI (rdN t ln 2 s.1 0).2 ∧ (rdArgs t ln s).2.2.2.2.2 = ngI (pnG t ln true ((rdN t ln 2 s.1 0).1 + 1)) (rdN t ln 3 (pnC t ln true ((rdN t ln 2 s.1 0).1 + 1)) 0).2) := by
  rw [rdA_5 h]
  by_cases e1 : s.1 < (rdN t ln 2 s.1 0).1
  · rw [if_pos (show (rdHand t ln s).1 = true from decide_eq_true e1)]
    by_cases e2 : curN t ln (rdN t ln 2 s.1 0).1 = 44
    · have hs : rdSign t ln 44 (rdHand t ln s).2 = (true, (rdN t ln 2 s.1 0).1 + 1, (rdHand t ln s).2.2) := by
        unfold rdSign
        exact if_pos e2
      rw [hs, if_pos (rfl : true = true), if_pos ⟨e1, e2⟩, rdKey_e]
      exact ⟨rfl, fun _ => ⟨h, rfl, rfl⟩⟩
    · have hs : rdSign t ln 44 (rdHand t ln s).2 = (false, (rdHand t ln s).2) := by
        unfold rdSign
        exact if_neg e2
      rw [hs, if_neg Bool.false_ne_true, if_neg (fun z => e2 z.2)]
      exact ⟨rfl, fun z => by cases z⟩
  · rw [if_neg (show ¬ (rdHand t ln s).1 = true from fun z => e1 (of_decide_eq_true z)), if_neg (fun z => e1 z.1)]
    exact ⟨rfl, fun z => by cases z⟩
theorem cmd_eq (s : PS) : pi2 (rdCmd t ln s) = (mCmd t ln s.1).1 := by
  unfold mCmd
  by_cases e1 : curN t ln s.1 = 105
  · rw [if_pos e1, rdCmd_go (c := 0) (by rw [e1]; rfl) (by decide), rdA_0 rfl, fin_pi, rdKey_e, pNum_t]
    exact (tk_dg (Or.inr (by decide))).symm
  · rw [if_neg e1]
    by_cases e2 : curN t ln s.1 = 114
    · rw [if_pos e2, rdCmd_go (c := 3) (by rw [e2]; rfl) (by decide), rdA_3 rfl, fin_pi, pNum_t, pnC_f]
      exact (tk_dg (Or.inr (by decide))).symm
    · rw [if_neg e2]
      by_cases e3 : curN t ln s.1 = 99
      · rw [if_pos e3, rdCmd_go (c := 5) (by rw [e3]; rfl) (by decide), fin_pi, pNum_t (m := 2), pnC_f]
        have h5 : pi2 (rdArgs t ln (s.1 + 1, s.2.1, 5, s.2.2.2)) = (if s.1 + 1 < (rdN t ln 2 (s.1 + 1) 0).1 ∧ curN t ln (rdN t ln 2 (s.1 + 1) 0).1 = 44 then (decide (pnC t ln true ((rdN t ln 2 (s.1 + 1) 0).1 + 1) < (rdN t ln 3 (pnC t ln true ((rdN t ln 2 (s.1 + 1) 0).1 + 1)) 0).1), (rdN t ln 3 (pnC t ln true ((rdN t ln 2 (s.1 + 1) 0).1 + 1)) 0).1) else (false, (rdN t ln 2 (s.1 + 1) 0).1)) := (rd5 (t := t) (ln := ln) (s := (s.1 + 1, s.2.1, 5, s.2.2.2)) rfl).1
        have a1 : (rdArgs t ln (s.1 + 1, s.2.1, 5, s.2.2.2)).1 = (pi2 (rdArgs t ln (s.1 + 1, s.2.1, 5, s.2.2.2))).1 := rfl
        have a2 : (rdArgs t ln (s.1 + 1, s.2.1, 5, s.2.2.2)).2.1 = (pi2 (rdArgs t ln (s.1 + 1, s.2.1, 5, s.2.2.2))).2 := rfl
        rw [a1, a2, h5, tk_dg (k := 44) (Or.inl (by decide))]
        show _ = pTk t ln 59 (pNum t ln 3 true (if decide (s.1 + 1 < (rdN t ln 2 (s.1 + 1) 0).1) = true then (if curN t ln (rdN t ln 2 (s.1 + 1) 0).1 = 44 then (true, (rdN t ln 2 (s.1 + 1) 0).1 + 1) else (false, (rdN t ln 2 (s.1 + 1) 0).1)) else (false, (rdN t ln 2 (s.1 + 1) 0).1))).1
        by_cases e4 : s.1 + 1 < (rdN t ln 2 (s.1 + 1) 0).1
        · rw [if_pos (decide_eq_true e4)]
          by_cases e5 : curN t ln (rdN t ln 2 (s.1 + 1) 0).1 = 44
          · have e6 : s.1 + 1 < (rdN t ln 2 (s.1 + 1) 0).1 ∧ curN t ln (rdN t ln 2 (s.1 + 1) 0).1 = 44 := ⟨e4, e5⟩
            rw [if_pos e6, if_pos e5, pNum_t]
            exact (tk_dg (k := 59) (Or.inr (by decide))).symm
          · have e6 : ¬ (s.1 + 1 < (rdN t ln 2 (s.1 + 1) 0).1 ∧ curN t ln (rdN t ln 2 (s.1 + 1) 0).1 = 44) := fun z => e5 z.2
            rw [if_neg e6, if_neg e5, pNum_f, tk_f]
            exact if_neg Bool.false_ne_true
        · have e6 : ¬ (s.1 + 1 < (rdN t ln 2 (s.1 + 1) 0).1 ∧ curN t ln (rdN t ln 2 (s.1 + 1) 0).1 = 44) := fun z => e4 z.1
          rw [if_neg (fun z => e4 (of_decide_eq_true z)), if_neg e6, pNum_f, tk_f]
          exact if_neg Bool.false_ne_true
      · rw [if_neg e3]
        by_cases e4 : curN t ln s.1 = 108 ∨ curN t ln s.1 = 103 ∨ curN t ln s.1 = 98
        · rw [if_pos e4, tk_t]
          rcases e4 with e | e | e
          · rw [rdCmd_go (c := 1) (by rw [e]; rfl) (by decide), rdA_1 (Or.inl rfl), fin_pi, if_pos (rfl : true = true)]
          · rw [rdCmd_go (c := 2) (by rw [e]; rfl) (by decide), rdA_1 (Or.inr (Or.inl rfl)), fin_pi, if_pos (rfl : true = true)]
          · rw [rdCmd_go (c := 4) (by rw [e]; rfl) (by decide), rdA_1 (Or.inr (Or.inr rfl)), fin_pi, if_pos (rfl : true = true)]
        · rw [if_neg e4, tk_f, rdCmd_no (by unfold cmdOf; rw [if_neg e1, if_neg (by omega), if_neg (by omega), if_neg e2, if_neg e3, if_neg (by omega)])]
          rfl
/-- what an ordered command asks for -/
theorem cmd_val (s : PS) (h : (rdCmd t ln s).1 = true) :
    (curN t ln s.1 = 105 ∧ (rdCmd t ln s).2.2.2.1 = 0 ∧ (rdCmd t ln s).2.2.2.2.2 = (mCmd t ln s.1).2.1) ∨
    (curN t ln s.1 = 108 ∧ (rdCmd t ln s).2.2.2.1 = 1) ∨ (curN t ln s.1 = 103 ∧ (rdCmd t ln s).2.2.2.1 = 2) ∨
    (curN t ln s.1 = 114 ∧ (rdCmd t ln s).2.2.2.1 = 3 ∧ (rdCmd t ln s).2.2.2.2.1 = (mCmd t ln s.1).2.1) ∨
    (curN t ln s.1 = 98 ∧ (rdCmd t ln s).2.2.2.1 = 4) ∨
    (curN t ln s.1 = 99 ∧ (rdCmd t ln s).2.2.2.1 = 5 ∧ (rdCmd t ln s).2.2.2.2.1 = (mCmd t ln s.1).2.1 ∧ (rdCmd t ln s).2.2.2.2.2 = (mCmd t ln s.1).2.2 ∧ ∃ b c v, v = (rdN t ln 3 c 0).2 ∧ (mCmd t ln s.1).2.2 = ngI b v) := by
  by_cases e1 : curN t ln s.1 = 105
  · refine Or.inl ⟨e1, ?_⟩
    unfold mCmd
    rw [if_pos e1, rdCmd_go (c := 0) (by rw [e1]; rfl) (by decide), rdA_0 rfl, fin_2, rdKey_e, pNum_t]
    exact ⟨rfl, rfl⟩
  · by_cases e2 : curN t ln s.1 = 114
    · refine Or.inr (Or.inr (Or.inr (Or.inl ⟨e2, ?_⟩)))
      unfold mCmd
      rw [if_neg e1, if_pos e2, rdCmd_go (c := 3) (by rw [e2]; rfl) (by decide), rdA_3 rfl, fin_2, pNum_t, pnC_f, pnG_f]
      exact ⟨rfl, rfl⟩
    · by_cases e3 : curN t ln s.1 = 99
      · refine Or.inr (Or.inr (Or.inr (Or.inr (Or.inr ⟨e3, ?_⟩))))
        rw [rdCmd_go (c := 5) (by rw [e3]; rfl) (by decide)] at h ⊢
        have h1 := fin_1 h
        have h5 := rd5 (t := t) (ln := ln) (s := (s.1 + 1, s.2.1, 5, s.2.2.2)) rfl
        have h6 := h5.2 h1
        have h7 : (pi2 (rdArgs t ln (s.1 + 1, s.2.1, 5, s.2.2.2))).1 = true := h1
        rw [show pi2 (rdArgs t ln (s.1 + 1, s.2.1, 5, s.2.2.2)) = (if s.1 + 1 < (rdN t ln 2 (s.1 + 1) 0).1 ∧ curN t ln (rdN t ln 2 (s.1 + 1) 0).1 = 44 then (decide (pnC t ln true ((rdN t ln 2 (s.1 + 1) 0).1 + 1) < (rdN t ln 3 (pnC t ln true ((rdN t ln 2 (s.1 + 1) 0).1 + 1)) 0).1), (rdN t ln 3 (pnC t ln true ((rdN t ln 2 (s.1 + 1) 0).1 + 1)) 0).1) else (false, (rdN t ln 2 (s.1 + 1) 0).1)) from h5.1] at h7
        rw [fin_2]
        unfold mCmd
        rw [if_neg e1, if_neg e2, if_pos e3, pNum_t (m := 2), pnC_f, tk_dg (k := 44) (Or.inl (by decide))]
        by_cases e4 : s.1 + 1 < (rdN t ln 2 (s.1 + 1) 0).1 ∧ curN t ln (rdN t ln 2 (s.1 + 1) 0).1 = 44
        · rw [if_pos (decide_eq_true e4.1), if_pos e4.2, pNum_t]
          exact ⟨h6.1, h6.2.1, h6.2.2, _, _, _, rfl, rfl⟩
        · rw [if_neg e4] at h7
          cases h7
      · by_cases e4 : curN t ln s.1 = 108
        · refine Or.inr (Or.inl ⟨e4, ?_⟩)
          rw [rdCmd_go (c := 1) (by rw [e4]; rfl) (by decide), rdA_1 (Or.inl rfl), fin_2]
        · by_cases e5 : curN t ln s.1 = 103
          · refine Or.inr (Or.inr (Or.inl ⟨e5, ?_⟩))
            rw [rdCmd_go (c := 2) (by rw [e5]; rfl) (by decide), rdA_1 (Or.inr (Or.inl rfl)), fin_2]
          · by_cases e6 : curN t ln s.1 = 98
            · refine Or.inr (Or.inr (Or.inr (Or.inr (Or.inl ⟨e6, ?_⟩))))
              rw [rdCmd_go (c := 4) (by rw [e6]; rfl) (by decide), rdA_1 (Or.inr (Or.inr rfl)), fin_2]
            · rw [rdCmd_no (by unfold cmdOf; rw [if_neg e1, if_neg e4, if_neg e5, if_neg e2, if_neg e3, if_neg e6])] at h
              cases h
theorem rdN_bd (u c v : Nat) : (rdN t ln u c v).2 + 1 ≤ (v + 1) * 10 ^ u := by
  induction u generalizing c v with
  | zero => simp [rdN]
  | succ u ih =>
    rw [rdN]
    split
    · rename_i z
      have := ih (c + 1) (10 * v + (curN t ln c - 48))
      refine Nat.le_trans this ?_
      rw [Nat.pow_succ, Nat.mul_comm (10 ^ u) 10, ← Nat.mul_assoc]
      exact Nat.mul_le_mul_right _ (by omega)
    · exact Nat.le_trans (Nat.le_mul_of_pos_right _ (Nat.pow_pos (by decide))) (Nat.le_refl _)
theorem ng_key {b : Bool} {v : Nat} (h : v ≤ 999) : isKeyB (ngI b v) = true := by
  cases b
  · have e : (ngI false v).toInt = v := nI_toInt (by omega)
    exact int_key (by omega) (by omega)
  · have e : (ngI true v).toInt = -(v : Int) := by
      show (-nI v).toInt = _
      rw [Int32.toInt_neg, nI_toInt (by omega), Int.bmod_eq_of_le (by omega) (by omega)]
    exact int_key (by omega) (by omega)
theorem flt_eq (u : Nat) : ∀ s : PS, (fltS t ln u s).1 = wrI (mFlt t ln u s.1).1 (mFlt t ln u s.1).2 := by
  induction u with
  | zero => intro s; rfl
  | succ u ih =>
    intro s
    have e := cmd_eq (t := t) (ln := ln) s
    have e1 : (rdCmd t ln s).1 = (mCmd t ln s.1).1.1 := congrArg Prod.fst e
    have e2 : (rdCmd t ln s).2.1 = (mCmd t ln s.1).1.2 := congrArg Prod.snd e
    rw [fltS, mFlt]
    by_cases h : s.1 < ln
    · rw [if_pos h, if_pos h, e1]
      by_cases z : (mCmd t ln s.1).1.1 = true
      · rw [if_pos z, if_pos z, ih, e2]
      · rw [if_neg z, if_neg z, e2, show (mCmd t ln s.1).1.1 = false from by simpa using z, wrI_f]
    · rw [if_neg h, if_neg h, wrI_t]
end RDR
