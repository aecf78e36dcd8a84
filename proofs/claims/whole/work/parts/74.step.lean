/-! one call on both sides -/
theorem rngN {m : Nat} (hm : m < 2 ^ 31) (x : Int32) : (x < 0 ∨ nI m ≤ x) ∨ ∃ k, k < m ∧ x = nI k := by
  by_cases h : x < 0
  · exact Or.inl (Or.inl h)
  · obtain ⟨j, hj, e⟩ := nI_of h
    rcases Nat.lt_or_ge j m with z | z
    · exact Or.inr ⟨j, z, e⟩
    · exact Or.inl (Or.inr (by rw [e]; exact nI_le z hj))
theorem crySt_1 {Q : QU} {hd ky : Int32} (h : 0 < (Q 0).1) : crySt Q 1 hd ky = mapU (opTake (lstV Q 0)) Q 4 := by
  have hp : posB Q 1 hd ky = true := by
    unfold posB
    rw [if_neg (by decide), if_pos (Or.inl rfl)]
    exact decide_eq_true h
  unfold crySt
  rw [if_pos hp]
  unfold cryQ
  rw [if_neg (by decide), if_pos rfl]
theorem crySt_2 {Q : QU} {hd ky : Int32} (h : 0 < (Q 0).1) : crySt Q 2 hd ky = mapU (opTake (grtV Q 0)) (cfgU Q) 4 := by
  have hp : posB Q 2 hd ky = true := by
    unfold posB
    rw [if_neg (by decide), if_pos (Or.inr rfl)]
    exact decide_eq_true h
  unfold crySt
  rw [if_pos hp]
  unfold cryQ
  rw [if_neg (by decide), if_neg (by decide), if_pos rfl]
/-- any command leaves a good state good -/
theorem Sim_cry {Q : QU} {A : Nat → Int32} {n : Nat} (S : Sim 7 Q A n) (cmd : Nat) (hd ky : Int32) : ∃ B m, Sim 7 (crySt Q cmd hd ky) B m := by
  unfold crySt
  by_cases hp : posB Q cmd hd ky = true
  · rw [if_pos hp]
    by_cases h5 : cmd < 5
    · by_cases h3 : cmd = 3
      · have := pos_can S h5 hd ky hd (fun z => by omega) (fun _ => rfl)
        exact ⟨_, _, Sim_do S hq7 h5 (x := hd) (fun z => by omega) (fun _ => rfl) (this.symm.trans hp)⟩
      · have := pos_can S h5 hd ky ky (fun _ => rfl) (fun z => absurd z h3)
        exact ⟨_, _, Sim_do S hq7 h5 (x := ky) (fun _ => rfl) (fun z => absurd z h3) (this.symm.trans hp)⟩
    · by_cases h6 : cmd = 5
      · subst h6
        unfold posB at hp
        rw [if_neg (by decide), if_neg (by decide), if_neg (by decide), if_pos rfl] at hp
        have hp2 := Bool.and_eq_true_iff.mp hp
        rw [Sim_has S (mskB_7 (by decide))] at hp2
        obtain ⟨j, hj, ej, ht⟩ := itB_iff.mp hp2.1
        subst ej
        refine ⟨_, _, Sim_give S hj ht hp2.2 (fun k hk => ?_)⟩
        unfold cryQ
        rw [if_neg (by decide), if_neg (by decide), if_neg (by decide), if_neg (by decide), if_pos rfl]
        exact mapU4 hk
      · refine ⟨_, _, Sim_build S (P := cryQ Q cmd hd ky) (fun k hk _ => ?_)⟩
        unfold cryQ
        rw [if_neg (by omega), if_neg (by omega), if_neg (by omega), if_neg (by omega), if_neg h6]
        exact mapU4 hk
  · rw [if_neg hp]
    exact ⟨A, n, S⟩
theorem okt_upd {t : Nat → Nat} {j k : Nat} (ht : ∀ i, t i < 128) (hk : k < 128) : ∀ i, updN t j k i < 128 := by
  intro i
  unfold updN
  split
  · exact hk
  · exact ht i
theorem st_insert (l : Launch) {W : MW} {rf : Int32} {f : Nat → Int64} (h : LSt W rf f) (a0 : Int32) : ∃ (mc ms : Nat) (k b : Int32) (W2 W3 : MW) (g : Nat → Int64), mc ≤ 1 ∧ ms ≤ 6 ∧ Ct l (.codeWith yL_insert cL_insert 4 (some .int) [(0, 9, 12, 13), (0, 9, 15, 15)]) yL_insert 8 mc ms [.ref 0, .int a0, .ref 73] W (.inl (some (.int k))) W2 ∧ Ct l (.code yX8_insert cX8_insert 2 (some .int)) yX8_insert 7 0 0 [.ref 68, .int a0] W2 (.inl (some (.int b))) W3 ∧ LSt W3 k g ∧ (k = 0 → g 0 = b.toInt64) ∧ ∃ fs, mm_ob W2 68 7 fs := by
  obtain ⟨Q, U, H, t, ln, s, A, P, K, sv, pl, wr, dn, ha, n, rfl, S, R, hl, ht⟩ := h
  have hn := S.1.2.2.1
  have hI := Sim_qI S
  have m0 : mskB 7 0 = true := mskB_7 (by decide)
  have hQ0 := Sim_n S (k := 0) (by decide) m0
  have hx := R.1
  have hs := R.2.2.1
  have hk : H.2.2 ≤ 5 := by rw [R.2.1]; exact hs
  have h30 : (Q 0).1 ≤ 30 := by rw [hQ0]; exact hn
  by_cases hk1 : isKeyB a0 = true
  · by_cases h3 : n < 30
    · skip
      have c1 : Ct l (.code yX7_insert cX7_insert 2 (some .int)) yX7_insert 7 0 0 [.ref 0, .int a0] (cW Q U H t ln s A P K (tI t) (nI sv, rf, nI ln, pl, wr, dn, ha) f) (.inl (some (.int (nI (frA A))))) (cW (mapU (opPut a0 (nI (freeN Q))) Q 4) U (keepH Q H) t ln s A P K (tI t) (nI sv, rf, nI ln, pl, wr, dn, ha) f) := ct_w (c_insert_y l cW_hw hI hx hk hk1 (by rw [hQ0]; exact h3)) rfl rfl (by rw [Sim_free S m0])
      exact ⟨0, 0, 0, (nI (frA A)), _, _, _, by decide, by decide, ct_w (hy_insert l c1 cW_ob cW_out) rfl (cW_up _) rfl, cM (m_insert_y l cW_hp S.1 hs hk1 h3), ⟨_, _, _, _, _, _, _, _, _, _, _, _, _, _, _, rfl, Sim_put S h3 hk1 (fun k hk _ => by rw [mapU4 hk, Sim_free S m0]), Rec_keep S R, hl, ht⟩, fun _ => updL0, _, cW_obm⟩
    · have e30 : n = 30 := by omega
      have c1 : Ct l (.code yX7_insert cX7_insert 2 (some .int)) yX7_insert 7 1 6 [.ref 0, .int a0] (cW Q U H t ln s A P K (tI t) (nI sv, rf, nI ln, pl, wr, dn, ha) f) (.inr "java/lang/IllegalStateException") (cW Q U H t ln s A P K (tI t) (nI sv, rf, nI ln, pl, wr, dn, ha) f) := c_insert_n2 l cW_hw h30 hk1 (by rw [hQ0]; omega)
      exact ⟨1, 6, 2, 0, _, _, f, by decide, by decide, hn_insert_2 l c1 cW_ob, cM (m_insert_n2 l cW_hp hk1 (by rw [S.1.2.1, e30])), ⟨_, _, _, _, _, _, _, _, _, _, _, _, _, _, _, rfl, S, R, hl, ht⟩, fun z => absurd z (by decide), _, cW_obm⟩
  · have hk2 : isKeyB a0 = false := by simpa using hk1
    have c1 : Ct l (.code yX7_insert cX7_insert 2 (some .int)) yX7_insert 7 1 6 [.ref 0, .int a0] (cW Q U H t ln s A P K (tI t) (nI sv, rf, nI ln, pl, wr, dn, ha) f) (.inr "java/lang/IllegalArgumentException") (cW Q U H t ln s A P K (tI t) (nI sv, rf, nI ln, pl, wr, dn, ha) f) := c_insert_n1 l cW_hw hk2
    exact ⟨1, 6, 1, 0, _, _, f, by decide, by decide, hn_insert_1 l c1 cW_ob, cM (m_insert_n1 l cW_hp hk2), ⟨_, _, _, _, _, _, _, _, _, _, _, _, _, _, _, rfl, S, R, hl, ht⟩, fun z => absurd z (by decide), _, cW_obm⟩
theorem st_takeLeast (l : Launch) {W : MW} {rf : Int32} {f : Nat → Int64} (h : LSt W rf f) : ∃ (mc ms : Nat) (k b : Int32) (W2 W3 : MW) (g : Nat → Int64), mc ≤ 1 ∧ ms ≤ 6 ∧ Ct l (.codeWith yL_takeLeast cL_takeLeast 3 (some .int) [(0, 8, 11, 15)]) yL_takeLeast 8 mc ms [.ref 0, .ref 73] W (.inl (some (.int k))) W2 ∧ Ct l (.code yX8_takeLeast cX8_takeLeast 2 (some .int)) yX8_takeLeast 7 0 0 [.ref 68] W2 (.inl (some (.int b))) W3 ∧ LSt W3 k g ∧ (k = 0 → g 0 = b.toInt64) ∧ ∃ fs, mm_ob W2 68 7 fs := by
  obtain ⟨Q, U, H, t, ln, s, A, P, K, sv, pl, wr, dn, ha, n, rfl, S, R, hl, ht⟩ := h
  have hn := S.1.2.2.1
  have hI := Sim_qI S
  have m0 : mskB 7 0 = true := mskB_7 (by decide)
  have hQ0 := Sim_n S (k := 0) (by decide) m0
  have hx := R.1
  have hs := R.2.2.1
  have hk : H.2.2 ≤ 5 := by rw [R.2.1]; exact hs
  have h30 : (Q 0).1 ≤ 30 := by rw [hQ0]; exact hn
  by_cases h0 : n = 0
  · skip
    have c1 : Ct l (.code yX7_takeLeast cX7_takeLeast 2 (some .int)) yX7_takeLeast 7 1 6 [.ref 0] (cW Q U H t ln s A P K (tI t) (nI sv, rf, nI ln, pl, wr, dn, ha) f) (.inr "java/lang/IllegalStateException") (cW Q U H t ln s A P K (tI t) (nI sv, rf, nI ln, pl, wr, dn, ha) f) := c_takeL_n l cW_hw (by rw [hQ0]; exact h0)
    exact ⟨1, 6, 1, 0, _, _, f, by decide, by decide, hn_takeLeast_1 l c1 cW_ob, cM (m_takeL_n l cW_hp (by rw [S.1.2.1, h0])), ⟨_, _, _, _, _, _, _, _, _, _, _, _, _, _, _, rfl, S, R, hl, ht⟩, fun z => absurd z (by decide), _, cW_obm⟩
  · obtain ⟨j, hj, ej, hj1⟩ := lsA_tk S.1 (k := 0) (by decide) m0 (by omega)
    have c1 : Ct l (.code yX7_takeLeast cX7_takeLeast 2 (some .int)) yX7_takeLeast 7 0 0 [.ref 0] (cW Q U H t ln s A P K (tI t) (nI sv, rf, nI ln, pl, wr, dn, ha) f) (.inl (some (.int (nI j)))) (cW (crySt Q 1 (-1) (-1)) U (keepH Q H) t ln s A P K (tI t) (nI sv, rf, nI ln, pl, wr, dn, ha) f) := ct_w (c_takeL_y l cW_hw hI hx hk (by rw [hQ0]; omega)) rfl rfl (by rw [Sim_lst S (by decide) m0, ej])
    exact ⟨0, 0, 0, (nI j), _, _, _, by decide, by decide, ct_w (hy_takeLeast l c1 cW_ob cW_out) rfl (cW_up _) rfl, cM (m_takeL_y l cW_hp S.1 hs hj hj1 ej), ⟨_, _, _, _, _, _, _, _, _, _, _, _, _, _, _, rfl, by rw [crySt_1 (by omega)]; exact Sim_take S hj hj1 (by omega) (fun k hk _ => by rw [mapU4 hk, Sim_lst S (by decide) m0, ej]), Rec_keep S R, hl, ht⟩, fun _ => updL0, _, cW_obm⟩
theorem st_takeGreatest (l : Launch) {W : MW} {rf : Int32} {f : Nat → Int64} (h : LSt W rf f) : ∃ (mc ms : Nat) (k b : Int32) (W2 W3 : MW) (g : Nat → Int64), mc ≤ 1 ∧ ms ≤ 6 ∧ Ct l (.codeWith yL_takeGreatest cL_takeGreatest 3 (some .int) [(0, 8, 11, 15)]) yL_takeGreatest 8 mc ms [.ref 0, .ref 73] W (.inl (some (.int k))) W2 ∧ Ct l (.code yX8_takeGreatest cX8_takeGreatest 1 (some .int)) yX8_takeGreatest 8 0 0 [.ref 68] W2 (.inl (some (.int b))) W3 ∧ LSt W3 k g ∧ (k = 0 → g 0 = b.toInt64) ∧ ∃ fs, mm_ob W2 68 7 fs := by
  obtain ⟨Q, U, H, t, ln, s, A, P, K, sv, pl, wr, dn, ha, n, rfl, S, R, hl, ht⟩ := h
  have hn := S.1.2.2.1
  have hI := Sim_qI S
  have m0 : mskB 7 0 = true := mskB_7 (by decide)
  have hQ0 := Sim_n S (k := 0) (by decide) m0
  have hx := R.1
  have hs := R.2.2.1
  have hk : H.2.2 ≤ 5 := by rw [R.2.1]; exact hs
  have h30 : (Q 0).1 ≤ 30 := by rw [hQ0]; exact hn
  by_cases h0 : n = 0
  · skip
    have c1 : Ct l (.code yX7_takeGreatest cX7_takeGreatest 2 (some .int)) yX7_takeGreatest 7 1 6 [.ref 0] (cW Q U H t ln s A P K (tI t) (nI sv, rf, nI ln, pl, wr, dn, ha) f) (.inr "java/lang/IllegalStateException") (cW Q U H t ln s A P K (tI t) (nI sv, rf, nI ln, pl, wr, dn, ha) f) := c_takeG_n l cW_hw (by rw [hQ0]; exact h0)
    exact ⟨1, 6, 1, 0, _, _, f, by decide, by decide, hn_takeGreatest_1 l c1 cW_ob, cM (m_takeG_n l cW_hp (by rw [S.1.2.1, h0])), ⟨_, _, _, _, _, _, _, _, _, _, _, _, _, _, _, rfl, S, R, hl, ht⟩, fun z => absurd z (by decide), _, cW_obm⟩
  · obtain ⟨j, hj, ej, hj1⟩ := grA_tk S.1 m0 (by omega)
    have c1 : Ct l (.code yX7_takeGreatest cX7_takeGreatest 2 (some .int)) yX7_takeGreatest 7 0 0 [.ref 0] (cW Q U H t ln s A P K (tI t) (nI sv, rf, nI ln, pl, wr, dn, ha) f) (.inl (some (.int (nI j)))) (cW (crySt Q 2 (-1) (-1)) U (keepH Q H) t ln s A P K (tI t) (nI sv, rf, nI ln, pl, wr, dn, ha) f) := ct_w (c_takeG_y l cW_hw hI hx hk (by rw [hQ0]; omega)) rfl rfl (by rw [Sim_grt S (by decide), ej])
    exact ⟨0, 0, 0, (nI j), _, _, _, by decide, by decide, ct_w (hy_takeGreatest l c1 cW_ob cW_out) rfl (cW_up _) rfl, cM (m_takeG_y l cW_hp S.1 hs hj hj1 ej), ⟨_, _, _, _, _, _, _, _, _, _, _, _, _, _, _, rfl, by rw [crySt_2 (by omega)]; exact Sim_take (Sim_cfg S hq7) hj (by rw [pk_un (by omega)]; exact hj1) (by omega) (fun k hk _ => by rw [mapU4 hk, Sim_grt S (by decide), ej]), Rec_keep S R, hl, ht⟩, fun _ => updL0, _, cW_obm⟩
theorem st_remove (l : Launch) {W : MW} {rf : Int32} {f : Nat → Int64} (h : LSt W rf f) (a0 : Int32) : ∃ (mc ms : Nat) (k b : Int32) (W2 W3 : MW) (g : Nat → Int64), mc ≤ 1 ∧ ms ≤ 6 ∧ Ct l (.codeWith yL_remove cL_remove 4 (some .int) [(0, 9, 12, 27)]) yL_remove 8 mc ms [.ref 0, .int a0, .ref 73] W (.inl (some (.int k))) W2 ∧ Ct l (.code yX8_remove cX8_remove 3 (some .int)) yX8_remove 7 0 0 [.ref 68, .int a0] W2 (.inl (some (.int b))) W3 ∧ LSt W3 k g ∧ (k = 0 → g 0 = b.toInt64) ∧ ∃ fs, mm_ob W2 68 7 fs := by
  obtain ⟨Q, U, H, t, ln, s, A, P, K, sv, pl, wr, dn, ha, n, rfl, S, R, hl, ht⟩ := h
  have hn := S.1.2.2.1
  have hI := Sim_qI S
  have m0 : mskB 7 0 = true := mskB_7 (by decide)
  have hQ0 := Sim_n S (k := 0) (by decide) m0
  have hx := R.1
  have hs := R.2.2.1
  have hk : H.2.2 ≤ 5 := by rw [R.2.1]; exact hs
  have h30 : (Q 0).1 ≤ 30 := by rw [hQ0]; exact hn
  cases hb : itB A a0
  · skip
    have c1 : Ct l (.code yX7_remove cX7_remove 3 (some .int)) yX7_remove 7 1 6 [.ref 0, .int a0] (cW Q U H t ln s A P K (tI t) (nI sv, rf, nI ln, pl, wr, dn, ha) f) (.inr "java/lang/IndexOutOfBoundsException") (cW Q U H t ln s A P K (tI t) (nI sv, rf, nI ln, pl, wr, dn, ha) f) := c_remove_n l cW_hw h30 ((Sim_has S m0 _).trans hb)
    exact ⟨1, 6, 1, 0, _, _, f, by decide, by decide, hn_remove_1 l c1 cW_ob, cM (m_remove_n l cW_hp hb), ⟨_, _, _, _, _, _, _, _, _, _, _, _, _, _, _, rfl, S, R, hl, ht⟩, fun z => absurd z (by decide), _, cW_obm⟩
  · obtain ⟨j, hj, ej, hj1⟩ := itB_iff.mp hb
    subst ej
    have c1 : Ct l (.code yX7_remove cX7_remove 3 (some .int)) yX7_remove 7 0 0 [.ref 0, .int (nI j)] (cW Q U H t ln s A P K (tI t) (nI sv, rf, nI ln, pl, wr, dn, ha) f) (.inl (some (.int (A j)))) (cW (mapU (opTake (nI j)) Q 4) U (keepH Q H) t ln s A P K (tI t) (nI sv, rf, nI ln, pl, wr, dn, ha) f) := ct_w (c_remove_y l cW_hw hI hx hk ((Sim_has S m0 _).trans hb)) rfl rfl (by rw [Sim_key S hj hj1])
    exact ⟨0, 0, 0, (A j), _, _, _, by decide, by decide, ct_w (hy_remove l c1 cW_ob cW_out) rfl (cW_up _) rfl, cM (m_remove_y l cW_hp S.1 hs hj hj1), ⟨_, _, _, _, _, _, _, _, _, _, _, _, _, _, _, rfl, Sim_take S hj hj1 (by obtain ⟨i, hi, _⟩ := ((S.1.2.2.2.2.2.2 0 (by decide) m0).2 j hj).mp hj1; omega) (fun k hk _ => mapU4 hk), Rec_keep S R, hl, ht⟩, fun _ => updL0, _, cW_obm⟩
theorem st_change (l : Launch) {W : MW} {rf : Int32} {f : Nat → Int64} (h : LSt W rf f) (a0 a1 : Int32) : ∃ (mc ms : Nat) (k b : Int32) (W2 W3 : MW) (g : Nat → Int64), mc ≤ 1 ∧ ms ≤ 6 ∧ Ct l (.codeWith yL_change cL_change 5 (some .int) [(0, 10, 13, 27), (0, 10, 17, 13)]) yL_change 8 mc ms [.ref 0, .int a0, .int a1, .ref 73] W (.inl (some (.int k))) W2 ∧ Ct l (.code yX8_change cX8_change 4 (some .int)) yX8_change 7 0 0 [.ref 68, .int a0, .int a1] W2 (.inl (some (.int b))) W3 ∧ LSt W3 k g ∧ (k = 0 → g 0 = b.toInt64) ∧ ∃ fs, mm_ob W2 68 7 fs := by
  obtain ⟨Q, U, H, t, ln, s, A, P, K, sv, pl, wr, dn, ha, n, rfl, S, R, hl, ht⟩ := h
  have hn := S.1.2.2.1
  have hI := Sim_qI S
  have m0 : mskB 7 0 = true := mskB_7 (by decide)
  have hQ0 := Sim_n S (k := 0) (by decide) m0
  have hx := R.1
  have hs := R.2.2.1
  have hk : H.2.2 ≤ 5 := by rw [R.2.1]; exact hs
  have h30 : (Q 0).1 ≤ 30 := by rw [hQ0]; exact hn
  cases hb : itB A a0
  · skip
    have c1 : Ct l (.code yX7_change cX7_change 4 (some .int)) yX7_change 7 1 6 [.ref 0, .int a0, .int a1] (cW Q U H t ln s A P K (tI t) (nI sv, rf, nI ln, pl, wr, dn, ha) f) (.inr "java/lang/IndexOutOfBoundsException") (cW Q U H t ln s A P K (tI t) (nI sv, rf, nI ln, pl, wr, dn, ha) f) := c_change_n1 l cW_hw h30 ((Sim_has S m0 _).trans hb)
    exact ⟨1, 6, 1, 0, _, _, f, by decide, by decide, hn_change_1 l c1 cW_ob, cM (m_change_n1 l cW_hp hb), ⟨_, _, _, _, _, _, _, _, _, _, _, _, _, _, _, rfl, S, R, hl, ht⟩, fun z => absurd z (by decide), _, cW_obm⟩
  · obtain ⟨j, hj, ej, hj1⟩ := itB_iff.mp hb
    subst ej
    by_cases hk1 : isKeyB a1 = true
    · skip
      have c1 : Ct l (.code yX7_change cX7_change 4 (some .int)) yX7_change 7 0 0 [.ref 0, .int (nI j), .int a1] (cW Q U H t ln s A P K (tI t) (nI sv, rf, nI ln, pl, wr, dn, ha) f) (.inl (some (.int (A j)))) (cW (mapU (opGive (nI j) a1) Q 4) U (keepH Q H) t ln s A P K (tI t) (nI sv, rf, nI ln, pl, wr, dn, ha) f) := ct_w (c_change_y l cW_hw hI hx hk ((Sim_has S m0 _).trans hb) hk1) rfl rfl (by rw [Sim_key S hj hj1])
      exact ⟨0, 0, 0, (A j), _, _, _, by decide, by decide, ct_w (hy_change l c1 cW_ob cW_out) rfl (cW_up _) rfl, cM (m_change_y l cW_hp S.1 hs hj hj1 hk1), ⟨_, _, _, _, _, _, _, _, _, _, _, _, _, _, _, rfl, Sim_give S hj hj1 hk1 (fun k hk => mapU4 hk), Rec_keep S R, hl, ht⟩, fun _ => updL0, _, cW_obm⟩
    · have hk2 : isKeyB a1 = false := by simpa using hk1
      have c1 : Ct l (.code yX7_change cX7_change 4 (some .int)) yX7_change 7 1 6 [.ref 0, .int (nI j), .int a1] (cW Q U H t ln s A P K (tI t) (nI sv, rf, nI ln, pl, wr, dn, ha) f) (.inr "java/lang/IllegalArgumentException") (cW Q U H t ln s A P K (tI t) (nI sv, rf, nI ln, pl, wr, dn, ha) f) := c_change_n2 l cW_hw hI ((Sim_has S m0 _).trans hb) hk2
      exact ⟨1, 6, 2, 0, _, _, f, by decide, by decide, hn_change_2 l c1 cW_ob, cM (m_change_n2 l cW_hp hb hk2), ⟨_, _, _, _, _, _, _, _, _, _, _, _, _, _, _, rfl, S, R, hl, ht⟩, fun z => absurd z (by decide), _, cW_obm⟩
theorem st_key (l : Launch) {W : MW} {rf : Int32} {f : Nat → Int64} (h : LSt W rf f) (a0 : Int32) : ∃ (mc ms : Nat) (k b : Int32) (W2 W3 : MW) (g : Nat → Int64), mc ≤ 1 ∧ ms ≤ 6 ∧ Ct l (.codeWith yL_key cL_key 4 (some .int) [(0, 9, 12, 27)]) yL_key 8 mc ms [.ref 0, .int a0, .ref 73] W (.inl (some (.int k))) W2 ∧ Ct l (.code yX8_key cX8_key 2 (some .int)) yX8_key 2 0 0 [.ref 68, .int a0] W2 (.inl (some (.int b))) W3 ∧ LSt W3 k g ∧ (k = 0 → g 0 = b.toInt64) ∧ ∃ fs, mm_ob W2 68 7 fs := by
  obtain ⟨Q, U, H, t, ln, s, A, P, K, sv, pl, wr, dn, ha, n, rfl, S, R, hl, ht⟩ := h
  have hn := S.1.2.2.1
  have hI := Sim_qI S
  have m0 : mskB 7 0 = true := mskB_7 (by decide)
  have hQ0 := Sim_n S (k := 0) (by decide) m0
  have hx := R.1
  have hs := R.2.2.1
  have hk : H.2.2 ≤ 5 := by rw [R.2.1]; exact hs
  have h30 : (Q 0).1 ≤ 30 := by rw [hQ0]; exact hn
  cases hb : itB A a0
  · skip
    have c1 : Ct l (.code yX7_key cX7_key 2 (some .int)) yX7_key 7 1 6 [.ref 0, .int a0] (cW Q U H t ln s A P K (tI t) (nI sv, rf, nI ln, pl, wr, dn, ha) f) (.inr "java/lang/IndexOutOfBoundsException") (cW Q U H t ln s A P K (tI t) (nI sv, rf, nI ln, pl, wr, dn, ha) f) := c_key_n l cW_hw h30 ((Sim_has S m0 _).trans hb)
    exact ⟨1, 6, 1, 0, _, _, f, by decide, by decide, hn_key_1 l c1 cW_ob, cM (m_key_n l cW_hp hb), ⟨_, _, _, _, _, _, _, _, _, _, _, _, _, _, _, rfl, S, R, hl, ht⟩, fun z => absurd z (by decide), _, cW_obm⟩
  · obtain ⟨j, hj, ej, hj1⟩ := itB_iff.mp hb
    subst ej
    have c1 : Ct l (.code yX7_key cX7_key 2 (some .int)) yX7_key 7 0 0 [.ref 0, .int (nI j)] (cW Q U H t ln s A P K (tI t) (nI sv, rf, nI ln, pl, wr, dn, ha) f) (.inl (some (.int (A j)))) (cW Q U H t ln s A P K (tI t) (nI sv, rf, nI ln, pl, wr, dn, ha) f) := ct_w (c_key_y l cW_hw hI ((Sim_has S m0 _).trans hb)) rfl rfl (by rw [Sim_key S hj hj1])
    exact ⟨0, 0, 0, (A j), _, _, _, by decide, by decide, ct_w (hy_key l c1 cW_ob cW_out) rfl (cW_up _) rfl, cM (m_key_y l cW_hp hj hj1), ⟨_, _, _, _, _, _, _, _, _, _, _, _, _, _, _, rfl, S, R, hl, ht⟩, fun _ => updL0, _, cW_obm⟩
theorem st_rank (l : Launch) {W : MW} {rf : Int32} {f : Nat → Int64} (h : LSt W rf f) (a0 : Int32) : ∃ (mc ms : Nat) (k b : Int32) (W2 W3 : MW) (g : Nat → Int64), mc ≤ 1 ∧ ms ≤ 6 ∧ Ct l (.codeWith yL_rank cL_rank 4 (some .int) [(0, 9, 12, 27)]) yL_rank 8 mc ms [.ref 0, .int a0, .ref 73] W (.inl (some (.int k))) W2 ∧ Ct l (.code yX8_rank cX8_rank 2 (some .int)) yX8_rank 3 0 0 [.ref 68, .int a0] W2 (.inl (some (.int b))) W3 ∧ LSt W3 k g ∧ (k = 0 → g 0 = b.toInt64) ∧ ∃ fs, mm_ob W2 68 7 fs := by
  obtain ⟨Q, U, H, t, ln, s, A, P, K, sv, pl, wr, dn, ha, n, rfl, S, R, hl, ht⟩ := h
  have hn := S.1.2.2.1
  have hI := Sim_qI S
  have m0 : mskB 7 0 = true := mskB_7 (by decide)
  have hQ0 := Sim_n S (k := 0) (by decide) m0
  have hx := R.1
  have hs := R.2.2.1
  have hk : H.2.2 ≤ 5 := by rw [R.2.1]; exact hs
  have h30 : (Q 0).1 ≤ 30 := by rw [hQ0]; exact hn
  cases hb : itB A a0
  · skip
    have c1 : Ct l (.code yX7_rank cX7_rank 2 (some .int)) yX7_rank 7 1 6 [.ref 0, .int a0] (cW Q U H t ln s A P K (tI t) (nI sv, rf, nI ln, pl, wr, dn, ha) f) (.inr "java/lang/IndexOutOfBoundsException") (cW Q U H t ln s A P K (tI t) (nI sv, rf, nI ln, pl, wr, dn, ha) f) := c_rank_n l cW_hw h30 ((Sim_has S m0 _).trans hb)
    exact ⟨1, 6, 1, 0, _, _, f, by decide, by decide, hn_rank_1 l c1 cW_ob, cM (m_rank_n l cW_hp hb), ⟨_, _, _, _, _, _, _, _, _, _, _, _, _, _, _, rfl, S, R, hl, ht⟩, fun z => absurd z (by decide), _, cW_obm⟩
  · obtain ⟨j, hj, ej, hj1⟩ := itB_iff.mp hb
    subst ej
    have c1 : Ct l (.code yX7_rank cX7_rank 2 (some .int)) yX7_rank 7 0 0 [.ref 0, .int (nI j)] (cW Q U H t ln s A P K (tI t) (nI sv, rf, nI ln, pl, wr, dn, ha) f) (.inl (some (.int (nI (rnA A (nI j) 30 0 0))))) (cW Q U H t ln s A P K (tI t) (nI sv, rf, nI ln, pl, wr, dn, ha) f) := ct_w (c_rank_y l cW_hw hI ((Sim_has S m0 _).trans hb)) rfl rfl (by rw [ob_rank S hj hj1])
    exact ⟨0, 0, 0, (nI (rnA A (nI j) 30 0 0)), _, _, _, by decide, by decide, ct_w (hy_rank l c1 cW_ob cW_out) rfl (cW_up _) rfl, cM (m_rank_y l cW_hp hj hj1), ⟨_, _, _, _, _, _, _, _, _, _, _, _, _, _, _, rfl, S, R, hl, ht⟩, fun _ => updL0, _, cW_obm⟩
theorem st_ancestors (l : Launch) {W : MW} {rf : Int32} {f : Nat → Int64} (h : LSt W rf f) (a0 : Int32) : ∃ (mc ms : Nat) (k b : Int32) (W2 W3 : MW) (g : Nat → Int64), mc ≤ 1 ∧ ms ≤ 6 ∧ Ct l (.codeWith yL_ancestors cL_ancestors 4 (some .int) [(0, 9, 12, 27)]) yL_ancestors 8 mc ms [.ref 0, .int a0, .ref 73] W (.inl (some (.int k))) W2 ∧ Ct l (.code yX8_ancestors cX8_ancestors 5 (some .int)) yX8_ancestors 3 0 0 [.ref 68, .int a0] W2 (.inl (some (.int b))) W3 ∧ LSt W3 k g ∧ (k = 0 → g 0 = b.toInt64) ∧ ∃ fs, mm_ob W2 68 7 fs := by
  obtain ⟨Q, U, H, t, ln, s, A, P, K, sv, pl, wr, dn, ha, n, rfl, S, R, hl, ht⟩ := h
  have hn := S.1.2.2.1
  have hI := Sim_qI S
  have m0 : mskB 7 0 = true := mskB_7 (by decide)
  have hQ0 := Sim_n S (k := 0) (by decide) m0
  have hx := R.1
  have hs := R.2.2.1
  have hk : H.2.2 ≤ 5 := by rw [R.2.1]; exact hs
  have h30 : (Q 0).1 ≤ 30 := by rw [hQ0]; exact hn
  cases hb : itB A a0
  · skip
    have c1 : Ct l (.code yX7_ancestors cX7_ancestors 2 (some .int)) yX7_ancestors 7 1 6 [.ref 0, .int a0] (cW Q U H t ln s A P K (tI t) (nI sv, rf, nI ln, pl, wr, dn, ha) f) (.inr "java/lang/IndexOutOfBoundsException") (cW Q U H t ln s A P K (tI t) (nI sv, rf, nI ln, pl, wr, dn, ha) f) := c_anc_n l cW_hw h30 ((Sim_has S m0 _).trans hb)
    exact ⟨1, 6, 1, 0, _, _, f, by decide, by decide, hn_ancestors_1 l c1 cW_ob, cM (m_anc_n l cW_hp hb), ⟨_, _, _, _, _, _, _, _, _, _, _, _, _, _, _, rfl, S, R, hl, ht⟩, fun z => absurd z (by decide), _, cW_obm⟩
  · obtain ⟨j, hj, ej, hj1⟩ := itB_iff.mp hb
    subst ej
    have c1 : Ct l (.code yX7_ancestors cX7_ancestors 2 (some .int)) yX7_ancestors 7 0 0 [.ref 0, .int (nI j)] (cW Q U H t ln s A P K (tI t) (nI sv, rf, nI ln, pl, wr, dn, ha) f) (.inl (some (.int (acS (abA (getL A 2).1 30 (fndH (getL A 2).1 n (nI j)) 0 &&& abA (getL A 3).1 30 (fndH (getL A 3).1 n (nI j)) 0) 30 0 0)))) (cW Q U H t ln s A P K (tI t) (nI sv, rf, nI ln, pl, wr, dn, ha) f) := ct_w (c_anc_y l cW_hw hI ((Sim_has S m0 _).trans hb)) rfl rfl (by rw [ob_anc S hj hj1])
    exact ⟨0, 0, 0, (acS (abA (getL A 2).1 30 (fndH (getL A 2).1 n (nI j)) 0 &&& abA (getL A 3).1 30 (fndH (getL A 3).1 n (nI j)) 0) 30 0 0), _, _, _, by decide, by decide, ct_w (hy_ancestors l c1 cW_ob cW_out) rfl (cW_up _) rfl, cM (m_anc_y l cW_hp S.1 hj hj1), ⟨_, _, _, _, _, _, _, _, _, _, _, _, _, _, _, rfl, S, R, hl, ht⟩, fun _ => updL0, _, cW_obm⟩
theorem st_least (l : Launch) {W : MW} {rf : Int32} {f : Nat → Int64} (h : LSt W rf f) (a0 : Int32) : ∃ (mc ms : Nat) (k b : Int32) (W2 W3 : MW) (g : Nat → Int64), mc ≤ 1 ∧ ms ≤ 6 ∧ Ct l (.codeWith yL_least cL_least 4 (some .int) [(0, 9, 12, 13)]) yL_least 8 mc ms [.ref 0, .int a0, .ref 73] W (.inl (some (.int k))) W2 ∧ Ct l (.code yX8_least cX8_least 2 (some .int)) yX8_least 2 0 0 [.ref 68, .int a0] W2 (.inl (some (.int b))) W3 ∧ LSt W3 k g ∧ (k = 0 → g 0 = b.toInt64) ∧ ∃ fs, mm_ob W2 68 7 fs := by
  obtain ⟨Q, U, H, t, ln, s, A, P, K, sv, pl, wr, dn, ha, n, rfl, S, R, hl, ht⟩ := h
  have hn := S.1.2.2.1
  have hI := Sim_qI S
  have m0 : mskB 7 0 = true := mskB_7 (by decide)
  have hQ0 := Sim_n S (k := 0) (by decide) m0
  have hx := R.1
  have hs := R.2.2.1
  have hk : H.2.2 ≤ 5 := by rw [R.2.1]; exact hs
  have h30 : (Q 0).1 ≤ 30 := by rw [hQ0]; exact hn
  rcases rngN (m := 3) (by decide) a0 with hr | ⟨k, h3, rfl⟩
  · skip
    have c1 : Ct l (.code yX7_least cX7_least 2 (some .int)) yX7_least 7 1 6 [.ref 0, .int a0] (cW Q U H t ln s A P K (tI t) (nI sv, rf, nI ln, pl, wr, dn, ha) f) (.inr "java/lang/IllegalArgumentException") (cW Q U H t ln s A P K (tI t) (nI sv, rf, nI ln, pl, wr, dn, ha) f) := c_least_n l cW_hw hr
    exact ⟨1, 6, 1, 0, _, _, f, by decide, by decide, hn_least_1 l c1 cW_ob, cM (m_least_n l cW_hp hr), ⟨_, _, _, _, _, _, _, _, _, _, _, _, _, _, _, rfl, S, R, hl, ht⟩, fun z => absurd z (by decide), _, cW_obm⟩
  · skip
    have c1 : Ct l (.code yX7_least cX7_least 2 (some .int)) yX7_least 7 0 0 [.ref 0, .int (nI k)] (cW Q U H t ln s A P K (tI t) (nI sv, rf, nI ln, pl, wr, dn, ha) f) (.inl (some (.int (lsA A n k)))) (cW Q U H t ln s A P K (tI t) (nI sv, rf, nI ln, pl, wr, dn, ha) f) := ct_w (c_least_y l cW_hw hI h3) rfl rfl (by rw [Sim_lst S (by omega) (mskB_7 (by omega))])
    exact ⟨0, 0, 0, (lsA A n k), _, _, _, by decide, by decide, ct_w (hy_least l c1 cW_ob cW_out) rfl (cW_up _) rfl, cM (m_least_y l cW_hp S.1 h3), ⟨_, _, _, _, _, _, _, _, _, _, _, _, _, _, _, rfl, S, R, hl, ht⟩, fun _ => updL0, _, cW_obm⟩
theorem st_greatest (l : Launch) {W : MW} {rf : Int32} {f : Nat → Int64} (h : LSt W rf f) (a0 : Int32) : ∃ (mc ms : Nat) (k b : Int32) (W2 W3 : MW) (g : Nat → Int64), mc ≤ 1 ∧ ms ≤ 6 ∧ Ct l (.codeWith yL_greatest cL_greatest 4 (some .int) [(0, 9, 12, 13)]) yL_greatest 8 mc ms [.ref 0, .int a0, .ref 73] W (.inl (some (.int k))) W2 ∧ Ct l (.code yX8_greatest cX8_greatest 2 (some .int)) yX8_greatest 2 0 0 [.ref 68, .int a0] W2 (.inl (some (.int b))) W3 ∧ LSt W3 k g ∧ (k = 0 → g 0 = b.toInt64) ∧ ∃ fs, mm_ob W2 68 7 fs := by
  obtain ⟨Q, U, H, t, ln, s, A, P, K, sv, pl, wr, dn, ha, n, rfl, S, R, hl, ht⟩ := h
  have hn := S.1.2.2.1
  have hI := Sim_qI S
  have m0 : mskB 7 0 = true := mskB_7 (by decide)
  have hQ0 := Sim_n S (k := 0) (by decide) m0
  have hx := R.1
  have hs := R.2.2.1
  have hk : H.2.2 ≤ 5 := by rw [R.2.1]; exact hs
  have h30 : (Q 0).1 ≤ 30 := by rw [hQ0]; exact hn
  rcases rngN (m := 3) (by decide) a0 with hr | ⟨k, h3, rfl⟩
  · skip
    have c1 : Ct l (.code yX7_greatest cX7_greatest 2 (some .int)) yX7_greatest 7 1 6 [.ref 0, .int a0] (cW Q U H t ln s A P K (tI t) (nI sv, rf, nI ln, pl, wr, dn, ha) f) (.inr "java/lang/IllegalArgumentException") (cW Q U H t ln s A P K (tI t) (nI sv, rf, nI ln, pl, wr, dn, ha) f) := c_greatest_n l cW_hw hr
    exact ⟨1, 6, 1, 0, _, _, f, by decide, by decide, hn_greatest_1 l c1 cW_ob, cM (m_greatest_n l cW_hp hr), ⟨_, _, _, _, _, _, _, _, _, _, _, _, _, _, _, rfl, S, R, hl, ht⟩, fun z => absurd z (by decide), _, cW_obm⟩
  · skip
    have c1 : Ct l (.code yX7_greatest cX7_greatest 2 (some .int)) yX7_greatest 7 0 0 [.ref 0, .int (nI k)] (cW Q U H t ln s A P K (tI t) (nI sv, rf, nI ln, pl, wr, dn, ha) f) (.inl (some (.int (grA A n k)))) (cW Q U H t ln s A P K (tI t) (nI sv, rf, nI ln, pl, wr, dn, ha) f) := ct_w (c_greatest_y l cW_hw hI h3) rfl rfl (by rw [Sim_grt S h3])
    exact ⟨0, 0, 0, (grA A n k), _, _, _, by decide, by decide, ct_w (hy_greatest l c1 cW_ob cW_out) rfl (cW_up _) rfl, cM (m_greatest_y l cW_hp S.1 h3), ⟨_, _, _, _, _, _, _, _, _, _, _, _, _, _, _, rfl, S, R, hl, ht⟩, fun _ => updL0, _, cW_obm⟩
theorem st_comparisons (l : Launch) {W : MW} {rf : Int32} {f : Nat → Int64} (h : LSt W rf f) (a0 : Int32) : ∃ (mc ms : Nat) (k b : Int32) (W2 W3 : MW) (g : Nat → Int64), mc ≤ 1 ∧ ms ≤ 6 ∧ Ct l (.codeWith yL_comparisons cL_comparisons 4 (some .int) [(0, 9, 12, 13)]) yL_comparisons 8 mc ms [.ref 0, .int a0, .ref 73] W (.inl (some (.int k))) W2 ∧ Ct l (.code yX8_comparisons cX8_comparisons 2 (some .int)) yX8_comparisons 1 0 0 [.ref 68, .int a0] W2 (.inl (some (.int b))) W3 ∧ LSt W3 k g ∧ (k = 0 → g 0 = b.toInt64) ∧ ∃ fs, mm_ob W2 68 7 fs := by
  obtain ⟨Q, U, H, t, ln, s, A, P, K, sv, pl, wr, dn, ha, n, rfl, S, R, hl, ht⟩ := h
  have hn := S.1.2.2.1
  have hI := Sim_qI S
  have m0 : mskB 7 0 = true := mskB_7 (by decide)
  have hQ0 := Sim_n S (k := 0) (by decide) m0
  have hx := R.1
  have hs := R.2.2.1
  have hk : H.2.2 ≤ 5 := by rw [R.2.1]; exact hs
  have h30 : (Q 0).1 ≤ 30 := by rw [hQ0]; exact hn
  rcases rngN (m := 3) (by decide) a0 with hr | ⟨k, h3, rfl⟩
  · skip
    have c1 : Ct l (.code yX7_comparisons cX7_comparisons 2 (some .int)) yX7_comparisons 7 1 6 [.ref 0, .int a0] (cW Q U H t ln s A P K (tI t) (nI sv, rf, nI ln, pl, wr, dn, ha) f) (.inr "java/lang/IllegalArgumentException") (cW Q U H t ln s A P K (tI t) (nI sv, rf, nI ln, pl, wr, dn, ha) f) := c_comparisons_n l cW_hw hr
    exact ⟨1, 6, 1, 0, _, _, f, by decide, by decide, hn_comparisons_1 l c1 cW_ob, cM (m_comparisons_n l cW_hp hr), ⟨_, _, _, _, _, _, _, _, _, _, _, _, _, _, _, rfl, S, R, hl, ht⟩, fun z => absurd z (by decide), _, cW_obm⟩
  · skip
    have c1 : Ct l (.code yX7_comparisons cX7_comparisons 2 (some .int)) yX7_comparisons 7 0 0 [.ref 0, .int (nI k)] (cW Q U H t ln s A P K (tI t) (nI sv, rf, nI ln, pl, wr, dn, ha) f) (.inl (some (.int (A (181 + k))))) (cW Q U H t ln s A P K (tI t) (nI sv, rf, nI ln, pl, wr, dn, ha) f) := ct_w (c_comparisons_y l cW_hw h3) rfl rfl (by rw [S.2.2 k h3 (mskB_7 (by omega))])
    exact ⟨0, 0, 0, (A (181 + k)), _, _, _, by decide, by decide, ct_w (hy_comparisons l c1 cW_ob cW_out) rfl (cW_up _) rfl, cM (m_comparisons_y l cW_hp h3), ⟨_, _, _, _, _, _, _, _, _, _, _, _, _, _, _, rfl, S, R, hl, ht⟩, fun _ => updL0, _, cW_obm⟩
theorem st_at (l : Launch) {W : MW} {rf : Int32} {f : Nat → Int64} (h : LSt W rf f) (a0 a1 : Int32) : ∃ (mc ms : Nat) (k b : Int32) (W2 W3 : MW) (g : Nat → Int64), mc ≤ 1 ∧ ms ≤ 6 ∧ Ct l (.codeWith yL_at cL_at 5 (some .int) [(0, 10, 13, 13)]) yL_at 8 mc ms [.ref 0, .int a0, .int a1, .ref 73] W (.inl (some (.int k))) W2 ∧ Ct l (.code yX8_at cX8_at 3 (some .int)) yX8_at 2 0 0 [.ref 68, .int a0, .int a1] W2 (.inl (some (.int b))) W3 ∧ LSt W3 k g ∧ (k = 0 → g 0 = b.toInt64) ∧ ∃ fs, mm_ob W2 68 7 fs := by
  obtain ⟨Q, U, H, t, ln, s, A, P, K, sv, pl, wr, dn, ha, n, rfl, S, R, hl, ht⟩ := h
  have hn := S.1.2.2.1
  have hI := Sim_qI S
  have m0 : mskB 7 0 = true := mskB_7 (by decide)
  have hQ0 := Sim_n S (k := 0) (by decide) m0
  have hx := R.1
  have hs := R.2.2.1
  have hk : H.2.2 ≤ 5 := by rw [R.2.1]; exact hs
  have h30 : (Q 0).1 ≤ 30 := by rw [hQ0]; exact hn
  rcases rngN (m := 4) (by decide) a0 with hr | ⟨k, h4, rfl⟩
  · skip
    have c1 : Ct l (.code yX7_at cX7_at 3 (some .int)) yX7_at 7 1 6 [.ref 0, .int a0, .int a1] (cW Q U H t ln s A P K (tI t) (nI sv, rf, nI ln, pl, wr, dn, ha) f) (.inr "java/lang/IllegalArgumentException") (cW Q U H t ln s A P K (tI t) (nI sv, rf, nI ln, pl, wr, dn, ha) f) := c_at_n l cW_hw hr
    exact ⟨1, 6, 1, 0, _, _, f, by decide, by decide, hn_at_1 l c1 cW_ob, cM (m_at_n l cW_hp hr), ⟨_, _, _, _, _, _, _, _, _, _, _, _, _, _, _, rfl, S, R, hl, ht⟩, fun z => absurd z (by decide), _, cW_obm⟩
  · rcases rngN (m := n) (by omega) a1 with hz | ⟨i, hi, rfl⟩
    · skip
      have c1 : Ct l (.code yX7_at cX7_at 3 (some .int)) yX7_at 7 0 0 [.ref 0, .int (nI k), .int a1] (cW Q U H t ln s A P K (tI t) (nI sv, rf, nI ln, pl, wr, dn, ha) f) (.inl (some (.int (-1)))) (cW Q U H t ln s A P K (tI t) (nI sv, rf, nI ln, pl, wr, dn, ha) f) := c_at_y0 l cW_hw hI h4 (by rw [Sim_n S h4 (mskB_7 h4)]; exact hz)
      exact ⟨0, 0, 0, (-1), _, _, _, by decide, by decide, ct_w (hy_at l c1 cW_ob cW_out) rfl (cW_up _) rfl, cM (m_at_y0 l cW_hp S.1 h4 hz), ⟨_, _, _, _, _, _, _, _, _, _, _, _, _, _, _, rfl, S, R, hl, ht⟩, fun _ => updL0, _, cW_obm⟩
    · skip
      have c1 : Ct l (.code yX7_at cX7_at 3 (some .int)) yX7_at 7 0 0 [.ref 0, .int (nI k), .int (nI i)] (cW Q U H t ln s A P K (tI t) (nI sv, rf, nI ln, pl, wr, dn, ha) f) (.inl (some (.int ((getL A k).1 i)))) (cW Q U H t ln s A P K (tI t) (nI sv, rf, nI ln, pl, wr, dn, ha) f) := ct_w (c_at_y1 l cW_hw hI h4 (by rw [Sim_n S h4 (mskB_7 h4)]; exact hi)) rfl rfl (by rw [Sim_hs S h4 (mskB_7 h4) hi])
      exact ⟨0, 0, 0, ((getL A k).1 i), _, _, _, by decide, by decide, ct_w (hy_at l c1 cW_ob cW_out) rfl (cW_up _) rfl, cM (m_at_y1 l cW_hp S.1 h4 hi), ⟨_, _, _, _, _, _, _, _, _, _, _, _, _, _, _, rfl, S, R, hl, ht⟩, fun _ => updL0, _, cW_obm⟩
theorem st_where (l : Launch) {W : MW} {rf : Int32} {f : Nat → Int64} (h : LSt W rf f) (a0 a1 : Int32) : ∃ (mc ms : Nat) (k b : Int32) (W2 W3 : MW) (g : Nat → Int64), mc ≤ 1 ∧ ms ≤ 6 ∧ Ct l (.codeWith yL_where cL_where 5 (some .int) [(0, 10, 13, 13), (0, 10, 17, 27)]) yL_where 8 mc ms [.ref 0, .int a0, .int a1, .ref 73] W (.inl (some (.int k))) W2 ∧ Ct l (.code yX8_where cX8_where 3 (some .int)) yX8_where 2 0 0 [.ref 68, .int a0, .int a1] W2 (.inl (some (.int b))) W3 ∧ LSt W3 k g ∧ (k = 0 → g 0 = b.toInt64) ∧ ∃ fs, mm_ob W2 68 7 fs := by
  obtain ⟨Q, U, H, t, ln, s, A, P, K, sv, pl, wr, dn, ha, n, rfl, S, R, hl, ht⟩ := h
  have hn := S.1.2.2.1
  have hI := Sim_qI S
  have m0 : mskB 7 0 = true := mskB_7 (by decide)
  have hQ0 := Sim_n S (k := 0) (by decide) m0
  have hx := R.1
  have hs := R.2.2.1
  have hk : H.2.2 ≤ 5 := by rw [R.2.1]; exact hs
  have h30 : (Q 0).1 ≤ 30 := by rw [hQ0]; exact hn
  rcases rngN (m := 4) (by decide) a0 with hr | ⟨k, h4, rfl⟩
  · skip
    have c1 : Ct l (.code yX7_where cX7_where 3 (some .int)) yX7_where 7 1 6 [.ref 0, .int a0, .int a1] (cW Q U H t ln s A P K (tI t) (nI sv, rf, nI ln, pl, wr, dn, ha) f) (.inr "java/lang/IllegalArgumentException") (cW Q U H t ln s A P K (tI t) (nI sv, rf, nI ln, pl, wr, dn, ha) f) := c_where_n1 l cW_hw hr
    exact ⟨1, 6, 1, 0, _, _, f, by decide, by decide, hn_where_1 l c1 cW_ob, cM (m_where_n1 l cW_hp hr), ⟨_, _, _, _, _, _, _, _, _, _, _, _, _, _, _, rfl, S, R, hl, ht⟩, fun z => absurd z (by decide), _, cW_obm⟩
  · cases hb : itB A a1
    · skip
      have c1 : Ct l (.code yX7_where cX7_where 3 (some .int)) yX7_where 7 1 6 [.ref 0, .int (nI k), .int a1] (cW Q U H t ln s A P K (tI t) (nI sv, rf, nI ln, pl, wr, dn, ha) f) (.inr "java/lang/IndexOutOfBoundsException") (cW Q U H t ln s A P K (tI t) (nI sv, rf, nI ln, pl, wr, dn, ha) f) := c_where_n2 l cW_hw hI h4 ((Sim_has S m0 _).trans hb)
      exact ⟨1, 6, 2, 0, _, _, f, by decide, by decide, hn_where_2 l c1 cW_ob, cM (m_where_n2 l cW_hp h4 hb), ⟨_, _, _, _, _, _, _, _, _, _, _, _, _, _, _, rfl, S, R, hl, ht⟩, fun z => absurd z (by decide), _, cW_obm⟩
    · obtain ⟨j, hj, ej, hj1⟩ := itB_iff.mp hb
      subst ej
      have c1 : Ct l (.code yX7_where cX7_where 3 (some .int)) yX7_where 7 0 0 [.ref 0, .int (nI k), .int (nI j)] (cW Q U H t ln s A P K (tI t) (nI sv, rf, nI ln, pl, wr, dn, ha) f) (.inl (some (.int (nI (fndH (getL A k).1 n (nI j)))))) (cW Q U H t ln s A P K (tI t) (nI sv, rf, nI ln, pl, wr, dn, ha) f) := ct_w (c_where_y l cW_hw hI h4 ((Sim_has S m0 _).trans hb)) rfl rfl (by rw [show fndR (Q k).2.1 (Q k).1 (nI j) = nI (fndH (getL A k).1 n (nI j)) from by unfold fndR; rw [if_pos ((Sim_fl S h4 (mskB_7 h4) _).mpr hb), Sim_fnd S h4 (mskB_7 h4)]])
      exact ⟨0, 0, 0, (nI (fndH (getL A k).1 n (nI j))), _, _, _, by decide, by decide, ct_w (hy_where l c1 cW_ob cW_out) rfl (cW_up _) rfl, cM (m_where_y l cW_hp S.1 hj hj1 h4), ⟨_, _, _, _, _, _, _, _, _, _, _, _, _, _, _, rfl, S, R, hl, ht⟩, fun _ => updL0, _, cW_obm⟩
theorem st_violations (l : Launch) {W : MW} {rf : Int32} {f : Nat → Int64} (h : LSt W rf f) (a0 : Int32) : ∃ (mc ms : Nat) (k b : Int32) (W2 W3 : MW) (g : Nat → Int64), mc ≤ 1 ∧ ms ≤ 6 ∧ Ct l (.codeWith yL_violations cL_violations 4 (some .int) [(0, 9, 12, 13)]) yL_violations 8 mc ms [.ref 0, .int a0, .ref 73] W (.inl (some (.int k))) W2 ∧ Ct l (.code yX8_violations cX8_violations 2 (some .int)) yX8_violations 4 0 0 [.ref 68, .int a0] W2 (.inl (some (.int b))) W3 ∧ LSt W3 k g ∧ (k = 0 → g 0 = b.toInt64) ∧ ∃ fs, mm_ob W2 68 7 fs := by
  obtain ⟨Q, U, H, t, ln, s, A, P, K, sv, pl, wr, dn, ha, n, rfl, S, R, hl, ht⟩ := h
  have hn := S.1.2.2.1
  have hI := Sim_qI S
  have m0 : mskB 7 0 = true := mskB_7 (by decide)
  have hQ0 := Sim_n S (k := 0) (by decide) m0
  have hx := R.1
  have hs := R.2.2.1
  have hk : H.2.2 ≤ 5 := by rw [R.2.1]; exact hs
  have h30 : (Q 0).1 ≤ 30 := by rw [hQ0]; exact hn
  rcases rngN (m := 4) (by decide) a0 with hr | ⟨k, h4, rfl⟩
  · skip
    have c1 : Ct l (.code yX7_violations cX7_violations 2 (some .int)) yX7_violations 7 1 6 [.ref 0, .int a0] (cW Q U H t ln s A P K (tI t) (nI sv, rf, nI ln, pl, wr, dn, ha) f) (.inr "java/lang/IllegalArgumentException") (cW Q U H t ln s A P K (tI t) (nI sv, rf, nI ln, pl, wr, dn, ha) f) := c_violations_n l cW_hw hr
    exact ⟨1, 6, 1, 0, _, _, f, by decide, by decide, hn_violations_1 l c1 cW_ob, cM (m_violations_n l cW_hp hr), ⟨_, _, _, _, _, _, _, _, _, _, _, _, _, _, _, rfl, S, R, hl, ht⟩, fun z => absurd z (by decide), _, cW_obm⟩
  · skip
    have c1 : Ct l (.code yX7_violations cX7_violations 2 (some .int)) yX7_violations 7 0 0 [.ref 0, .int (nI k)] (cW Q U H t ln s A P K (tI t) (nI sv, rf, nI ln, pl, wr, dn, ha) f) (.inl (some (.int (nI (brkK (ltA A) k n (getL A k).1))))) (cW Q U H t ln s A P K (tI t) (nI sv, rf, nI ln, pl, wr, dn, ha) f) := ct_w (c_violations_y l cW_hw hI h4) rfl rfl (by rw [Sim_brk S h4 (mskB_7 h4)])
    exact ⟨0, 0, 0, (nI (brkK (ltA A) k n (getL A k).1)), _, _, _, by decide, by decide, ct_w (hy_violations l c1 cW_ob cW_out) rfl (cW_up _) rfl, cM (m_violations_y l cW_hp S.1 h4), ⟨_, _, _, _, _, _, _, _, _, _, _, _, _, _, _, rfl, S, R, hl, ht⟩, fun _ => updL0, _, cW_obm⟩
theorem st_disturb (l : Launch) {W : MW} {rf : Int32} {f : Nat → Int64} (h : LSt W rf f) (a0 a1 a2 : Int32) : ∃ (mc ms : Nat) (k b : Int32) (W2 W3 : MW) (g : Nat → Int64), mc ≤ 1 ∧ ms ≤ 6 ∧ Ct l (.codeWith yL_disturb cL_disturb 6 (some .int) [(0, 12, 15, 13), (0, 12, 19, 27)]) yL_disturb 8 mc ms [.ref 0, .int a0, .int a1, .int a2, .ref 73] W (.inl (some (.int k))) W2 ∧ Ct l (.code yX8_disturb cX8_disturb 5 (some .int)) yX8_disturb 4 0 0 [.ref 68, .int a0, .int a1, .int a2] W2 (.inl (some (.int b))) W3 ∧ LSt W3 k g ∧ (k = 0 → g 0 = b.toInt64) ∧ ∃ fs, mm_ob W2 68 7 fs := by
  obtain ⟨Q, U, H, t, ln, s, A, P, K, sv, pl, wr, dn, ha, n, rfl, S, R, hl, ht⟩ := h
  have hn := S.1.2.2.1
  have hI := Sim_qI S
  have m0 : mskB 7 0 = true := mskB_7 (by decide)
  have hQ0 := Sim_n S (k := 0) (by decide) m0
  have hx := R.1
  have hs := R.2.2.1
  have hk : H.2.2 ≤ 5 := by rw [R.2.1]; exact hs
  have h30 : (Q 0).1 ≤ 30 := by rw [hQ0]; exact hn
  rcases rngN (m := 4) (by decide) a0 with hr | ⟨k, h4, rfl⟩
  · skip
    have c1 : Ct l (.code yX7_disturb cX7_disturb 4 (some .int)) yX7_disturb 7 1 6 [.ref 0, .int a0, .int a1, .int a2] (cW Q U H t ln s A P K (tI t) (nI sv, rf, nI ln, pl, wr, dn, ha) f) (.inr "java/lang/IllegalArgumentException") (cW Q U H t ln s A P K (tI t) (nI sv, rf, nI ln, pl, wr, dn, ha) f) := c_disturb_n1 l cW_hw hr
    exact ⟨1, 6, 1, 0, _, _, f, by decide, by decide, hn_disturb_1 l c1 cW_ob, cM (m_disturb_n1 l cW_hp S.1 hr), ⟨_, _, _, _, _, _, _, _, _, _, _, _, _, _, _, rfl, S, R, hl, ht⟩, fun z => absurd z (by decide), _, cW_obm⟩
  · rcases rngN (m := n) (by omega) a1 with hz | ⟨i, hi, rfl⟩
    · skip
      have c1 : Ct l (.code yX7_disturb cX7_disturb 4 (some .int)) yX7_disturb 7 1 6 [.ref 0, .int (nI k), .int a1, .int a2] (cW Q U H t ln s A P K (tI t) (nI sv, rf, nI ln, pl, wr, dn, ha) f) (.inr "java/lang/IndexOutOfBoundsException") (cW Q U H t ln s A P K (tI t) (nI sv, rf, nI ln, pl, wr, dn, ha) f) := c_disturb_n2 l cW_hw h4 (by rw [hQ0]; exact hz)
      exact ⟨1, 6, 2, 0, _, _, f, by decide, by decide, hn_disturb_2 l c1 cW_ob, cM (m_disturb_n2 l cW_hp S.1 h4 hz), ⟨_, _, _, _, _, _, _, _, _, _, _, _, _, _, _, rfl, S, R, hl, ht⟩, fun z => absurd z (by decide), _, cW_obm⟩
    · rcases rngN (m := n) (by omega) a2 with hz | ⟨j, hj, rfl⟩
      · skip
        have c1 : Ct l (.code yX7_disturb cX7_disturb 4 (some .int)) yX7_disturb 7 1 6 [.ref 0, .int (nI k), .int (nI i), .int a2] (cW Q U H t ln s A P K (tI t) (nI sv, rf, nI ln, pl, wr, dn, ha) f) (.inr "java/lang/IndexOutOfBoundsException") (cW Q U H t ln s A P K (tI t) (nI sv, rf, nI ln, pl, wr, dn, ha) f) := c_disturb_n3 l cW_hw h30 h4 (by rw [hQ0]; exact hi) (by rw [hQ0]; exact hz)
        exact ⟨1, 6, 2, 0, _, _, f, by decide, by decide, hn_disturb_2 l c1 cW_ob, cM (m_disturb_n3 l cW_hp S.1 h4 hi hz), ⟨_, _, _, _, _, _, _, _, _, _, _, _, _, _, _, rfl, S, R, hl, ht⟩, fun z => absurd z (by decide), _, cW_obm⟩
      · have SD := Sim_dist S h4 hi hj
        have c1 : Ct l (.code yX7_disturb cX7_disturb 4 (some .int)) yX7_disturb 7 0 0 [.ref 0, .int (nI k), .int (nI i), .int (nI j)] (cW Q U H t ln s A P K (tI t) (nI sv, rf, nI ln, pl, wr, dn, ha) f) (.inl (some (.int (nI (brkK (ltA (setL A k (sw (getL A k).1 i j, (getL A k).2))) k n (getL (setL A k (sw (getL A k).1 i j, (getL A k).2)) k).1))))) (cW (va_up Q k ((Q k).1, sw (Q k).2.1 i j, (Q k).2.2)) U (keepH Q H) t ln s A P K (tI t) (nI sv, rf, nI ln, pl, wr, dn, ha) f) := ct_w (c_disturb_y l cW_hw hI hx hk h4 (by rw [hQ0]; exact hi) (by rw [hQ0]; exact hj)) rfl rfl (by rw [Sim_brk SD h4 (mskB_7 h4)])
        exact ⟨0, 0, 0, (nI (brkK (ltA (setL A k (sw (getL A k).1 i j, (getL A k).2))) k n (getL (setL A k (sw (getL A k).1 i j, (getL A k).2)) k).1)), _, _, _, by decide, by decide, ct_w (hy_disturb l c1 cW_ob cW_out) rfl (cW_up _) rfl, cM (m_disturb_y l cW_hp S.1 hs h4 hi hj), ⟨_, _, _, _, _, _, _, _, _, _, _, _, _, _, _, rfl, SD, Rec_keep S R, hl, ht⟩, fun _ => updL0, _, cW_obm⟩
theorem st_level (l : Launch) {W : MW} {rf : Int32} {f : Nat → Int64} (h : LSt W rf f) (a0 : Int32) : ∃ (mc ms : Nat) (k b : Int32) (W2 W3 : MW) (g : Nat → Int64), mc ≤ 1 ∧ ms ≤ 6 ∧ Ct l (.codeWith yL_level cL_level 4 (some .int) [(0, 9, 12, 13)]) yL_level 7 mc ms [.ref 0, .int a0, .ref 73] W (.inl (some (.int k))) W2 ∧ Ct l (.code yX8_level cX8_level 2 (some .int)) yX8_level 1 0 0 [.ref 68, .int a0] W2 (.inl (some (.int b))) W3 ∧ LSt W3 k g ∧ (k = 0 → g 0 = b.toInt64) ∧ ∃ fs, mm_ob W2 68 7 fs := by
  obtain ⟨Q, U, H, t, ln, s, A, P, K, sv, pl, wr, dn, ha, n, rfl, S, R, hl, ht⟩ := h
  have hn := S.1.2.2.1
  have hI := Sim_qI S
  have m0 : mskB 7 0 = true := mskB_7 (by decide)
  have hQ0 := Sim_n S (k := 0) (by decide) m0
  have hx := R.1
  have hs := R.2.2.1
  have hk : H.2.2 ≤ 5 := by rw [R.2.1]; exact hs
  have h30 : (Q 0).1 ≤ 30 := by rw [hQ0]; exact hn
  rcases rngN (m := 1000001) (by decide) a0 with hr | ⟨k, h4, rfl⟩
  · have hr2 : a0 < 0 ∨ 1000000 < a0 := hr.imp id (fun z => by rw [Int32.lt_iff_toInt_lt]; rw [Int32.le_iff_toInt_le, nI_toInt (by decide)] at z; rw [show (1000000 : Int32).toInt = 1000000 from by decide +kernel]; omega)
    have c1 : Ct l (.code yX7_level cX7_level 2 (some .int)) yX7_level 6 1 6 [.ref 0, .int a0] (cW Q U H t ln s A P K (tI t) (nI sv, rf, nI ln, pl, wr, dn, ha) f) (.inr "java/lang/IllegalArgumentException") (cW Q U H t ln s A P K (tI t) (nI sv, rf, nI ln, pl, wr, dn, ha) f) := c_level_n l cW_hw hr2
    exact ⟨1, 6, 1, 0, _, _, f, by decide, by decide, hn_level_1 l c1 cW_ob, cM (m_level_n l cW_hp hr2), ⟨_, _, _, _, _, _, _, _, _, _, _, _, _, _, _, rfl, S, R, hl, ht⟩, fun z => absurd z (by decide), _, cW_obm⟩
  · skip
    have c1 : Ct l (.code yX7_level cX7_level 2 (some .int)) yX7_level 6 0 0 [.ref 0, .int (nI k)] (cW Q U H t ln s A P K (tI t) (nI sv, rf, nI ln, pl, wr, dn, ha) f) (.inl (some (.int (nI (lvl k))))) (cW Q U H t ln s A P K (tI t) (nI sv, rf, nI ln, pl, wr, dn, ha) f) := c_level_y l cW_hw (by omega)
    exact ⟨0, 0, 0, (nI (lvl k)), _, _, _, by decide, by decide, ct_w (hy_level l c1 cW_ob cW_out) rfl (cW_up _) rfl, cM (m_level_y l cW_hp (by omega)), ⟨_, _, _, _, _, _, _, _, _, _, _, _, _, _, _, rfl, S, R, hl, ht⟩, fun _ => updL0, _, cW_obm⟩
theorem st_fill (l : Launch) {W : MW} {rf : Int32} {f : Nat → Int64} (h : LSt W rf f) (a0 a1 : Int32) : ∃ (mc ms : Nat) (k b : Int32) (W2 W3 : MW) (g : Nat → Int64), mc ≤ 1 ∧ ms ≤ 6 ∧ Ct l (.codeWith yL_fill cL_fill 5 (some .int) [(0, 10, 13, 13), (0, 10, 17, 15)]) yL_fill 7 mc ms [.ref 0, .int a0, .int a1, .ref 73] W (.inl (some (.int k))) W2 ∧ Ct l (.code yX8_fill cX8_fill 7 (some .int)) yX8_fill 7 0 0 [.ref 68, .int a0, .int a1] W2 (.inl (some (.int b))) W3 ∧ LSt W3 k g ∧ (k = 0 → g 0 = b.toInt64) ∧ ∃ fs, mm_ob W2 68 7 fs := by
  obtain ⟨Q, U, H, t, ln, s, A, P, K, sv, pl, wr, dn, ha, n, rfl, S, R, hl, ht⟩ := h
  have hn := S.1.2.2.1
  have hI := Sim_qI S
  have m0 : mskB 7 0 = true := mskB_7 (by decide)
  have hQ0 := Sim_n S (k := 0) (by decide) m0
  have hx := R.1
  have hs := R.2.2.1
  have hk : H.2.2 ≤ 5 := by rw [R.2.1]; exact hs
  have h30 : (Q 0).1 ≤ 30 := by rw [hQ0]; exact hn
  by_cases h1 : a0 < 1 ∨ 30 < a0
  · skip
    have c1 : Ct l (.code yX7_fill cX7_fill 6 (some .int)) yX7_fill 6 1 6 [.ref 0, .int a0, .int a1] (cW Q U H t ln s A P K (tI t) (nI sv, rf, nI ln, pl, wr, dn, ha) f) (.inr "java/lang/IllegalArgumentException") (cW Q U H t ln s A P K (tI t) (nI sv, rf, nI ln, pl, wr, dn, ha) f) := c_fill_n1 l cW_hw (h1.elim Or.inl (fun z => Or.inr (Or.inl z)))
    exact ⟨1, 6, 1, 0, _, _, f, by decide, by decide, hn_fill_1 l c1 cW_ob, cM (m_fill_n1a l cW_hp h1), ⟨_, _, _, _, _, _, _, _, _, _, _, _, _, _, _, rfl, S, R, hl, ht⟩, fun z => absurd z (by decide), _, cW_obm⟩
  · by_cases hz : a1 < 0
    · skip
      have c1 : Ct l (.code yX7_fill cX7_fill 6 (some .int)) yX7_fill 6 1 6 [.ref 0, .int a0, .int a1] (cW Q U H t ln s A P K (tI t) (nI sv, rf, nI ln, pl, wr, dn, ha) f) (.inr "java/lang/IllegalArgumentException") (cW Q U H t ln s A P K (tI t) (nI sv, rf, nI ln, pl, wr, dn, ha) f) := c_fill_n1 l cW_hw (Or.inr (Or.inr hz))
      exact ⟨1, 6, 1, 0, _, _, f, by decide, by decide, hn_fill_1 l c1 cW_ob, cM (m_fill_n1b l cW_hp hz), ⟨_, _, _, _, _, _, _, _, _, _, _, _, _, _, _, rfl, S, R, hl, ht⟩, fun z => absurd z (by decide), _, cW_obm⟩
    · have hz2 : 0 ≤ a1 := Int32.not_lt.mp hz
      have h1a : ¬ a0 < 1 := fun z => h1 (Or.inl z)
      have h1b : a0 ≤ 30 := Int32.not_lt.mp (fun z => h1 (Or.inr z))
      have h1c : ¬ a0 < 0 := fun z => h1a (by rw [Int32.lt_iff_toInt_lt] at z ⊢; rw [show (1 : Int32).toInt = 1 from by decide +kernel]; rw [show (0 : Int32).toInt = 0 from by decide +kernel] at z; omega)
      obtain ⟨c, hc, ec⟩ := nI_of2 (M := 30) (n := 30) (by decide +kernel) h1c h1b
      subst ec
      have hc1 : 1 ≤ c := by
        rcases Nat.eq_zero_or_pos c with z | z
        · exact absurd (by rw [z]; decide) h1a
        · exact z
      by_cases h3 : n + c ≤ 30
      · have SF := Sim_fill c a1.toInt64 Q A n S h3
        have c1 : Ct l (.code yX7_fill cX7_fill 6 (some .int)) yX7_fill 6 0 0 [.ref 0, .int (nI c), .int a1] (cW Q U H t ln s A P K (tI t) (nI sv, rf, nI ln, pl, wr, dn, ha) f) (.inl (some (.int (fiA c a1.toInt64 A 180)))) (cW (fillS c a1.toInt64 Q) U (keepH Q H) t ln s A P K (tI t) (nI sv, rf, nI ln, pl, wr, dn, ha) f) := ct_w (c_fill_y l cW_hw hI hx hk (P := fun Q => ∃ A n, Sim 7 Q A n) (fun Q ⟨A, n, S⟩ => Sim_qI S) (fun x Q ⟨A, n, S⟩ h => ⟨_, _, Sim_put1 S (by rw [← Sim_n S (k := 0) (by decide) (mskB_7 (by decide))]; exact h) (lcgK_key x)⟩) ⟨A, n, S⟩ hc1 hc (by rw [hQ0]; exact h3) hz2) rfl rfl (by rw [show nI (fillS c a1.toInt64 Q 0).1 = fiA c a1.toInt64 A 180 from by rw [Sim_n SF (by decide) m0]; exact SF.1.2.1.symm])
        exact ⟨0, 0, 0, (fiA c a1.toInt64 A 180), _, _, _, by decide, by decide, ct_w (hy_fill l c1 cW_ob cW_out) rfl (cW_up _) rfl, cM (m_fill_y l cW_hp (PA := fun A => ∃ Q, Sim 7 Q A (nA A)) (fun A ⟨Q, S⟩ => S.1) (fun ky A ⟨Q, S⟩ h hky => ⟨_, by have := Sim_put1 S h hky; rw [nA_ins h]; exact this⟩) lcgK_key ⟨Q, by rw [nA_S S]; exact S⟩ hs hc1 hc (by rw [nA_S S]; exact h3) hz2), ⟨_, _, _, _, _, _, _, _, _, _, _, _, _, _, _, rfl, SF, Rec_keep S R, hl, ht⟩, fun _ => updL0, _, cW_obm⟩
      · skip
        have c1 : Ct l (.code yX7_fill cX7_fill 6 (some .int)) yX7_fill 6 1 6 [.ref 0, .int (nI c), .int a1] (cW Q U H t ln s A P K (tI t) (nI sv, rf, nI ln, pl, wr, dn, ha) f) (.inr "java/lang/IllegalStateException") (cW Q U H t ln s A P K (tI t) (nI sv, rf, nI ln, pl, wr, dn, ha) f) := c_fill_n2 l cW_hw h30 hc1 hc (by rw [hQ0]; omega) hz2
        exact ⟨1, 6, 2, 0, _, _, f, by decide, by decide, hn_fill_2 l c1 cW_ob, cM (m_fill_n2 l cW_hp S.1 hc1 hc (by omega) hz2), ⟨_, _, _, _, _, _, _, _, _, _, _, _, _, _, _, rfl, S, R, hl, ht⟩, fun z => absurd z (by decide), _, cW_obm⟩
theorem st_wouldNeed (l : Launch) {W : MW} {rf : Int32} {f : Nat → Int64} (h : LSt W rf f) (a0 a1 a2 : Int32) : ∃ (mc ms : Nat) (k b : Int32) (W2 W3 : MW) (g : Nat → Int64), mc ≤ 1 ∧ ms ≤ 6 ∧ Ct l (.codeWith yL_wouldNeed cL_wouldNeed 6 (some .int) [(0, 12, 15, 13)]) yL_wouldNeed 8 mc ms [.ref 0, .int a0, .int a1, .int a2, .ref 73] W (.inl (some (.int k))) W2 ∧ Ct l (.code yX8_wouldNeed cX8_wouldNeed 5 (some .int)) yX8_wouldNeed 9 0 0 [.ref 68, .int a0, .int a1, .int a2] W2 (.inl (some (.int b))) W3 ∧ LSt W3 k g ∧ (k = 0 → g 0 = b.toInt64) ∧ ∃ fs, mm_ob W2 68 7 fs := by
  obtain ⟨Q, U, H, t, ln, s, A, P, K, sv, pl, wr, dn, ha, n, rfl, S, R, hl, ht⟩ := h
  have hn := S.1.2.2.1
  have hI := Sim_qI S
  have m0 : mskB 7 0 = true := mskB_7 (by decide)
  have hQ0 := Sim_n S (k := 0) (by decide) m0
  have hx := R.1
  have hs := R.2.2.1
  have hk : H.2.2 ≤ 5 := by rw [R.2.1]; exact hs
  have h30 : (Q 0).1 ≤ 30 := by rw [hQ0]; exact hn
  rcases rngN (m := 3) (by decide) a0 with hr | ⟨k, h3, rfl⟩
  · skip
    have c1 : Ct l (.code yX7_wouldNeed cX7_wouldNeed 4 (some .int)) yX7_wouldNeed 7 1 6 [.ref 0, .int a0, .int a1, .int a2] (cW Q U H t ln s A P K (tI t) (nI sv, rf, nI ln, pl, wr, dn, ha) f) (.inr "java/lang/IllegalArgumentException") (cW Q U H t ln s A P K (tI t) (nI sv, rf, nI ln, pl, wr, dn, ha) f) := c_wouldNeed_n1 l cW_hw hr
    exact ⟨1, 6, 1, 0, _, _, f, by decide, by decide, hn_wouldNeed_1 l c1 cW_ob, cM (m_would_n1 l cW_hp hr), ⟨_, _, _, _, _, _, _, _, _, _, _, _, _, _, _, rfl, S, R, hl, ht⟩, fun z => absurd z (by decide), _, cW_obm⟩
  · rcases rngN (m := 5) (by decide) a1 with hr | ⟨c, h5, rfl⟩
    · have hr2 : a1 < 0 ∨ 4 < a1 := hr.imp id (fun z => by rw [Int32.lt_iff_toInt_lt]; rw [Int32.le_iff_toInt_le, nI_toInt (by decide)] at z; rw [show (4 : Int32).toInt = 4 from by decide +kernel]; omega)
      have c1 : Ct l (.code yX7_wouldNeed cX7_wouldNeed 4 (some .int)) yX7_wouldNeed 7 1 6 [.ref 0, .int (nI k), .int a1, .int a2] (cW Q U H t ln s A P K (tI t) (nI sv, rf, nI ln, pl, wr, dn, ha) f) (.inr "java/lang/IllegalArgumentException") (cW Q U H t ln s A P K (tI t) (nI sv, rf, nI ln, pl, wr, dn, ha) f) := c_wouldNeed_n2 l cW_hw h3 hr2
      exact ⟨1, 6, 1, 0, _, _, f, by decide, by decide, hn_wouldNeed_1 l c1 cW_ob, cM (m_would_n2 l cW_hp h3 hr2), ⟨_, _, _, _, _, _, _, _, _, _, _, _, _, _, _, rfl, S, R, hl, ht⟩, fun z => absurd z (by decide), _, cW_obm⟩
    · have SC : Sim 7 (cpU Q U) A n := Sim_cp S
      have hp := pos_can SC h5 a2 a2 a2 (fun _ => rfl) (fun _ => rfl)
      have hU := Sim_qI SC
      cases hd : canA c a2 n A
      · rw [hd] at hp
        have c1 : Ct l (.code yX7_wouldNeed cX7_wouldNeed 4 (some .int)) yX7_wouldNeed 7 0 0 [.ref 0, .int (nI k), .int (nI c), .int a2] (cW Q U H t ln s A P K (tI t) (nI sv, rf, nI ln, pl, wr, dn, ha) f) (.inl (some (.int (-1)))) (cW Q (crySt (cpU Q U) c a2 a2) H t ln s A P K (tI t) (nI sv, rf, nI ln, pl, wr, dn, ha) f) := c_wouldNeed_0 l cW_hw hU h3 (by omega) hp
        exact ⟨0, 0, 0, (-1), _, _, _, by decide, by decide, ct_w (hy_wouldNeed l c1 cW_ob cW_out) rfl (cW_up _) rfl, cM (m_would_0 l cW_hp S.1 h3 h5 hd), ⟨_, _, _, _, _, _, _, _, _, _, _, _, _, _, _, rfl, S, R, hl, ht⟩, fun _ => updL0, _, cW_obm⟩
      · rw [hd] at hp
        have SD := Sim_do (q := (1 <<< (nI k &&& 31))) SC (hqk h3) h5 (hd := a2) (ky := a2) (x := a2) (fun _ => rfl) (fun _ => rfl) hd
        have eC : crySt (cpU Q U) c a2 a2 = cryQ (cpU Q U) c a2 a2 := by unfold crySt; rw [if_pos hp]
        have ev : cntV (crySt (cpU Q U) c a2 a2) k - cntV Q k = doA (1 <<< (nI k &&& 31)) c a2 n A (181 + k) - A (181 + k) := by rw [eC, SD.2.2 k h3 (msk_k h3), S.2.2 k h3 (mskB_7 (by omega))]
        have c1 : Ct l (.code yX7_wouldNeed cX7_wouldNeed 4 (some .int)) yX7_wouldNeed 7 0 0 [.ref 0, .int (nI k), .int (nI c), .int a2] (cW Q U H t ln s A P K (tI t) (nI sv, rf, nI ln, pl, wr, dn, ha) f) (.inl (some (.int (doA (1 <<< (nI k &&& 31)) c a2 n A (181 + k) - A (181 + k))))) (cW Q (crySt (cpU Q U) c a2 a2) H t ln s A P K (tI t) (nI sv, rf, nI ln, pl, wr, dn, ha) f) := ct_w (c_wouldNeed_y l cW_hw hU h3 (by omega) hp) rfl rfl (by rw [ev])
        exact ⟨0, 0, 0, (doA (1 <<< (nI k &&& 31)) c a2 n A (181 + k) - A (181 + k)), _, _, _, by decide, by decide, ct_w (hy_wouldNeed l c1 cW_ob cW_out) rfl (cW_up _) rfl, cM (m_would_y l cW_hp S.1 h3 h5 hd), ⟨_, _, _, _, _, _, _, _, _, _, _, _, _, _, _, rfl, Sim_cg S (fun i hi => by rw [cpyF_i (by omega), cpyF_i (by omega)]; exact congrArg A (by omega)), R, hl, ht⟩, fun _ => updL0, _, cW_obm⟩
theorem st_sortingNeeds (l : Launch) {W : MW} {rf : Int32} {f : Nat → Int64} (h : LSt W rf f) (a0 : Int32) : ∃ (mc ms : Nat) (k b : Int32) (W2 W3 : MW) (g : Nat → Int64), mc ≤ 1 ∧ ms ≤ 6 ∧ Ct l (.codeWith yL_sortingNeeds cL_sortingNeeds 4 (some .int) [(0, 9, 12, 13)]) yL_sortingNeeds 8 mc ms [.ref 0, .int a0, .ref 73] W (.inl (some (.int k))) W2 ∧ Ct l (.code yX8_sortingNeeds cX8_sortingNeeds 3 (some .int)) yX8_sortingNeeds 7 0 0 [.ref 68, .int a0] W2 (.inl (some (.int b))) W3 ∧ LSt W3 k g ∧ (k = 0 → g 0 = b.toInt64) ∧ ∃ fs, mm_ob W2 68 7 fs := by
  obtain ⟨Q, U, H, t, ln, s, A, P, K, sv, pl, wr, dn, ha, n, rfl, S, R, hl, ht⟩ := h
  have hn := S.1.2.2.1
  have hI := Sim_qI S
  have m0 : mskB 7 0 = true := mskB_7 (by decide)
  have hQ0 := Sim_n S (k := 0) (by decide) m0
  have hx := R.1
  have hs := R.2.2.1
  have hk : H.2.2 ≤ 5 := by rw [R.2.1]; exact hs
  have h30 : (Q 0).1 ≤ 30 := by rw [hQ0]; exact hn
  rcases rngN (m := 3) (by decide) a0 with hr | ⟨k, h3, rfl⟩
  · skip
    have c1 : Ct l (.code yX7_sortingNeeds cX7_sortingNeeds 3 (some .int)) yX7_sortingNeeds 7 1 6 [.ref 0, .int a0] (cW Q U H t ln s A P K (tI t) (nI sv, rf, nI ln, pl, wr, dn, ha) f) (.inr "java/lang/IllegalArgumentException") (cW Q U H t ln s A P K (tI t) (nI sv, rf, nI ln, pl, wr, dn, ha) f) := c_sort_n l cW_hw hr
    exact ⟨1, 6, 1, 0, _, _, f, by decide, by decide, hn_sortingNeeds_1 l c1 cW_ob, cM (m_sort_n l cW_hp hr), ⟨_, _, _, _, _, _, _, _, _, _, _, _, _, _, _, rfl, S, R, hl, ht⟩, fun z => absurd z (by decide), _, cW_obm⟩
  · have SC : Sim 7 (cpU Q U) A n := Sim_cp S
    have SS := Sim_sort h3 n (cpU Q U) A (fun j hj => by rw [Sim_n SC hj (mskB_7 hj)]; exact hn) (Sim_any SC)
    have eK : (cpyF A K 0 0 184) (181 + k) = A (181 + k) := by rw [cpyF_i (by omega)]; exact congrArg A (by omega)
    have ev : cntV (sortU k (Q 0).1 (cpU Q U)) k - cntV Q k = soA (1 <<< (nI k &&& 31)) k n A (181 + k) - (cpyF A K 0 0 184) (181 + k) := by rw [hQ0, SS.2.2.2 k h3 (msk_k h3), S.2.2 k h3 (mskB_7 (by omega)), eK]
    have c1 : Ct l (.code yX7_sortingNeeds cX7_sortingNeeds 3 (some .int)) yX7_sortingNeeds 7 0 0 [.ref 0, .int (nI k)] (cW Q U H t ln s A P K (tI t) (nI sv, rf, nI ln, pl, wr, dn, ha) f) (.inl (some (.int (soA (1 <<< (nI k &&& 31)) k n A (181 + k) - (cpyF A K 0 0 184) (181 + k))))) (cW Q (sortU k (Q 0).1 (cpU Q U)) H t ln s A P K (tI t) (nI sv, rf, nI ln, pl, wr, dn, ha) f) := ct_w (c_sort_y l cW_hw h3 h30 (by rw [hQ0]; exact SS.1)) rfl rfl (by rw [ev])
    exact ⟨0, 0, 0, (soA (1 <<< (nI k &&& 31)) k n A (181 + k) - (cpyF A K 0 0 184) (181 + k)), _, _, _, by decide, by decide, ct_w (hy_sortingNeeds l c1 cW_ob cW_out) rfl (cW_up _) rfl, cM (m_sort_y l cW_hp h3 (PA := fun m B => ∃ U, Sim (1 <<< (nI k &&& 31)) U B m) (fun n A ⟨U, S⟩ => S.1) (fun n A ⟨U, S⟩ => ⟨_, (Sim_tak h3 S).2.2⟩) ⟨Q, Sim_any S⟩), ⟨_, _, _, _, _, _, _, _, _, _, _, _, _, _, _, rfl, Sim_cg S (fun i hi => by rw [cpyF_i (by omega), cpyF_i (by omega)]; exact congrArg A (by omega)), R, hl, ht⟩, fun _ => updL0, _, cW_obm⟩
theorem st_type (l : Launch) {W : MW} {rf : Int32} {f : Nat → Int64} (h : LSt W rf f) (a0 : Int32) : ∃ (mc ms : Nat) (k b : Int32) (W2 W3 : MW) (g : Nat → Int64), mc ≤ 1 ∧ ms ≤ 6 ∧ Ct l (.codeWith yL_type cL_type 4 (some .int) [(0, 9, 12, 13), (0, 9, 15, 15)]) yL_type 7 mc ms [.ref 0, .int a0, .ref 73] W (.inl (some (.int k))) W2 ∧ Ct l (.code yX8_type cX8_type 2 (some .int)) yX8_type 1 0 0 [.ref 68, .int a0] W2 (.inl (some (.int b))) W3 ∧ LSt W3 k g ∧ (k = 0 → g 0 = b.toInt64) ∧ ∃ fs, mm_ob W2 68 7 fs := by
  obtain ⟨Q, U, H, t, ln, s, A, P, K, sv, pl, wr, dn, ha, n, rfl, S, R, hl, ht⟩ := h
  have hn := S.1.2.2.1
  have hI := Sim_qI S
  have m0 : mskB 7 0 = true := mskB_7 (by decide)
  have hQ0 := Sim_n S (k := 0) (by decide) m0
  have hx := R.1
  have hs := R.2.2.1
  have hk : H.2.2 ≤ 5 := by rw [R.2.1]; exact hs
  have h30 : (Q 0).1 ≤ 30 := by rw [hQ0]; exact hn
  by_cases h1 : a0 < 32 ∨ 126 < a0
  · skip
    have c1 : Ct l (.code yX7_type cX7_type 2 (some .int)) yX7_type 6 1 6 [.ref 0, .int a0] (cW Q U H t ln s A P K (tI t) (nI sv, rf, nI ln, pl, wr, dn, ha) f) (.inr "java/lang/IllegalArgumentException") (cW Q U H t ln s A P K (tI t) (nI sv, rf, nI ln, pl, wr, dn, ha) f) := c_type_n1 l cW_hw h1
    exact ⟨1, 6, 1, 0, _, _, f, by decide, by decide, hn_type_1 l c1 cW_ob, cM (m_type_n1 l cW_hp h1), ⟨_, _, _, _, _, _, _, _, _, _, _, _, _, _, _, rfl, S, R, hl, ht⟩, fun z => absurd z (by decide), _, cW_obm⟩
  · have h1a : ¬ a0 < 32 := fun z => h1 (Or.inl z)
    have h1b : a0 ≤ 126 := Int32.not_lt.mp (fun z => h1 (Or.inr z))
    by_cases h2 : ln < 120
    · have h1c : ¬ a0 < 0 := fun z => h1a (by rw [Int32.lt_iff_toInt_lt] at z ⊢; rw [show (32 : Int32).toInt = 32 from by decide +kernel]; rw [show (0 : Int32).toInt = 0 from by decide +kernel] at z; omega)
      obtain ⟨k, hk2, ek⟩ := nI_of2 (M := 126) (n := 126) (by decide +kernel) h1c h1b
      subst ek
      have hk1 : 32 ≤ k := by
        rcases Nat.lt_or_ge k 32 with z | z
        · exact absurd (nI_lt (b := 32) z (by decide)) h1a
        · exact z
      have c1 : Ct l (.code yX7_type cX7_type 2 (some .int)) yX7_type 6 0 0 [.ref 0, .int (nI k)] (cW Q U H t ln s A P K (tI t) (nI sv, rf, nI ln, pl, wr, dn, ha) f) (.inl (some (.int (nI (ln + 1))))) (cW Q U H (updN t ln k) (ln + 1) s A P K (tI t) (nI sv, rf, nI ln, pl, wr, dn, ha) f) := c_type_y l cW_hw h2 hk1 hk2
      exact ⟨0, 0, 0, (nI (ln + 1)), _, _, _, by decide, by decide, ct_w (hy_type l c1 cW_ob cW_out) rfl (cW_up _) rfl, cM (m_type_y l cW_hp hk1 hk2 h2), ⟨_, _, _, _, _, _, _, _, _, _, _, _, _, _, _, rfl, S, R, by omega, okt_upd ht (by omega)⟩, fun _ => updL0, _, cW_obm⟩
    · have e2 : ln = 120 := by omega
      have c1 : Ct l (.code yX7_type cX7_type 2 (some .int)) yX7_type 6 1 6 [.ref 0, .int a0] (cW Q U H t ln s A P K (tI t) (nI sv, rf, nI ln, pl, wr, dn, ha) f) (.inr "java/lang/IllegalStateException") (cW Q U H t ln s A P K (tI t) (nI sv, rf, nI ln, pl, wr, dn, ha) f) := c_type_n2 l cW_hw e2 h1a h1b
      exact ⟨1, 6, 2, 0, _, _, f, by decide, by decide, hn_type_2 l c1 cW_ob, cM (m_type_n2 l cW_hp h1a h1b e2), ⟨_, _, _, _, _, _, _, _, _, _, _, _, _, _, _, rfl, S, R, hl, ht⟩, fun z => absurd z (by decide), _, cW_obm⟩
theorem st_run (l : Launch) {W : MW} {rf : Int32} {f : Nat → Int64} (h : LSt W rf f) : ∃ (mc ms : Nat) (k b : Int32) (W2 W3 : MW) (g : Nat → Int64), mc ≤ 1 ∧ ms ≤ 6 ∧ Ct l (.codeWith yL_run cL_run 3 (some .int) [(0, 8, 11, 13)]) yL_run 8 mc ms [.ref 0, .ref 73] W (.inl (some (.int k))) W2 ∧ Ct l (.code yX8_run cX8_run 2 (some .int)) yX8_run 11 0 0 [.ref 68] W2 (.inl (some (.int b))) W3 ∧ LSt W3 k g ∧ (k = 0 → g 0 = b.toInt64) ∧ ∃ fs, mm_ob W2 68 7 fs := by
  obtain ⟨Q, U, H, t, ln, s, A, P, K, sv, pl, wr, dn, ha, n, rfl, S, R, hl, ht⟩ := h
  have hn := S.1.2.2.1
  have hI := Sim_qI S
  have m0 : mskB 7 0 = true := mskB_7 (by decide)
  have hQ0 := Sim_n S (k := 0) (by decide) m0
  have hx := R.1
  have hs := R.2.2.1
  have hk : H.2.2 ≤ 5 := by rw [R.2.1]; exact hs
  have h30 : (Q 0).1 ≤ 30 := by rw [hQ0]; exact hn
  have ef := flt_eq (t := t) (ln := ln) 120 (0, s.2)
  have ef2 : (fltS t ln 120 (0, s.2)).1 = wrI (mFlt t ln 120 0).1 (mFlt t ln 120 0).2 := ef
  cases hm : (mFlt t ln 120 0).1
  · rw [hm, wrI_f] at ef2
    have hle := mFlt_le (t := t) (ln := ln) 120 0 (Nat.zero_le _)
    have hf : ¬ (fltS t ln 120 (0, s.2)).1 = -1 := by rw [ef2]; exact nI_nm1 (by omega)
    have c1 : Ct l (.code yX7_run cX7_run 3 (some .int)) yX7_run 7 1 6 [.ref 0] (cW Q U H t ln s A P K (tI t) (nI sv, rf, nI ln, pl, wr, dn, ha) f) (.inr "java/lang/IllegalArgumentException") (cW Q U H t ln (fltS t ln 120 (0, s.2)).2 A P K (tI t) (nI sv, rf, nI ln, pl, wr, dn, ha) f) := c_run_n l cW_hw ht hl hf
    exact ⟨1, 6, 1, 0, _, _, f, by decide, by decide, hn_run_1 l c1 cW_ob, cM (m_run_n l cW_hp hl ht hm), ⟨_, _, _, _, _, _, _, _, _, _, _, _, _, _, _, rfl, S, R, hl, ht⟩, fun z => absurd z (by decide), _, cW_obm⟩
  · rw [hm, wrI_t] at ef2
    obtain ⟨er, m, SR⟩ := Sim_run (t := t) (ln := ln) 120 (0, (fltS t ln 120 (0, s.2)).2.2) Q A n 0 S (by show ln - 0 ≤ 120; omega) (Nat.zero_le _) hm
    have c1 : Ct l (.code yX7_run cX7_run 3 (some .int)) yX7_run 7 0 0 [.ref 0] (cW Q U H t ln s A P K (tI t) (nI sv, rf, nI ln, pl, wr, dn, ha) f) (.inl (some (.int (nI (rnS t ln 120 0 A 0).2.1)))) (cW (runS t ln 120 Q (0, (fltS t ln 120 (0, s.2)).2.2) 0).2.1 U (keepH Q H) t ln (runS t ln 120 Q (0, (fltS t ln 120 (0, s.2)).2.2) 0).2.2 A P K (tI t) (nI sv, rf, nI ln, pl, wr, dn, ha) f) := ct_w (c_run_y l cW_hw ht hl hx hk (P := fun Q => ∃ A n, Sim 7 Q A n) (fun Q ⟨A, n, S⟩ => Sim_qI S) (fun Q cmd hd ky ⟨A, n, S⟩ => Sim_cry S cmd hd ky) ⟨A, n, S⟩ ef2) rfl rfl (by rw [show (runS t ln 120 Q (0, (fltS t ln 120 (0, s.2)).2.2) 0).1 = (rnS t ln 120 0 A 0).2.1 from er])
    exact ⟨0, 0, 0, (nI (rnS t ln 120 0 A 0).2.1), _, _, _, by decide, by decide, ct_w (hy_run l c1 cW_ob cW_out) rfl (cW_up _) rfl, cM (m_run_y l cW_hp hl ht hs (PA := fun A => ∃ Q, Sim 7 Q A (nA A)) (fun A ⟨Q, S⟩ => S.1) (fun A c ⟨Q, S⟩ hc ho => by
        have e1 : (rdCmd t ln (c, 0, 0, 0, 0)).1 = true := (congrArg Prod.fst (cmd_eq (t := t) (ln := ln) (c, 0, 0, 0, 0))).trans ho
        obtain ⟨_, m, S2⟩ := Sim_cmd S e1
        exact ⟨_, by rw [nA_S S2]; exact S2⟩) hm ⟨Q, by rw [nA_S S]; exact S⟩), ⟨_, _, _, _, _, _, _, _, _, _, _, _, _, _, _, rfl, SR, Rec_keep S R, hl, ht⟩, fun _ => updL0, _, cW_obm⟩
theorem st_undo (l : Launch) {W : MW} {rf : Int32} {f : Nat → Int64} (h : LSt W rf f) : ∃ (mc ms : Nat) (k b : Int32) (W2 W3 : MW) (g : Nat → Int64), mc ≤ 1 ∧ ms ≤ 6 ∧ Ct l (.codeWith yL_undo cL_undo 3 (some .int) [(0, 8, 11, 15)]) yL_undo 7 mc ms [.ref 0, .ref 73] W (.inl (some (.int k))) W2 ∧ Ct l (.code yX8_undo cX8_undo 2 (some .int)) yX8_undo 1 0 0 [.ref 68] W2 (.inl (some (.int b))) W3 ∧ LSt W3 k g ∧ (k = 0 → g 0 = b.toInt64) ∧ ∃ fs, mm_ob W2 68 7 fs := by
  obtain ⟨Q, U, H, t, ln, s, A, P, K, sv, pl, wr, dn, ha, n, rfl, S, R, hl, ht⟩ := h
  have hn := S.1.2.2.1
  have hI := Sim_qI S
  have m0 : mskB 7 0 = true := mskB_7 (by decide)
  have hQ0 := Sim_n S (k := 0) (by decide) m0
  have hx := R.1
  have hs := R.2.2.1
  have hk : H.2.2 ≤ 5 := by rw [R.2.1]; exact hs
  have h30 : (Q 0).1 ≤ 30 := by rw [hQ0]; exact hn
  cases sv with
  | zero =>
    have c1 : Ct l (.code yX7_undo cX7_undo 1 (some .int)) yX7_undo 6 1 6 [.ref 0] (cW Q U H t ln s A P K (tI t) (nI 0, rf, nI ln, pl, wr, dn, ha) f) (.inr "java/lang/IllegalStateException") (cW Q U H t ln s A P K (tI t) (nI 0, rf, nI ln, pl, wr, dn, ha) f) := c_undo_n l cW_hw R.2.1
    exact ⟨1, 6, 1, 0, _, _, f, by decide, by decide, hn_undo_1 l c1 cW_ob, cM (m_undo_n l cW_hp rfl), ⟨_, _, _, _, _, _, _, _, _, _, _, _, _, _, _, rfl, S, R, hl, ht⟩, fun z => absurd z (by decide), _, cW_obm⟩
  | succ sv =>
    obtain ⟨R2, m, S2⟩ := Rec_undo R
    have e1 : H.2.2 - 1 = sv := by rw [R.2.1]; rfl
    have c1 : Ct l (.code yX7_undo cX7_undo 1 (some .int)) yX7_undo 6 0 0 [.ref 0] (cW Q U H t ln s A P K (tI t) (nI (sv + 1), rf, nI ln, pl, wr, dn, ha) f) (.inl (some (.int (nI sv)))) (cW (cpU (H.1 (lastN H)) Q) U (undoH H) t ln s A P K (tI t) (nI (sv + 1), rf, nI ln, pl, wr, dn, ha) f) := ct_w (c_undo_y l cW_hw hx hk (by rw [R.2.1]; omega)) rfl rfl (by rw [e1])
    exact ⟨0, 0, 0, (nI sv), _, _, _, by decide, by decide, ct_w (hy_undo l c1 cW_ob cW_out) rfl (cW_up _) rfl, cM (m_undo_y l cW_hp (by omega)), ⟨_, _, _, _, _, _, _, _, _, _, _, _, _, _, _, rfl, Sim_cg (Sim_cp S2) (fun i hi => by rw [cpyF_i (by omega)]; exact congrArg P (by omega)), R2, hl, ht⟩, fun _ => updL0, _, cW_obm⟩
theorem st_build (l : Launch) {W : MW} {rf : Int32} {f : Nat → Int64} (h : LSt W rf f) : ∃ (b : Int32) (W2 W3 : MW), Ct l (.code yX7_build cX7_build 2 (some .int)) yX7_build 6 0 0 [.ref 0] W (.inl (some (.int b))) W2 ∧ Ct l (.code yX8_build cX8_build 2 (some .int)) yX8_build 6 0 0 [.ref 68] W2 (.inl (some (.int b))) W3 ∧ LSt W3 0 f ∧ ∃ fs, mm_ob W2 68 7 fs ∧ mm_ob W 0 6 [.ref 1, .ref 10, .ref 19, .ref 66] := by
  obtain ⟨Q, U, H, t, ln, s, A, P, K, sv, pl, wr, dn, ha, n, rfl, S, R, hl, ht⟩ := h
  have hn := S.1.2.2.1
  have hI := Sim_qI S
  have m0 : mskB 7 0 = true := mskB_7 (by decide)
  have hQ0 := Sim_n S (k := 0) (by decide) m0
  have hx := R.1
  have hs := R.2.2.1
  have hk : H.2.2 ≤ 5 := by rw [R.2.1]; exact hs
  have h30 : (Q 0).1 ≤ 30 := by rw [hQ0]; exact hn
  have SB : Sim 7 (mapU opArr Q 4) (fldA (blA n) 7 4 0 A) n := Sim_build S (fun k hk _ => mapU4 hk)
  have c1 : Ct l (.code yX7_build cX7_build 2 (some .int)) yX7_build 6 0 0 [.ref 0] (cW Q U H t ln s A P K (tI t) (nI sv, rf, nI ln, pl, wr, dn, ha) f) (.inl (some (.int ((fldA (blA n) 7 4 0 A) 181 + (fldA (blA n) 7 4 0 A) 182 + (fldA (blA n) 7 4 0 A) 183 - (A 181 + A 182 + A 183))))) (cW (mapU opArr Q 4) U (keepH Q H) t ln s A P K (tI t) (nI sv, rf, nI ln, pl, wr, dn, ha) f) := ct_w (c_build l cW_hw hI hx hk) rfl rfl (by rw [SB.2.2 0 (by decide) m0, SB.2.2 1 (by decide) (mskB_7 (by decide)), SB.2.2 2 (by decide) (mskB_7 (by decide)), S.2.2 0 (by decide) m0, S.2.2 1 (by decide) (mskB_7 (by decide)), S.2.2 2 (by decide) (mskB_7 (by decide))])
  exact ⟨((fldA (blA n) 7 4 0 A) 181 + (fldA (blA n) 7 4 0 A) 182 + (fldA (blA n) 7 4 0 A) 183 - (A 181 + A 182 + A 183)), _, _, c1, cM (m_build l cW_hp S.1 hs), ⟨_, _, _, _, _, _, _, _, _, _, _, _, _, _, _, rfl, SB, Rec_keep S R, hl, ht⟩, _, cW_obm, cW_ob⟩
theorem st_clear (l : Launch) {W : MW} {rf : Int32} {f : Nat → Int64} (h : LSt W rf f) : ∃ (b : Int32) (W2 W3 : MW), Ct l (.code yX7_clear cX7_clear 2 (some .int)) yX7_clear 5 0 0 [.ref 0] W (.inl (some (.int b))) W2 ∧ Ct l (.code yX8_clear cX8_clear 3 (some .int)) yX8_clear 1 0 0 [.ref 68] W2 (.inl (some (.int b))) W3 ∧ LSt W3 0 f ∧ ∃ fs, mm_ob W2 68 7 fs ∧ mm_ob W 0 6 [.ref 1, .ref 10, .ref 19, .ref 66] := by
  obtain ⟨Q, U, H, t, ln, s, A, P, K, sv, pl, wr, dn, ha, n, rfl, S, R, hl, ht⟩ := h
  have hn := S.1.2.2.1
  have hI := Sim_qI S
  have m0 : mskB 7 0 = true := mskB_7 (by decide)
  have hQ0 := Sim_n S (k := 0) (by decide) m0
  have hx := R.1
  have hs := R.2.2.1
  have hk : H.2.2 ≤ 5 := by rw [R.2.1]; exact hs
  have h30 : (Q 0).1 ≤ 30 := by rw [hQ0]; exact hn
  have c1 : Ct l (.code yX7_clear cX7_clear 2 (some .int)) yX7_clear 5 0 0 [.ref 0] (cW Q U H t ln s A P K (tI t) (nI sv, rf, nI ln, pl, wr, dn, ha) f) (.inl (some (.int (A 180)))) (cW (mapU opEmpty Q 4) U (keepH Q H) t ln s A P K (tI t) (nI sv, rf, nI ln, pl, wr, dn, ha) f) := ct_w (c_clear l cW_hw hx hk) rfl rfl (by rw [hQ0, ← S.1.2.1])
  exact ⟨(A 180), _, _, c1, cM (m_clear l cW_hp hs), ⟨_, _, _, _, _, _, _, _, _, _, _, _, _, _, _, rfl, Sim_clear S, Rec_keep S R, hl, ht⟩, _, cW_obm, cW_ob⟩
theorem st_size (l : Launch) {W : MW} {rf : Int32} {f : Nat → Int64} (h : LSt W rf f) : ∃ (b : Int32) (W2 W3 : MW), Ct l (.code yX7_size cX7_size 1 (some .int)) yX7_size 1 0 0 [.ref 0] W (.inl (some (.int b))) W2 ∧ Ct l (.code yX8_size cX8_size 1 (some .int)) yX8_size 1 0 0 [.ref 68] W2 (.inl (some (.int b))) W3 ∧ LSt W3 0 f ∧ ∃ fs, mm_ob W2 68 7 fs ∧ mm_ob W 0 6 [.ref 1, .ref 10, .ref 19, .ref 66] := by
  obtain ⟨Q, U, H, t, ln, s, A, P, K, sv, pl, wr, dn, ha, n, rfl, S, R, hl, ht⟩ := h
  have hn := S.1.2.2.1
  have hI := Sim_qI S
  have m0 : mskB 7 0 = true := mskB_7 (by decide)
  have hQ0 := Sim_n S (k := 0) (by decide) m0
  have hx := R.1
  have hs := R.2.2.1
  have hk : H.2.2 ≤ 5 := by rw [R.2.1]; exact hs
  have h30 : (Q 0).1 ≤ 30 := by rw [hQ0]; exact hn
  have c1 : Ct l (.code yX7_size cX7_size 1 (some .int)) yX7_size 1 0 0 [.ref 0] (cW Q U H t ln s A P K (tI t) (nI sv, rf, nI ln, pl, wr, dn, ha) f) (.inl (some (.int (A 180)))) (cW Q U H t ln s A P K (tI t) (nI sv, rf, nI ln, pl, wr, dn, ha) f) := ct_w (c_size l cW_hw) rfl rfl (by rw [hQ0, ← S.1.2.1])
  exact ⟨(A 180), _, _, c1, cM (m_size l cW_hp), ⟨_, _, _, _, _, _, _, _, _, _, _, _, _, _, _, rfl, S, R, hl, ht⟩, _, cW_obm, cW_ob⟩
theorem st_handles (l : Launch) {W : MW} {rf : Int32} {f : Nat → Int64} (h : LSt W rf f) : ∃ (b : Int32) (W2 W3 : MW), Ct l (.code yX7_handles cX7_handles 1 (some .int)) yX7_handles 3 0 0 [.ref 0] W (.inl (some (.int b))) W2 ∧ Ct l (.code yX8_handles cX8_handles 1 (some .int)) yX8_handles 1 0 0 [.ref 68] W2 (.inl (some (.int b))) W3 ∧ LSt W3 0 f ∧ ∃ fs, mm_ob W2 68 7 fs ∧ mm_ob W 0 6 [.ref 1, .ref 10, .ref 19, .ref 66] := by
  obtain ⟨Q, U, H, t, ln, s, A, P, K, sv, pl, wr, dn, ha, n, rfl, S, R, hl, ht⟩ := h
  have hn := S.1.2.2.1
  have hI := Sim_qI S
  have m0 : mskB 7 0 = true := mskB_7 (by decide)
  have hQ0 := Sim_n S (k := 0) (by decide) m0
  have hx := R.1
  have hs := R.2.2.1
  have hk : H.2.2 ≤ 5 := by rw [R.2.1]; exact hs
  have h30 : (Q 0).1 ≤ 30 := by rw [hQ0]; exact hn
  have c1 : Ct l (.code yX7_handles cX7_handles 1 (some .int)) yX7_handles 3 0 0 [.ref 0] (cW Q U H t ln s A P K (tI t) (nI sv, rf, nI ln, pl, wr, dn, ha) f) (.inl (some (.int (hsA A 30 0 0)))) (cW Q U H t ln s A P K (tI t) (nI sv, rf, nI ln, pl, wr, dn, ha) f) := ct_w (c_handles l cW_hw h30) rfl rfl (by rw [ob_set S])
  exact ⟨(hsA A 30 0 0), _, _, c1, cM (m_handles l cW_hp), ⟨_, _, _, _, _, _, _, _, _, _, _, _, _, _, _, rfl, S, R, hl, ht⟩, _, cW_obm, cW_ob⟩
theorem st_ranked (l : Launch) {W : MW} {rf : Int32} {f : Nat → Int64} (h : LSt W rf f) (a0 : Int32) : ∃ (b : Int32) (W2 W3 : MW), Ct l (.code yX7_ranked cX7_ranked 3 (some .int)) yX7_ranked 4 0 0 [.ref 0, .int a0] W (.inl (some (.int b))) W2 ∧ Ct l (.code yX8_ranked cX8_ranked 3 (some .int)) yX8_ranked 3 0 0 [.ref 68, .int a0] W2 (.inl (some (.int b))) W3 ∧ LSt W3 0 f ∧ ∃ fs, mm_ob W2 68 7 fs ∧ mm_ob W 0 6 [.ref 1, .ref 10, .ref 19, .ref 66] := by
  obtain ⟨Q, U, H, t, ln, s, A, P, K, sv, pl, wr, dn, ha, n, rfl, S, R, hl, ht⟩ := h
  have hn := S.1.2.2.1
  have hI := Sim_qI S
  have m0 : mskB 7 0 = true := mskB_7 (by decide)
  have hQ0 := Sim_n S (k := 0) (by decide) m0
  have hx := R.1
  have hs := R.2.2.1
  have hk : H.2.2 ≤ 5 := by rw [R.2.1]; exact hs
  have h30 : (Q 0).1 ≤ 30 := by rw [hQ0]; exact hn
  have c1 : Ct l (.code yX7_ranked cX7_ranked 3 (some .int)) yX7_ranked 4 0 0 [.ref 0, .int a0] (cW Q U H t ln s A P K (tI t) (nI sv, rf, nI ln, pl, wr, dn, ha) f) (.inl (some (.int (rkA A a0 30 0)))) (cW Q U H t ln s A P K (tI t) (nI sv, rf, nI ln, pl, wr, dn, ha) f) := ct_w (c_ranked l cW_hw hI) rfl rfl (by rw [ob_ranked S a0 30 0 rfl])
  exact ⟨(rkA A a0 30 0), _, _, c1, cM (m_ranked l cW_hp), ⟨_, _, _, _, _, _, _, _, _, _, _, _, _, _, _, rfl, S, R, hl, ht⟩, _, cW_obm, cW_ob⟩
theorem st_between (l : Launch) {W : MW} {rf : Int32} {f : Nat → Int64} (h : LSt W rf f) (a0 a1 : Int32) : ∃ (b : Int32) (W2 W3 : MW), Ct l (.code yX7_between cX7_between 5 (some .int)) yX7_between 4 0 0 [.ref 0, .int a0, .int a1] W (.inl (some (.int b))) W2 ∧ Ct l (.code yX8_between cX8_between 5 (some .int)) yX8_between 2 0 0 [.ref 68, .int a0, .int a1] W2 (.inl (some (.int b))) W3 ∧ LSt W3 0 f ∧ ∃ fs, mm_ob W2 68 7 fs ∧ mm_ob W 0 6 [.ref 1, .ref 10, .ref 19, .ref 66] := by
  obtain ⟨Q, U, H, t, ln, s, A, P, K, sv, pl, wr, dn, ha, n, rfl, S, R, hl, ht⟩ := h
  have hn := S.1.2.2.1
  have hI := Sim_qI S
  have m0 : mskB 7 0 = true := mskB_7 (by decide)
  have hQ0 := Sim_n S (k := 0) (by decide) m0
  have hx := R.1
  have hs := R.2.2.1
  have hk : H.2.2 ≤ 5 := by rw [R.2.1]; exact hs
  have h30 : (Q 0).1 ≤ 30 := by rw [hQ0]; exact hn
  have c1 : Ct l (.code yX7_between cX7_between 5 (some .int)) yX7_between 4 0 0 [.ref 0, .int a0, .int a1] (cW Q U H t ln s A P K (tI t) (nI sv, rf, nI ln, pl, wr, dn, ha) f) (.inl (some (.int (nI (btA A a0 a1 30 0 0))))) (cW Q U H t ln s A P K (tI t) (nI sv, rf, nI ln, pl, wr, dn, ha) f) := ct_w (c_between l cW_hw hI) rfl rfl (by rw [ob_btw S a0 a1 30 0 0 rfl])
  exact ⟨(nI (btA A a0 a1 30 0 0)), _, _, c1, cM (m_between l cW_hp), ⟨_, _, _, _, _, _, _, _, _, _, _, _, _, _, _, rfl, S, R, hl, ht⟩, _, cW_obm, cW_ob⟩
theorem st_forget (l : Launch) {W : MW} {rf : Int32} {f : Nat → Int64} (h : LSt W rf f) : ∃ (b : Int32) (W2 W3 : MW), Ct l (.code yX7_forget cX7_forget 2 (some .int)) yX7_forget 5 0 0 [.ref 0] W (.inl (some (.int b))) W2 ∧ Ct l (.code yX8_forget cX8_forget 3 (some .int)) yX8_forget 1 0 0 [.ref 68] W2 (.inl (some (.int b))) W3 ∧ LSt W3 0 f ∧ ∃ fs, mm_ob W2 68 7 fs ∧ mm_ob W 0 6 [.ref 1, .ref 10, .ref 19, .ref 66] := by
  obtain ⟨Q, U, H, t, ln, s, A, P, K, sv, pl, wr, dn, ha, n, rfl, S, R, hl, ht⟩ := h
  have hn := S.1.2.2.1
  have hI := Sim_qI S
  have m0 : mskB 7 0 = true := mskB_7 (by decide)
  have hQ0 := Sim_n S (k := 0) (by decide) m0
  have hx := R.1
  have hs := R.2.2.1
  have hk : H.2.2 ≤ 5 := by rw [R.2.1]; exact hs
  have h30 : (Q 0).1 ≤ 30 := by rw [hQ0]; exact hn
  have c1 : Ct l (.code yX7_forget cX7_forget 2 (some .int)) yX7_forget 5 0 0 [.ref 0] (cW Q U H t ln s A P K (tI t) (nI sv, rf, nI ln, pl, wr, dn, ha) f) (.inl (some (.int (A 181 + A 182 + A 183)))) (cW (mapU opForget Q 4) U (keepH Q H) t ln s A P K (tI t) (nI sv, rf, nI ln, pl, wr, dn, ha) f) := ct_w (c_forget l cW_hw hx hk) rfl rfl (by rw [S.2.2 0 (by decide) m0, S.2.2 1 (by decide) (mskB_7 (by decide)), S.2.2 2 (by decide) (mskB_7 (by decide))])
  exact ⟨(A 181 + A 182 + A 183), _, _, c1, cM (m_forget l cW_hp hs), ⟨_, _, _, _, _, _, _, _, _, _, _, _, _, _, _, rfl, Sim_forget S, Rec_keep S R, hl, ht⟩, _, cW_obm, cW_ob⟩
theorem st_fewest (l : Launch) {W : MW} {rf : Int32} {f : Nat → Int64} (h : LSt W rf f) : ∃ (b : Int32) (W2 W3 : MW), Ct l (.code yX7_fewest cX7_fewest 3 (some .int)) yX7_fewest 2 0 0 [.ref 0] W (.inl (some (.int b))) W2 ∧ Ct l (.code yX8_fewest cX8_fewest 3 (some .int)) yX8_fewest 0 0 0 [.ref 68] W2 (.inl (some (.int b))) W3 ∧ LSt W3 0 f ∧ ∃ fs, mm_ob W2 68 7 fs ∧ mm_ob W 0 6 [.ref 1, .ref 10, .ref 19, .ref 66] := by
  obtain ⟨Q, U, H, t, ln, s, A, P, K, sv, pl, wr, dn, ha, n, rfl, S, R, hl, ht⟩ := h
  have hn := S.1.2.2.1
  have hI := Sim_qI S
  have m0 : mskB 7 0 = true := mskB_7 (by decide)
  have hQ0 := Sim_n S (k := 0) (by decide) m0
  have hx := R.1
  have hs := R.2.2.1
  have hk : H.2.2 ≤ 5 := by rw [R.2.1]; exact hs
  have h30 : (Q 0).1 ≤ 30 := by rw [hQ0]; exact hn
  have c1 : Ct l (.code yX7_fewest cX7_fewest 3 (some .int)) yX7_fewest 2 0 0 [.ref 0] (cW Q U H t ln s A P K (tI t) (nI sv, rf, nI ln, pl, wr, dn, ha) f) (.inl (some (.int (nI (fwA A 2 1 0))))) (cW Q U H t ln s A P K (tI t) (nI sv, rf, nI ln, pl, wr, dn, ha) f) := ct_w (c_fewest l cW_hw) rfl rfl (by rw [ob_few S 2 1 0 rfl (by decide)])
  exact ⟨(nI (fwA A 2 1 0)), _, _, c1, cM (m_fewest l cW_hp), ⟨_, _, _, _, _, _, _, _, _, _, _, _, _, _, _, rfl, S, R, hl, ht⟩, _, cW_obm, cW_ob⟩
theorem st_clearText (l : Launch) {W : MW} {rf : Int32} {f : Nat → Int64} (h : LSt W rf f) : ∃ (b : Int32) (W2 W3 : MW), Ct l (.code yX7_clearText cX7_clearText 2 (some .int)) yX7_clearText 0 0 0 [.ref 0] W (.inl (some (.int b))) W2 ∧ Ct l (.code yX8_clearText cX8_clearText 2 (some .int)) yX8_clearText 0 0 0 [.ref 68] W2 (.inl (some (.int b))) W3 ∧ LSt W3 0 f ∧ ∃ fs, mm_ob W2 68 7 fs ∧ mm_ob W 0 6 [.ref 1, .ref 10, .ref 19, .ref 66] := by
  obtain ⟨Q, U, H, t, ln, s, A, P, K, sv, pl, wr, dn, ha, n, rfl, S, R, hl, ht⟩ := h
  have hn := S.1.2.2.1
  have hI := Sim_qI S
  have m0 : mskB 7 0 = true := mskB_7 (by decide)
  have hQ0 := Sim_n S (k := 0) (by decide) m0
  have hx := R.1
  have hs := R.2.2.1
  have hk : H.2.2 ≤ 5 := by rw [R.2.1]; exact hs
  have h30 : (Q 0).1 ≤ 30 := by rw [hQ0]; exact hn
  have c1 : Ct l (.code yX7_clearText cX7_clearText 2 (some .int)) yX7_clearText 0 0 0 [.ref 0] (cW Q U H t ln s A P K (tI t) (nI sv, rf, nI ln, pl, wr, dn, ha) f) (.inl (some (.int (nI ln)))) (cW Q U H t 0 s A P K (tI t) (nI sv, rf, nI ln, pl, wr, dn, ha) f) := c_clearText l cW_hw
  exact ⟨(nI ln), _, _, c1, cM (m_clearText l cW_hp), ⟨_, _, _, _, _, _, _, _, _, _, _, _, _, _, _, rfl, S, R, Nat.zero_le _, ht⟩, _, cW_obm, cW_ob⟩
theorem st_fault (l : Launch) {W : MW} {rf : Int32} {f : Nat → Int64} (h : LSt W rf f) : ∃ (b : Int32) (W2 W3 : MW), Ct l (.code yX7_fault cX7_fault 1 (some .int)) yX7_fault 6 0 0 [.ref 0] W (.inl (some (.int b))) W2 ∧ Ct l (.code yX8_fault cX8_fault 1 (some .int)) yX8_fault 11 0 0 [.ref 68] W2 (.inl (some (.int b))) W3 ∧ LSt W3 0 f ∧ ∃ fs, mm_ob W2 68 7 fs ∧ mm_ob W 0 6 [.ref 1, .ref 10, .ref 19, .ref 66] := by
  obtain ⟨Q, U, H, t, ln, s, A, P, K, sv, pl, wr, dn, ha, n, rfl, S, R, hl, ht⟩ := h
  have hn := S.1.2.2.1
  have hI := Sim_qI S
  have m0 : mskB 7 0 = true := mskB_7 (by decide)
  have hQ0 := Sim_n S (k := 0) (by decide) m0
  have hx := R.1
  have hs := R.2.2.1
  have hk : H.2.2 ≤ 5 := by rw [R.2.1]; exact hs
  have h30 : (Q 0).1 ≤ 30 := by rw [hQ0]; exact hn
  have c1 : Ct l (.code yX7_fault cX7_fault 1 (some .int)) yX7_fault 6 0 0 [.ref 0] (cW Q U H t ln s A P K (tI t) (nI sv, rf, nI ln, pl, wr, dn, ha) f) (.inl (some (.int (wrI (mFlt t ln 120 0).1 (mFlt t ln 120 0).2)))) (cW Q U H t ln (fltS t ln 120 (0, s.2)).2 A P K (tI t) (nI sv, rf, nI ln, pl, wr, dn, ha) f) := ct_w (c_fault l cW_hw ht hl) rfl rfl (by rw [show (fltS t ln 120 (0, s.2)).1 = wrI (mFlt t ln 120 0).1 (mFlt t ln 120 0).2 from flt_eq (t := t) (ln := ln) 120 (0, s.2)])
  exact ⟨(wrI (mFlt t ln 120 0).1 (mFlt t ln 120 0).2), _, _, c1, cM (m_fault l cW_hp hl ht), ⟨_, _, _, _, _, _, _, _, _, _, _, _, _, _, _, rfl, S, R, hl, ht⟩, _, cW_obm, cW_ob⟩
theorem st_checksum (l : Launch) {W : MW} {rf : Int32} {f : Nat → Int64} (h : LSt W rf f) : ∃ (b : Int64) (W2 W3 : MW), Ct l (.code yX7_checksum cX7_checksum 5 (some .long)) yX7_checksum 4 0 0 [.ref 0] W (.inl (some (.long b))) W2 ∧ Ct l (.code yX8_checksum cX8_checksum 3 (some .long)) yX8_checksum 4 0 0 [.ref 68] W2 (.inl (some (.long b))) W3 ∧ LSt W3 0 f ∧ ∃ fs, mm_ob W2 68 7 fs ∧ mm_ob W 0 6 [.ref 1, .ref 10, .ref 19, .ref 66] := by
  obtain ⟨Q, U, H, t, ln, s, A, P, K, sv, pl, wr, dn, ha, n, rfl, S, R, hl, ht⟩ := h
  have hn := S.1.2.2.1
  have hI := Sim_qI S
  have m0 : mskB 7 0 = true := mskB_7 (by decide)
  have hQ0 := Sim_n S (k := 0) (by decide) m0
  have hx := R.1
  have hs := R.2.2.1
  have hk : H.2.2 ≤ 5 := by rw [R.2.1]; exact hs
  have h30 : (Q 0).1 ≤ 30 := by rw [hQ0]; exact hn
  have c1 : Ct l (.code yX7_checksum cX7_checksum 5 (some .long)) yX7_checksum 4 0 0 [.ref 0] (cW Q U H t ln s A P K (tI t) (nI sv, rf, nI ln, pl, wr, dn, ha) f) (.inl (some (.long (sumA A n ln sv)))) (cW Q U H t ln s A P K (tI t) (nI sv, rf, nI ln, pl, wr, dn, ha) f) := ct_w (c_sum l cW_hw hI) rfl rfl (by rw [ob_sum S (ob_set S), R.2.1])
  exact ⟨(sumA A n ln sv), _, _, c1, cM (m_checksum l cW_hp S.1), ⟨_, _, _, _, _, _, _, _, _, _, _, _, _, _, _, rfl, S, R, hl, ht⟩, _, cW_obm, cW_ob⟩
