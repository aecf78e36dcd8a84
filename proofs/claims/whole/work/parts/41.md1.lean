theorem m_thrown (l : Launch) {w : MW} {p : Nat} {A P K T : Nat → Int32} {x : XS} (hp : p + 4 < w.1) : Ct l (.code yX8_thrown cX8_thrown 1 (some .int)) yX8_thrown 0 0 0 [.ref p] (mdW w p A P K T x) (.inl (some (.int x.2.1))) (mdW w p A P K T x) := by
  refine ct_of (by decide +kernel) (Nat.le_of_ble_eq_true rfl) ?_
  refine go_aload_n dX8_thrown_0 rfl ?_
  refine go_getfield dX8_thrown_1 f_X8_22_7 (mdW_ob hp) rfl ?_
  exact go_ireturn dX8_thrown_4 rfl rfl
theorem m_refused (l : Launch) {w : MW} {p : Nat} {A P K T : Nat → Int32} {x : XS} (hp : p + 4 < w.1) {r : Int32} : Ct l (.code yX8_refused cX8_refused 2 (some .boolean)) yX8_refused 0 0 0 [.ref p, .int r] (mdW w p A P K T x) (.inl (some (.int (bI (decide (0 < r)))))) (mdW w p A P K T (x.1, r, x.2.2.1, x.2.2.2.1, x.2.2.2.2.1, x.2.2.2.2.2.1, x.2.2.2.2.2.2)) := by
  refine ct_of (by decide +kernel) (Nat.le_of_ble_eq_true rfl) ?_
  refine go_aload_n dX8_refused_0 rfl ?_
  refine go_iload_n dX8_refused_1 rfl ?_
  refine go_putfield dX8_refused_2 p_X8_22_7 (mdW_ob hp) (Nat.le_of_ble_eq_true rfl) (fun _ => ⟨rfl, rfl⟩) (fun _ z => nomatch z) ?_
  refine go_w _ (mdW_uX (x.1, r, x.2.2.1, x.2.2.2.1, x.2.2.2.2.1, x.2.2.2.2.2.1, x.2.2.2.2.2.2)) ?_
  refine go_iload_n dX8_refused_5 rfl ?_
  refine go_if_le 13 dX8_refused_6 (by decide) (fun q6 => ?_) (fun q6 => ?_)
  · rw [decide_eq_false (Int32.not_lt.mpr q6)]
    refine go_iconst 0 dX8_refused_13 (by decide) ?_
    exact go_ireturn dX8_refused_14 rfl (by first | exact nar_b true | exact nar_b false)
  · rw [decide_eq_true (Int32.not_le.mp q6)]
    refine go_iconst 1 dX8_refused_9 (by decide) ?_
    refine go_goto 14 dX8_refused_10 (by decide) ?_
    exact go_ireturn dX8_refused_14 rfl (by first | exact nar_b true | exact nar_b false)
theorem m_within (l : Launch) {w : MW} {a b c : Int32} : Ct l (.code yX8_within cX8_within 3 (some .boolean)) yX8_within 0 0 0 [.int a, .int b, .int c] w (.inl (some (.int (bI (decide (b ≤ a) && decide (a ≤ c)))))) w := by
  refine ct_of (by decide +kernel) (Nat.le_of_ble_eq_true rfl) ?_
  refine go_iload_n dX8_within_0 rfl ?_
  refine go_iload_n dX8_within_1 rfl ?_
  refine go_icmp_lt 14 dX8_within_2 (by decide) (fun q2 => ?_) (fun q2 => ?_)
  · rw [decide_eq_false (Int32.not_le.mpr q2), Bool.false_and]
    refine go_iconst 0 dX8_within_14 (by decide) ?_
    exact go_ireturn dX8_within_15 rfl (by first | exact nar_b true | exact nar_b false)
  · refine go_iload_n dX8_within_5 rfl ?_
    refine go_iload_n dX8_within_6 rfl ?_
    refine go_icmp_gt 14 dX8_within_7 (by decide) (fun q7 => ?_) (fun q7 => ?_)
    · rw [decide_eq_false (p := a ≤ c) (Int32.not_le.mpr q7), Bool.and_false]
      refine go_iconst 0 dX8_within_14 (by decide) ?_
      exact go_ireturn dX8_within_15 rfl (by first | exact nar_b true | exact nar_b false)
    · rw [decide_eq_true (Int32.not_lt.mp q2), decide_eq_true (Int32.not_lt.mp q7)]
      refine go_iconst 1 dX8_within_10 (by decide) ?_
      refine go_goto 15 dX8_within_11 (by decide) ?_
      exact go_ireturn dX8_within_15 rfl (by first | exact nar_b true | exact nar_b false)
theorem m_many (l : Launch) {w : MW} {p : Nat} {A P K T : Nat → Int32} {x : XS} (hp : p + 4 < w.1) : Ct l (.code yX8_many cX8_many 1 (some .int)) yX8_many 0 0 0 [.ref p] (mdW w p A P K T x) (.inl (some (.int (A 180)))) (mdW w p A P K T x) := by
  refine ct_of (by decide +kernel) (Nat.le_of_ble_eq_true rfl) ?_
  refine go_aload_n dX8_many_0 rfl ?_
  refine go_getfield dX8_many_1 f_X8_7_7 (mdW_ob hp) rfl ?_
  refine go_sipush 180 dX8_many_4 (by decide) ?_
  refine go_iaload (180) dX8_many_7 (mdW_A hp) rfl (by omega) (by decide) ?_
  exact go_ireturn dX8_many_8 rfl rfl
theorem m_item (l : Launch) {w : MW} {p : Nat} {A P K T : Nat → Int32} {x : XS} (hp : p + 4 < w.1) {k i : Nat} (hk : k < 4) (hi : i < 30) : Ct l (.code yX8_item cX8_item 3 (some .int)) yX8_item 0 0 0 [.ref p, .int (nI k), .int (nI i)] (mdW w p A P K T x) (.inl (some (.int (A (60 + 30 * k + i))))) (mdW w p A P K T x) := by
  refine ct_of (by decide +kernel) (Nat.le_of_ble_eq_true rfl) ?_
  refine go_aload_n dX8_item_0 rfl ?_
  refine go_getfield dX8_item_1 f_X8_7_7 (mdW_ob hp) rfl ?_
  refine go_bipush 60 dX8_item_4 (by decide) ?_
  refine go_bipush 30 dX8_item_6 (by decide) ?_
  refine go_iload_n dX8_item_8 rfl ?_
  refine go_imul dX8_item_9 ?_
  refine go_iadd dX8_item_10 ?_
  refine go_iload_n dX8_item_11 rfl ?_
  refine go_iadd dX8_item_12 ?_
  rw [a_row]
  refine go_iaload (60 + 30 * k + i) dX8_item_13 (mdW_A hp) rfl (by omega) (by decide) ?_
  exact go_ireturn dX8_item_14 rfl rfl
theorem m_lays (l : Launch) {w : MW} {p : Nat} {A P K T : Nat → Int32} {x : XS} (hp : p + 4 < w.1) {k i : Nat} {v : Int32} (hk : k < 4) (hi : i < 30) : Ct l (.code yX8_lays cX8_lays 4 none) yX8_lays 0 0 0 [.ref p, .int (nI k), .int (nI i), .int v] (mdW w p A P K T x) (.inl none) (mdW w p (upd A (60 + 30 * k + i) v) P K T x) := by
  refine ct_of (by decide +kernel) (Nat.le_of_ble_eq_true rfl) ?_
  refine go_aload_n dX8_lays_0 rfl ?_
  refine go_getfield dX8_lays_1 f_X8_7_7 (mdW_ob hp) rfl ?_
  refine go_bipush 60 dX8_lays_4 (by decide) ?_
  refine go_bipush 30 dX8_lays_6 (by decide) ?_
  refine go_iload_n dX8_lays_8 rfl ?_
  refine go_imul dX8_lays_9 ?_
  refine go_iadd dX8_lays_10 ?_
  refine go_iload_n dX8_lays_11 rfl ?_
  refine go_iadd dX8_lays_12 ?_
  refine go_iload_n dX8_lays_13 rfl ?_
  rw [a_row]
  refine go_iastore (60 + 30 * k + i) dX8_lays_14 (mdW_A hp) rfl (by omega) (by decide) ?_
  refine go_w _ (mdW_uA (upd A (60 + 30 * k + i) v)) ?_
  exact go_return dX8_lays_15 rfl
def itB (A : Nat → Int32) (h : Int32) : Bool := (decide (0 ≤ h) && decide (h ≤ 29)) && decide (A (30 + h.toNatClampNeg) = 1)
theorem m_isItem (l : Launch) {w : MW} {p : Nat} {A P K T : Nat → Int32} {x : XS} (hp : p + 4 < w.1) {h : Int32} : Ct l (.code yX8_isItem cX8_isItem 2 (some .boolean)) yX8_isItem 1 0 0 [.ref p, .int h] (mdW w p A P K T x) (.inl (some (.int (bI (itB A h))))) (mdW w p A P K T x) := by
  refine ct_of (by decide +kernel) (Nat.le_of_ble_eq_true rfl) ?_
  refine go_iload_n dX8_isItem_0 rfl ?_
  refine go_iconst 0 dX8_isItem_1 (by decide) ?_
  refine go_bipush 29 dX8_isItem_2 (by decide) ?_
  refine go_stat1 dX8_isItem_4 (m_within l) s_X8_33 kc_X8_within rfl rfl (Nat.le_of_ble_eq_true rfl) (Nat.le_of_ble_eq_true rfl) (Nat.le_of_ble_eq_true rfl) ?_
  refine go_if_eq 27 dX8_isItem_7 (by decide) (fun q7 => ?_) (fun q7 => ?_)
  · rw [show itB A h = false from by unfold itB; rw [bI_eq.mp q7]; rfl]
    refine go_iconst 0 dX8_isItem_27 (by decide) ?_
    exact go_ireturn dX8_isItem_28 rfl (by first | exact nar_b true | exact nar_b false)
  · have q8 := bI_ne.mp q7
    have q9 : 0 ≤ h ∧ h ≤ 29 := by simpa using q8
    obtain ⟨j, hj, ej⟩ := nI_of2 (M := 29) (n := 29) (by decide) (Int32.not_lt.mpr q9.1) q9.2
    have ec : h.toNatClampNeg = j := by rw [ej]; exact nI_clamp (by omega)
    refine go_aload_n dX8_isItem_10 rfl ?_
    refine go_getfield dX8_isItem_11 f_X8_7_7 (mdW_ob hp) rfl ?_
    refine go_bipush 30 dX8_isItem_14 (by decide) ?_
    refine go_iload_n dX8_isItem_16 rfl ?_
    refine go_iadd dX8_isItem_17 ?_
    refine go_iaload (30 + j) dX8_isItem_18 (mdW_A hp) (by rw [ej]; exact nI_add 30 j) (by omega) (by decide) ?_
    refine go_iconst 1 dX8_isItem_19 (by decide) ?_
    refine go_icmp_ne 27 dX8_isItem_20 (by decide) (fun q20 => ?_) (fun q20 => ?_)
    · rw [show itB A h = false from by unfold itB; rw [ec, decide_eq_false q20, Bool.and_false]]
      refine go_iconst 0 dX8_isItem_27 (by decide) ?_
      exact go_ireturn dX8_isItem_28 rfl (by first | exact nar_b true | exact nar_b false)
    · rw [show itB A h = true from by unfold itB; rw [q8, ec, decide_eq_true q20]; rfl]
      refine go_iconst 1 dX8_isItem_23 (by decide) ?_
      refine go_goto 28 dX8_isItem_24 (by decide) ?_
      exact go_ireturn dX8_isItem_28 rfl (by first | exact nar_b true | exact nar_b false)
theorem m_isLayout (l : Launch) {w : MW} {a : Int32} : Ct l (.code yX8_isLayout cX8_isLayout 1 (some .boolean)) yX8_isLayout 1 0 0 [.int a] w (.inl (some (.int (bI (decide (0 ≤ a) && decide (a ≤ 3)))))) w := by
  refine ct_of (by decide +kernel) (Nat.le_of_ble_eq_true rfl) ?_
  refine go_iload_n dX8_isLayout_0 rfl ?_
  refine go_iconst 0 dX8_isLayout_1 (by decide) ?_
  refine go_iconst 3 dX8_isLayout_2 (by decide) ?_
  refine go_stat1 dX8_isLayout_3 (m_within l) s_X8_33 kc_X8_within rfl rfl (Nat.le_of_ble_eq_true rfl) (Nat.le_of_ble_eq_true rfl) (Nat.le_of_ble_eq_true rfl) ?_
  exact go_ireturn dX8_isLayout_6 rfl (nar_b _)
theorem m_isLess (l : Launch) {w : MW} {p : Nat} {A P K T : Nat → Int32} {x : XS} (hp : p + 4 < w.1) {x1 x2 : Int32} (h1 : okH x1) (h2 : okH x2) : Ct l (.code yX8_isLess cX8_isLess 3 (some .boolean)) yX8_isLess 0 0 0 [.ref p, .int x1, .int x2] (mdW w p A P K T x) (.inl (some (.int (bI (ltA A x1 x2))))) (mdW w p A P K T x) := by
  refine ct_of (by decide +kernel) (Nat.le_of_ble_eq_true rfl) ?_
  obtain ⟨a, ha, rfl⟩ := h1
  obtain ⟨b, hb, rfl⟩ := h2
  refine go_aload_n dX8_isLess_0 rfl ?_
  refine go_getfield dX8_isLess_1 f_X8_7_7 (mdW_ob hp) rfl ?_
  refine go_iload_n dX8_isLess_4 rfl ?_
  refine go_iaload (a) dX8_isLess_5 (mdW_A hp) rfl (by omega) (by decide) ?_
  refine go_aload_n dX8_isLess_6 rfl ?_
  refine go_getfield dX8_isLess_7 f_X8_7_7 (mdW_ob hp) rfl ?_
  refine go_iload_n dX8_isLess_10 rfl ?_
  refine go_iaload (b) dX8_isLess_11 (mdW_A hp) rfl (by omega) (by decide) ?_
  refine go_icmp_eq 38 dX8_isLess_12 (by decide) (fun q12 => ?_) (fun q12 => ?_)
  · refine go_iload_n dX8_isLess_38 rfl ?_
    refine go_iload_n dX8_isLess_39 rfl ?_
    refine go_icmp_ge 47 dX8_isLess_40 (by decide) (fun q40 => ?_) (fun q40 => ?_)
    · rw [show ltA A (nI a) (nI b) = false from by simp only [ltA, nI_clamp (show a < 2 ^ 31 by omega), nI_clamp (show b < 2 ^ 31 by omega)]; rw [if_pos q12, decide_eq_false (Int32.not_lt.mpr q40)]]
      refine go_iconst 0 dX8_isLess_47 (by decide) ?_
      exact go_ireturn dX8_isLess_48 rfl (by first | exact nar_b true | exact nar_b false)
    · rw [show ltA A (nI a) (nI b) = true from by simp only [ltA, nI_clamp (show a < 2 ^ 31 by omega), nI_clamp (show b < 2 ^ 31 by omega)]; rw [if_pos q12, decide_eq_true (Int32.not_le.mp q40)]]
      refine go_iconst 1 dX8_isLess_43 (by decide) ?_
      refine go_goto 48 dX8_isLess_44 (by decide) ?_
      exact go_ireturn dX8_isLess_48 rfl (by first | exact nar_b true | exact nar_b false)
  · refine go_aload_n dX8_isLess_15 rfl ?_
    refine go_getfield dX8_isLess_16 f_X8_7_7 (mdW_ob hp) rfl ?_
    refine go_iload_n dX8_isLess_19 rfl ?_
    refine go_iaload (a) dX8_isLess_20 (mdW_A hp) rfl (by omega) (by decide) ?_
    refine go_aload_n dX8_isLess_21 rfl ?_
    refine go_getfield dX8_isLess_22 f_X8_7_7 (mdW_ob hp) rfl ?_
    refine go_iload_n dX8_isLess_25 rfl ?_
    refine go_iaload (b) dX8_isLess_26 (mdW_A hp) rfl (by omega) (by decide) ?_
    refine go_icmp_ge 34 dX8_isLess_27 (by decide) (fun q27 => ?_) (fun q27 => ?_)
    · rw [show ltA A (nI a) (nI b) = false from by simp only [ltA, nI_clamp (show a < 2 ^ 31 by omega), nI_clamp (show b < 2 ^ 31 by omega)]; rw [if_neg q12, decide_eq_false (Int32.not_lt.mpr q27)]]
      refine go_iconst 0 dX8_isLess_34 (by decide) ?_
      refine go_goto 48 dX8_isLess_35 (by decide) ?_
      exact go_ireturn dX8_isLess_48 rfl (by first | exact nar_b true | exact nar_b false)
    · rw [show ltA A (nI a) (nI b) = true from by simp only [ltA, nI_clamp (show a < 2 ^ 31 by omega), nI_clamp (show b < 2 ^ 31 by omega)]; rw [if_neg q12, decide_eq_true (Int32.not_le.mp q27)]]
      refine go_iconst 1 dX8_isLess_30 (by decide) ?_
      refine go_goto 48 dX8_isLess_31 (by decide) ?_
      exact go_ireturn dX8_isLess_48 rfl (by first | exact nar_b true | exact nar_b false)
theorem m_less (l : Launch) {w : MW} {p : Nat} {A P K T : Nat → Int32} {x : XS} (hp : p + 4 < w.1) {k : Nat} {s : QS} (hk : k < 4) (hr : rowOK s.1) {a b : Nat} (ha : a < 30) (hb : b < 30) : Ct l (.code yX8_less cX8_less 4 (some .boolean)) yX8_less 1 0 0 [.ref p, .int (nI k), .int (nI a), .int (nI b)] (mdW w p (setL A k s) P K T x) (.inl (some (.int (bI (ltA A (s.1 a) (s.1 b)))))) (mdW w p (setL A k (s.1, s.2 + 1)) P K T x) := by
  refine ct_of (by decide +kernel) (Nat.le_of_ble_eq_true rfl) ?_
  by_cases e : k < 2
  · skip
    refine go_aload_n dX8_less_0 rfl ?_
    refine go_getfield dX8_less_1 f_X8_7_7 (mdW_ob hp) rfl ?_
    refine go_sipush 181 dX8_less_4 (by decide) ?_
    refine go_iload_n dX8_less_7 rfl ?_
    refine go_iconst 2 dX8_less_8 (by decide) ?_
    refine go_icmp_ge_f 16 dX8_less_9 (by decide) (n_nle (a := 2) e (by decide)) ?_
    refine go_iload_n dX8_less_12 rfl ?_
    refine go_goto 17 dX8_less_13 (by decide) ?_
    refine go_iadd dX8_less_17 ?_
    refine go_top (.int (nI (181 + cq k))) (congrArg Value.int (by rw [show cq k = k from if_pos e]; exact nI_add 181 k)) ?_
    refine go_dup2 dX8_less_18 rfl rfl ?_
    refine go_iaload (181 + cq k) dX8_less_19 (mdW_A hp) rfl (by have := cq_lt k; omega) (by decide) ?_
    rw [setL_cnt hk]
    refine go_iconst 1 dX8_less_20 (by decide) ?_
    refine go_iadd dX8_less_21 ?_
    refine go_iastore (181 + cq k) dX8_less_22 (mdW_A hp) rfl (by have := cq_lt k; omega) (by decide) ?_
    refine go_w _ ((mdW_uA _).trans (by rw [setL_uC hk])) ?_
    refine go_aload_n dX8_less_23 rfl ?_
    refine go_aload_n dX8_less_24 rfl ?_
    refine go_iload_n dX8_less_25 rfl ?_
    refine go_iload_n dX8_less_26 rfl ?_
    refine go_virt1 dX8_less_27 (m_item l hp hk ha) v_X8_37_7 rfl (mdW_ob hp) rfl (Nat.le_of_ble_eq_true rfl) (Nat.le_of_ble_eq_true rfl) (Nat.le_of_ble_eq_true rfl) ?_
    rw [setL_row ha]
    refine go_aload_n dX8_less_30 rfl ?_
    refine go_iload_n dX8_less_31 rfl ?_
    refine go_iload_n dX8_less_32 rfl ?_
    refine go_virt1 dX8_less_33 (m_item l hp hk hb) v_X8_37_7 rfl (mdW_ob hp) rfl (Nat.le_of_ble_eq_true rfl) (Nat.le_of_ble_eq_true rfl) (Nat.le_of_ble_eq_true rfl) ?_
    rw [setL_row hb]
    refine go_virt1 dX8_less_36 (m_isLess l hp (hr a ha) (hr b hb)) v_X8_41_7 rfl (mdW_ob hp) rfl (Nat.le_of_ble_eq_true rfl) (Nat.le_of_ble_eq_true rfl) (Nat.le_of_ble_eq_true rfl) ?_
    rw [ltA_set (hr a ha) (hr b hb)]
    exact go_ireturn dX8_less_39 rfl (nar_b _)
  · skip
    refine go_aload_n dX8_less_0 rfl ?_
    refine go_getfield dX8_less_1 f_X8_7_7 (mdW_ob hp) rfl ?_
    refine go_sipush 181 dX8_less_4 (by decide) ?_
    refine go_iload_n dX8_less_7 rfl ?_
    refine go_iconst 2 dX8_less_8 (by decide) ?_
    refine go_icmp_ge_t 16 dX8_less_9 (by decide) (nI_le (a := 2) (by omega) (by omega)) ?_
    refine go_iconst 2 dX8_less_16 (by decide) ?_
    refine go_iadd dX8_less_17 ?_
    refine go_top (.int (nI (181 + cq k))) (congrArg Value.int (by rw [show cq k = 2 from if_neg e]; rfl)) ?_
    refine go_dup2 dX8_less_18 rfl rfl ?_
    refine go_iaload (181 + cq k) dX8_less_19 (mdW_A hp) rfl (by have := cq_lt k; omega) (by decide) ?_
    rw [setL_cnt hk]
    refine go_iconst 1 dX8_less_20 (by decide) ?_
    refine go_iadd dX8_less_21 ?_
    refine go_iastore (181 + cq k) dX8_less_22 (mdW_A hp) rfl (by have := cq_lt k; omega) (by decide) ?_
    refine go_w _ ((mdW_uA _).trans (by rw [setL_uC hk])) ?_
    refine go_aload_n dX8_less_23 rfl ?_
    refine go_aload_n dX8_less_24 rfl ?_
    refine go_iload_n dX8_less_25 rfl ?_
    refine go_iload_n dX8_less_26 rfl ?_
    refine go_virt1 dX8_less_27 (m_item l hp hk ha) v_X8_37_7 rfl (mdW_ob hp) rfl (Nat.le_of_ble_eq_true rfl) (Nat.le_of_ble_eq_true rfl) (Nat.le_of_ble_eq_true rfl) ?_
    rw [setL_row ha]
    refine go_aload_n dX8_less_30 rfl ?_
    refine go_iload_n dX8_less_31 rfl ?_
    refine go_iload_n dX8_less_32 rfl ?_
    refine go_virt1 dX8_less_33 (m_item l hp hk hb) v_X8_37_7 rfl (mdW_ob hp) rfl (Nat.le_of_ble_eq_true rfl) (Nat.le_of_ble_eq_true rfl) (Nat.le_of_ble_eq_true rfl) ?_
    rw [setL_row hb]
    refine go_virt1 dX8_less_36 (m_isLess l hp (hr a ha) (hr b hb)) v_X8_41_7 rfl (mdW_ob hp) rfl (Nat.le_of_ble_eq_true rfl) (Nat.le_of_ble_eq_true rfl) (Nat.le_of_ble_eq_true rfl) ?_
    rw [ltA_set (hr a ha) (hr b hb)]
    exact go_ireturn dX8_less_39 rfl (nar_b _)
theorem m_exch (l : Launch) {w : MW} {p : Nat} {A P K T : Nat → Int32} {x : XS} (hp : p + 4 < w.1) {k : Nat} {s : QS} (hk : k < 4) {a b : Nat} (ha : a < 30) (hb : b < 30) : Ct l (.code yX8_exchange cX8_exchange 5 none) yX8_exchange 1 0 0 [.ref p, .int (nI k), .int (nI a), .int (nI b)] (mdW w p (setL A k s) P K T x) (.inl none) (mdW w p (setL A k (sw s.1 a b, s.2)) P K T x) := by
  refine ct_of (by decide +kernel) (Nat.le_of_ble_eq_true rfl) ?_
  refine go_aload_n dX8_exchange_0 rfl ?_
  refine go_iload_n dX8_exchange_1 rfl ?_
  refine go_iload_n dX8_exchange_2 rfl ?_
  refine go_virt1 dX8_exchange_3 (m_item l hp hk ha) v_X8_37_7 rfl (mdW_ob hp) rfl (Nat.le_of_ble_eq_true rfl) (Nat.le_of_ble_eq_true rfl) (Nat.le_of_ble_eq_true rfl) ?_
  rw [setL_row ha]
  refine go_istore dX8_exchange_6 (Nat.le_of_ble_eq_true rfl) rfl ?_
  refine go_aload_n dX8_exchange_8 rfl ?_
  refine go_iload_n dX8_exchange_9 rfl ?_
  refine go_iload_n dX8_exchange_10 rfl ?_
  refine go_aload_n dX8_exchange_11 rfl ?_
  refine go_iload_n dX8_exchange_12 rfl ?_
  refine go_iload_n dX8_exchange_13 rfl ?_
  refine go_virt1 dX8_exchange_14 (m_item l hp hk hb) v_X8_37_7 rfl (mdW_ob hp) rfl (Nat.le_of_ble_eq_true rfl) (Nat.le_of_ble_eq_true rfl) (Nat.le_of_ble_eq_true rfl) ?_
  rw [setL_row hb]
  refine go_virt0 dX8_exchange_17 (m_lays l hp hk ha) v_X8_45_7 rfl (mdW_ob hp) rfl (Nat.le_of_ble_eq_true rfl) (Nat.le_of_ble_eq_true rfl) (Nat.le_of_ble_eq_true rfl) ?_
  rw [setL_uR hk ha]
  refine go_aload_n dX8_exchange_20 rfl ?_
  refine go_iload_n dX8_exchange_21 rfl ?_
  refine go_iload_n dX8_exchange_22 rfl ?_
  refine go_iload dX8_exchange_23 rfl ?_
  refine go_virt0 dX8_exchange_25 (m_lays l hp hk hb) v_X8_45_7 rfl (mdW_ob hp) rfl (Nat.le_of_ble_eq_true rfl) (Nat.le_of_ble_eq_true rfl) (Nat.le_of_ble_eq_true rfl) ?_
  rw [setL_uR hk hb]
  exact go_return dX8_exchange_28 rfl
