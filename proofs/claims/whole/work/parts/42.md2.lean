theorem a_2c (k : Nat) : nI k * 2 = nI (2 * k) := by rw [a_2r, Nat.mul_comm]
theorem m_topOf (l : Launch) {w : MW} {p : Nat} {A P K T : Nat → Int32} {x : XS} (hp : p + 4 < w.1) {k n : Nat} (hk : k < 1000) (hn : n ≤ 30) : Ct l (.code yX8_topOf cX8_topOf 3 (some .int)) yX8_topOf 0 0 0 [.ref p, .int (nI k), .int (nI n)] (mdW w p A P K T x) (.inl (some (.int (nI (topN n k))))) (mdW w p A P K T x) := by
  refine ct_of (by decide +kernel) (Nat.le_of_ble_eq_true rfl) ?_
  refine go_iconst 2 dX8_topOf_0 (by decide) ?_
  refine go_iload_n dX8_topOf_1 rfl ?_
  refine go_imul dX8_topOf_2 ?_
  refine go_iconst 1 dX8_topOf_3 (by decide) ?_
  refine go_iadd dX8_topOf_4 ?_
  rw [a_2, a_k1]
  refine go_iload_n dX8_topOf_5 rfl ?_
  refine go_icmp_ge 17 dX8_topOf_6 (by decide) (fun q6 => ?_) (fun q6 => ?_)
  · have z := n_le' q6 (by omega) (by omega)
    rw [show topN n k = 2 * k from if_neg (by omega)]
    refine go_iconst 2 dX8_topOf_17 (by decide) ?_
    refine go_iload_n dX8_topOf_18 rfl ?_
    refine go_imul dX8_topOf_19 ?_
    rw [a_2]
    exact go_ireturn dX8_topOf_20 rfl rfl
  · have z := n_lt' q6 (by omega)
    rw [show topN n k = 2 * k + 1 from if_pos z]
    refine go_iconst 2 dX8_topOf_9 (by decide) ?_
    refine go_iload_n dX8_topOf_10 rfl ?_
    refine go_imul dX8_topOf_11 ?_
    refine go_iconst 1 dX8_topOf_12 (by decide) ?_
    refine go_iadd dX8_topOf_13 ?_
    rw [a_2, a_k1]
    refine go_goto 20 dX8_topOf_14 (by decide) ?_
    exact go_ireturn dX8_topOf_20 rfl rfl
theorem m_orders (l : Launch) {w : MW} {p : Nat} {A P K T : Nat → Int32} {x : XS} (hp : p + 4 < w.1) {s : QS} (hr : rowOK s.1) {k n : Nat} (hk : k < 1000) (hn : n ≤ 30) : Ct l (.code yX8_orders cX8_orders 3 none) yX8_orders 2 0 0 [.ref p, .int (nI k), .int (nI n)] (mdW w p (setL A 0 s) P K T x) (.inl none) (mdW w p (setL A 0 (orderS (ltA A) n k s)) P K T x) := by
  refine ct_of (by decide +kernel) (Nat.le_of_ble_eq_true rfl) ?_
  refine go_iconst 2 dX8_orders_0 (by decide) ?_
  refine go_iload_n dX8_orders_1 rfl ?_
  refine go_imul dX8_orders_2 ?_
  refine go_iconst 1 dX8_orders_3 (by decide) ?_
  refine go_iadd dX8_orders_4 ?_
  rw [a_2, a_k1]
  refine go_iload_n dX8_orders_5 rfl ?_
  refine go_icmp_ge 38 dX8_orders_6 (by decide) (fun q6 => ?_) (fun q6 => ?_)
  · have z := n_le' q6 (by omega) (by omega)
    rw [show orderS (ltA A) n k s = s from if_neg (by omega)]
    exact go_return dX8_orders_38 rfl
  · have z := n_lt' q6 (by omega)
    refine go_aload_n dX8_orders_9 rfl ?_
    refine go_iconst 0 dX8_orders_10 (by decide) ?_
    refine go_iconst 2 dX8_orders_11 (by decide) ?_
    refine go_iload_n dX8_orders_12 rfl ?_
    refine go_imul dX8_orders_13 ?_
    refine go_iconst 1 dX8_orders_14 (by decide) ?_
    refine go_iadd dX8_orders_15 ?_
    rw [a_2, a_k1]
    refine go_iconst 2 dX8_orders_16 (by decide) ?_
    refine go_iload_n dX8_orders_17 rfl ?_
    refine go_imul dX8_orders_18 ?_
    rw [a_2]
    refine go_virt1 dX8_orders_19 (m_less l hp (k := 0)  (by omega) hr (a := 2 * k + 1) (b := 2 * k) (by omega) (by omega)) v_X8_52_7 rfl (mdW_ob hp) rfl (Nat.le_of_ble_eq_true rfl) (Nat.le_of_ble_eq_true rfl) (Nat.le_of_ble_eq_true rfl) ?_
    refine go_if_eq 38 dX8_orders_22 (by decide) (fun q22 => ?_) (fun q22 => ?_)
    · rw [show orderS (ltA A) n k s = (s.1, s.2 + 1) from by unfold orderS; rw [if_pos z, if_neg (bI_ff q22)]]
      exact go_return dX8_orders_38 rfl
    · rw [show orderS (ltA A) n k s = (sw s.1 (2 * k) (2 * k + 1), s.2 + 1) from by unfold orderS; rw [if_pos z, if_pos (bI_ne.mp q22), sw_comm]]
      refine go_aload_n dX8_orders_25 rfl ?_
      refine go_iconst 0 dX8_orders_26 (by decide) ?_
      refine go_iconst 2 dX8_orders_27 (by decide) ?_
      refine go_iload_n dX8_orders_28 rfl ?_
      refine go_imul dX8_orders_29 ?_
      rw [a_2]
      refine go_iconst 2 dX8_orders_30 (by decide) ?_
      refine go_iload_n dX8_orders_31 rfl ?_
      refine go_imul dX8_orders_32 ?_
      refine go_iconst 1 dX8_orders_33 (by decide) ?_
      refine go_iadd dX8_orders_34 ?_
      rw [a_2, a_k1]
      refine go_virt0 dX8_orders_35 (m_exch l hp (k := 0) (by omega) (a := 2 * k) (b := 2 * k + 1) (by omega) (by omega)) v_X8_55_7 rfl (mdW_ob hp) rfl (Nat.le_of_ble_eq_true rfl) (Nat.le_of_ble_eq_true rfl) (Nat.le_of_ble_eq_true rfl) ?_
      exact go_return dX8_orders_38 rfl
theorem orderS_ok {lt : QL} {n k : Nat} {s : QS} (hr : rowOK s.1) (hn : n ≤ 30) : rowOK (orderS lt n k s).1 := by
  unfold orderS
  split
  · split
    · exact rowOK_sw hr (by omega) (by omega)
    · exact hr
  · exact hr
theorem m_risesLow_2 (l : Launch) {w : MW} {p : Nat} {A P K T : Nat → Int32} {x : XS} (hp : p + 4 < w.1) : ∀ (u k : Nat) (s r : QS), k ≤ u → 2 * k < 30 → rowOK s.1 → r = riseLowS (ltA A) u k s → Go l yX8_risesLow cX8_risesLow 3 none [] none (mm_Z (mm_eq (.inl none) (mdW w p (setL A 0 r) P K T x))) 2 0 0 2 [(0, .ref p), (2, .int (nI k))] [] (mdW w p (setL A 0 s) P K T x) := by
  intro u
  induction u with
  | zero =>
    intro k s r hu hk hr hrr
    rw [hrr, riseLowS]
    refine go_iload_n dX8_risesLow_2 rfl ?_
    refine go_if_le_t 48 dX8_risesLow_3 (by decide) (by rw [show k = 0 by omega]; exact Int32.le_refl _) ?_
    exact go_return dX8_risesLow_48 rfl
  | succ u ih =>
    intro k s r hu hk hr hrr
    refine go_iload_n dX8_risesLow_2 rfl ?_
    refine go_if_le 48 dX8_risesLow_3 (by decide) (fun q3 => ?_) (fun q3 => ?_)
    · have z := n_le' (b := 0) q3 (by omega) (by decide)
      rw [hrr, show riseLowS (ltA A) (u + 1) k s = s from by rw [riseLowS, if_pos (by omega)]]
      exact go_return dX8_risesLow_48 rfl
    · have z := n_lt' (a := 0) q3 (by decide)
      refine go_aload_n dX8_risesLow_6 rfl ?_
      refine go_iconst 0 dX8_risesLow_7 (by decide) ?_
      refine go_iconst 2 dX8_risesLow_8 (by decide) ?_
      refine go_iload_n dX8_risesLow_9 rfl ?_
      refine go_imul dX8_risesLow_10 ?_
      rw [a_2]
      refine go_iload_n dX8_risesLow_11 rfl ?_
      refine go_iconst 1 dX8_risesLow_12 (by decide) ?_
      refine go_isub dX8_risesLow_13 ?_
      refine go_iconst 2 dX8_risesLow_14 (by decide) ?_
      refine go_idiv dX8_risesLow_15 (by decide) ?_
      refine go_iconst 2 dX8_risesLow_16 (by decide) ?_
      refine go_imul dX8_risesLow_17 ?_
      rw [a_par z (by omega), a_2c]
      refine go_virt1 dX8_risesLow_18 (m_less l hp (k := 0)  (by omega) hr (a := 2 * k) (b := 2 * ((k - 1) / 2)) (by omega) (by omega)) v_X8_52_7 rfl (mdW_ob hp) rfl (Nat.le_of_ble_eq_true rfl) (Nat.le_of_ble_eq_true rfl) (Nat.le_of_ble_eq_true rfl) ?_
      refine go_if_eq 48 dX8_risesLow_21 (by decide) (fun q21 => ?_) (fun q21 => ?_)
      · rw [hrr, show riseLowS (ltA A) (u + 1) k s = (s.1, s.2 + 1) from by rw [riseLowS, if_neg (by omega), if_neg (bI_ff q21)]]
        exact go_return dX8_risesLow_48 rfl
      · refine go_aload_n dX8_risesLow_24 rfl ?_
        refine go_iconst 0 dX8_risesLow_25 (by decide) ?_
        refine go_iconst 2 dX8_risesLow_26 (by decide) ?_
        refine go_iload_n dX8_risesLow_27 rfl ?_
        refine go_imul dX8_risesLow_28 ?_
        rw [a_2]
        refine go_iload_n dX8_risesLow_29 rfl ?_
        refine go_iconst 1 dX8_risesLow_30 (by decide) ?_
        refine go_isub dX8_risesLow_31 ?_
        refine go_iconst 2 dX8_risesLow_32 (by decide) ?_
        refine go_idiv dX8_risesLow_33 (by decide) ?_
        refine go_iconst 2 dX8_risesLow_34 (by decide) ?_
        refine go_imul dX8_risesLow_35 ?_
        rw [a_par z (by omega), a_2c]
        refine go_virt0 dX8_risesLow_36 (m_exch l hp (k := 0) (by omega) (a := 2 * k) (b := 2 * ((k - 1) / 2)) (by omega) (by omega)) v_X8_55_7 rfl (mdW_ob hp) rfl (Nat.le_of_ble_eq_true rfl) (Nat.le_of_ble_eq_true rfl) (Nat.le_of_ble_eq_true rfl) ?_
        refine go_iload_n dX8_risesLow_39 rfl ?_
        refine go_iconst 1 dX8_risesLow_40 (by decide) ?_
        refine go_isub dX8_risesLow_41 ?_
        refine go_iconst 2 dX8_risesLow_42 (by decide) ?_
        refine go_idiv dX8_risesLow_43 (by decide) ?_
        rw [a_par z (by omega)]
        refine go_istore_n dX8_risesLow_44 (Nat.le_of_ble_eq_true rfl) rfl ?_
        refine go_goto 2 dX8_risesLow_45 (by decide) ?_
        exact go_sub [(0, .ref p), (2, .int (nI ((k - 1) / 2)))] ⟨rfl, rfl, trivial⟩ (ih ((k - 1) / 2) (sw s.1 (2 * k) (2 * ((k - 1) / 2)), s.2 + 1) r (by omega) (by omega) (rowOK_sw hr (by omega) (by omega)) (by rw [hrr, riseLowS, if_neg (by omega), if_pos (bI_ne.mp q21)]))
theorem m_risesLow (l : Launch) {w : MW} {p : Nat} {A P K T : Nat → Int32} {x : XS} (hp : p + 4 < w.1) {s : QS} (hr : rowOK s.1) {k : Nat} (hk : 2 * k < 30) : Ct l (.code yX8_risesLow cX8_risesLow 3 none) yX8_risesLow 2 0 0 [.ref p, .int (nI k)] (mdW w p (setL A 0 s) P K T x) (.inl none) (mdW w p (setL A 0 (riseLowS (ltA A) 30 k s)) P K T x) := by
  refine ct_of (by decide +kernel) (Nat.le_of_ble_eq_true rfl) ?_
  refine go_iload_n dX8_risesLow_0 rfl ?_
  refine go_istore_n dX8_risesLow_1 (Nat.le_of_ble_eq_true rfl) rfl ?_
  exact go_sub [(0, .ref p), (2, .int (nI k))] ⟨rfl, rfl, trivial⟩ (m_risesLow_2 l hp 30 k s _ (by omega) hk hr rfl)
theorem riseLowS_ok {lt : QL} (u k : Nat) (s : QS) (hk : 2 * k < 30) (hr : rowOK s.1) : rowOK (riseLowS lt u k s).1 := by
  induction u generalizing k s with
  | zero => exact hr
  | succ u ih =>
    rw [riseLowS]
    split
    · exact hr
    · split
      · exact ih _ _ (by omega) (rowOK_sw hr (by omega) (by omega))
      · exact hr
theorem riseHighS_ok {lt : QL} (u k i : Nat) (s : QS) (hk : 2 * k < 30) (hi : i < 30) (hr : rowOK s.1) : rowOK (riseHighS lt u k i s).1 := by
  induction u generalizing k i s with
  | zero => exact hr
  | succ u ih =>
    rw [riseHighS]
    split
    · exact hr
    · split
      · exact ih _ _ _ (by omega) (by omega) (rowOK_sw hr (by omega) (by omega))
      · exact hr
theorem m_risesHigh_5 (l : Launch) {w : MW} {p : Nat} {A P K T : Nat → Int32} {x : XS} (hp : p + 4 < w.1) : ∀ (u k i : Nat) (s r : QS), k ≤ u → 2 * k < 30 → i < 30 → rowOK s.1 → r = riseHighS (ltA A) u k i s → Go l yX8_risesHigh cX8_risesHigh 6 none [] none (mm_Z (mm_eq (.inl none) (mdW w p (setL A 0 r) P K T x))) 2 0 0 5 [(0, .ref p), (3, .int (nI k)), (4, .int (nI i))] [] (mdW w p (setL A 0 s) P K T x) := by
  intro u
  induction u with
  | zero =>
    intro k i s r hu hk hi hr hrr
    rw [hrr, riseHighS]
    refine go_iload_n dX8_risesHigh_5 rfl ?_
    refine go_if_le_t 61 dX8_risesHigh_6 (by decide) (by rw [show k = 0 by omega]; exact Int32.le_refl _) ?_
    exact go_return dX8_risesHigh_61 rfl
  | succ u ih =>
    intro k i s r hu hk hi hr hrr
    refine go_iload_n dX8_risesHigh_5 rfl ?_
    refine go_if_le 61 dX8_risesHigh_6 (by decide) (fun q6 => ?_) (fun q6 => ?_)
    · have z := n_le' (b := 0) q6 (by omega) (by decide)
      rw [hrr, show riseHighS (ltA A) (u + 1) k i s = s from by rw [riseHighS, if_pos (by omega)]]
      exact go_return dX8_risesHigh_61 rfl
    · have z := n_lt' (a := 0) q6 (by decide)
      refine go_aload_n dX8_risesHigh_9 rfl ?_
      refine go_iconst 0 dX8_risesHigh_10 (by decide) ?_
      refine go_iload_n dX8_risesHigh_11 rfl ?_
      refine go_iconst 1 dX8_risesHigh_12 (by decide) ?_
      refine go_isub dX8_risesHigh_13 ?_
      refine go_iconst 2 dX8_risesHigh_14 (by decide) ?_
      refine go_idiv dX8_risesHigh_15 (by decide) ?_
      refine go_iconst 2 dX8_risesHigh_16 (by decide) ?_
      refine go_imul dX8_risesHigh_17 ?_
      refine go_iconst 1 dX8_risesHigh_18 (by decide) ?_
      refine go_iadd dX8_risesHigh_19 ?_
      rw [a_par z (by omega), a_2c, a_k1]
      refine go_iload dX8_risesHigh_20 rfl ?_
      refine go_virt1 dX8_risesHigh_22 (m_less l hp (k := 0)  (by omega) hr (a := 2 * ((k - 1) / 2) + 1) (b := i) (by omega) hi) v_X8_52_7 rfl (mdW_ob hp) rfl (Nat.le_of_ble_eq_true rfl) (Nat.le_of_ble_eq_true rfl) (Nat.le_of_ble_eq_true rfl) ?_
      refine go_if_eq 61 dX8_risesHigh_25 (by decide) (fun q25 => ?_) (fun q25 => ?_)
      · rw [hrr, show riseHighS (ltA A) (u + 1) k i s = (s.1, s.2 + 1) from by rw [riseHighS, if_neg (by omega), if_neg (bI_ff q25)]]
        exact go_return dX8_risesHigh_61 rfl
      · refine go_iload_n dX8_risesHigh_28 rfl ?_
        refine go_iconst 1 dX8_risesHigh_29 (by decide) ?_
        refine go_isub dX8_risesHigh_30 ?_
        refine go_iconst 2 dX8_risesHigh_31 (by decide) ?_
        refine go_idiv dX8_risesHigh_32 (by decide) ?_
        refine go_iconst 2 dX8_risesHigh_33 (by decide) ?_
        refine go_imul dX8_risesHigh_34 ?_
        refine go_iconst 1 dX8_risesHigh_35 (by decide) ?_
        refine go_iadd dX8_risesHigh_36 ?_
        rw [a_par z (by omega), a_2c, a_k1]
        refine go_istore dX8_risesHigh_37 (Nat.le_of_ble_eq_true rfl) rfl ?_
        refine go_aload_n dX8_risesHigh_39 rfl ?_
        refine go_iconst 0 dX8_risesHigh_40 (by decide) ?_
        refine go_iload dX8_risesHigh_41 rfl ?_
        refine go_iload dX8_risesHigh_43 rfl ?_
        refine go_virt0 dX8_risesHigh_45 (m_exch l hp (k := 0) (by omega) (a := 2 * ((k - 1) / 2) + 1) (b := i) (by omega) hi) v_X8_55_7 rfl (mdW_ob hp) rfl (Nat.le_of_ble_eq_true rfl) (Nat.le_of_ble_eq_true rfl) (Nat.le_of_ble_eq_true rfl) ?_
        refine go_iload_n dX8_risesHigh_48 rfl ?_
        refine go_iconst 1 dX8_risesHigh_49 (by decide) ?_
        refine go_isub dX8_risesHigh_50 ?_
        refine go_iconst 2 dX8_risesHigh_51 (by decide) ?_
        refine go_idiv dX8_risesHigh_52 (by decide) ?_
        rw [a_par z (by omega)]
        refine go_istore_n dX8_risesHigh_53 (Nat.le_of_ble_eq_true rfl) rfl ?_
        refine go_iload dX8_risesHigh_54 rfl ?_
        refine go_istore dX8_risesHigh_56 (Nat.le_of_ble_eq_true rfl) rfl ?_
        refine go_goto 5 dX8_risesHigh_58 (by decide) ?_
        exact go_sub [(0, .ref p), (3, .int (nI ((k - 1) / 2))), (4, .int (nI (2 * ((k - 1) / 2) + 1)))] ⟨rfl, rfl, rfl, trivial⟩ (ih ((k - 1) / 2) (2 * ((k - 1) / 2) + 1) (sw s.1 (2 * ((k - 1) / 2) + 1) i, s.2 + 1) r (by omega) (by omega) (by omega) (rowOK_sw hr (by omega) hi) (by rw [hrr, riseHighS, if_neg (by omega), if_pos (bI_ne.mp q25)]))
theorem m_risesHigh (l : Launch) {w : MW} {p : Nat} {A P K T : Nat → Int32} {x : XS} (hp : p + 4 < w.1) {s : QS} (hr : rowOK s.1) {k i : Nat} (hk : 2 * k < 30) (hi : i < 30) : Ct l (.code yX8_risesHigh cX8_risesHigh 6 none) yX8_risesHigh 2 0 0 [.ref p, .int (nI k), .int (nI i)] (mdW w p (setL A 0 s) P K T x) (.inl none) (mdW w p (setL A 0 (riseHighS (ltA A) 30 k i s)) P K T x) := by
  refine ct_of (by decide +kernel) (Nat.le_of_ble_eq_true rfl) ?_
  refine go_iload_n dX8_risesHigh_0 rfl ?_
  refine go_istore_n dX8_risesHigh_1 (Nat.le_of_ble_eq_true rfl) rfl ?_
  refine go_iload_n dX8_risesHigh_2 rfl ?_
  refine go_istore dX8_risesHigh_3 (Nat.le_of_ble_eq_true rfl) rfl ?_
  exact go_sub [(0, .ref p), (3, .int (nI k)), (4, .int (nI i))] ⟨rfl, rfl, rfl, trivial⟩ (m_risesHigh_5 l hp 30 k i s _ (by omega) hk hi hr rfl)
theorem bI_1 {b : Bool} (h : ¬ bI b = 0) : bI b = 1 := by rw [bI_ne.mp h]; rfl
theorem sinkLowS_s {lt : QL} {n u k : Nat} {s : QS} (h : 2 * (2 * k + 1) < n) {b p : Bool} (hb : decide (2 * (2 * k + 2) < n) = b) (hp : lt ((orderS lt n k s).1 (2 * (2 * k + 2))) ((orderS lt n k s).1 (2 * (2 * k + 1))) = p) : sinkLowS lt n (u + 1) k s = (if lt ((orderS lt n k s).1 (2 * chS b p k)) ((orderS lt n k s).1 (2 * k)) = true then sinkLowS lt n u (chS b p k) (sw (orderS lt n k s).1 (2 * chS b p k) (2 * k), (if b = true then (orderS lt n k s).2 + 1 else (orderS lt n k s).2) + 1) else ((orderS lt n k s).1, (if b = true then (orderS lt n k s).2 + 1 else (orderS lt n k s).2) + 1)) := by
  subst hb
  subst hp
  rw [sinkLowS]
  exact if_pos h
theorem sinkHighS_s {lt : QL} {n u k : Nat} {s : QS} (h : 2 * (2 * k + 1) < n) {b p : Bool} (hb : decide (2 * (2 * k + 2) < n) = b) (hp : lt ((orderS lt n k s).1 (topN n (2 * k + 1))) ((orderS lt n k s).1 (topN n (2 * k + 2))) = p) : sinkHighS lt n (u + 1) k s = (if lt ((orderS lt n k s).1 (topN n k)) ((orderS lt n k s).1 (topN n (chS b p k))) = true then sinkHighS lt n u (chS b p k) (sw (orderS lt n k s).1 (topN n k) (topN n (chS b p k)), (if b = true then (orderS lt n k s).2 + 1 else (orderS lt n k s).2) + 1) else ((orderS lt n k s).1, (if b = true then (orderS lt n k s).2 + 1 else (orderS lt n k s).2) + 1)) := by
  subst hb
  subst hp
  rw [sinkHighS]
  exact if_pos h
theorem sinkLowS_n {lt : QL} {n u k : Nat} {s : QS} (h : ¬ 2 * (2 * k + 1) < n) : sinkLowS lt n (u + 1) k s = orderS lt n k s := by
  rw [sinkLowS]
  exact if_neg h
theorem sinkHighS_n {lt : QL} {n u k : Nat} {s : QS} (h : ¬ 2 * (2 * k + 1) < n) : sinkHighS lt n (u + 1) k s = orderS lt n k s := by
  rw [sinkHighS]
  exact if_neg h
theorem m_sinksLow_e (l : Launch) {w : MW} {p : Nat} {A P K T : Nat → Int32} {x : XS} (hp : p + 4 < w.1) {r : QS} : Go l yX8_sinksLow cX8_sinksLow 6 none [] none (mm_Z (mm_eq (.inl none) (mdW w p (setL A 0 r) P K T x))) 3 0 0 5 [(0, .ref p), (4, .int 0)] [] (mdW w p (setL A 0 r) P K T x) := by
  refine go_iload dX8_sinksLow_5 rfl ?_
  refine go_if_eq_t 118 dX8_sinksLow_7 (by decide) (rfl) ?_
  exact go_return dX8_sinksLow_118 rfl
theorem m_sinksLow_5 (l : Launch) {w : MW} {p : Nat} {A P K T : Nat → Int32} {x : XS} (hp : p + 4 < w.1) {n : Nat} (hn : n ≤ 30) : ∀ (u k : Nat) (s r : QS), 15 ≤ u + k → k < 100 → rowOK s.1 → r = sinkLowS (ltA A) n u k s → Go l yX8_sinksLow cX8_sinksLow 6 none [] none (mm_Z (mm_eq (.inl none) (mdW w p (setL A 0 r) P K T x))) 3 0 0 5 [(0, .ref p), (2, .int (nI n)), (3, .int (nI k)), (4, .int 1)] [] (mdW w p (setL A 0 s) P K T x) := by
  intro u
  induction u with
  | zero =>
    intro k s r hu hk hr hrr
    have e9 : r = (orderS (ltA A) n k s) := hrr.trans (if_neg (show ¬ 2 * k + 1 < n by omega)).symm
    rw [e9]
    refine go_iload dX8_sinksLow_5 rfl ?_
    refine go_if_eq_f 118 dX8_sinksLow_7 (by decide) (by decide) ?_
    refine go_aload_n dX8_sinksLow_10 rfl ?_
    refine go_iload_n dX8_sinksLow_11 rfl ?_
    refine go_iload_n dX8_sinksLow_12 rfl ?_
    refine go_virt0 dX8_sinksLow_13 (m_orders l hp hr (by omega) hn) v_X8_58_7 rfl (mdW_ob hp) rfl (Nat.le_of_ble_eq_true rfl) (Nat.le_of_ble_eq_true rfl) (Nat.le_of_ble_eq_true rfl) ?_
    refine go_iconst 2 dX8_sinksLow_16 (by decide) ?_
    refine go_iload_n dX8_sinksLow_17 rfl ?_
    refine go_imul dX8_sinksLow_18 ?_
    refine go_iconst 1 dX8_sinksLow_19 (by decide) ?_
    refine go_iadd dX8_sinksLow_20 ?_
    rw [a_2, a_k1]
    refine go_istore dX8_sinksLow_21 (Nat.le_of_ble_eq_true rfl) rfl ?_
    refine go_iconst 2 dX8_sinksLow_23 (by decide) ?_
    refine go_iload dX8_sinksLow_24 rfl ?_
    refine go_imul dX8_sinksLow_26 ?_
    rw [a_2]
    refine go_iload_n dX8_sinksLow_27 rfl ?_
    refine go_icmp_ge_t 35 dX8_sinksLow_28 (by decide) (nI_le (by omega) (by omega)) ?_
    refine go_iconst 0 dX8_sinksLow_35 (by decide) ?_
    refine go_istore dX8_sinksLow_36 (Nat.le_of_ble_eq_true rfl) rfl ?_
    refine go_iload dX8_sinksLow_38 rfl ?_
    refine go_if_eq_t 95 dX8_sinksLow_40 (by decide) (rfl) ?_
    refine go_iload dX8_sinksLow_95 rfl ?_
    refine go_if_eq_t 115 dX8_sinksLow_97 (by decide) (rfl) ?_
    refine go_goto 5 dX8_sinksLow_115 (by decide) ?_
    exact go_sub [(0, .ref p), (4, .int 0)] ⟨rfl, rfl, trivial⟩ (m_sinksLow_e l hp)
  | succ u ih =>
    intro k s r hu hk hr hrr
    have hr1 := orderS_ok (lt := ltA A) (n := n) (k := k) hr hn
    by_cases h1 : 2 * (2 * k + 1) < n
    · skip
      have KK : ∀ (ch : Nat) (c1 : Int32), 2 * ch < n → k < ch → r = (if ltA A ((orderS (ltA A) n k s).1 (2 * ch)) ((orderS (ltA A) n k s).1 (2 * k)) = true then sinkLowS (ltA A) n u ch (sw (orderS (ltA A) n k s).1 (2 * ch) (2 * k), c1 + 1) else ((orderS (ltA A) n k s).1, c1 + 1)) → Go l yX8_sinksLow cX8_sinksLow 6 none [] none (mm_Z (mm_eq (.inl none) (mdW w p (setL A 0 r) P K T x))) 3 0 0 81 [(0, .ref p), (2, .int (nI n)), (3, .int (nI k)), (5, .int (nI ch))] [] (mdW w p (setL A 0 ((orderS (ltA A) n k s).1, c1)) P K T x) := by
        intro ch c1 hc hkc hE
        refine go_aload_n dX8_sinksLow_81 rfl ?_
        refine go_iconst 0 dX8_sinksLow_82 (by decide) ?_
        refine go_iconst 2 dX8_sinksLow_83 (by decide) ?_
        refine go_iload dX8_sinksLow_84 rfl ?_
        refine go_imul dX8_sinksLow_86 ?_
        rw [a_2]
        refine go_iconst 2 dX8_sinksLow_87 (by decide) ?_
        refine go_iload_n dX8_sinksLow_88 rfl ?_
        refine go_imul dX8_sinksLow_89 ?_
        rw [a_2]
        refine go_virt1 dX8_sinksLow_90 (m_less l hp (k := 0) (s := ((orderS (ltA A) n k s).1, c1)) (by omega) hr1 (a := 2 * ch) (b := 2 * k) (by omega) (by omega)) v_X8_52_7 rfl (mdW_ob hp) rfl (Nat.le_of_ble_eq_true rfl) (Nat.le_of_ble_eq_true rfl) (Nat.le_of_ble_eq_true rfl) ?_
        refine go_istore dX8_sinksLow_93 (Nat.le_of_ble_eq_true rfl) rfl ?_
        refine go_iload dX8_sinksLow_95 rfl ?_
        refine go_if_eq 115 dX8_sinksLow_97 (by decide) (fun q97 => ?_) (fun q97 => ?_)
        · rw [hE, if_neg (bI_ff q97)]
          refine go_goto 5 dX8_sinksLow_115 (by decide) ?_
          exact go_sub [(0, .ref p), (4, .int 0)] ⟨rfl, congrArg (fun z => some (Value.int z)) q97, trivial⟩ (m_sinksLow_e l hp)
        · refine go_aload_n dX8_sinksLow_100 rfl ?_
          refine go_iconst 0 dX8_sinksLow_101 (by decide) ?_
          refine go_iconst 2 dX8_sinksLow_102 (by decide) ?_
          refine go_iload dX8_sinksLow_103 rfl ?_
          refine go_imul dX8_sinksLow_105 ?_
          rw [a_2]
          refine go_iconst 2 dX8_sinksLow_106 (by decide) ?_
          refine go_iload_n dX8_sinksLow_107 rfl ?_
          refine go_imul dX8_sinksLow_108 ?_
          rw [a_2]
          refine go_virt0 dX8_sinksLow_109 (m_exch l hp (k := 0) (s := ((orderS (ltA A) n k s).1, c1 + 1)) (by omega) (a := 2 * ch) (b := 2 * k) (by omega) (by omega)) v_X8_55_7 rfl (mdW_ob hp) rfl (Nat.le_of_ble_eq_true rfl) (Nat.le_of_ble_eq_true rfl) (Nat.le_of_ble_eq_true rfl) ?_
          refine go_iload dX8_sinksLow_112 rfl ?_
          refine go_istore_n dX8_sinksLow_114 (Nat.le_of_ble_eq_true rfl) rfl ?_
          refine go_goto 5 dX8_sinksLow_115 (by decide) ?_
          exact go_sub [(0, .ref p), (2, .int (nI n)), (3, .int (nI ch)), (4, .int 1)] ⟨rfl, rfl, rfl, congrArg (fun z => some (Value.int z)) (bI_1 q97), trivial⟩ (ih ch (sw (orderS (ltA A) n k s).1 (2 * ch) (2 * k), c1 + 1) r (by omega) (by omega) (rowOK_sw hr1 (by omega) (by omega)) (by rw [hE, if_pos (bI_ne.mp q97)]))
      refine go_iload dX8_sinksLow_5 rfl ?_
      refine go_if_eq_f 118 dX8_sinksLow_7 (by decide) (by decide) ?_
      refine go_aload_n dX8_sinksLow_10 rfl ?_
      refine go_iload_n dX8_sinksLow_11 rfl ?_
      refine go_iload_n dX8_sinksLow_12 rfl ?_
      refine go_virt0 dX8_sinksLow_13 (m_orders l hp hr (by omega) hn) v_X8_58_7 rfl (mdW_ob hp) rfl (Nat.le_of_ble_eq_true rfl) (Nat.le_of_ble_eq_true rfl) (Nat.le_of_ble_eq_true rfl) ?_
      refine go_iconst 2 dX8_sinksLow_16 (by decide) ?_
      refine go_iload_n dX8_sinksLow_17 rfl ?_
      refine go_imul dX8_sinksLow_18 ?_
      refine go_iconst 1 dX8_sinksLow_19 (by decide) ?_
      refine go_iadd dX8_sinksLow_20 ?_
      rw [a_2, a_k1]
      refine go_istore dX8_sinksLow_21 (Nat.le_of_ble_eq_true rfl) rfl ?_
      refine go_iconst 2 dX8_sinksLow_23 (by decide) ?_
      refine go_iload dX8_sinksLow_24 rfl ?_
      refine go_imul dX8_sinksLow_26 ?_
      rw [a_2]
      refine go_iload_n dX8_sinksLow_27 rfl ?_
      refine go_icmp_ge_f 35 dX8_sinksLow_28 (by decide) (n_nle h1 (by omega)) ?_
      refine go_iconst 1 dX8_sinksLow_31 (by decide) ?_
      refine go_goto 36 dX8_sinksLow_32 (by decide) ?_
      refine go_istore dX8_sinksLow_36 (Nat.le_of_ble_eq_true rfl) rfl ?_
      refine go_iload dX8_sinksLow_38 rfl ?_
      refine go_if_eq_f 95 dX8_sinksLow_40 (by decide) (by decide) ?_
      refine go_iload dX8_sinksLow_43 rfl ?_
      refine go_iconst 2 dX8_sinksLow_45 (by decide) ?_
      refine go_iload dX8_sinksLow_46 rfl ?_
      refine go_iconst 1 dX8_sinksLow_48 (by decide) ?_
      refine go_iadd dX8_sinksLow_49 ?_
      rw [a_k1]
      refine go_imul dX8_sinksLow_50 ?_
      rw [a_2]
      refine go_iload_n dX8_sinksLow_51 rfl ?_
      refine go_icmp_ge 77 dX8_sinksLow_52 (by decide) (fun q52 => ?_) (fun q52 => ?_)
      · have z := n_le' q52 (by omega) (by omega)
        refine go_iconst 0 dX8_sinksLow_77 (by decide) ?_
        refine go_iadd dX8_sinksLow_78 ?_
        first | rw [a_k1] | rw [Int32.add_zero]
        refine go_istore dX8_sinksLow_79 (Nat.le_of_ble_eq_true rfl) rfl ?_
        exact go_sub [(0, .ref p), (2, .int (nI n)), (3, .int (nI k)), (5, .int (nI (2 * k + 1)))] ⟨rfl, rfl, rfl, rfl, trivial⟩ (KK (2 * k + 1) (orderS (ltA A) n k s).2 (by omega) (by omega) (hrr.trans (sinkLowS_s h1 (b := false) (p := _) (decide_eq_false (by omega)) rfl)))
      · have z := n_lt' q52 (by omega)
        refine go_aload_n dX8_sinksLow_55 rfl ?_
        refine go_iconst 0 dX8_sinksLow_56 (by decide) ?_
        refine go_iconst 2 dX8_sinksLow_57 (by decide) ?_
        refine go_iload dX8_sinksLow_58 rfl ?_
        refine go_imul dX8_sinksLow_60 ?_
        refine go_iconst 2 dX8_sinksLow_61 (by decide) ?_
        refine go_iadd dX8_sinksLow_62 ?_
        rw [a_2, a_k2, show 2 * (2 * k + 1) + 2 = 2 * (2 * k + 2) by omega]
        refine go_iconst 2 dX8_sinksLow_63 (by decide) ?_
        refine go_iload dX8_sinksLow_64 rfl ?_
        refine go_imul dX8_sinksLow_66 ?_
        rw [a_2]
        refine go_virt1 dX8_sinksLow_67 (m_less l hp (k := 0)  (by omega) hr1 (a := 2 * (2 * k + 2)) (b := 2 * (2 * k + 1)) (by omega) (by omega)) v_X8_52_7 rfl (mdW_ob hp) rfl (Nat.le_of_ble_eq_true rfl) (Nat.le_of_ble_eq_true rfl) (Nat.le_of_ble_eq_true rfl) ?_
        refine go_if_eq 77 dX8_sinksLow_70 (by decide) (fun q70 => ?_) (fun q70 => ?_)
        · have M1 := trivial
          refine go_iconst 0 dX8_sinksLow_77 (by decide) ?_
          refine go_iadd dX8_sinksLow_78 ?_
          first | rw [a_k1] | rw [Int32.add_zero]
          refine go_istore dX8_sinksLow_79 (Nat.le_of_ble_eq_true rfl) rfl ?_
          exact go_sub [(0, .ref p), (2, .int (nI n)), (3, .int (nI k)), (5, .int (nI (2 * k + 1)))] ⟨rfl, rfl, rfl, rfl, trivial⟩ (KK (2 * k + 1) ((orderS (ltA A) n k s).2 + 1) (by omega) (by omega) (hrr.trans (sinkLowS_s h1 (b := true) (p := false) (decide_eq_true (by omega)) (bI_eq.mp q70))))
        · have M2 := trivial
          refine go_iconst 1 dX8_sinksLow_73 (by decide) ?_
          refine go_goto 78 dX8_sinksLow_74 (by decide) ?_
          refine go_iadd dX8_sinksLow_78 ?_
          first | rw [a_k1] | rw [Int32.add_zero]
          refine go_istore dX8_sinksLow_79 (Nat.le_of_ble_eq_true rfl) rfl ?_
          exact go_sub [(0, .ref p), (2, .int (nI n)), (3, .int (nI k)), (5, .int (nI (2 * k + 2)))] ⟨rfl, rfl, rfl, rfl, trivial⟩ (KK (2 * k + 2) ((orderS (ltA A) n k s).2 + 1) (by omega) (by omega) (hrr.trans (sinkLowS_s h1 (b := true) (p := true) (decide_eq_true (by omega)) (bI_ne.mp q70))))
    · rw [hrr, sinkLowS_n h1]
      refine go_iload dX8_sinksLow_5 rfl ?_
      refine go_if_eq_f 118 dX8_sinksLow_7 (by decide) (by decide) ?_
      refine go_aload_n dX8_sinksLow_10 rfl ?_
      refine go_iload_n dX8_sinksLow_11 rfl ?_
      refine go_iload_n dX8_sinksLow_12 rfl ?_
      refine go_virt0 dX8_sinksLow_13 (m_orders l hp hr (by omega) hn) v_X8_58_7 rfl (mdW_ob hp) rfl (Nat.le_of_ble_eq_true rfl) (Nat.le_of_ble_eq_true rfl) (Nat.le_of_ble_eq_true rfl) ?_
      refine go_iconst 2 dX8_sinksLow_16 (by decide) ?_
      refine go_iload_n dX8_sinksLow_17 rfl ?_
      refine go_imul dX8_sinksLow_18 ?_
      refine go_iconst 1 dX8_sinksLow_19 (by decide) ?_
      refine go_iadd dX8_sinksLow_20 ?_
      rw [a_2, a_k1]
      refine go_istore dX8_sinksLow_21 (Nat.le_of_ble_eq_true rfl) rfl ?_
      refine go_iconst 2 dX8_sinksLow_23 (by decide) ?_
      refine go_iload dX8_sinksLow_24 rfl ?_
      refine go_imul dX8_sinksLow_26 ?_
      rw [a_2]
      refine go_iload_n dX8_sinksLow_27 rfl ?_
      refine go_icmp_ge_t 35 dX8_sinksLow_28 (by decide) (nI_le (by omega) (by omega)) ?_
      refine go_iconst 0 dX8_sinksLow_35 (by decide) ?_
      refine go_istore dX8_sinksLow_36 (Nat.le_of_ble_eq_true rfl) rfl ?_
      refine go_iload dX8_sinksLow_38 rfl ?_
      refine go_if_eq_t 95 dX8_sinksLow_40 (by decide) (rfl) ?_
      refine go_iload dX8_sinksLow_95 rfl ?_
      refine go_if_eq_t 115 dX8_sinksLow_97 (by decide) (rfl) ?_
      refine go_goto 5 dX8_sinksLow_115 (by decide) ?_
      exact go_sub [(0, .ref p), (4, .int 0)] ⟨rfl, rfl, trivial⟩ (m_sinksLow_e l hp)
theorem m_sinksLow (l : Launch) {w : MW} {p : Nat} {A P K T : Nat → Int32} {x : XS} (hp : p + 4 < w.1) {s : QS} (hr : rowOK s.1) {k n : Nat} (hk : k < 100) (hn : n ≤ 30) : Ct l (.code yX8_sinksLow cX8_sinksLow 6 none) yX8_sinksLow 3 0 0 [.ref p, .int (nI k), .int (nI n)] (mdW w p (setL A 0 s) P K T x) (.inl none) (mdW w p (setL A 0 (sinkLowS (ltA A) n 30 k s)) P K T x) := by
  refine ct_of (by decide +kernel) (Nat.le_of_ble_eq_true rfl) ?_
  refine go_iload_n dX8_sinksLow_0 rfl ?_
  refine go_istore_n dX8_sinksLow_1 (Nat.le_of_ble_eq_true rfl) rfl ?_
  refine go_iconst 1 dX8_sinksLow_2 (by decide) ?_
  refine go_istore dX8_sinksLow_3 (Nat.le_of_ble_eq_true rfl) rfl ?_
  exact go_sub [(0, .ref p), (2, .int (nI n)), (3, .int (nI k)), (4, .int 1)] ⟨rfl, rfl, rfl, rfl, trivial⟩ (m_sinksLow_5 l hp hn 30 k s _ (by omega) hk hr rfl)
theorem m_sinksHigh_e (l : Launch) {w : MW} {p : Nat} {A P K T : Nat → Int32} {x : XS} (hp : p + 4 < w.1) {r : QS} : Go l yX8_sinksHigh cX8_sinksHigh 6 none [] none (mm_Z (mm_eq (.inl none) (mdW w p (setL A 0 r) P K T x))) 3 0 0 5 [(0, .ref p), (4, .int 0)] [] (mdW w p (setL A 0 r) P K T x) := by
  refine go_iload dX8_sinksHigh_5 rfl ?_
  refine go_if_eq_t 136 dX8_sinksHigh_7 (by decide) (rfl) ?_
  exact go_return dX8_sinksHigh_136 rfl
theorem m_sinksHigh_5 (l : Launch) {w : MW} {p : Nat} {A P K T : Nat → Int32} {x : XS} (hp : p + 4 < w.1) {n : Nat} (hn : n ≤ 30) : ∀ (u k : Nat) (s r : QS), 15 ≤ u + k → k < 100 → rowOK s.1 → r = sinkHighS (ltA A) n u k s → Go l yX8_sinksHigh cX8_sinksHigh 6 none [] none (mm_Z (mm_eq (.inl none) (mdW w p (setL A 0 r) P K T x))) 3 0 0 5 [(0, .ref p), (2, .int (nI n)), (3, .int (nI k)), (4, .int 1)] [] (mdW w p (setL A 0 s) P K T x) := by
  intro u
  induction u with
  | zero =>
    intro k s r hu hk hr hrr
    have e9 : r = (orderS (ltA A) n k s) := hrr.trans (if_neg (show ¬ 2 * k + 1 < n by omega)).symm
    rw [e9]
    refine go_iload dX8_sinksHigh_5 rfl ?_
    refine go_if_eq_f 136 dX8_sinksHigh_7 (by decide) (by decide) ?_
    refine go_aload_n dX8_sinksHigh_10 rfl ?_
    refine go_iload_n dX8_sinksHigh_11 rfl ?_
    refine go_iload_n dX8_sinksHigh_12 rfl ?_
    refine go_virt0 dX8_sinksHigh_13 (m_orders l hp hr (by omega) hn) v_X8_58_7 rfl (mdW_ob hp) rfl (Nat.le_of_ble_eq_true rfl) (Nat.le_of_ble_eq_true rfl) (Nat.le_of_ble_eq_true rfl) ?_
    refine go_iconst 2 dX8_sinksHigh_16 (by decide) ?_
    refine go_iload_n dX8_sinksHigh_17 rfl ?_
    refine go_imul dX8_sinksHigh_18 ?_
    refine go_iconst 1 dX8_sinksHigh_19 (by decide) ?_
    refine go_iadd dX8_sinksHigh_20 ?_
    rw [a_2, a_k1]
    refine go_istore dX8_sinksHigh_21 (Nat.le_of_ble_eq_true rfl) rfl ?_
    refine go_iconst 2 dX8_sinksHigh_23 (by decide) ?_
    refine go_iload dX8_sinksHigh_24 rfl ?_
    refine go_imul dX8_sinksHigh_26 ?_
    rw [a_2]
    refine go_iload_n dX8_sinksHigh_27 rfl ?_
    refine go_icmp_ge_t 35 dX8_sinksHigh_28 (by decide) (nI_le (by omega) (by omega)) ?_
    refine go_iconst 0 dX8_sinksHigh_35 (by decide) ?_
    refine go_istore dX8_sinksHigh_36 (Nat.le_of_ble_eq_true rfl) rfl ?_
    refine go_iload dX8_sinksHigh_38 rfl ?_
    refine go_if_eq_t 107 dX8_sinksHigh_40 (by decide) (rfl) ?_
    refine go_iload dX8_sinksHigh_107 rfl ?_
    refine go_if_eq_t 133 dX8_sinksHigh_109 (by decide) (rfl) ?_
    refine go_goto 5 dX8_sinksHigh_133 (by decide) ?_
    exact go_sub [(0, .ref p), (4, .int 0)] ⟨rfl, rfl, trivial⟩ (m_sinksHigh_e l hp)
  | succ u ih =>
    intro k s r hu hk hr hrr
    have hr1 := orderS_ok (lt := ltA A) (n := n) (k := k) hr hn
    by_cases h1 : 2 * (2 * k + 1) < n
    · skip
      have KK : ∀ (ch : Nat) (c1 : Int32), 2 * ch < n → k < ch → r = (if ltA A ((orderS (ltA A) n k s).1 (topN n k)) ((orderS (ltA A) n k s).1 (topN n ch)) = true then sinkHighS (ltA A) n u ch (sw (orderS (ltA A) n k s).1 (topN n k) (topN n ch), c1 + 1) else ((orderS (ltA A) n k s).1, c1 + 1)) → Go l yX8_sinksHigh cX8_sinksHigh 6 none [] none (mm_Z (mm_eq (.inl none) (mdW w p (setL A 0 r) P K T x))) 3 0 0 87 [(0, .ref p), (2, .int (nI n)), (3, .int (nI k)), (5, .int (nI ch))] [] (mdW w p (setL A 0 ((orderS (ltA A) n k s).1, c1)) P K T x) := by
        intro ch c1 hc hkc hE
        have hta : topN n k < 30 := Nat.lt_of_lt_of_le (topN_lt (by omega)) hn
        have htb : topN n ch < 30 := Nat.lt_of_lt_of_le (topN_lt hc) hn
        refine go_aload_n dX8_sinksHigh_87 rfl ?_
        refine go_iconst 0 dX8_sinksHigh_88 (by decide) ?_
        refine go_aload_n dX8_sinksHigh_89 rfl ?_
        refine go_iload_n dX8_sinksHigh_90 rfl ?_
        refine go_iload_n dX8_sinksHigh_91 rfl ?_
        refine go_virt1 dX8_sinksHigh_92 (m_topOf l hp (k := k) (by omega) hn) v_X8_62_7 rfl (mdW_ob hp) rfl (Nat.le_of_ble_eq_true rfl) (Nat.le_of_ble_eq_true rfl) (Nat.le_of_ble_eq_true rfl) ?_
        refine go_aload_n dX8_sinksHigh_95 rfl ?_
        refine go_iload dX8_sinksHigh_96 rfl ?_
        refine go_iload_n dX8_sinksHigh_98 rfl ?_
        refine go_virt1 dX8_sinksHigh_99 (m_topOf l hp (k := ch) (by omega) hn) v_X8_62_7 rfl (mdW_ob hp) rfl (Nat.le_of_ble_eq_true rfl) (Nat.le_of_ble_eq_true rfl) (Nat.le_of_ble_eq_true rfl) ?_
        refine go_virt1 dX8_sinksHigh_102 (m_less l hp (k := 0) (s := ((orderS (ltA A) n k s).1, c1)) (by omega) hr1 (a := topN n k) (b := topN n ch) hta htb) v_X8_52_7 rfl (mdW_ob hp) rfl (Nat.le_of_ble_eq_true rfl) (Nat.le_of_ble_eq_true rfl) (Nat.le_of_ble_eq_true rfl) ?_
        refine go_istore dX8_sinksHigh_105 (Nat.le_of_ble_eq_true rfl) rfl ?_
        refine go_iload dX8_sinksHigh_107 rfl ?_
        refine go_if_eq 133 dX8_sinksHigh_109 (by decide) (fun q109 => ?_) (fun q109 => ?_)
        · rw [hE, if_neg (bI_ff q109)]
          refine go_goto 5 dX8_sinksHigh_133 (by decide) ?_
          exact go_sub [(0, .ref p), (4, .int 0)] ⟨rfl, congrArg (fun z => some (Value.int z)) q109, trivial⟩ (m_sinksHigh_e l hp)
        · refine go_aload_n dX8_sinksHigh_112 rfl ?_
          refine go_iconst 0 dX8_sinksHigh_113 (by decide) ?_
          refine go_aload_n dX8_sinksHigh_114 rfl ?_
          refine go_iload_n dX8_sinksHigh_115 rfl ?_
          refine go_iload_n dX8_sinksHigh_116 rfl ?_
          refine go_virt1 dX8_sinksHigh_117 (m_topOf l hp (k := k) (by omega) hn) v_X8_62_7 rfl (mdW_ob hp) rfl (Nat.le_of_ble_eq_true rfl) (Nat.le_of_ble_eq_true rfl) (Nat.le_of_ble_eq_true rfl) ?_
          refine go_aload_n dX8_sinksHigh_120 rfl ?_
          refine go_iload dX8_sinksHigh_121 rfl ?_
          refine go_iload_n dX8_sinksHigh_123 rfl ?_
          refine go_virt1 dX8_sinksHigh_124 (m_topOf l hp (k := ch) (by omega) hn) v_X8_62_7 rfl (mdW_ob hp) rfl (Nat.le_of_ble_eq_true rfl) (Nat.le_of_ble_eq_true rfl) (Nat.le_of_ble_eq_true rfl) ?_
          refine go_virt0 dX8_sinksHigh_127 (m_exch l hp (k := 0) (s := ((orderS (ltA A) n k s).1, c1 + 1)) (by omega) (a := topN n k) (b := topN n ch) hta htb) v_X8_55_7 rfl (mdW_ob hp) rfl (Nat.le_of_ble_eq_true rfl) (Nat.le_of_ble_eq_true rfl) (Nat.le_of_ble_eq_true rfl) ?_
          refine go_iload dX8_sinksHigh_130 rfl ?_
          refine go_istore_n dX8_sinksHigh_132 (Nat.le_of_ble_eq_true rfl) rfl ?_
          refine go_goto 5 dX8_sinksHigh_133 (by decide) ?_
          exact go_sub [(0, .ref p), (2, .int (nI n)), (3, .int (nI ch)), (4, .int 1)] ⟨rfl, rfl, rfl, congrArg (fun z => some (Value.int z)) (bI_1 q109), trivial⟩ (ih ch (sw (orderS (ltA A) n k s).1 (topN n k) (topN n ch), c1 + 1) r (by omega) (by omega) (rowOK_sw hr1 hta htb) (by rw [hE, if_pos (bI_ne.mp q109)]))
      refine go_iload dX8_sinksHigh_5 rfl ?_
      refine go_if_eq_f 136 dX8_sinksHigh_7 (by decide) (by decide) ?_
      refine go_aload_n dX8_sinksHigh_10 rfl ?_
      refine go_iload_n dX8_sinksHigh_11 rfl ?_
      refine go_iload_n dX8_sinksHigh_12 rfl ?_
      refine go_virt0 dX8_sinksHigh_13 (m_orders l hp hr (by omega) hn) v_X8_58_7 rfl (mdW_ob hp) rfl (Nat.le_of_ble_eq_true rfl) (Nat.le_of_ble_eq_true rfl) (Nat.le_of_ble_eq_true rfl) ?_
      refine go_iconst 2 dX8_sinksHigh_16 (by decide) ?_
      refine go_iload_n dX8_sinksHigh_17 rfl ?_
      refine go_imul dX8_sinksHigh_18 ?_
      refine go_iconst 1 dX8_sinksHigh_19 (by decide) ?_
      refine go_iadd dX8_sinksHigh_20 ?_
      rw [a_2, a_k1]
      refine go_istore dX8_sinksHigh_21 (Nat.le_of_ble_eq_true rfl) rfl ?_
      refine go_iconst 2 dX8_sinksHigh_23 (by decide) ?_
      refine go_iload dX8_sinksHigh_24 rfl ?_
      refine go_imul dX8_sinksHigh_26 ?_
      rw [a_2]
      refine go_iload_n dX8_sinksHigh_27 rfl ?_
      refine go_icmp_ge_f 35 dX8_sinksHigh_28 (by decide) (n_nle h1 (by omega)) ?_
      refine go_iconst 1 dX8_sinksHigh_31 (by decide) ?_
      refine go_goto 36 dX8_sinksHigh_32 (by decide) ?_
      refine go_istore dX8_sinksHigh_36 (Nat.le_of_ble_eq_true rfl) rfl ?_
      refine go_iload dX8_sinksHigh_38 rfl ?_
      refine go_if_eq_f 107 dX8_sinksHigh_40 (by decide) (by decide) ?_
      refine go_iload dX8_sinksHigh_43 rfl ?_
      refine go_iconst 2 dX8_sinksHigh_45 (by decide) ?_
      refine go_iload dX8_sinksHigh_46 rfl ?_
      refine go_iconst 1 dX8_sinksHigh_48 (by decide) ?_
      refine go_iadd dX8_sinksHigh_49 ?_
      rw [a_k1]
      refine go_imul dX8_sinksHigh_50 ?_
      rw [a_2]
      refine go_iload_n dX8_sinksHigh_51 rfl ?_
      refine go_icmp_ge 83 dX8_sinksHigh_52 (by decide) (fun q52 => ?_) (fun q52 => ?_)
      · have z := n_le' q52 (by omega) (by omega)
        refine go_iconst 0 dX8_sinksHigh_83 (by decide) ?_
        refine go_iadd dX8_sinksHigh_84 ?_
        first | rw [a_k1] | rw [Int32.add_zero]
        refine go_istore dX8_sinksHigh_85 (Nat.le_of_ble_eq_true rfl) rfl ?_
        exact go_sub [(0, .ref p), (2, .int (nI n)), (3, .int (nI k)), (5, .int (nI (2 * k + 1)))] ⟨rfl, rfl, rfl, rfl, trivial⟩ (KK (2 * k + 1) (orderS (ltA A) n k s).2 (by omega) (by omega) (hrr.trans (sinkHighS_s h1 (b := false) (p := _) (decide_eq_false (by omega)) rfl)))
      · have z := n_lt' q52 (by omega)
        refine go_aload_n dX8_sinksHigh_55 rfl ?_
        refine go_iconst 0 dX8_sinksHigh_56 (by decide) ?_
        refine go_aload_n dX8_sinksHigh_57 rfl ?_
        refine go_iload dX8_sinksHigh_58 rfl ?_
        refine go_iload_n dX8_sinksHigh_60 rfl ?_
        refine go_virt1 dX8_sinksHigh_61 (m_topOf l hp (k := 2 * k + 1) (by omega) hn) v_X8_62_7 rfl (mdW_ob hp) rfl (Nat.le_of_ble_eq_true rfl) (Nat.le_of_ble_eq_true rfl) (Nat.le_of_ble_eq_true rfl) ?_
        refine go_aload_n dX8_sinksHigh_64 rfl ?_
        refine go_iload dX8_sinksHigh_65 rfl ?_
        refine go_iconst 1 dX8_sinksHigh_67 (by decide) ?_
        refine go_iadd dX8_sinksHigh_68 ?_
        rw [a_k1]
        refine go_iload_n dX8_sinksHigh_69 rfl ?_
        refine go_virt1 dX8_sinksHigh_70 (m_topOf l hp (k := 2 * k + 2) (by omega) hn) v_X8_62_7 rfl (mdW_ob hp) rfl (Nat.le_of_ble_eq_true rfl) (Nat.le_of_ble_eq_true rfl) (Nat.le_of_ble_eq_true rfl) ?_
        refine go_virt1 dX8_sinksHigh_73 (m_less l hp (k := 0)  (by omega) hr1 (a := topN n (2 * k + 1)) (b := topN n (2 * k + 2)) (Nat.lt_of_lt_of_le (topN_lt (by omega)) hn) (Nat.lt_of_lt_of_le (topN_lt (by omega)) hn)) v_X8_52_7 rfl (mdW_ob hp) rfl (Nat.le_of_ble_eq_true rfl) (Nat.le_of_ble_eq_true rfl) (Nat.le_of_ble_eq_true rfl) ?_
        refine go_if_eq 83 dX8_sinksHigh_76 (by decide) (fun q76 => ?_) (fun q76 => ?_)
        · have M1 := trivial
          refine go_iconst 0 dX8_sinksHigh_83 (by decide) ?_
          refine go_iadd dX8_sinksHigh_84 ?_
          first | rw [a_k1] | rw [Int32.add_zero]
          refine go_istore dX8_sinksHigh_85 (Nat.le_of_ble_eq_true rfl) rfl ?_
          exact go_sub [(0, .ref p), (2, .int (nI n)), (3, .int (nI k)), (5, .int (nI (2 * k + 1)))] ⟨rfl, rfl, rfl, rfl, trivial⟩ (KK (2 * k + 1) ((orderS (ltA A) n k s).2 + 1) (by omega) (by omega) (hrr.trans (sinkHighS_s h1 (b := true) (p := false) (decide_eq_true (by omega)) (bI_eq.mp q76))))
        · have M2 := trivial
          refine go_iconst 1 dX8_sinksHigh_79 (by decide) ?_
          refine go_goto 84 dX8_sinksHigh_80 (by decide) ?_
          refine go_iadd dX8_sinksHigh_84 ?_
          first | rw [a_k1] | rw [Int32.add_zero]
          refine go_istore dX8_sinksHigh_85 (Nat.le_of_ble_eq_true rfl) rfl ?_
          exact go_sub [(0, .ref p), (2, .int (nI n)), (3, .int (nI k)), (5, .int (nI (2 * k + 2)))] ⟨rfl, rfl, rfl, rfl, trivial⟩ (KK (2 * k + 2) ((orderS (ltA A) n k s).2 + 1) (by omega) (by omega) (hrr.trans (sinkHighS_s h1 (b := true) (p := true) (decide_eq_true (by omega)) (bI_ne.mp q76))))
    · rw [hrr, sinkHighS_n h1]
      refine go_iload dX8_sinksHigh_5 rfl ?_
      refine go_if_eq_f 136 dX8_sinksHigh_7 (by decide) (by decide) ?_
      refine go_aload_n dX8_sinksHigh_10 rfl ?_
      refine go_iload_n dX8_sinksHigh_11 rfl ?_
      refine go_iload_n dX8_sinksHigh_12 rfl ?_
      refine go_virt0 dX8_sinksHigh_13 (m_orders l hp hr (by omega) hn) v_X8_58_7 rfl (mdW_ob hp) rfl (Nat.le_of_ble_eq_true rfl) (Nat.le_of_ble_eq_true rfl) (Nat.le_of_ble_eq_true rfl) ?_
      refine go_iconst 2 dX8_sinksHigh_16 (by decide) ?_
      refine go_iload_n dX8_sinksHigh_17 rfl ?_
      refine go_imul dX8_sinksHigh_18 ?_
      refine go_iconst 1 dX8_sinksHigh_19 (by decide) ?_
      refine go_iadd dX8_sinksHigh_20 ?_
      rw [a_2, a_k1]
      refine go_istore dX8_sinksHigh_21 (Nat.le_of_ble_eq_true rfl) rfl ?_
      refine go_iconst 2 dX8_sinksHigh_23 (by decide) ?_
      refine go_iload dX8_sinksHigh_24 rfl ?_
      refine go_imul dX8_sinksHigh_26 ?_
      rw [a_2]
      refine go_iload_n dX8_sinksHigh_27 rfl ?_
      refine go_icmp_ge_t 35 dX8_sinksHigh_28 (by decide) (nI_le (by omega) (by omega)) ?_
      refine go_iconst 0 dX8_sinksHigh_35 (by decide) ?_
      refine go_istore dX8_sinksHigh_36 (Nat.le_of_ble_eq_true rfl) rfl ?_
      refine go_iload dX8_sinksHigh_38 rfl ?_
      refine go_if_eq_t 107 dX8_sinksHigh_40 (by decide) (rfl) ?_
      refine go_iload dX8_sinksHigh_107 rfl ?_
      refine go_if_eq_t 133 dX8_sinksHigh_109 (by decide) (rfl) ?_
      refine go_goto 5 dX8_sinksHigh_133 (by decide) ?_
      exact go_sub [(0, .ref p), (4, .int 0)] ⟨rfl, rfl, trivial⟩ (m_sinksHigh_e l hp)
theorem m_sinksHigh (l : Launch) {w : MW} {p : Nat} {A P K T : Nat → Int32} {x : XS} (hp : p + 4 < w.1) {s : QS} (hr : rowOK s.1) {k n : Nat} (hk : k < 100) (hn : n ≤ 30) : Ct l (.code yX8_sinksHigh cX8_sinksHigh 6 none) yX8_sinksHigh 3 0 0 [.ref p, .int (nI k), .int (nI n)] (mdW w p (setL A 0 s) P K T x) (.inl none) (mdW w p (setL A 0 (sinkHighS (ltA A) n 30 k s)) P K T x) := by
  refine ct_of (by decide +kernel) (Nat.le_of_ble_eq_true rfl) ?_
  refine go_iload_n dX8_sinksHigh_0 rfl ?_
  refine go_istore_n dX8_sinksHigh_1 (Nat.le_of_ble_eq_true rfl) rfl ?_
  refine go_iconst 1 dX8_sinksHigh_2 (by decide) ?_
  refine go_istore dX8_sinksHigh_3 (Nat.le_of_ble_eq_true rfl) rfl ?_
  exact go_sub [(0, .ref p), (2, .int (nI n)), (3, .int (nI k)), (4, .int 1)] ⟨rfl, rfl, rfl, rfl, trivial⟩ (m_sinksHigh_5 l hp hn 30 k s _ (by omega) hk hr rfl)
