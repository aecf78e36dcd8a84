theorem c_parentOf (l : Launch) {w : MW} {k : Nat} (h0 : 0 < k) (hk : k < 2 ^ 30) : Ct l (.code yX3_parentOf cX3_parentOf 1 (some .int)) yX3_parentOf 0 0 0 [.int (nI k)] w (.inl (some (.int (nI ((k - 1) / 2))))) w := by
  refine ct_of (by decide +kernel) (Nat.le_of_ble_eq_true rfl) ?_
  refine go_iload_n dX3_parentOf_0 rfl ?_
  refine go_iconst 1 dX3_parentOf_1 (by decide) ?_
  refine go_isub dX3_parentOf_2 ?_
  refine go_iconst 2 dX3_parentOf_3 (by decide) ?_
  refine go_idiv dX3_parentOf_4 (by decide) ?_
  rw [a_par h0 hk]
  exact go_ireturn dX3_parentOf_5 rfl rfl
theorem c_isPos1 (l : Launch) {w : MW} {h ci : Nat} {xt : List Value} {f : Nat → Int32} {n : Nat} {c : Int32} (hh : h + 1 < w.1) (hci : ci = 0 ∨ ci = 2 ∨ ci = 3) (hn : n ≤ 30) {j : Nat} (hj : j < n) : Ct l (.code yX3_isPosition cX3_isPosition 2 (some .boolean)) yX3_isPosition 0 0 0 [.ref h, .int (nI j)] (layW w h ci xt f n c) (.inl (some (.int 1))) (layW w h ci xt f n c) := by
  refine ct_of (by decide +kernel) (Nat.le_of_ble_eq_true rfl) ?_
  refine go_iload_n dX3_isPosition_0 rfl ?_
  refine go_if_lt_f 16 dX3_isPosition_1 (by decide) (nI_pos (by omega)) ?_
  refine go_iload_n dX3_isPosition_4 rfl ?_
  refine go_aload_n dX3_isPosition_5 rfl ?_
  refine go_getfield dX3_isPosition_6 (f_X3_15 hci) (layW_ob hh) rfl ?_
  refine go_icmp_ge_f 16 dX3_isPosition_9 (by decide) (n_nle hj (by omega)) ?_
  refine go_iconst 1 dX3_isPosition_12 (by decide) ?_
  refine go_goto 17 dX3_isPosition_13 (by decide) ?_
  exact go_ireturn dX3_isPosition_17 rfl (by decide)
theorem c_isPos0 (l : Launch) {w : MW} {h ci : Nat} {xt : List Value} {f : Nat → Int32} {n : Nat} {c : Int32} (hh : h + 1 < w.1) (hci : ci = 0 ∨ ci = 2 ∨ ci = 3) (hn : n ≤ 30) {x : Int32} (hx : x < 0 ∨ nI n ≤ x) : Ct l (.code yX3_isPosition cX3_isPosition 2 (some .boolean)) yX3_isPosition 0 0 0 [.ref h, .int x] (layW w h ci xt f n c) (.inl (some (.int 0))) (layW w h ci xt f n c) := by
  refine ct_of (by decide +kernel) (Nat.le_of_ble_eq_true rfl) ?_
  refine go_iload_n dX3_isPosition_0 rfl ?_
  refine go_if_lt 16 dX3_isPosition_1 (by decide) (fun q1 => ?_) (fun q1 => ?_)
  · refine go_iconst 0 dX3_isPosition_16 (by decide) ?_
    exact go_ireturn dX3_isPosition_17 rfl (by decide)
  · refine go_iload_n dX3_isPosition_4 rfl ?_
    refine go_aload_n dX3_isPosition_5 rfl ?_
    refine go_getfield dX3_isPosition_6 (f_X3_15 hci) (layW_ob hh) rfl ?_
    refine go_icmp_ge 16 dX3_isPosition_9 (by decide) (fun q9 => ?_) (fun q9 => ?_)
    · refine go_iconst 0 dX3_isPosition_16 (by decide) ?_
      exact go_ireturn dX3_isPosition_17 rfl (by decide)
    · exact absurd (hx.resolve_left q1) q9
theorem c_itemAt1 (l : Launch) {w : MW} {h ci : Nat} {xt : List Value} {f : Nat → Int32} {n : Nat} {c : Int32} (hh : h + 1 < w.1) (hci : ci = 0 ∨ ci = 2 ∨ ci = 3) (hn : n ≤ 30) {j : Nat} (hj : j < n) : Ct l (.code yX3_itemAt cX3_itemAt 2 (some .int)) yX3_itemAt 1 0 0 [.ref h, .int (nI j)] (layW w h ci xt f n c) (.inl (some (.int (f j)))) (layW w h ci xt f n c) := by
  refine ct_of (by decide +kernel) (Nat.le_of_ble_eq_true rfl) ?_
  refine go_aload_n dX3_itemAt_0 rfl ?_
  refine go_iload_n dX3_itemAt_1 rfl ?_
  refine go_virt1 dX3_itemAt_2 (c_isPos1 l hh hci hn hj) (v_X3_19 hci) rfl (layW_ob hh) rfl (Nat.le_of_ble_eq_true rfl) (Nat.le_of_ble_eq_true rfl) (Nat.le_of_ble_eq_true rfl) ?_
  refine go_if_eq_f 17 dX3_itemAt_5 (by decide) (by decide) ?_
  refine go_aload_n dX3_itemAt_8 rfl ?_
  refine go_getfield dX3_itemAt_9 (f_X3_9 hci) (layW_ob hh) rfl ?_
  refine go_iload_n dX3_itemAt_12 rfl ?_
  refine go_iaload j dX3_itemAt_13 (layW_ar hh) rfl (by omega) (by decide) ?_
  refine go_goto 18 dX3_itemAt_14 (by decide) ?_
  exact go_ireturn dX3_itemAt_18 rfl rfl
theorem c_itemAt0 (l : Launch) {w : MW} {h ci : Nat} {xt : List Value} {f : Nat → Int32} {n : Nat} {c : Int32} (hh : h + 1 < w.1) (hci : ci = 0 ∨ ci = 2 ∨ ci = 3) (hn : n ≤ 30) {x : Int32} (hx : x < 0 ∨ nI n ≤ x) : Ct l (.code yX3_itemAt cX3_itemAt 2 (some .int)) yX3_itemAt 1 0 0 [.ref h, .int x] (layW w h ci xt f n c) (.inl (some (.int (-1)))) (layW w h ci xt f n c) := by
  refine ct_of (by decide +kernel) (Nat.le_of_ble_eq_true rfl) ?_
  refine go_aload_n dX3_itemAt_0 rfl ?_
  refine go_iload_n dX3_itemAt_1 rfl ?_
  refine go_virt1 dX3_itemAt_2 (c_isPos0 l hh hci hn hx) (v_X3_19 hci) rfl (layW_ob hh) rfl (Nat.le_of_ble_eq_true rfl) (Nat.le_of_ble_eq_true rfl) (Nat.le_of_ble_eq_true rfl) ?_
  refine go_if_eq_t 17 dX3_itemAt_5 (by decide) (rfl) ?_
  refine go_iconst (-1) dX3_itemAt_17 (by decide) ?_
  exact go_ireturn dX3_itemAt_18 rfl rfl
theorem c_handleAt1 (l : Launch) {w : MW} {h ci : Nat} {xt : List Value} {f : Nat → Int32} {n : Nat} {c : Int32} (hh : h + 1 < w.1) (hci : ci = 0 ∨ ci = 2 ∨ ci = 3) (hn : n ≤ 30) {j : Nat} (hj : j < n) : Ct l (.code yX3_handleAt cX3_handleAt 2 (some .int)) yX3_handleAt 1 0 0 [.ref h, .int (nI j)] (layW w h ci xt f n c) (.inl (some (.int (hs (f j))))) (layW w h ci xt f n c) := by
  refine ct_of (by decide +kernel) (Nat.le_of_ble_eq_true rfl) ?_
  refine go_aload_n dX3_handleAt_0 rfl ?_
  refine go_iload_n dX3_handleAt_1 rfl ?_
  refine go_virt1 dX3_handleAt_2 (c_isPos1 l hh hci hn hj) (v_X3_19 hci) rfl (layW_ob hh) rfl (Nat.le_of_ble_eq_true rfl) (Nat.le_of_ble_eq_true rfl) (Nat.le_of_ble_eq_true rfl) ?_
  refine go_if_eq_f 20 dX3_handleAt_5 (by decide) (by decide) ?_
  refine go_aload_n dX3_handleAt_8 rfl ?_
  refine go_getfield dX3_handleAt_9 (f_X3_9 hci) (layW_ob hh) rfl ?_
  refine go_iload_n dX3_handleAt_12 rfl ?_
  refine go_iaload j dX3_handleAt_13 (layW_ar hh) rfl (by omega) (by decide) ?_
  refine go_bipush 31 dX3_handleAt_14 (by decide) ?_
  refine go_iand dX3_handleAt_16 ?_
  refine go_goto 21 dX3_handleAt_17 (by decide) ?_
  exact go_ireturn dX3_handleAt_21 rfl rfl
theorem c_handleAt0 (l : Launch) {w : MW} {h ci : Nat} {xt : List Value} {f : Nat → Int32} {n : Nat} {c : Int32} (hh : h + 1 < w.1) (hci : ci = 0 ∨ ci = 2 ∨ ci = 3) (hn : n ≤ 30) {x : Int32} (hx : x < 0 ∨ nI n ≤ x) : Ct l (.code yX3_handleAt cX3_handleAt 2 (some .int)) yX3_handleAt 1 0 0 [.ref h, .int x] (layW w h ci xt f n c) (.inl (some (.int (-1)))) (layW w h ci xt f n c) := by
  refine ct_of (by decide +kernel) (Nat.le_of_ble_eq_true rfl) ?_
  refine go_aload_n dX3_handleAt_0 rfl ?_
  refine go_iload_n dX3_handleAt_1 rfl ?_
  refine go_virt1 dX3_handleAt_2 (c_isPos0 l hh hci hn hx) (v_X3_19 hci) rfl (layW_ob hh) rfl (Nat.le_of_ble_eq_true rfl) (Nat.le_of_ble_eq_true rfl) (Nat.le_of_ble_eq_true rfl) ?_
  refine go_if_eq_t 20 dX3_handleAt_5 (by decide) (rfl) ?_
  refine go_iconst (-1) dX3_handleAt_20 (by decide) ?_
  exact go_ireturn dX3_handleAt_21 rfl rfl
theorem c_keyAt1 (l : Launch) {w : MW} {h ci : Nat} {xt : List Value} {f : Nat → Int32} {n : Nat} {c : Int32} (hh : h + 1 < w.1) (hci : ci = 0 ∨ ci = 2 ∨ ci = 3) (hn : n ≤ 30) {j : Nat} (hj : j < n) : Ct l (.code yX3_keyAt cX3_keyAt 2 (some .int)) yX3_keyAt 2 0 0 [.ref h, .int (nI j)] (layW w h ci xt f n c) (.inl (some (.int (f j >>> (5 &&& 31))))) (layW w h ci xt f n c) := by
  refine ct_of (by decide +kernel) (Nat.le_of_ble_eq_true rfl) ?_
  refine go_aload_n dX3_keyAt_0 rfl ?_
  refine go_iload_n dX3_keyAt_1 rfl ?_
  refine go_virt1 dX3_keyAt_2 (c_itemAt1 l hh hci hn hj) (v_X3_23 hci) rfl (layW_ob hh) rfl (Nat.le_of_ble_eq_true rfl) (Nat.le_of_ble_eq_true rfl) (Nat.le_of_ble_eq_true rfl) ?_
  refine go_iconst 5 dX3_keyAt_5 (by decide) ?_
  refine go_ishr dX3_keyAt_6 ?_
  exact go_ireturn dX3_keyAt_7 rfl rfl
theorem c_keyAt0 (l : Launch) {w : MW} {h ci : Nat} {xt : List Value} {f : Nat → Int32} {n : Nat} {c : Int32} (hh : h + 1 < w.1) (hci : ci = 0 ∨ ci = 2 ∨ ci = 3) (hn : n ≤ 30) {x : Int32} (hx : x < 0 ∨ nI n ≤ x) : Ct l (.code yX3_keyAt cX3_keyAt 2 (some .int)) yX3_keyAt 2 0 0 [.ref h, .int x] (layW w h ci xt f n c) (.inl (some (.int ((-1 : Int32) >>> (5 &&& 31))))) (layW w h ci xt f n c) := by
  refine ct_of (by decide +kernel) (Nat.le_of_ble_eq_true rfl) ?_
  refine go_aload_n dX3_keyAt_0 rfl ?_
  refine go_iload_n dX3_keyAt_1 rfl ?_
  refine go_virt1 dX3_keyAt_2 (c_itemAt0 l hh hci hn hx) (v_X3_23 hci) rfl (layW_ob hh) rfl (Nat.le_of_ble_eq_true rfl) (Nat.le_of_ble_eq_true rfl) (Nat.le_of_ble_eq_true rfl) ?_
  refine go_iconst 5 dX3_keyAt_5 (by decide) ?_
  refine go_ishr dX3_keyAt_6 ?_
  exact go_ireturn dX3_keyAt_7 rfl rfl
theorem c_find_2 (l : Launch) {w : MW} {h ci : Nat} {xt : List Value} {f : Nat → Int32} {n : Nat} {c : Int32} (hh : h + 1 < w.1) (hci : ci = 0 ∨ ci = 2 ∨ ci = 3) (hn : n ≤ 30) {x : Int32} : ∀ (k j : Nat), j + k = n → ∀ {r : Int32}, r = (if ff (fun j => decide (hs (f j) = x)) k j < n then nI (ff (fun j => decide (hs (f j) = x)) k j) else -1) → Go l yX3_find cX3_find 3 (some .int) [] none (mm_Z (mm_eq (.inl (some (.int r))) (layW w h ci xt f n c))) 2 0 0 2 [(0, .ref h), (1, .int x), (2, .int (nI j))] [] (layW w h ci xt f n c) := by
  intro k
  induction k with
  | zero =>
    intro j hjk r hr
    have e : j = n := by omega
    subst e
    simp only [ff, Nat.lt_irrefl, if_false] at hr
    subst hr
    refine go_iload_n dX3_find_2 rfl ?_
    refine go_aload_n dX3_find_3 rfl ?_
    refine go_getfield dX3_find_4 (f_X3_15 hci) (layW_ob hh) rfl ?_
    refine go_icmp_ge_t 27 dX3_find_7 (by decide) (nI_le (Nat.le_refl _) (by omega)) ?_
    refine go_iconst (-1) dX3_find_27 (by decide) ?_
    exact go_ireturn dX3_find_28 rfl rfl
  | succ k ih =>
    intro j hjk r hr
    have hj : j < n := by omega
    refine go_iload_n dX3_find_2 rfl ?_
    refine go_aload_n dX3_find_3 rfl ?_
    refine go_getfield dX3_find_4 (f_X3_15 hci) (layW_ob hh) rfl ?_
    refine go_icmp_ge_f 27 dX3_find_7 (by decide) (n_nle hj (by omega)) ?_
    refine go_aload_n dX3_find_10 rfl ?_
    refine go_iload_n dX3_find_11 rfl ?_
    refine go_virt1 dX3_find_12 (c_handleAt1 l hh hci hn hj) (v_X3_27 hci) rfl (layW_ob hh) rfl (Nat.le_of_ble_eq_true rfl) (Nat.le_of_ble_eq_true rfl) (Nat.le_of_ble_eq_true rfl) ?_
    refine go_iload_n dX3_find_15 rfl ?_
    refine go_icmp_ne 21 dX3_find_16 (by decide) (fun q16 => ?_) (fun q16 => ?_)
    · rw [ff_no (by simpa using q16)] at hr
      refine go_iinc dX3_find_21 rfl (Nat.le_of_ble_eq_true rfl) rfl (show _ = _ + 1 from rfl) ?_
      refine go_goto 2 dX3_find_24 (by decide) ?_
      rw [a_k1]
      exact go_sub [(0, .ref h), (1, .int x), (2, .int (nI (j + 1)))] ⟨rfl, rfl, rfl, trivial⟩ (ih (j + 1) (by omega) hr)
    · rw [ff_yes (by simpa using q16), if_pos hj] at hr
      subst hr
      refine go_iload_n dX3_find_19 rfl ?_
      exact go_ireturn dX3_find_20 rfl rfl
theorem c_find (l : Launch) {w : MW} {h ci : Nat} {xt : List Value} {f : Nat → Int32} {n : Nat} {c : Int32} (hh : h + 1 < w.1) (hci : ci = 0 ∨ ci = 2 ∨ ci = 3) (hn : n ≤ 30) {x : Int32} : Ct l (.code yX3_find cX3_find 3 (some .int)) yX3_find 2 0 0 [.ref h, .int x] (layW w h ci xt f n c) (.inl (some (.int (fndR f n x)))) (layW w h ci xt f n c) := by
  refine ct_of (by decide +kernel) (Nat.le_of_ble_eq_true rfl) ?_
  refine go_iconst 0 dX3_find_0 (by decide) ?_
  refine go_istore_n dX3_find_1 (Nat.le_of_ble_eq_true rfl) rfl ?_
  exact go_sub [(0, .ref h), (1, .int x), (2, .int (nI 0))] ⟨rfl, rfl, rfl, trivial⟩ (c_find_2 l hh hci hn n 0 (by omega) rfl)
theorem c_exchange (l : Launch) {w : MW} {h ci : Nat} {xt : List Value} {f : Nat → Int32} {n : Nat} {c : Int32} (hh : h + 1 < w.1) (hci : ci = 0 ∨ ci = 2 ∨ ci = 3) (hn : n ≤ 30) {i j : Nat} (hi : i < n) (hj : j < n) : Ct l (.code yX3_exchange cX3_exchange 4 none) yX3_exchange 0 0 0 [.ref h, .int (nI i), .int (nI j)] (layW w h ci xt f n c) (.inl none) (layW w h ci xt (sw f i j) n c) := by
  refine ct_of (by decide +kernel) (Nat.le_of_ble_eq_true rfl) ?_
  refine go_iload_n dX3_exchange_0 rfl ?_
  refine go_if_lt_f 50 dX3_exchange_1 (by decide) (nI_pos (by omega)) ?_
  refine go_iload_n dX3_exchange_4 rfl ?_
  refine go_aload_n dX3_exchange_5 rfl ?_
  refine go_getfield dX3_exchange_6 (f_X3_15 hci) (layW_ob hh) rfl ?_
  refine go_icmp_ge_f 50 dX3_exchange_9 (by decide) (n_nle hi (by omega)) ?_
  refine go_iload_n dX3_exchange_12 rfl ?_
  refine go_if_lt_f 50 dX3_exchange_13 (by decide) (nI_pos (by omega)) ?_
  refine go_iload_n dX3_exchange_16 rfl ?_
  refine go_aload_n dX3_exchange_17 rfl ?_
  refine go_getfield dX3_exchange_18 (f_X3_15 hci) (layW_ob hh) rfl ?_
  refine go_icmp_ge_f 50 dX3_exchange_21 (by decide) (n_nle hj (by omega)) ?_
  refine go_aload_n dX3_exchange_24 rfl ?_
  refine go_getfield dX3_exchange_25 (f_X3_9 hci) (layW_ob hh) rfl ?_
  refine go_iload_n dX3_exchange_28 rfl ?_
  refine go_iaload i dX3_exchange_29 (layW_ar hh) rfl (by omega) (by decide) ?_
  refine go_istore_n dX3_exchange_30 (Nat.le_of_ble_eq_true rfl) rfl ?_
  refine go_aload_n dX3_exchange_31 rfl ?_
  refine go_getfield dX3_exchange_32 (f_X3_9 hci) (layW_ob hh) rfl ?_
  refine go_iload_n dX3_exchange_35 rfl ?_
  refine go_aload_n dX3_exchange_36 rfl ?_
  refine go_getfield dX3_exchange_37 (f_X3_9 hci) (layW_ob hh) rfl ?_
  refine go_iload_n dX3_exchange_40 rfl ?_
  refine go_iaload j dX3_exchange_41 (layW_ar hh) rfl (by omega) (by decide) ?_
  refine go_iastore i dX3_exchange_42 (layW_ar hh) rfl (by omega) (by decide) ?_
  rw [layW_upA]
  refine go_aload_n dX3_exchange_43 rfl ?_
  refine go_getfield dX3_exchange_44 (f_X3_9 hci) (layW_ob hh) rfl ?_
  refine go_iload_n dX3_exchange_47 rfl ?_
  refine go_iload_n dX3_exchange_48 rfl ?_
  refine go_iastore j dX3_exchange_49 (layW_ar hh) rfl (by omega) (by decide) ?_
  rw [layW_upA]
  exact go_return dX3_exchange_50 rfl
theorem c_aheadL (l : Launch) {w : MW} {h ci : Nat} {xt : List Value} {f : Nat → Int32} {n : Nat} {c : Int32} (hh : h + 1 < w.1) (hci : ci = 0 ∨ ci = 2 ∨ ci = 3) (hn : n ≤ 30) {i j : Nat} (hi : i < n) (hj : j < n) : Ct l (.code yX3_ahead cX3_ahead 4 (some .boolean)) yX3_ahead 0 0 0 [.ref h, .int (nI i), .int (nI j), .int 1] (layW w h ci xt f n c) (.inl (some (.int (bI (decide (f i < f j)))))) (layW w h ci xt f n (c + 1)) := by
  refine ct_of (by decide +kernel) (Nat.le_of_ble_eq_true rfl) ?_
  refine go_aload_n dX3_ahead_0 rfl ?_
  refine go_dup dX3_ahead_1 rfl ?_
  refine go_getfield dX3_ahead_2 (f_X3_30 hci) (layW_ob hh) rfl ?_
  refine go_iconst 1 dX3_ahead_5 (by decide) ?_
  refine go_iadd dX3_ahead_6 ?_
  refine go_putfield dX3_ahead_7 (p_X3_30 hci) (layW_ob hh) (by simp only [List.length_cons]; omega) (fun _ => ⟨rfl, rfl⟩) (fun _ z => nomatch z) ?_
  rw [layW_upC]
  refine go_iload_n dX3_ahead_10 rfl ?_
  refine go_if_lt_f 34 dX3_ahead_11 (by decide) (nI_pos (by omega)) ?_
  refine go_iload_n dX3_ahead_14 rfl ?_
  refine go_aload_n dX3_ahead_15 rfl ?_
  refine go_getfield dX3_ahead_16 (f_X3_15 hci) (layW_ob hh) rfl ?_
  refine go_icmp_ge_f 34 dX3_ahead_19 (by decide) (n_nle hi (by omega)) ?_
  refine go_iload_n dX3_ahead_22 rfl ?_
  refine go_if_lt_f 34 dX3_ahead_23 (by decide) (nI_pos (by omega)) ?_
  refine go_iload_n dX3_ahead_26 rfl ?_
  refine go_aload_n dX3_ahead_27 rfl ?_
  refine go_getfield dX3_ahead_28 (f_X3_15 hci) (layW_ob hh) rfl ?_
  refine go_icmp_lt_t 36 dX3_ahead_31 (by decide) (nI_lt hj (by omega)) ?_
  refine go_iload_n dX3_ahead_36 rfl ?_
  refine go_if_eq_f 63 dX3_ahead_37 (by decide) (by decide) ?_
  refine go_aload_n dX3_ahead_40 rfl ?_
  refine go_getfield dX3_ahead_41 (f_X3_9 hci) (layW_ob hh) rfl ?_
  refine go_iload_n dX3_ahead_44 rfl ?_
  refine go_iaload i dX3_ahead_45 (layW_ar hh) rfl (by omega) (by decide) ?_
  refine go_aload_n dX3_ahead_46 rfl ?_
  refine go_getfield dX3_ahead_47 (f_X3_9 hci) (layW_ob hh) rfl ?_
  refine go_iload_n dX3_ahead_50 rfl ?_
  refine go_iaload j dX3_ahead_51 (layW_ar hh) rfl (by omega) (by decide) ?_
  refine go_icmp_ge 59 dX3_ahead_52 (by decide) (fun q52 => ?_) (fun q52 => ?_)
  · rw [bI_d0 (show ¬ (f i < f j) from Int32.not_lt.mpr q52)]
    refine go_iconst 0 dX3_ahead_59 (by decide) ?_
    refine go_goto 83 dX3_ahead_60 (by decide) ?_
    exact go_ireturn dX3_ahead_83 rfl (by decide)
  · rw [bI_d1 (show f i < f j from Int32.not_le.mp q52)]
    refine go_iconst 1 dX3_ahead_55 (by decide) ?_
    refine go_goto 83 dX3_ahead_56 (by decide) ?_
    exact go_ireturn dX3_ahead_83 rfl (by decide)
theorem c_aheadG (l : Launch) {w : MW} {h ci : Nat} {xt : List Value} {f : Nat → Int32} {n : Nat} {c : Int32} (hh : h + 1 < w.1) (hci : ci = 0 ∨ ci = 2 ∨ ci = 3) (hn : n ≤ 30) {i j : Nat} (hi : i < n) (hj : j < n) : Ct l (.code yX3_ahead cX3_ahead 4 (some .boolean)) yX3_ahead 0 0 0 [.ref h, .int (nI i), .int (nI j), .int 0] (layW w h ci xt f n c) (.inl (some (.int (bI (decide (f j < f i)))))) (layW w h ci xt f n (c + 1)) := by
  refine ct_of (by decide +kernel) (Nat.le_of_ble_eq_true rfl) ?_
  refine go_aload_n dX3_ahead_0 rfl ?_
  refine go_dup dX3_ahead_1 rfl ?_
  refine go_getfield dX3_ahead_2 (f_X3_30 hci) (layW_ob hh) rfl ?_
  refine go_iconst 1 dX3_ahead_5 (by decide) ?_
  refine go_iadd dX3_ahead_6 ?_
  refine go_putfield dX3_ahead_7 (p_X3_30 hci) (layW_ob hh) (by simp only [List.length_cons]; omega) (fun _ => ⟨rfl, rfl⟩) (fun _ z => nomatch z) ?_
  rw [layW_upC]
  refine go_iload_n dX3_ahead_10 rfl ?_
  refine go_if_lt_f 34 dX3_ahead_11 (by decide) (nI_pos (by omega)) ?_
  refine go_iload_n dX3_ahead_14 rfl ?_
  refine go_aload_n dX3_ahead_15 rfl ?_
  refine go_getfield dX3_ahead_16 (f_X3_15 hci) (layW_ob hh) rfl ?_
  refine go_icmp_ge_f 34 dX3_ahead_19 (by decide) (n_nle hi (by omega)) ?_
  refine go_iload_n dX3_ahead_22 rfl ?_
  refine go_if_lt_f 34 dX3_ahead_23 (by decide) (nI_pos (by omega)) ?_
  refine go_iload_n dX3_ahead_26 rfl ?_
  refine go_aload_n dX3_ahead_27 rfl ?_
  refine go_getfield dX3_ahead_28 (f_X3_15 hci) (layW_ob hh) rfl ?_
  refine go_icmp_lt_t 36 dX3_ahead_31 (by decide) (nI_lt hj (by omega)) ?_
  refine go_iload_n dX3_ahead_36 rfl ?_
  refine go_if_eq_t 63 dX3_ahead_37 (by decide) (rfl) ?_
  refine go_aload_n dX3_ahead_63 rfl ?_
  refine go_getfield dX3_ahead_64 (f_X3_9 hci) (layW_ob hh) rfl ?_
  refine go_iload_n dX3_ahead_67 rfl ?_
  refine go_iaload j dX3_ahead_68 (layW_ar hh) rfl (by omega) (by decide) ?_
  refine go_aload_n dX3_ahead_69 rfl ?_
  refine go_getfield dX3_ahead_70 (f_X3_9 hci) (layW_ob hh) rfl ?_
  refine go_iload_n dX3_ahead_73 rfl ?_
  refine go_iaload i dX3_ahead_74 (layW_ar hh) rfl (by omega) (by decide) ?_
  refine go_icmp_ge 82 dX3_ahead_75 (by decide) (fun q75 => ?_) (fun q75 => ?_)
  · rw [bI_d0 (show ¬ (f j < f i) from Int32.not_lt.mpr q75)]
    refine go_iconst 0 dX3_ahead_82 (by decide) ?_
    exact go_ireturn dX3_ahead_83 rfl (by decide)
  · rw [bI_d1 (show f j < f i from Int32.not_le.mp q75)]
    refine go_iconst 1 dX3_ahead_78 (by decide) ?_
    refine go_goto 83 dX3_ahead_79 (by decide) ?_
    exact go_ireturn dX3_ahead_83 rfl (by decide)
