theorem cq_find (l : Launch) {w : MW} {q : Nat} {Q : QU} (hq : q + 8 < w.1) {k : Nat} (hk : k < 4) (hn : (Q k).1 ≤ 30) {a : Nat} (ha : a = q + 1 + 2 * k) {x : Int32} : Ct l (.code yX3_find cX3_find 3 (some .int)) yX3_find 2 0 0 [.ref a, .int x] (quW w q Q) (.inl (some (.int (fndR (Q k).2.1 (Q k).1 x)))) (quW w q Q) := by
  subst ha
  exact ct_w (c_find l (w := quW w q Q) (h := q + 1 + 2 * k) (ci := kci k) (xt := kxt k) (by show q + 1 + 2 * k + 1 < w.1; omega) kci_ok hn ) (quW_lay hk) (quW_lay hk) rfl
theorem cq_handleAt1 (l : Launch) {w : MW} {q : Nat} {Q : QU} (hq : q + 8 < w.1) {k : Nat} (hk : k < 4) (hn : (Q k).1 ≤ 30) {a : Nat} (ha : a = q + 1 + 2 * k) {j : Nat} (hj : j < (Q k).1) : Ct l (.code yX3_handleAt cX3_handleAt 2 (some .int)) yX3_handleAt 1 0 0 [.ref a, .int (nI j)] (quW w q Q) (.inl (some (.int (hs ((Q k).2.1 j))))) (quW w q Q) := by
  subst ha
  exact ct_w (c_handleAt1 l (w := quW w q Q) (h := q + 1 + 2 * k) (ci := kci k) (xt := kxt k) (by show q + 1 + 2 * k + 1 < w.1; omega) kci_ok hn hj) (quW_lay hk) (quW_lay hk) rfl
theorem cq_handleAt0 (l : Launch) {w : MW} {q : Nat} {Q : QU} (hq : q + 8 < w.1) {k : Nat} (hk : k < 4) (hn : (Q k).1 ≤ 30) {a : Nat} (ha : a = q + 1 + 2 * k) {x : Int32} (hx : x < 0 ∨ nI (Q k).1 ≤ x) : Ct l (.code yX3_handleAt cX3_handleAt 2 (some .int)) yX3_handleAt 1 0 0 [.ref a, .int x] (quW w q Q) (.inl (some (.int (-1)))) (quW w q Q) := by
  subst ha
  exact ct_w (c_handleAt0 l (w := quW w q Q) (h := q + 1 + 2 * k) (ci := kci k) (xt := kxt k) (by show q + 1 + 2 * k + 1 < w.1; omega) kci_ok hn hx) (quW_lay hk) (quW_lay hk) rfl
theorem cq_itemAt1 (l : Launch) {w : MW} {q : Nat} {Q : QU} (hq : q + 8 < w.1) {k : Nat} (hk : k < 4) (hn : (Q k).1 ≤ 30) {a : Nat} (ha : a = q + 1 + 2 * k) {j : Nat} (hj : j < (Q k).1) : Ct l (.code yX3_itemAt cX3_itemAt 2 (some .int)) yX3_itemAt 1 0 0 [.ref a, .int (nI j)] (quW w q Q) (.inl (some (.int ((Q k).2.1 j)))) (quW w q Q) := by
  subst ha
  exact ct_w (c_itemAt1 l (w := quW w q Q) (h := q + 1 + 2 * k) (ci := kci k) (xt := kxt k) (by show q + 1 + 2 * k + 1 < w.1; omega) kci_ok hn hj) (quW_lay hk) (quW_lay hk) rfl
theorem cq_itemAt0 (l : Launch) {w : MW} {q : Nat} {Q : QU} (hq : q + 8 < w.1) {k : Nat} (hk : k < 4) (hn : (Q k).1 ≤ 30) {a : Nat} (ha : a = q + 1 + 2 * k) {x : Int32} (hx : x < 0 ∨ nI (Q k).1 ≤ x) : Ct l (.code yX3_itemAt cX3_itemAt 2 (some .int)) yX3_itemAt 1 0 0 [.ref a, .int x] (quW w q Q) (.inl (some (.int (-1)))) (quW w q Q) := by
  subst ha
  exact ct_w (c_itemAt0 l (w := quW w q Q) (h := q + 1 + 2 * k) (ci := kci k) (xt := kxt k) (by show q + 1 + 2 * k + 1 < w.1; omega) kci_ok hn hx) (quW_lay hk) (quW_lay hk) rfl
theorem cq_keyAt1 (l : Launch) {w : MW} {q : Nat} {Q : QU} (hq : q + 8 < w.1) {k : Nat} (hk : k < 4) (hn : (Q k).1 ≤ 30) {a : Nat} (ha : a = q + 1 + 2 * k) {j : Nat} (hj : j < (Q k).1) : Ct l (.code yX3_keyAt cX3_keyAt 2 (some .int)) yX3_keyAt 2 0 0 [.ref a, .int (nI j)] (quW w q Q) (.inl (some (.int ((Q k).2.1 j >>> (5 &&& 31))))) (quW w q Q) := by
  subst ha
  exact ct_w (c_keyAt1 l (w := quW w q Q) (h := q + 1 + 2 * k) (ci := kci k) (xt := kxt k) (by show q + 1 + 2 * k + 1 < w.1; omega) kci_ok hn hj) (quW_lay hk) (quW_lay hk) rfl
theorem cq_keyAt0 (l : Launch) {w : MW} {q : Nat} {Q : QU} (hq : q + 8 < w.1) {k : Nat} (hk : k < 4) (hn : (Q k).1 ≤ 30) {a : Nat} (ha : a = q + 1 + 2 * k) {x : Int32} (hx : x < 0 ∨ nI (Q k).1 ≤ x) : Ct l (.code yX3_keyAt cX3_keyAt 2 (some .int)) yX3_keyAt 2 0 0 [.ref a, .int x] (quW w q Q) (.inl (some (.int ((-1 : Int32) >>> (5 &&& 31))))) (quW w q Q) := by
  subst ha
  exact ct_w (c_keyAt0 l (w := quW w q Q) (h := q + 1 + 2 * k) (ci := kci k) (xt := kxt k) (by show q + 1 + 2 * k + 1 < w.1; omega) kci_ok hn hx) (quW_lay hk) (quW_lay hk) rfl
theorem cq_exchange (l : Launch) {w : MW} {q : Nat} {Q : QU} (hq : q + 8 < w.1) {k : Nat} (hk : k < 4) (hn : (Q k).1 ≤ 30) {a : Nat} (ha : a = q + 1 + 2 * k) {i j : Nat} (hi : i < (Q k).1) (hj : j < (Q k).1) : Ct l (.code yX3_exchange cX3_exchange 4 none) yX3_exchange 0 0 0 [.ref a, .int (nI i), .int (nI j)] (quW w q Q) (.inl none) (quW w q (va_up Q k ((Q k).1, sw (Q k).2.1 i j, (Q k).2.2))) := by
  subst ha
  exact ct_w (c_exchange l (w := quW w q Q) (h := q + 1 + 2 * k) (ci := kci k) (xt := kxt k) (by show q + 1 + 2 * k + 1 < w.1; omega) kci_ok hn hi hj) (quW_lay hk) (quW_set hk _ _ _) rfl
theorem cq_putIn (l : Launch) {w : MW} {q : Nat} {Q : QU} (hq : q + 8 < w.1) {k : Nat} (hk : k < 4) {a : Nat} (ha : a = q + 1 + 2 * k) (hn : (Q k).1 < 30) {x ky : Int32} : Ct l (.code yX3_putIn cX3_putIn 3 none) yX3_putIn 3 0 0 [.ref a, .int x, .int ky] (quW w q Q) (.inl none) (quW w q (va_up Q k (opPut ky x k (Q k)))) := by
  subst ha
  rcases (show k = 0 ∨ k = 1 ∨ k = 2 ∨ k = 3 by omega) with rfl | rfl | rfl | rfl
  · exact ct_w (c_putIn_0 l (w := quW w q Q) (h := q + 1 + 2 * 0) (by show q + 1 + 2 * 0 + 1 < w.1; omega) hn ) (quW_lay (k := 0) (by decide)) (quW_set (k := 0) (by decide) _ _ _) rfl
  · exact ct_w (c_putIn_1 l (w := quW w q Q) (h := q + 1 + 2 * 1) (by show q + 1 + 2 * 1 + 1 < w.1; omega) hn ) (quW_lay (k := 1) (by decide)) (quW_set (k := 1) (by decide) _ _ _) rfl
  · exact ct_w (c_putIn_2 l (w := quW w q Q) (h := q + 1 + 2 * 2) (by show q + 1 + 2 * 2 + 1 < w.1; omega) hn ) (quW_lay (k := 2) (by decide)) (quW_set (k := 2) (by decide) _ _ _) rfl
  · exact ct_w (c_putIn_3 l (w := quW w q Q) (h := q + 1 + 2 * 3) (by show q + 1 + 2 * 3 + 1 < w.1; omega) hn ) (quW_lay (k := 3) (by decide)) (quW_set (k := 3) (by decide) _ _ _) rfl
theorem cq_takeOut (l : Launch) {w : MW} {q : Nat} {Q : QU} (hq : q + 8 < w.1) {k : Nat} (hk : k < 4) (hn : (Q k).1 ≤ 30) {a : Nat} (ha : a = q + 1 + 2 * k) {x : Int32} (hx : fndN (Q k).2.1 (Q k).1 x < (Q k).1) : Ct l (.code yX3_takeOut cX3_takeOut 3 none) yX3_takeOut 4 0 0 [.ref a, .int x] (quW w q Q) (.inl none) (quW w q (va_up Q k (opTake x k (Q k)))) := by
  subst ha
  rcases (show k = 0 ∨ k = 1 ∨ k = 2 ∨ k = 3 by omega) with rfl | rfl | rfl | rfl
  · exact ct_w (c_takeOut_0 l (w := quW w q Q) (h := q + 1 + 2 * 0) (by show q + 1 + 2 * 0 + 1 < w.1; omega) hn hx) (quW_lay (k := 0) (by decide)) (quW_set (k := 0) (by decide) _ _ _) rfl
  · exact ct_w (c_takeOut_1 l (w := quW w q Q) (h := q + 1 + 2 * 1) (by show q + 1 + 2 * 1 + 1 < w.1; omega) hn hx) (quW_lay (k := 1) (by decide)) (quW_set (k := 1) (by decide) _ _ _) rfl
  · exact ct_w (c_takeOut_2 l (w := quW w q Q) (h := q + 1 + 2 * 2) (by show q + 1 + 2 * 2 + 1 < w.1; omega) hn hx) (quW_lay (k := 2) (by decide)) (quW_set (k := 2) (by decide) _ _ _) rfl
  · exact ct_w (c_takeOut_3 l (w := quW w q Q) (h := q + 1 + 2 * 3) (by show q + 1 + 2 * 3 + 1 < w.1; omega) hn hx) (quW_lay (k := 3) (by decide)) (quW_set (k := 3) (by decide) _ _ _) rfl
theorem cq_giveKey (l : Launch) {w : MW} {q : Nat} {Q : QU} (hq : q + 8 < w.1) {k : Nat} (hk : k < 4) (hn : (Q k).1 ≤ 30) {a : Nat} (ha : a = q + 1 + 2 * k) {x ky : Int32} (hx : fndN (Q k).2.1 (Q k).1 x < (Q k).1) : Ct l (.code yX3_giveKey cX3_giveKey 4 none) yX3_giveKey 4 0 0 [.ref a, .int x, .int ky] (quW w q Q) (.inl none) (quW w q (va_up Q k (opGive x ky k (Q k)))) := by
  subst ha
  rcases (show k = 0 ∨ k = 1 ∨ k = 2 ∨ k = 3 by omega) with rfl | rfl | rfl | rfl
  · exact ct_w (c_giveKey_0 l (w := quW w q Q) (h := q + 1 + 2 * 0) (by show q + 1 + 2 * 0 + 1 < w.1; omega) hn hx) (quW_lay (k := 0) (by decide)) (quW_set (k := 0) (by decide) _ _ _) rfl
  · exact ct_w (c_giveKey_1 l (w := quW w q Q) (h := q + 1 + 2 * 1) (by show q + 1 + 2 * 1 + 1 < w.1; omega) hn hx) (quW_lay (k := 1) (by decide)) (quW_set (k := 1) (by decide) _ _ _) rfl
  · exact ct_w (c_giveKey_2 l (w := quW w q Q) (h := q + 1 + 2 * 2) (by show q + 1 + 2 * 2 + 1 < w.1; omega) hn hx) (quW_lay (k := 2) (by decide)) (quW_set (k := 2) (by decide) _ _ _) rfl
  · exact ct_w (c_giveKey_3 l (w := quW w q Q) (h := q + 1 + 2 * 3) (by show q + 1 + 2 * 3 + 1 < w.1; omega) hn hx) (quW_lay (k := 3) (by decide)) (quW_set (k := 3) (by decide) _ _ _) rfl
theorem cq_arrange (l : Launch) {w : MW} {q : Nat} {Q : QU} (hq : q + 8 < w.1) {k : Nat} (hk : k < 4) (hn : (Q k).1 ≤ 30) {a : Nat} (ha : a = q + 1 + 2 * k)  : Ct l (.code yX3_arrange cX3_arrange 1 none) yX3_arrange 4 0 0 [.ref a] (quW w q Q) (.inl none) (quW w q (va_up Q k (opArr k (Q k)))) := by
  subst ha
  rcases (show k = 0 ∨ k = 1 ∨ k = 2 ∨ k = 3 by omega) with rfl | rfl | rfl | rfl
  · exact ct_w (c_arrange_0 l (w := quW w q Q) (h := q + 1 + 2 * 0) (by show q + 1 + 2 * 0 + 1 < w.1; omega) hn ) (quW_lay (k := 0) (by decide)) (quW_set (k := 0) (by decide) _ _ _) rfl
  · exact ct_w (c_arrange_1 l (w := quW w q Q) (h := q + 1 + 2 * 1) (by show q + 1 + 2 * 1 + 1 < w.1; omega) hn ) (quW_lay (k := 1) (by decide)) (quW_set (k := 1) (by decide) _ _ _) rfl
  · exact ct_w (c_arrange_2 l (w := quW w q Q) (h := q + 1 + 2 * 2) (by show q + 1 + 2 * 2 + 1 < w.1; omega) hn ) (quW_lay (k := 2) (by decide)) (quW_set (k := 2) (by decide) _ _ _) rfl
  · exact ct_w (c_arrange_3 l (w := quW w q Q) (h := q + 1 + 2 * 3) (by show q + 1 + 2 * 3 + 1 < w.1; omega) hn ) (quW_lay (k := 3) (by decide)) (quW_set (k := 3) (by decide) _ _ _) rfl
theorem c_layout (l : Launch) {w : MW} {q : Nat} {Q : QU} (hq : q + 8 < w.1) {k : Nat} (hk : k < 4) : Ct l (.code yX5_layout cX5_layout 2 (some (.object "TwoEndQueues$Layout"))) yX5_layout 0 0 0 [.ref q, .int (nI k)] (quW w q Q) (.inl (some (.ref (q + 1 + 2 * k)))) (quW w q Q) := by
  refine ct_of (by decide +kernel) (Nat.le_of_ble_eq_true rfl) ?_
  rcases (show k = 0 ∨ k = 1 ∨ k = 2 ∨ k = 3 by omega) with rfl | rfl | rfl | rfl
  · skip
    refine go_iload_n dX5_layout_0 rfl ?_
    refine go_tblIn 28 dX5_layout_1 (by decide) (by decide) rfl (by decide) ?_
    refine go_aload_n dX5_layout_28 rfl ?_
    refine go_getfield dX5_layout_29 f_X5_12_4 (quW_ob hq) rfl ?_
    exact go_areturn dX5_layout_32 rfl
  · skip
    refine go_iload_n dX5_layout_0 rfl ?_
    refine go_tblIn 33 dX5_layout_1 (by decide) (by decide) rfl (by decide) ?_
    refine go_aload_n dX5_layout_33 rfl ?_
    refine go_getfield dX5_layout_34 f_X5_21_4 (quW_ob hq) rfl ?_
    exact go_areturn dX5_layout_37 rfl
  · skip
    refine go_iload_n dX5_layout_0 rfl ?_
    refine go_tblIn 38 dX5_layout_1 (by decide) (by decide) rfl (by decide) ?_
    refine go_aload_n dX5_layout_38 rfl ?_
    refine go_getfield dX5_layout_39 f_X5_30_4 (quW_ob hq) rfl ?_
    exact go_areturn dX5_layout_42 rfl
  · skip
    refine go_iload_n dX5_layout_0 rfl ?_
    refine go_tblOut 43 dX5_layout_1 (Or.inr (by decide)) (by decide) ?_
    refine go_aload_n dX5_layout_43 rfl ?_
    refine go_getfield dX5_layout_44 f_X5_34_4 (quW_ob hq) rfl ?_
    exact go_areturn dX5_layout_47 rfl
theorem c_itemCount (l : Launch) {w : MW} {q : Nat} {Q : QU} (hq : q + 8 < w.1) : Ct l (.code yX5_itemCount cX5_itemCount 1 (some .int)) yX5_itemCount 0 0 0 [.ref q] (quW w q Q) (.inl (some (.int (nI (Q 0).1)))) (quW w q Q) := by
  refine ct_of (by decide +kernel) (Nat.le_of_ble_eq_true rfl) ?_
  refine go_aload_n dX5_itemCount_0 rfl ?_
  refine go_getfield dX5_itemCount_1 f_X5_12_4 (quW_ob hq) rfl ?_
  refine go_getfield dX5_itemCount_4 f_X5_37_2 (quW_obk hq (k := 0) (by decide) rfl rfl) rfl ?_
  exact go_ireturn dX5_itemCount_7 rfl rfl
theorem c_has (l : Launch) {w : MW} {q : Nat} {Q : QU} (hq : q + 8 < w.1) (hn : (Q 0).1 ≤ 30) {x : Int32} : Ct l (.code yX5_has cX5_has 2 (some .boolean)) yX5_has 3 0 0 [.ref q, .int x] (quW w q Q) (.inl (some (.int (bI (hasB Q x))))) (quW w q Q) := by
  refine ct_of (by decide +kernel) (Nat.le_of_ble_eq_true rfl) ?_
  by_cases e : fndN (Q 0).2.1 (Q 0).1 x < (Q 0).1
  · have ef : fndR (Q 0).2.1 (Q 0).1 x = nI (fndN (Q 0).2.1 (Q 0).1 x) := if_pos e
    rw [show hasB Q x = true from decide_eq_true e]
    refine go_aload_n dX5_has_0 rfl ?_
    refine go_getfield dX5_has_1 f_X5_12_4 (quW_ob hq) rfl ?_
    refine go_iload_n dX5_has_4 rfl ?_
    refine go_virt1 dX5_has_5 (cq_find l hq (k := 0) (by decide) hn rfl (x := x)) v_X5_41_2 rfl (quW_obk hq (k := 0) (by decide) rfl rfl) rfl (Nat.le_of_ble_eq_true rfl) (Nat.le_of_ble_eq_true rfl) (Nat.le_of_ble_eq_true rfl) ?_
    rw [ef]
    refine go_iconst (-1) dX5_has_8 (by decide) ?_
    refine go_icmp_eq_f 16 dX5_has_9 (by decide) (fun z => absurd (congrArg Int32.toInt z) (by rw [nI_toInt (by omega)]; intro z2; have : ((-1 : Int32)).toInt = -1 := rfl; omega)) ?_
    refine go_iconst 1 dX5_has_12 (by decide) ?_
    refine go_goto 17 dX5_has_13 (by decide) ?_
    exact go_ireturn dX5_has_17 rfl (by decide)
  · have ef : fndR (Q 0).2.1 (Q 0).1 x = -1 := if_neg e
    rw [show hasB Q x = false from decide_eq_false e]
    refine go_aload_n dX5_has_0 rfl ?_
    refine go_getfield dX5_has_1 f_X5_12_4 (quW_ob hq) rfl ?_
    refine go_iload_n dX5_has_4 rfl ?_
    refine go_virt1 dX5_has_5 (cq_find l hq (k := 0) (by decide) hn rfl (x := x)) v_X5_41_2 rfl (quW_obk hq (k := 0) (by decide) rfl rfl) rfl (Nat.le_of_ble_eq_true rfl) (Nat.le_of_ble_eq_true rfl) (Nat.le_of_ble_eq_true rfl) ?_
    rw [ef]
    refine go_iconst (-1) dX5_has_8 (by decide) ?_
    refine go_icmp_eq_t 16 dX5_has_9 (by decide) (rfl) ?_
    refine go_iconst 0 dX5_has_16 (by decide) ?_
    exact go_ireturn dX5_has_17 rfl (by decide)
theorem c_keyOf (l : Launch) {w : MW} {q : Nat} {Q : QU} (hq : q + 8 < w.1) (hn : (Q 0).1 ≤ 30) {x : Int32} (e : fndN (Q 0).2.1 (Q 0).1 x < (Q 0).1) : Ct l (.code yX5_keyOf cX5_keyOf 2 (some .int)) yX5_keyOf 3 0 0 [.ref q, .int x] (quW w q Q) (.inl (some (.int ((Q 0).2.1 (fndN (Q 0).2.1 (Q 0).1 x) >>> (5 &&& 31))))) (quW w q Q) := by
  refine ct_of (by decide +kernel) (Nat.le_of_ble_eq_true rfl) ?_
  have ef : fndR (Q 0).2.1 (Q 0).1 x = nI (fndN (Q 0).2.1 (Q 0).1 x) := if_pos e
  refine go_aload_n dX5_keyOf_0 rfl ?_
  refine go_getfield dX5_keyOf_1 f_X5_12_4 (quW_ob hq) rfl ?_
  refine go_aload_n dX5_keyOf_4 rfl ?_
  refine go_getfield dX5_keyOf_5 f_X5_12_4 (quW_ob hq) rfl ?_
  refine go_iload_n dX5_keyOf_8 rfl ?_
  refine go_virt1 dX5_keyOf_9 (cq_find l hq (k := 0) (by decide) hn rfl (x := x)) v_X5_41_2 rfl (quW_obk hq (k := 0) (by decide) rfl rfl) rfl (Nat.le_of_ble_eq_true rfl) (Nat.le_of_ble_eq_true rfl) (Nat.le_of_ble_eq_true rfl) ?_
  rw [ef]
  refine go_virt1 dX5_keyOf_12 (cq_keyAt1 l hq (k := 0) (by decide) hn rfl e) v_X5_45_2 rfl (quW_obk hq (k := 0) (by decide) rfl rfl) rfl (Nat.le_of_ble_eq_true rfl) (Nat.le_of_ble_eq_true rfl) (Nat.le_of_ble_eq_true rfl) ?_
  exact go_ireturn dX5_keyOf_15 rfl rfl
def setS (f : Nat → Int32) : Nat → Nat → Int32 → Int32
  | 0, _, a => a
  | u + 1, i, a => setS f u (i + 1) (a ||| (1 <<< (hs (f i) &&& 31)))
theorem c_handleSet_4 (l : Launch) {w : MW} {q : Nat} {Q : QU} (hq : q + 8 < w.1) (hn : (Q 0).1 ≤ 30) : ∀ (u i : Nat) (a r : Int32), u + i = (Q 0).1 → r = setS (Q 0).2.1 u i a → Go l yX5_handleSet cX5_handleSet 3 (some .int) [] none (mm_Z (mm_eq (.inl (some (.int r))) (quW w q Q))) 2 0 0 4 [(0, .ref q), (1, .int a), (2, .int (nI i))] [] (quW w q Q) := by
  intro u
  induction u with
  | zero =>
    intro i a r hi hr
    subst hr
    refine go_iload_n dX5_handleSet_4 rfl ?_
    refine go_aload_n dX5_handleSet_5 rfl ?_
    refine go_getfield dX5_handleSet_6 f_X5_12_4 (quW_ob hq) rfl ?_
    refine go_getfield dX5_handleSet_9 f_X5_37_2 (quW_obk hq (k := 0) (by decide) rfl rfl) rfl ?_
    refine go_icmp_ge_t 34 dX5_handleSet_12 (by decide) (nI_le (by omega) (by omega)) ?_
    refine go_iload_n dX5_handleSet_34 rfl ?_
    exact go_ireturn dX5_handleSet_35 rfl rfl
  | succ u ih =>
    intro i a r hi hr
    unfold setS at hr
    refine go_iload_n dX5_handleSet_4 rfl ?_
    refine go_aload_n dX5_handleSet_5 rfl ?_
    refine go_getfield dX5_handleSet_6 f_X5_12_4 (quW_ob hq) rfl ?_
    refine go_getfield dX5_handleSet_9 f_X5_37_2 (quW_obk hq (k := 0) (by decide) rfl rfl) rfl ?_
    refine go_icmp_ge_f 34 dX5_handleSet_12 (by decide) (n_nle (by omega) (by omega)) ?_
    refine go_iload_n dX5_handleSet_15 rfl ?_
    refine go_iconst 1 dX5_handleSet_16 (by decide) ?_
    refine go_aload_n dX5_handleSet_17 rfl ?_
    refine go_getfield dX5_handleSet_18 f_X5_12_4 (quW_ob hq) rfl ?_
    refine go_iload_n dX5_handleSet_21 rfl ?_
    refine go_virt1 dX5_handleSet_22 (cq_handleAt1 l hq (k := 0) (by decide) hn rfl (j := i) (by omega)) v_X5_48_2 rfl (quW_obk hq (k := 0) (by decide) rfl rfl) rfl (Nat.le_of_ble_eq_true rfl) (Nat.le_of_ble_eq_true rfl) (Nat.le_of_ble_eq_true rfl) ?_
    refine go_ishl dX5_handleSet_25 ?_
    refine go_ior dX5_handleSet_26 ?_
    refine go_istore_n dX5_handleSet_27 (Nat.le_of_ble_eq_true rfl) rfl ?_
    refine go_iinc dX5_handleSet_28 rfl (Nat.le_of_ble_eq_true rfl) rfl (show _ = _ + 1 from rfl) ?_
    rw [a_k1]
    refine go_goto 4 dX5_handleSet_31 (by decide) ?_
    exact go_sub [(0, .ref q), (1, .int (a ||| (1 <<< (hs ((Q 0).2.1 i) &&& 31)))), (2, .int (nI (i + 1)))] ⟨rfl, rfl, rfl, trivial⟩ (ih (i + 1) _ r (by omega) hr)
theorem c_handleSet (l : Launch) {w : MW} {q : Nat} {Q : QU} (hq : q + 8 < w.1) (hn : (Q 0).1 ≤ 30) : Ct l (.code yX5_handleSet cX5_handleSet 3 (some .int)) yX5_handleSet 2 0 0 [.ref q] (quW w q Q) (.inl (some (.int (setS (Q 0).2.1 (Q 0).1 0 0)))) (quW w q Q) := by
  refine ct_of (by decide +kernel) (Nat.le_of_ble_eq_true rfl) ?_
  refine go_iconst 0 dX5_handleSet_0 (by decide) ?_
  refine go_istore_n dX5_handleSet_1 (Nat.le_of_ble_eq_true rfl) rfl ?_
  refine go_iconst 0 dX5_handleSet_2 (by decide) ?_
  refine go_istore_n dX5_handleSet_3 (Nat.le_of_ble_eq_true rfl) rfl ?_
  exact go_sub [(0, .ref q), (1, .int 0), (2, .int (nI 0))] ⟨rfl, rfl, rfl, trivial⟩ (c_handleSet_4 l hq hn _ 0 0 _ (by omega) rfl)
def lesS (lt : QL) (f : Nat → Int32) (y : Int32) : Nat → Nat → Nat
  | 0, _ => 0
  | u + 1, i => bN (lt (f i) y) + lesS lt f y u (i + 1)
theorem c_countLess_21 (l : Launch) {w : MW} {q : Nat} {Q : QU} (hq : q + 8 < w.1) (hn : (Q 0).1 ≤ 30) {y : Int32} : ∀ (u i b r : Nat), u + i = (Q 0).1 → r = b + lesS ltI (Q 0).2.1 y u i → Go l yX5_countLess cX5_countLess 5 (some .int) [] none (mm_Z (mm_eq (.inl (some (.int (nI r)))) (quW w q Q))) 3 0 0 21 [(0, .ref q), (2, .int y), (3, .int (nI b)), (4, .int (nI i))] [] (quW w q Q) := by
  intro u
  induction u with
  | zero =>
    intro i b r hi hr
    have e : r = b := by rw [hr]; rfl
    subst e
    refine go_iload dX5_countLess_21 rfl ?_
    refine go_aload_n dX5_countLess_23 rfl ?_
    refine go_getfield dX5_countLess_24 f_X5_12_4 (quW_ob hq) rfl ?_
    refine go_getfield dX5_countLess_27 f_X5_37_2 (quW_obk hq (k := 0) (by decide) rfl rfl) rfl ?_
    refine go_icmp_ge_t 55 dX5_countLess_30 (by decide) (nI_le (by omega) (by omega)) ?_
    refine go_iload_n dX5_countLess_55 rfl ?_
    exact go_ireturn dX5_countLess_56 rfl rfl
  | succ u ih =>
    intro i b r hi hr
    unfold lesS at hr
    refine go_iload dX5_countLess_21 rfl ?_
    refine go_aload_n dX5_countLess_23 rfl ?_
    refine go_getfield dX5_countLess_24 f_X5_12_4 (quW_ob hq) rfl ?_
    refine go_getfield dX5_countLess_27 f_X5_37_2 (quW_obk hq (k := 0) (by decide) rfl rfl) rfl ?_
    refine go_icmp_ge_f 55 dX5_countLess_30 (by decide) (n_nle (by omega) (by omega)) ?_
    refine go_aload_n dX5_countLess_33 rfl ?_
    refine go_getfield dX5_countLess_34 f_X5_12_4 (quW_ob hq) rfl ?_
    refine go_iload dX5_countLess_37 rfl ?_
    refine go_virt1 dX5_countLess_39 (cq_itemAt1 l hq (k := 0) (by decide) hn rfl (j := i) (by omega)) v_X5_51_2 rfl (quW_obk hq (k := 0) (by decide) rfl rfl) rfl (Nat.le_of_ble_eq_true rfl) (Nat.le_of_ble_eq_true rfl) (Nat.le_of_ble_eq_true rfl) ?_
    refine go_iload_n dX5_countLess_42 rfl ?_
    refine go_icmp_ge 49 dX5_countLess_43 (by decide) (fun q43 => ?_) (fun q43 => ?_)
    · have e3 : bN (ltI ((Q 0).2.1 i) y) = 0 := bN_0 (decide_eq_false (Int32.not_lt.mpr q43))
      refine go_iinc dX5_countLess_49 rfl (Nat.le_of_ble_eq_true rfl) rfl (show _ = _ + 1 from rfl) ?_
      rw [a_k1]
      refine go_goto 21 dX5_countLess_52 (by decide) ?_
      exact go_sub [(0, .ref q), (2, .int y), (3, .int (nI _)), (4, .int (nI (i + 1)))] ⟨rfl, rfl, rfl, rfl, trivial⟩ (ih (i + 1) _ r (by omega) (by omega))
    · have e3 : bN (ltI ((Q 0).2.1 i) y) = 1 := bN_1 (decide_eq_true (Int32.not_le.mp q43))
      refine go_iinc dX5_countLess_46 rfl (Nat.le_of_ble_eq_true rfl) rfl (show _ = _ + 1 from rfl) ?_
      rw [a_k1]
      refine go_iinc dX5_countLess_49 rfl (Nat.le_of_ble_eq_true rfl) rfl (show _ = _ + 1 from rfl) ?_
      rw [a_k1]
      refine go_goto 21 dX5_countLess_52 (by decide) ?_
      exact go_sub [(0, .ref q), (2, .int y), (3, .int (nI _)), (4, .int (nI (i + 1)))] ⟨rfl, rfl, rfl, rfl, trivial⟩ (ih (i + 1) _ r (by omega) (by omega))
theorem c_countLess (l : Launch) {w : MW} {q : Nat} {Q : QU} (hq : q + 8 < w.1) (hn : (Q 0).1 ≤ 30) {x : Int32} (e : fndN (Q 0).2.1 (Q 0).1 x < (Q 0).1) : Ct l (.code yX5_countLess cX5_countLess 5 (some .int)) yX5_countLess 3 0 0 [.ref q, .int x] (quW w q Q) (.inl (some (.int (nI (lesS ltI (Q 0).2.1 ((Q 0).2.1 (fndN (Q 0).2.1 (Q 0).1 x)) (Q 0).1 0))))) (quW w q Q) := by
  refine ct_of (by decide +kernel) (Nat.le_of_ble_eq_true rfl) ?_
  have ef : fndR (Q 0).2.1 (Q 0).1 x = nI (fndN (Q 0).2.1 (Q 0).1 x) := if_pos e
  refine go_aload_n dX5_countLess_0 rfl ?_
  refine go_getfield dX5_countLess_1 f_X5_12_4 (quW_ob hq) rfl ?_
  refine go_aload_n dX5_countLess_4 rfl ?_
  refine go_getfield dX5_countLess_5 f_X5_12_4 (quW_ob hq) rfl ?_
  refine go_iload_n dX5_countLess_8 rfl ?_
  refine go_virt1 dX5_countLess_9 (cq_find l hq (k := 0) (by decide) hn rfl (x := x)) v_X5_41_2 rfl (quW_obk hq (k := 0) (by decide) rfl rfl) rfl (Nat.le_of_ble_eq_true rfl) (Nat.le_of_ble_eq_true rfl) (Nat.le_of_ble_eq_true rfl) ?_
  rw [ef]
  refine go_virt1 dX5_countLess_12 (cq_itemAt1 l hq (k := 0) (by decide) hn rfl (j := fndN (Q 0).2.1 (Q 0).1 x) e) v_X5_51_2 rfl (quW_obk hq (k := 0) (by decide) rfl rfl) rfl (Nat.le_of_ble_eq_true rfl) (Nat.le_of_ble_eq_true rfl) (Nat.le_of_ble_eq_true rfl) ?_
  refine go_istore_n dX5_countLess_15 (Nat.le_of_ble_eq_true rfl) rfl ?_
  refine go_iconst 0 dX5_countLess_16 (by decide) ?_
  refine go_istore_n dX5_countLess_17 (Nat.le_of_ble_eq_true rfl) rfl ?_
  refine go_iconst 0 dX5_countLess_18 (by decide) ?_
  refine go_istore dX5_countLess_19 (Nat.le_of_ble_eq_true rfl) rfl ?_
  exact go_sub [(0, .ref q), (2, .int ((Q 0).2.1 (fndN (Q 0).2.1 (Q 0).1 x))), (3, .int (nI 0)), (4, .int (nI 0))] ⟨rfl, rfl, rfl, rfl, trivial⟩ (c_countLess_21 l hq hn (Q 0).1 0 0 _ (by omega) (Nat.zero_add _).symm)
