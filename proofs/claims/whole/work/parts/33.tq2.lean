theorem tq_up {w : MW} {Q U : QU} {H : HS} {t : Nat → Nat} {ln : Nat} {s : PS} (t2 : Nat → Nat) (ln2 : Nat) (s2 : PS) : mm_up (tqW w Q U H t ln s) 66 (.inr (5, [.ref 67, .int (nI s2.1), .int (nI s2.2.1), .int (nI ln2), .int s2.2.2.1, .int s2.2.2.2.1, .int s2.2.2.2.2])) = tqW w Q U H t ln2 s2 := by
  have := scW_up (w := tqW w Q U H t ln s) (p := 66) (t := t) (ln := ln) (s := s) t2 ln2 s2
  rw [tq_fs, tq_fs] at this
  exact this
theorem c_reqKey_y (l : Launch) {w : MW} {x : Int32} (h : isKeyB x = true) : Ct l (.code yX7_requireKey cX7_requireKey 1 none) yX7_requireKey 6 0 0 [.int x] w (.inl none) w := by
  refine ct_of (by decide +kernel) (Nat.le_of_ble_eq_true rfl) ?_
  refine go_iload_n dX7_requireKey_0 rfl ?_
  refine go_stat1 dX7_requireKey_1 (c_isKey l) s_X7_229 kc_X7_isKey rfl rfl (Nat.le_of_ble_eq_true rfl) (Nat.le_of_ble_eq_true rfl) (Nat.le_of_ble_eq_true rfl) ?_
  refine go_if_ne_t 17 dX7_requireKey_4 (by decide) (by rw [h]; decide) ?_
  exact go_return dX7_requireKey_17 rfl
theorem c_reqKey_n (l : Launch) {w : MW} {x : Int32} (h : isKeyB x = false) : Ct l (.code yX7_requireKey cX7_requireKey 1 none) yX7_requireKey 6 1 6 [.int x] w (.inr "java/lang/IllegalArgumentException") w := by
  refine ct_of (by decide +kernel) (Nat.le_of_ble_eq_true rfl) ?_
  refine go_iload_n dX7_requireKey_0 rfl ?_
  refine go_stat1 dX7_requireKey_1 (c_isKey l) s_X7_229 kc_X7_isKey rfl rfl (Nat.le_of_ble_eq_true rfl) (Nat.le_of_ble_eq_true rfl) (Nat.le_of_ble_eq_true rfl) ?_
  refine go_if_ne_f 17 dX7_requireKey_4 (by decide) (by rw [h]; rfl) ?_
  exact go_throw (bc := 0) (bs := 0) t_X7_232 dX7_requireKey_7 dX7_requireKey_10 dX7_requireKey_11 dX7_requireKey_13 dX7_requireKey_16 (Nat.le_of_ble_eq_true rfl)
theorem c_reqQueue_y (l : Launch) {w : MW} {k : Nat} (h : k < 3) : Ct l (.code yX7_requireQueue cX7_requireQueue 1 none) yX7_requireQueue 6 0 0 [.int (nI k)] w (.inl none) w := by
  refine ct_of (by decide +kernel) (Nat.le_of_ble_eq_true rfl) ?_
  refine go_iload_n dX7_requireQueue_0 rfl ?_
  refine go_if_lt_f 9 dX7_requireQueue_1 (by decide) (nI_pos (by omega)) ?_
  refine go_iload_n dX7_requireQueue_4 rfl ?_
  refine go_iconst 3 dX7_requireQueue_5 (by decide) ?_
  refine go_icmp_lt_t 19 dX7_requireQueue_6 (by decide) (nI_lt (b := 3) h (by decide)) ?_
  exact go_return dX7_requireQueue_19 rfl
theorem c_reqQueue_n (l : Launch) {w : MW} {x : Int32} (h : x < 0 ∨ 3 ≤ x) : Ct l (.code yX7_requireQueue cX7_requireQueue 1 none) yX7_requireQueue 6 1 6 [.int x] w (.inr "java/lang/IllegalArgumentException") w := by
  refine ct_of (by decide +kernel) (Nat.le_of_ble_eq_true rfl) ?_
  rcases h with h | h
  · skip
    refine go_iload_n dX7_requireQueue_0 rfl ?_
    refine go_if_lt_t 9 dX7_requireQueue_1 (by decide) (h) ?_
    exact go_throw (bc := 0) (bs := 0) t_X7_234 dX7_requireQueue_9 dX7_requireQueue_12 dX7_requireQueue_13 dX7_requireQueue_15 dX7_requireQueue_18 (Nat.le_of_ble_eq_true rfl)
  · by_cases h0 : x < 0
    · skip
      refine go_iload_n dX7_requireQueue_0 rfl ?_
      refine go_if_lt_t 9 dX7_requireQueue_1 (by decide) (h0) ?_
      exact go_throw (bc := 0) (bs := 0) t_X7_234 dX7_requireQueue_9 dX7_requireQueue_12 dX7_requireQueue_13 dX7_requireQueue_15 dX7_requireQueue_18 (Nat.le_of_ble_eq_true rfl)
    · skip
      refine go_iload_n dX7_requireQueue_0 rfl ?_
      refine go_if_lt_f 9 dX7_requireQueue_1 (by decide) (h0) ?_
      refine go_iload_n dX7_requireQueue_4 rfl ?_
      refine go_iconst 3 dX7_requireQueue_5 (by decide) ?_
      refine go_icmp_lt_f 19 dX7_requireQueue_6 (by decide) (Int32.not_lt.mpr h) ?_
      exact go_throw (bc := 0) (bs := 0) t_X7_234 dX7_requireQueue_9 dX7_requireQueue_12 dX7_requireQueue_13 dX7_requireQueue_15 dX7_requireQueue_18 (Nat.le_of_ble_eq_true rfl)
theorem c_reqLayout_y (l : Launch) {w : MW} {k : Nat} (h : k < 4) : Ct l (.code yX7_requireLayout cX7_requireLayout 1 none) yX7_requireLayout 6 0 0 [.int (nI k)] w (.inl none) w := by
  refine ct_of (by decide +kernel) (Nat.le_of_ble_eq_true rfl) ?_
  refine go_iload_n dX7_requireLayout_0 rfl ?_
  refine go_if_lt_f 9 dX7_requireLayout_1 (by decide) (nI_pos (by omega)) ?_
  refine go_iload_n dX7_requireLayout_4 rfl ?_
  refine go_iconst 4 dX7_requireLayout_5 (by decide) ?_
  refine go_icmp_lt_t 19 dX7_requireLayout_6 (by decide) (nI_lt (b := 4) h (by decide)) ?_
  exact go_return dX7_requireLayout_19 rfl
theorem c_reqLayout_n (l : Launch) {w : MW} {x : Int32} (h : x < 0 ∨ 4 ≤ x) : Ct l (.code yX7_requireLayout cX7_requireLayout 1 none) yX7_requireLayout 6 1 6 [.int x] w (.inr "java/lang/IllegalArgumentException") w := by
  refine ct_of (by decide +kernel) (Nat.le_of_ble_eq_true rfl) ?_
  rcases h with h | h
  · skip
    refine go_iload_n dX7_requireLayout_0 rfl ?_
    refine go_if_lt_t 9 dX7_requireLayout_1 (by decide) (h) ?_
    exact go_throw (bc := 0) (bs := 0) t_X7_236 dX7_requireLayout_9 dX7_requireLayout_12 dX7_requireLayout_13 dX7_requireLayout_15 dX7_requireLayout_18 (Nat.le_of_ble_eq_true rfl)
  · by_cases h0 : x < 0
    · skip
      refine go_iload_n dX7_requireLayout_0 rfl ?_
      refine go_if_lt_t 9 dX7_requireLayout_1 (by decide) (h0) ?_
      exact go_throw (bc := 0) (bs := 0) t_X7_236 dX7_requireLayout_9 dX7_requireLayout_12 dX7_requireLayout_13 dX7_requireLayout_15 dX7_requireLayout_18 (Nat.le_of_ble_eq_true rfl)
    · skip
      refine go_iload_n dX7_requireLayout_0 rfl ?_
      refine go_if_lt_f 9 dX7_requireLayout_1 (by decide) (h0) ?_
      refine go_iload_n dX7_requireLayout_4 rfl ?_
      refine go_iconst 4 dX7_requireLayout_5 (by decide) ?_
      refine go_icmp_lt_f 19 dX7_requireLayout_6 (by decide) (Int32.not_lt.mpr h) ?_
      exact go_throw (bc := 0) (bs := 0) t_X7_236 dX7_requireLayout_9 dX7_requireLayout_12 dX7_requireLayout_13 dX7_requireLayout_15 dX7_requireLayout_18 (Nat.le_of_ble_eq_true rfl)
theorem c_reqItem_y (l : Launch) {w : MW} {Q U : QU} {H : HS} {t : Nat → Nat} {ln : Nat} {s : PS} (hw : 74 ≤ w.1) (hn : (Q 0).1 ≤ 30) {x : Int32} (h : hasB Q x = true) : Ct l (.code yX7_requireItem cX7_requireItem 2 none) yX7_requireItem 6 0 0 [.ref 0, .int x] (tqW w Q U H t ln s) (.inl none) (tqW w Q U H t ln s) := by
  refine ct_of (by decide +kernel) (Nat.le_of_ble_eq_true rfl) ?_
  refine go_aload_n dX7_requireItem_0 rfl ?_
  refine go_getfield dX7_requireItem_1 f_X7_10_6 (tq_ob hw) rfl ?_
  refine go_iload_n dX7_requireItem_4 rfl ?_
  refine go_virt1 dX7_requireItem_5 (tq_1 (c_has l (by show 1 + 8 < w.1; omega) hn)) v_X7_114_4 rfl (tq_ob1 hw) rfl (Nat.le_of_ble_eq_true rfl) (Nat.le_of_ble_eq_true rfl) (Nat.le_of_ble_eq_true rfl) ?_
  refine go_if_ne_t 21 dX7_requireItem_8 (by decide) (by rw [h]; decide) ?_
  exact go_return dX7_requireItem_21 rfl
theorem c_reqItem_n (l : Launch) {w : MW} {Q U : QU} {H : HS} {t : Nat → Nat} {ln : Nat} {s : PS} (hw : 74 ≤ w.1) (hn : (Q 0).1 ≤ 30) {x : Int32} (h : hasB Q x = false) : Ct l (.code yX7_requireItem cX7_requireItem 2 none) yX7_requireItem 6 1 6 [.ref 0, .int x] (tqW w Q U H t ln s) (.inr "java/lang/IndexOutOfBoundsException") (tqW w Q U H t ln s) := by
  refine ct_of (by decide +kernel) (Nat.le_of_ble_eq_true rfl) ?_
  refine go_aload_n dX7_requireItem_0 rfl ?_
  refine go_getfield dX7_requireItem_1 f_X7_10_6 (tq_ob hw) rfl ?_
  refine go_iload_n dX7_requireItem_4 rfl ?_
  refine go_virt1 dX7_requireItem_5 (tq_1 (c_has l (by show 1 + 8 < w.1; omega) hn)) v_X7_114_4 rfl (tq_ob1 hw) rfl (Nat.le_of_ble_eq_true rfl) (Nat.le_of_ble_eq_true rfl) (Nat.le_of_ble_eq_true rfl) ?_
  refine go_if_ne_f 21 dX7_requireItem_8 (by decide) (by rw [h]; rfl) ?_
  exact go_throw (bc := 0) (bs := 0) t_X7_240 dX7_requireItem_11 dX7_requireItem_14 dX7_requireItem_15 dX7_requireItem_17 dX7_requireItem_20 (Nat.le_of_ble_eq_true rfl)
theorem c_reqPos_y (l : Launch) {w : MW} {Q U : QU} {H : HS} {t : Nat → Nat} {ln : Nat} {s : PS} (hw : 74 ≤ w.1) (hn : (Q 0).1 ≤ 30) {i : Nat} (h : i < (Q 0).1) : Ct l (.code yX7_requirePosition cX7_requirePosition 2 none) yX7_requirePosition 6 0 0 [.ref 0, .int (nI i)] (tqW w Q U H t ln s) (.inl none) (tqW w Q U H t ln s) := by
  refine ct_of (by decide +kernel) (Nat.le_of_ble_eq_true rfl) ?_
  refine go_iload_n dX7_requirePosition_0 rfl ?_
  refine go_if_lt_f 15 dX7_requirePosition_1 (by decide) (nI_pos (by omega)) ?_
  refine go_iload_n dX7_requirePosition_4 rfl ?_
  refine go_aload_n dX7_requirePosition_5 rfl ?_
  refine go_getfield dX7_requirePosition_6 f_X7_10_6 (tq_ob hw) rfl ?_
  refine go_virt1 dX7_requirePosition_9 (tq_1 (c_itemCount l (by show 1 + 8 < w.1; omega))) v_X7_37_4 rfl (tq_ob1 hw) rfl (Nat.le_of_ble_eq_true rfl) (Nat.le_of_ble_eq_true rfl) (Nat.le_of_ble_eq_true rfl) ?_
  refine go_icmp_lt_t 25 dX7_requirePosition_12 (by decide) (nI_lt h (by omega)) ?_
  exact go_return dX7_requirePosition_25 rfl
theorem c_reqPos_n (l : Launch) {w : MW} {Q U : QU} {H : HS} {t : Nat → Nat} {ln : Nat} {s : PS} (hw : 74 ≤ w.1) {x : Int32} (h : x < 0 ∨ nI (Q 0).1 ≤ x) : Ct l (.code yX7_requirePosition cX7_requirePosition 2 none) yX7_requirePosition 6 1 6 [.ref 0, .int x] (tqW w Q U H t ln s) (.inr "java/lang/IndexOutOfBoundsException") (tqW w Q U H t ln s) := by
  refine ct_of (by decide +kernel) (Nat.le_of_ble_eq_true rfl) ?_
  rcases h with h | h
  · skip
    refine go_iload_n dX7_requirePosition_0 rfl ?_
    refine go_if_lt_t 15 dX7_requirePosition_1 (by decide) (h) ?_
    exact go_throw (bc := 0) (bs := 0) t_X7_243 dX7_requirePosition_15 dX7_requirePosition_18 dX7_requirePosition_19 dX7_requirePosition_21 dX7_requirePosition_24 (Nat.le_of_ble_eq_true rfl)
  · by_cases h0 : x < 0
    · skip
      refine go_iload_n dX7_requirePosition_0 rfl ?_
      refine go_if_lt_t 15 dX7_requirePosition_1 (by decide) (h0) ?_
      exact go_throw (bc := 0) (bs := 0) t_X7_243 dX7_requirePosition_15 dX7_requirePosition_18 dX7_requirePosition_19 dX7_requirePosition_21 dX7_requirePosition_24 (Nat.le_of_ble_eq_true rfl)
    · skip
      refine go_iload_n dX7_requirePosition_0 rfl ?_
      refine go_if_lt_f 15 dX7_requirePosition_1 (by decide) (h0) ?_
      refine go_iload_n dX7_requirePosition_4 rfl ?_
      refine go_aload_n dX7_requirePosition_5 rfl ?_
      refine go_getfield dX7_requirePosition_6 f_X7_10_6 (tq_ob hw) rfl ?_
      refine go_virt1 dX7_requirePosition_9 (tq_1 (c_itemCount l (by show 1 + 8 < w.1; omega))) v_X7_37_4 rfl (tq_ob1 hw) rfl (Nat.le_of_ble_eq_true rfl) (Nat.le_of_ble_eq_true rfl) (Nat.le_of_ble_eq_true rfl) ?_
      refine go_icmp_lt_f 25 dX7_requirePosition_12 (by decide) (Int32.not_lt.mpr h) ?_
      exact go_throw (bc := 0) (bs := 0) t_X7_243 dX7_requirePosition_15 dX7_requirePosition_18 dX7_requirePosition_19 dX7_requirePosition_21 dX7_requirePosition_24 (Nat.le_of_ble_eq_true rfl)
theorem c_reqItems_y (l : Launch) {w : MW} {Q U : QU} {H : HS} {t : Nat → Nat} {ln : Nat} {s : PS} (hw : 74 ≤ w.1) (hn : (Q 0).1 ≤ 30) (h : 0 < (Q 0).1) : Ct l (.code yX7_requireItems cX7_requireItems 1 none) yX7_requireItems 6 0 0 [.ref 0] (tqW w Q U H t ln s) (.inl none) (tqW w Q U H t ln s) := by
  refine ct_of (by decide +kernel) (Nat.le_of_ble_eq_true rfl) ?_
  refine go_aload_n dX7_requireItems_0 rfl ?_
  refine go_getfield dX7_requireItems_1 f_X7_10_6 (tq_ob hw) rfl ?_
  refine go_virt1 dX7_requireItems_4 (tq_1 (c_itemCount l (by show 1 + 8 < w.1; omega))) v_X7_37_4 rfl (tq_ob1 hw) rfl (Nat.le_of_ble_eq_true rfl) (Nat.le_of_ble_eq_true rfl) (Nat.le_of_ble_eq_true rfl) ?_
  refine go_if_ne_t 20 dX7_requireItems_7 (by decide) (nI_ne0 h (by omega)) ?_
  exact go_return dX7_requireItems_20 rfl
theorem c_reqItems_n (l : Launch) {w : MW} {Q U : QU} {H : HS} {t : Nat → Nat} {ln : Nat} {s : PS} (hw : 74 ≤ w.1) (h : (Q 0).1 = 0) : Ct l (.code yX7_requireItems cX7_requireItems 1 none) yX7_requireItems 6 1 6 [.ref 0] (tqW w Q U H t ln s) (.inr "java/lang/IllegalStateException") (tqW w Q U H t ln s) := by
  refine ct_of (by decide +kernel) (Nat.le_of_ble_eq_true rfl) ?_
  refine go_aload_n dX7_requireItems_0 rfl ?_
  refine go_getfield dX7_requireItems_1 f_X7_10_6 (tq_ob hw) rfl ?_
  refine go_virt1 dX7_requireItems_4 (tq_1 (c_itemCount l (by show 1 + 8 < w.1; omega))) v_X7_37_4 rfl (tq_ob1 hw) rfl (Nat.le_of_ble_eq_true rfl) (Nat.le_of_ble_eq_true rfl) (Nat.le_of_ble_eq_true rfl) ?_
  refine go_if_ne_f 20 dX7_requireItems_7 (by decide) (by rw [h]; rfl) ?_
  exact go_throw (bc := 0) (bs := 0) t_X7_245 dX7_requireItems_10 dX7_requireItems_13 dX7_requireItems_14 dX7_requireItems_16 dX7_requireItems_19 (Nat.le_of_ble_eq_true rfl)
theorem c_insert_y (l : Launch) {w : MW} {Q U : QU} {H : HS} {t : Nat → Nat} {ln : Nat} {s : PS} (hw : 74 ≤ w.1) (hI : qI Q) (hx : H.2.1 < 5) (hk : H.2.2 ≤ 5) {x : Int32} (h1 : isKeyB x = true) (h2 : (Q 0).1 < 30) : Ct l (.code yX7_insert cX7_insert 2 (some .int)) yX7_insert 7 0 0 [.ref 0, .int x] (tqW w Q U H t ln s) (.inl (some (.int (nI (freeN Q))))) (tqW w (mapU (opPut x (nI (freeN Q))) Q 4) U (keepH Q H) t ln s) := by
  refine ct_of (by decide +kernel) (Nat.le_of_ble_eq_true rfl) ?_
  refine go_iload_n dX7_insert_0 rfl ?_
  refine go_stat0 dX7_insert_1 (c_reqKey_y l h1) s_X7_33 kc_X7_requireKey rfl rfl (Nat.le_of_ble_eq_true rfl) (Nat.le_of_ble_eq_true rfl) (Nat.le_of_ble_eq_true rfl) ?_
  refine go_aload_n dX7_insert_4 rfl ?_
  refine go_getfield dX7_insert_5 f_X7_10_6 (tq_ob hw) rfl ?_
  refine go_virt1 dX7_insert_8 (tq_1 (c_itemCount l (by show 1 + 8 < w.1; omega))) v_X7_37_4 rfl (tq_ob1 hw) rfl (Nat.le_of_ble_eq_true rfl) (Nat.le_of_ble_eq_true rfl) (Nat.le_of_ble_eq_true rfl) ?_
  refine go_bipush 30 dX7_insert_11 (by decide) ?_
  refine go_icmp_lt_t 26 dX7_insert_13 (by decide) (nI_lt (b := 30) h2 (by decide)) ?_
  refine go_aload_n dX7_insert_26 rfl ?_
  refine go_getfield dX7_insert_27 f_X7_22_6 (tq_ob hw) rfl ?_
  refine go_aload_n dX7_insert_30 rfl ?_
  refine go_getfield dX7_insert_31 f_X7_10_6 (tq_ob hw) rfl ?_
  refine go_virt0 dX7_insert_34 (c_keep l hw hx hk) v_X7_48_1 rfl (tq_obh hw) rfl (Nat.le_of_ble_eq_true rfl) (Nat.le_of_ble_eq_true rfl) (Nat.le_of_ble_eq_true rfl) ?_
  refine go_aload_n dX7_insert_37 rfl ?_
  refine go_getfield dX7_insert_38 f_X7_10_6 (tq_ob hw) rfl ?_
  refine go_iload_n dX7_insert_41 rfl ?_
  refine go_virt1 dX7_insert_42 (tq_1 (c_qputIn l (by show 1 + 8 < w.1; omega) (fun k z => by rw [hI.1 k z]; exact h2))) v_X7_52_4 rfl (tq_ob1 hw) rfl (Nat.le_of_ble_eq_true rfl) (Nat.le_of_ble_eq_true rfl) (Nat.le_of_ble_eq_true rfl) ?_
  exact go_ireturn dX7_insert_45 rfl rfl
theorem c_insert_n1 (l : Launch) {w : MW} {Q U : QU} {H : HS} {t : Nat → Nat} {ln : Nat} {s : PS} (hw : 74 ≤ w.1) {x : Int32} (h1 : isKeyB x = false) : Ct l (.code yX7_insert cX7_insert 2 (some .int)) yX7_insert 7 1 6 [.ref 0, .int x] (tqW w Q U H t ln s) (.inr "java/lang/IllegalArgumentException") (tqW w Q U H t ln s) := by
  refine ct_of (by decide +kernel) (Nat.le_of_ble_eq_true rfl) ?_
  refine go_iload_n dX7_insert_0 rfl ?_
  exact go_thrS (bc := 0) (bs := 0) dX7_insert_1 (c_reqKey_n l h1) s_X7_33 kc_X7_requireKey rfl rfl (Nat.le_of_ble_eq_true rfl) (Nat.le_of_ble_eq_true rfl) (Nat.le_of_ble_eq_true rfl)
theorem c_insert_n2 (l : Launch) {w : MW} {Q U : QU} {H : HS} {t : Nat → Nat} {ln : Nat} {s : PS} (hw : 74 ≤ w.1) (hn : (Q 0).1 ≤ 30) {x : Int32} (h1 : isKeyB x = true) (h2 : 30 ≤ (Q 0).1) : Ct l (.code yX7_insert cX7_insert 2 (some .int)) yX7_insert 7 1 6 [.ref 0, .int x] (tqW w Q U H t ln s) (.inr "java/lang/IllegalStateException") (tqW w Q U H t ln s) := by
  refine ct_of (by decide +kernel) (Nat.le_of_ble_eq_true rfl) ?_
  refine go_iload_n dX7_insert_0 rfl ?_
  refine go_stat0 dX7_insert_1 (c_reqKey_y l h1) s_X7_33 kc_X7_requireKey rfl rfl (Nat.le_of_ble_eq_true rfl) (Nat.le_of_ble_eq_true rfl) (Nat.le_of_ble_eq_true rfl) ?_
  refine go_aload_n dX7_insert_4 rfl ?_
  refine go_getfield dX7_insert_5 f_X7_10_6 (tq_ob hw) rfl ?_
  refine go_virt1 dX7_insert_8 (tq_1 (c_itemCount l (by show 1 + 8 < w.1; omega))) v_X7_37_4 rfl (tq_ob1 hw) rfl (Nat.le_of_ble_eq_true rfl) (Nat.le_of_ble_eq_true rfl) (Nat.le_of_ble_eq_true rfl) ?_
  refine go_bipush 30 dX7_insert_11 (by decide) ?_
  refine go_icmp_lt_f 26 dX7_insert_13 (by decide) (nI_nlt (b := 30) h2 (by omega)) ?_
  exact go_throw (bc := 0) (bs := 0) t_X7_43 dX7_insert_16 dX7_insert_19 dX7_insert_20 dX7_insert_22 dX7_insert_25 (Nat.le_of_ble_eq_true rfl)
theorem c_takeL_y (l : Launch) {w : MW} {Q U : QU} {H : HS} {t : Nat → Nat} {ln : Nat} {s : PS} (hw : 74 ≤ w.1) (hI : qI Q) (hx : H.2.1 < 5) (hk : H.2.2 ≤ 5) (h : 0 < (Q 0).1) : Ct l (.code yX7_takeLeast cX7_takeLeast 2 (some .int)) yX7_takeLeast 7 0 0 [.ref 0] (tqW w Q U H t ln s) (.inl (some (.int (lstV Q 0)))) (tqW w (crySt Q 1 (-1) (-1)) U (keepH Q H) t ln s) := by
  refine ct_of (by decide +kernel) (Nat.le_of_ble_eq_true rfl) ?_
  refine go_aload_n dX7_takeLeast_0 rfl ?_
  refine go_virt0 dX7_takeLeast_1 (c_reqItems_y l hw hI.2.1 h) v_X7_56_6 rfl (tq_ob hw) rfl (Nat.le_of_ble_eq_true rfl) (Nat.le_of_ble_eq_true rfl) (Nat.le_of_ble_eq_true rfl) ?_
  refine go_aload_n dX7_takeLeast_4 rfl ?_
  refine go_getfield dX7_takeLeast_5 f_X7_22_6 (tq_ob hw) rfl ?_
  refine go_aload_n dX7_takeLeast_8 rfl ?_
  refine go_getfield dX7_takeLeast_9 f_X7_10_6 (tq_ob hw) rfl ?_
  refine go_virt0 dX7_takeLeast_12 (c_keep l hw hx hk) v_X7_48_1 rfl (tq_obh hw) rfl (Nat.le_of_ble_eq_true rfl) (Nat.le_of_ble_eq_true rfl) (Nat.le_of_ble_eq_true rfl) ?_
  refine go_aload_n dX7_takeLeast_15 rfl ?_
  refine go_getfield dX7_takeLeast_16 f_X7_10_6 (tq_ob hw) rfl ?_
  refine go_iconst 0 dX7_takeLeast_19 (by decide) ?_
  refine go_virt1 dX7_takeLeast_20 (tq_1 (c_leastOf l (by show 1 + 8 < w.1; omega) (k := 0) (by decide) hI.2.1)) v_X7_59_4 rfl (tq_ob1 hw) rfl (Nat.le_of_ble_eq_true rfl) (Nat.le_of_ble_eq_true rfl) (Nat.le_of_ble_eq_true rfl) ?_
  refine go_istore_n dX7_takeLeast_23 (Nat.le_of_ble_eq_true rfl) rfl ?_
  refine go_aload_n dX7_takeLeast_24 rfl ?_
  refine go_getfield dX7_takeLeast_25 f_X7_10_6 (tq_ob hw) rfl ?_
  refine go_iconst 1 dX7_takeLeast_28 (by decide) ?_
  refine go_iconst (-1) dX7_takeLeast_29 (by decide) ?_
  refine go_iconst (-1) dX7_takeLeast_30 (by decide) ?_
  refine go_virt1 dX7_takeLeast_31 (tq_1 (c_carryOut l (by show 1 + 8 < w.1; omega) hI (cmd := 1) (by decide))) v_X7_62_4 rfl (tq_ob1 hw) rfl (Nat.le_of_ble_eq_true rfl) (Nat.le_of_ble_eq_true rfl) (Nat.le_of_ble_eq_true rfl) ?_
  refine go_pop dX7_takeLeast_34 rfl ?_
  refine go_iload_n dX7_takeLeast_35 rfl ?_
  exact go_ireturn dX7_takeLeast_36 rfl rfl
theorem c_takeL_n (l : Launch) {w : MW} {Q U : QU} {H : HS} {t : Nat → Nat} {ln : Nat} {s : PS} (hw : 74 ≤ w.1) (h : (Q 0).1 = 0) : Ct l (.code yX7_takeLeast cX7_takeLeast 2 (some .int)) yX7_takeLeast 7 1 6 [.ref 0] (tqW w Q U H t ln s) (.inr "java/lang/IllegalStateException") (tqW w Q U H t ln s) := by
  refine ct_of (by decide +kernel) (Nat.le_of_ble_eq_true rfl) ?_
  refine go_aload_n dX7_takeLeast_0 rfl ?_
  exact go_thrV (bc := 0) (bs := 0) dX7_takeLeast_1 (c_reqItems_n l hw h) v_X7_56_6 rfl (tq_ob hw) rfl (Nat.le_of_ble_eq_true rfl) (Nat.le_of_ble_eq_true rfl) (Nat.le_of_ble_eq_true rfl)
theorem c_takeG_y (l : Launch) {w : MW} {Q U : QU} {H : HS} {t : Nat → Nat} {ln : Nat} {s : PS} (hw : 74 ≤ w.1) (hI : qI Q) (hx : H.2.1 < 5) (hk : H.2.2 ≤ 5) (h : 0 < (Q 0).1) : Ct l (.code yX7_takeGreatest cX7_takeGreatest 2 (some .int)) yX7_takeGreatest 7 0 0 [.ref 0] (tqW w Q U H t ln s) (.inl (some (.int (grtV Q 0)))) (tqW w (crySt Q 2 (-1) (-1)) U (keepH Q H) t ln s) := by
  refine ct_of (by decide +kernel) (Nat.le_of_ble_eq_true rfl) ?_
  refine go_aload_n dX7_takeGreatest_0 rfl ?_
  refine go_virt0 dX7_takeGreatest_1 (c_reqItems_y l hw hI.2.1 h) v_X7_56_6 rfl (tq_ob hw) rfl (Nat.le_of_ble_eq_true rfl) (Nat.le_of_ble_eq_true rfl) (Nat.le_of_ble_eq_true rfl) ?_
  refine go_aload_n dX7_takeGreatest_4 rfl ?_
  refine go_getfield dX7_takeGreatest_5 f_X7_22_6 (tq_ob hw) rfl ?_
  refine go_aload_n dX7_takeGreatest_8 rfl ?_
  refine go_getfield dX7_takeGreatest_9 f_X7_10_6 (tq_ob hw) rfl ?_
  refine go_virt0 dX7_takeGreatest_12 (c_keep l hw hx hk) v_X7_48_1 rfl (tq_obh hw) rfl (Nat.le_of_ble_eq_true rfl) (Nat.le_of_ble_eq_true rfl) (Nat.le_of_ble_eq_true rfl) ?_
  refine go_aload_n dX7_takeGreatest_15 rfl ?_
  refine go_getfield dX7_takeGreatest_16 f_X7_10_6 (tq_ob hw) rfl ?_
  refine go_iconst 0 dX7_takeGreatest_19 (by decide) ?_
  refine go_virt1 dX7_takeGreatest_20 (tq_1 (c_greatestOf0 l (by show 1 + 8 < w.1; omega) hI.2.1)) v_X7_66_4 rfl (tq_ob1 hw) rfl (Nat.le_of_ble_eq_true rfl) (Nat.le_of_ble_eq_true rfl) (Nat.le_of_ble_eq_true rfl) ?_
  refine go_istore_n dX7_takeGreatest_23 (Nat.le_of_ble_eq_true rfl) rfl ?_
  refine go_aload_n dX7_takeGreatest_24 rfl ?_
  refine go_getfield dX7_takeGreatest_25 f_X7_10_6 (tq_ob hw) rfl ?_
  refine go_iconst 2 dX7_takeGreatest_28 (by decide) ?_
  refine go_iconst (-1) dX7_takeGreatest_29 (by decide) ?_
  refine go_iconst (-1) dX7_takeGreatest_30 (by decide) ?_
  refine go_virt1 dX7_takeGreatest_31 (tq_1 (c_carryOut l (by show 1 + 8 < w.1; omega) hI (cmd := 2) (by decide))) v_X7_62_4 rfl (tq_ob1 hw) rfl (Nat.le_of_ble_eq_true rfl) (Nat.le_of_ble_eq_true rfl) (Nat.le_of_ble_eq_true rfl) ?_
  refine go_pop dX7_takeGreatest_34 rfl ?_
  refine go_iload_n dX7_takeGreatest_35 rfl ?_
  exact go_ireturn dX7_takeGreatest_36 rfl rfl
theorem c_takeG_n (l : Launch) {w : MW} {Q U : QU} {H : HS} {t : Nat → Nat} {ln : Nat} {s : PS} (hw : 74 ≤ w.1) (h : (Q 0).1 = 0) : Ct l (.code yX7_takeGreatest cX7_takeGreatest 2 (some .int)) yX7_takeGreatest 7 1 6 [.ref 0] (tqW w Q U H t ln s) (.inr "java/lang/IllegalStateException") (tqW w Q U H t ln s) := by
  refine ct_of (by decide +kernel) (Nat.le_of_ble_eq_true rfl) ?_
  refine go_aload_n dX7_takeGreatest_0 rfl ?_
  exact go_thrV (bc := 0) (bs := 0) dX7_takeGreatest_1 (c_reqItems_n l hw h) v_X7_56_6 rfl (tq_ob hw) rfl (Nat.le_of_ble_eq_true rfl) (Nat.le_of_ble_eq_true rfl) (Nat.le_of_ble_eq_true rfl)
theorem c_remove_y (l : Launch) {w : MW} {Q U : QU} {H : HS} {t : Nat → Nat} {ln : Nat} {s : PS} (hw : 74 ≤ w.1) (hI : qI Q) (hx : H.2.1 < 5) (hk : H.2.2 ≤ 5) {x : Int32} (h : hasB Q x = true) : Ct l (.code yX7_remove cX7_remove 3 (some .int)) yX7_remove 7 0 0 [.ref 0, .int x] (tqW w Q U H t ln s) (.inl (some (.int ((Q 0).2.1 (fndN (Q 0).2.1 (Q 0).1 x) >>> (5 &&& 31))))) (tqW w (mapU (opTake x) Q 4) U (keepH Q H) t ln s) := by
  refine ct_of (by decide +kernel) (Nat.le_of_ble_eq_true rfl) ?_
  refine go_aload_n dX7_remove_0 rfl ?_
  refine go_iload_n dX7_remove_1 rfl ?_
  refine go_virt0 dX7_remove_2 (c_reqItem_y l hw hI.2.1 h) v_X7_69_6 rfl (tq_ob hw) rfl (Nat.le_of_ble_eq_true rfl) (Nat.le_of_ble_eq_true rfl) (Nat.le_of_ble_eq_true rfl) ?_
  refine go_aload_n dX7_remove_5 rfl ?_
  refine go_getfield dX7_remove_6 f_X7_22_6 (tq_ob hw) rfl ?_
  refine go_aload_n dX7_remove_9 rfl ?_
  refine go_getfield dX7_remove_10 f_X7_10_6 (tq_ob hw) rfl ?_
  refine go_virt0 dX7_remove_13 (c_keep l hw hx hk) v_X7_48_1 rfl (tq_obh hw) rfl (Nat.le_of_ble_eq_true rfl) (Nat.le_of_ble_eq_true rfl) (Nat.le_of_ble_eq_true rfl) ?_
  refine go_aload_n dX7_remove_16 rfl ?_
  refine go_getfield dX7_remove_17 f_X7_10_6 (tq_ob hw) rfl ?_
  refine go_iload_n dX7_remove_20 rfl ?_
  refine go_virt1 dX7_remove_21 (tq_1 (c_keyOf l (by show 1 + 8 < w.1; omega) hI.2.1 (of_decide_eq_true h))) v_X7_72_4 rfl (tq_ob1 hw) rfl (Nat.le_of_ble_eq_true rfl) (Nat.le_of_ble_eq_true rfl) (Nat.le_of_ble_eq_true rfl) ?_
  refine go_istore_n dX7_remove_24 (Nat.le_of_ble_eq_true rfl) rfl ?_
  refine go_aload_n dX7_remove_25 rfl ?_
  refine go_getfield dX7_remove_26 f_X7_10_6 (tq_ob hw) rfl ?_
  refine go_iload_n dX7_remove_29 rfl ?_
  refine go_virt0 dX7_remove_30 (tq_1 (c_qtakeOut l (by show 1 + 8 < w.1; omega) (fun k z => by rw [hI.1 k z]; exact hI.2.1) (hI.2.2 _ (of_decide_eq_true h)))) v_X7_75_4 rfl (tq_ob1 hw) rfl (Nat.le_of_ble_eq_true rfl) (Nat.le_of_ble_eq_true rfl) (Nat.le_of_ble_eq_true rfl) ?_
  refine go_iload_n dX7_remove_33 rfl ?_
  exact go_ireturn dX7_remove_34 rfl rfl
theorem c_remove_n (l : Launch) {w : MW} {Q U : QU} {H : HS} {t : Nat → Nat} {ln : Nat} {s : PS} (hw : 74 ≤ w.1) (hn : (Q 0).1 ≤ 30) {x : Int32} (h : hasB Q x = false) : Ct l (.code yX7_remove cX7_remove 3 (some .int)) yX7_remove 7 1 6 [.ref 0, .int x] (tqW w Q U H t ln s) (.inr "java/lang/IndexOutOfBoundsException") (tqW w Q U H t ln s) := by
  refine ct_of (by decide +kernel) (Nat.le_of_ble_eq_true rfl) ?_
  refine go_aload_n dX7_remove_0 rfl ?_
  refine go_iload_n dX7_remove_1 rfl ?_
  exact go_thrV (bc := 0) (bs := 0) dX7_remove_2 (c_reqItem_n l hw hn h) v_X7_69_6 rfl (tq_ob hw) rfl (Nat.le_of_ble_eq_true rfl) (Nat.le_of_ble_eq_true rfl) (Nat.le_of_ble_eq_true rfl)
theorem c_change_y (l : Launch) {w : MW} {Q U : QU} {H : HS} {t : Nat → Nat} {ln : Nat} {s : PS} (hw : 74 ≤ w.1) (hI : qI Q) (hx : H.2.1 < 5) (hk : H.2.2 ≤ 5) {x ky : Int32} (h : hasB Q x = true) (h1 : isKeyB ky = true) : Ct l (.code yX7_change cX7_change 4 (some .int)) yX7_change 7 0 0 [.ref 0, .int x, .int ky] (tqW w Q U H t ln s) (.inl (some (.int ((Q 0).2.1 (fndN (Q 0).2.1 (Q 0).1 x) >>> (5 &&& 31))))) (tqW w (mapU (opGive x ky) Q 4) U (keepH Q H) t ln s) := by
  refine ct_of (by decide +kernel) (Nat.le_of_ble_eq_true rfl) ?_
  refine go_aload_n dX7_change_0 rfl ?_
  refine go_iload_n dX7_change_1 rfl ?_
  refine go_virt0 dX7_change_2 (c_reqItem_y l hw hI.2.1 h) v_X7_69_6 rfl (tq_ob hw) rfl (Nat.le_of_ble_eq_true rfl) (Nat.le_of_ble_eq_true rfl) (Nat.le_of_ble_eq_true rfl) ?_
  refine go_iload_n dX7_change_5 rfl ?_
  refine go_stat0 dX7_change_6 (c_reqKey_y l h1) s_X7_33 kc_X7_requireKey rfl rfl (Nat.le_of_ble_eq_true rfl) (Nat.le_of_ble_eq_true rfl) (Nat.le_of_ble_eq_true rfl) ?_
  refine go_aload_n dX7_change_9 rfl ?_
  refine go_getfield dX7_change_10 f_X7_22_6 (tq_ob hw) rfl ?_
  refine go_aload_n dX7_change_13 rfl ?_
  refine go_getfield dX7_change_14 f_X7_10_6 (tq_ob hw) rfl ?_
  refine go_virt0 dX7_change_17 (c_keep l hw hx hk) v_X7_48_1 rfl (tq_obh hw) rfl (Nat.le_of_ble_eq_true rfl) (Nat.le_of_ble_eq_true rfl) (Nat.le_of_ble_eq_true rfl) ?_
  refine go_aload_n dX7_change_20 rfl ?_
  refine go_getfield dX7_change_21 f_X7_10_6 (tq_ob hw) rfl ?_
  refine go_iload_n dX7_change_24 rfl ?_
  refine go_virt1 dX7_change_25 (tq_1 (c_keyOf l (by show 1 + 8 < w.1; omega) hI.2.1 (of_decide_eq_true h))) v_X7_72_4 rfl (tq_ob1 hw) rfl (Nat.le_of_ble_eq_true rfl) (Nat.le_of_ble_eq_true rfl) (Nat.le_of_ble_eq_true rfl) ?_
  refine go_istore_n dX7_change_28 (Nat.le_of_ble_eq_true rfl) rfl ?_
  refine go_aload_n dX7_change_29 rfl ?_
  refine go_getfield dX7_change_30 f_X7_10_6 (tq_ob hw) rfl ?_
  refine go_iload_n dX7_change_33 rfl ?_
  refine go_iload_n dX7_change_34 rfl ?_
  refine go_virt0 dX7_change_35 (tq_1 (c_qgiveKey l (by show 1 + 8 < w.1; omega) (fun k z => by rw [hI.1 k z]; exact hI.2.1) (hI.2.2 _ (of_decide_eq_true h)))) v_X7_78_4 rfl (tq_ob1 hw) rfl (Nat.le_of_ble_eq_true rfl) (Nat.le_of_ble_eq_true rfl) (Nat.le_of_ble_eq_true rfl) ?_
  refine go_iload_n dX7_change_38 rfl ?_
  exact go_ireturn dX7_change_39 rfl rfl
theorem c_change_n1 (l : Launch) {w : MW} {Q U : QU} {H : HS} {t : Nat → Nat} {ln : Nat} {s : PS} (hw : 74 ≤ w.1) (hn : (Q 0).1 ≤ 30) {x : Int32} (h : hasB Q x = false) {ky : Int32} : Ct l (.code yX7_change cX7_change 4 (some .int)) yX7_change 7 1 6 [.ref 0, .int x, .int ky] (tqW w Q U H t ln s) (.inr "java/lang/IndexOutOfBoundsException") (tqW w Q U H t ln s) := by
  refine ct_of (by decide +kernel) (Nat.le_of_ble_eq_true rfl) ?_
  refine go_aload_n dX7_change_0 rfl ?_
  refine go_iload_n dX7_change_1 rfl ?_
  exact go_thrV (bc := 0) (bs := 0) dX7_change_2 (c_reqItem_n l hw hn h) v_X7_69_6 rfl (tq_ob hw) rfl (Nat.le_of_ble_eq_true rfl) (Nat.le_of_ble_eq_true rfl) (Nat.le_of_ble_eq_true rfl)
theorem c_change_n2 (l : Launch) {w : MW} {Q U : QU} {H : HS} {t : Nat → Nat} {ln : Nat} {s : PS} (hw : 74 ≤ w.1) (hI : qI Q) {x ky : Int32} (h : hasB Q x = true) (h1 : isKeyB ky = false) : Ct l (.code yX7_change cX7_change 4 (some .int)) yX7_change 7 1 6 [.ref 0, .int x, .int ky] (tqW w Q U H t ln s) (.inr "java/lang/IllegalArgumentException") (tqW w Q U H t ln s) := by
  refine ct_of (by decide +kernel) (Nat.le_of_ble_eq_true rfl) ?_
  refine go_aload_n dX7_change_0 rfl ?_
  refine go_iload_n dX7_change_1 rfl ?_
  refine go_virt0 dX7_change_2 (c_reqItem_y l hw hI.2.1 h) v_X7_69_6 rfl (tq_ob hw) rfl (Nat.le_of_ble_eq_true rfl) (Nat.le_of_ble_eq_true rfl) (Nat.le_of_ble_eq_true rfl) ?_
  refine go_iload_n dX7_change_5 rfl ?_
  exact go_thrS (bc := 0) (bs := 0) dX7_change_6 (c_reqKey_n l h1) s_X7_33 kc_X7_requireKey rfl rfl (Nat.le_of_ble_eq_true rfl) (Nat.le_of_ble_eq_true rfl) (Nat.le_of_ble_eq_true rfl)
theorem c_build (l : Launch) {w : MW} {Q U : QU} {H : HS} {t : Nat → Nat} {ln : Nat} {s : PS} (hw : 74 ≤ w.1) (hI : qI Q) (hx : H.2.1 < 5) (hk : H.2.2 ≤ 5) : Ct l (.code yX7_build cX7_build 2 (some .int)) yX7_build 6 0 0 [.ref 0] (tqW w Q U H t ln s) (.inl (some (.int (cntV (mapU opArr Q 4) 0 + cntV (mapU opArr Q 4) 1 + cntV (mapU opArr Q 4) 2 - (cntV Q 0 + cntV Q 1 + cntV Q 2))))) (tqW w (mapU opArr Q 4) U (keepH Q H) t ln s) := by
  refine ct_of (by decide +kernel) (Nat.le_of_ble_eq_true rfl) ?_
  refine go_aload_n dX7_build_0 rfl ?_
  refine go_getfield dX7_build_1 f_X7_22_6 (tq_ob hw) rfl ?_
  refine go_aload_n dX7_build_4 rfl ?_
  refine go_getfield dX7_build_5 f_X7_10_6 (tq_ob hw) rfl ?_
  refine go_virt0 dX7_build_8 (c_keep l hw hx hk) v_X7_48_1 rfl (tq_obh hw) rfl (Nat.le_of_ble_eq_true rfl) (Nat.le_of_ble_eq_true rfl) (Nat.le_of_ble_eq_true rfl) ?_
  refine go_aload_n dX7_build_11 rfl ?_
  refine go_getfield dX7_build_12 f_X7_10_6 (tq_ob hw) rfl ?_
  refine go_virt1 dX7_build_15 (tq_1 (c_countedInAll l (by show 1 + 8 < w.1; omega))) v_X7_82_4 rfl (tq_ob1 hw) rfl (Nat.le_of_ble_eq_true rfl) (Nat.le_of_ble_eq_true rfl) (Nat.le_of_ble_eq_true rfl) ?_
  refine go_istore_n dX7_build_18 (Nat.le_of_ble_eq_true rfl) rfl ?_
  refine go_aload_n dX7_build_19 rfl ?_
  refine go_getfield dX7_build_20 f_X7_10_6 (tq_ob hw) rfl ?_
  refine go_virt0 dX7_build_23 (tq_1 (c_qarrange l (by show 1 + 8 < w.1; omega) (fun k z => by rw [hI.1 k z]; exact hI.2.1))) v_X7_85_4 rfl (tq_ob1 hw) rfl (Nat.le_of_ble_eq_true rfl) (Nat.le_of_ble_eq_true rfl) (Nat.le_of_ble_eq_true rfl) ?_
  refine go_aload_n dX7_build_26 rfl ?_
  refine go_getfield dX7_build_27 f_X7_10_6 (tq_ob hw) rfl ?_
  refine go_virt1 dX7_build_30 (tq_1 (c_countedInAll l (by show 1 + 8 < w.1; omega))) v_X7_82_4 rfl (tq_ob1 hw) rfl (Nat.le_of_ble_eq_true rfl) (Nat.le_of_ble_eq_true rfl) (Nat.le_of_ble_eq_true rfl) ?_
  refine go_iload_n dX7_build_33 rfl ?_
  refine go_isub dX7_build_34 ?_
  exact go_ireturn dX7_build_35 rfl rfl
theorem c_clear (l : Launch) {w : MW} {Q U : QU} {H : HS} {t : Nat → Nat} {ln : Nat} {s : PS} (hw : 74 ≤ w.1) (hx : H.2.1 < 5) (hk : H.2.2 ≤ 5) : Ct l (.code yX7_clear cX7_clear 2 (some .int)) yX7_clear 5 0 0 [.ref 0] (tqW w Q U H t ln s) (.inl (some (.int (nI (Q 0).1)))) (tqW w (mapU opEmpty Q 4) U (keepH Q H) t ln s) := by
  refine ct_of (by decide +kernel) (Nat.le_of_ble_eq_true rfl) ?_
  refine go_aload_n dX7_clear_0 rfl ?_
  refine go_getfield dX7_clear_1 f_X7_22_6 (tq_ob hw) rfl ?_
  refine go_aload_n dX7_clear_4 rfl ?_
  refine go_getfield dX7_clear_5 f_X7_10_6 (tq_ob hw) rfl ?_
  refine go_virt0 dX7_clear_8 (c_keep l hw hx hk) v_X7_48_1 rfl (tq_obh hw) rfl (Nat.le_of_ble_eq_true rfl) (Nat.le_of_ble_eq_true rfl) (Nat.le_of_ble_eq_true rfl) ?_
  refine go_aload_n dX7_clear_11 rfl ?_
  refine go_getfield dX7_clear_12 f_X7_10_6 (tq_ob hw) rfl ?_
  refine go_virt1 dX7_clear_15 (tq_1 (c_itemCount l (by show 1 + 8 < w.1; omega))) v_X7_37_4 rfl (tq_ob1 hw) rfl (Nat.le_of_ble_eq_true rfl) (Nat.le_of_ble_eq_true rfl) (Nat.le_of_ble_eq_true rfl) ?_
  refine go_istore_n dX7_clear_18 (Nat.le_of_ble_eq_true rfl) rfl ?_
  refine go_aload_n dX7_clear_19 rfl ?_
  refine go_getfield dX7_clear_20 f_X7_10_6 (tq_ob hw) rfl ?_
  refine go_virt0 dX7_clear_23 (tq_1 (c_qempty l (by show 1 + 8 < w.1; omega))) v_X7_88_4 rfl (tq_ob1 hw) rfl (Nat.le_of_ble_eq_true rfl) (Nat.le_of_ble_eq_true rfl) (Nat.le_of_ble_eq_true rfl) ?_
  refine go_iload_n dX7_clear_26 rfl ?_
  exact go_ireturn dX7_clear_27 rfl rfl
theorem c_size (l : Launch) {w : MW} {Q U : QU} {H : HS} {t : Nat → Nat} {ln : Nat} {s : PS} (hw : 74 ≤ w.1) : Ct l (.code yX7_size cX7_size 1 (some .int)) yX7_size 1 0 0 [.ref 0] (tqW w Q U H t ln s) (.inl (some (.int (nI (Q 0).1)))) (tqW w Q U H t ln s) := by
  refine ct_of (by decide +kernel) (Nat.le_of_ble_eq_true rfl) ?_
  refine go_aload_n dX7_size_0 rfl ?_
  refine go_getfield dX7_size_1 f_X7_10_6 (tq_ob hw) rfl ?_
  refine go_virt1 dX7_size_4 (tq_1 (c_itemCount l (by show 1 + 8 < w.1; omega))) v_X7_37_4 rfl (tq_ob1 hw) rfl (Nat.le_of_ble_eq_true rfl) (Nat.le_of_ble_eq_true rfl) (Nat.le_of_ble_eq_true rfl) ?_
  exact go_ireturn dX7_size_7 rfl rfl
theorem c_handles (l : Launch) {w : MW} {Q U : QU} {H : HS} {t : Nat → Nat} {ln : Nat} {s : PS} (hw : 74 ≤ w.1) (hn : (Q 0).1 ≤ 30) : Ct l (.code yX7_handles cX7_handles 1 (some .int)) yX7_handles 3 0 0 [.ref 0] (tqW w Q U H t ln s) (.inl (some (.int (setS (Q 0).2.1 (Q 0).1 0 0)))) (tqW w Q U H t ln s) := by
  refine ct_of (by decide +kernel) (Nat.le_of_ble_eq_true rfl) ?_
  refine go_aload_n dX7_handles_0 rfl ?_
  refine go_getfield dX7_handles_1 f_X7_10_6 (tq_ob hw) rfl ?_
  refine go_virt1 dX7_handles_4 (tq_1 (c_handleSet l (by show 1 + 8 < w.1; omega) hn)) v_X7_91_4 rfl (tq_ob1 hw) rfl (Nat.le_of_ble_eq_true rfl) (Nat.le_of_ble_eq_true rfl) (Nat.le_of_ble_eq_true rfl) ?_
  exact go_ireturn dX7_handles_7 rfl rfl
theorem c_key_y (l : Launch) {w : MW} {Q U : QU} {H : HS} {t : Nat → Nat} {ln : Nat} {s : PS} (hw : 74 ≤ w.1) (hI : qI Q) {x : Int32} (h : hasB Q x = true) : Ct l (.code yX7_key cX7_key 2 (some .int)) yX7_key 7 0 0 [.ref 0, .int x] (tqW w Q U H t ln s) (.inl (some (.int ((Q 0).2.1 (fndN (Q 0).2.1 (Q 0).1 x) >>> (5 &&& 31))))) (tqW w Q U H t ln s) := by
  refine ct_of (by decide +kernel) (Nat.le_of_ble_eq_true rfl) ?_
  refine go_aload_n dX7_key_0 rfl ?_
  refine go_iload_n dX7_key_1 rfl ?_
  refine go_virt0 dX7_key_2 (c_reqItem_y l hw hI.2.1 h) v_X7_69_6 rfl (tq_ob hw) rfl (Nat.le_of_ble_eq_true rfl) (Nat.le_of_ble_eq_true rfl) (Nat.le_of_ble_eq_true rfl) ?_
  refine go_aload_n dX7_key_5 rfl ?_
  refine go_getfield dX7_key_6 f_X7_10_6 (tq_ob hw) rfl ?_
  refine go_iload_n dX7_key_9 rfl ?_
  refine go_virt1 dX7_key_10 (tq_1 (c_keyOf l (by show 1 + 8 < w.1; omega) hI.2.1 (of_decide_eq_true h))) v_X7_72_4 rfl (tq_ob1 hw) rfl (Nat.le_of_ble_eq_true rfl) (Nat.le_of_ble_eq_true rfl) (Nat.le_of_ble_eq_true rfl) ?_
  exact go_ireturn dX7_key_13 rfl rfl
theorem c_key_n (l : Launch) {w : MW} {Q U : QU} {H : HS} {t : Nat → Nat} {ln : Nat} {s : PS} (hw : 74 ≤ w.1) (hn : (Q 0).1 ≤ 30) {x : Int32} (h : hasB Q x = false) : Ct l (.code yX7_key cX7_key 2 (some .int)) yX7_key 7 1 6 [.ref 0, .int x] (tqW w Q U H t ln s) (.inr "java/lang/IndexOutOfBoundsException") (tqW w Q U H t ln s) := by
  refine ct_of (by decide +kernel) (Nat.le_of_ble_eq_true rfl) ?_
  refine go_aload_n dX7_key_0 rfl ?_
  refine go_iload_n dX7_key_1 rfl ?_
  exact go_thrV (bc := 0) (bs := 0) dX7_key_2 (c_reqItem_n l hw hn h) v_X7_69_6 rfl (tq_ob hw) rfl (Nat.le_of_ble_eq_true rfl) (Nat.le_of_ble_eq_true rfl) (Nat.le_of_ble_eq_true rfl)
theorem c_least_y (l : Launch) {w : MW} {Q U : QU} {H : HS} {t : Nat → Nat} {ln : Nat} {s : PS} (hw : 74 ≤ w.1) (hI : qI Q) {k : Nat} (h : k < 3) : Ct l (.code yX7_least cX7_least 2 (some .int)) yX7_least 7 0 0 [.ref 0, .int (nI k)] (tqW w Q U H t ln s) (.inl (some (.int (lstV Q k)))) (tqW w Q U H t ln s) := by
  refine ct_of (by decide +kernel) (Nat.le_of_ble_eq_true rfl) ?_
  refine go_iload_n dX7_least_0 rfl ?_
  refine go_stat0 dX7_least_1 (c_reqQueue_y l h) s_X7_111 kc_X7_requireQueue rfl rfl (Nat.le_of_ble_eq_true rfl) (Nat.le_of_ble_eq_true rfl) (Nat.le_of_ble_eq_true rfl) ?_
  refine go_aload_n dX7_least_4 rfl ?_
  refine go_getfield dX7_least_5 f_X7_10_6 (tq_ob hw) rfl ?_
  refine go_iload_n dX7_least_8 rfl ?_
  refine go_virt1 dX7_least_9 (tq_1 (c_leastOf l (by show 1 + 8 < w.1; omega) (k := k) (by omega) (by rw [hI.1 k (by omega)]; exact hI.2.1))) v_X7_59_4 rfl (tq_ob1 hw) rfl (Nat.le_of_ble_eq_true rfl) (Nat.le_of_ble_eq_true rfl) (Nat.le_of_ble_eq_true rfl) ?_
  exact go_ireturn dX7_least_12 rfl rfl
theorem c_least_n (l : Launch) {w : MW} {Q U : QU} {H : HS} {t : Nat → Nat} {ln : Nat} {s : PS} (hw : 74 ≤ w.1) {x : Int32} (h : x < 0 ∨ 3 ≤ x) : Ct l (.code yX7_least cX7_least 2 (some .int)) yX7_least 7 1 6 [.ref 0, .int x] (tqW w Q U H t ln s) (.inr "java/lang/IllegalArgumentException") (tqW w Q U H t ln s) := by
  refine ct_of (by decide +kernel) (Nat.le_of_ble_eq_true rfl) ?_
  refine go_iload_n dX7_least_0 rfl ?_
  exact go_thrS (bc := 0) (bs := 0) dX7_least_1 (c_reqQueue_n l h) s_X7_111 kc_X7_requireQueue rfl rfl (Nat.le_of_ble_eq_true rfl) (Nat.le_of_ble_eq_true rfl) (Nat.le_of_ble_eq_true rfl)
theorem c_greatest_y (l : Launch) {w : MW} {Q U : QU} {H : HS} {t : Nat → Nat} {ln : Nat} {s : PS} (hw : 74 ≤ w.1) (hI : qI Q) {k : Nat} (h : k < 3) : Ct l (.code yX7_greatest cX7_greatest 2 (some .int)) yX7_greatest 7 0 0 [.ref 0, .int (nI k)] (tqW w Q U H t ln s) (.inl (some (.int (grtV Q k)))) (tqW w Q U H t ln s) := by
  refine ct_of (by decide +kernel) (Nat.le_of_ble_eq_true rfl) ?_
  rcases (show k = 0 ∨ k = 1 ∨ k = 2 by omega) with rfl | rfl | rfl
  · skip
    refine go_iload_n dX7_greatest_0 rfl ?_
    refine go_stat0 dX7_greatest_1 (c_reqQueue_y l (k := 0) (by decide)) s_X7_111 kc_X7_requireQueue rfl rfl (Nat.le_of_ble_eq_true rfl) (Nat.le_of_ble_eq_true rfl) (Nat.le_of_ble_eq_true rfl) ?_
    refine go_aload_n dX7_greatest_4 rfl ?_
    refine go_getfield dX7_greatest_5 f_X7_10_6 (tq_ob hw) rfl ?_
    refine go_iload_n dX7_greatest_8 rfl ?_
    refine go_virt1 dX7_greatest_9 (tq_1 (c_greatestOf0 l (by show 1 + 8 < w.1; omega) (by rw [hI.1 0 (by decide)]; exact hI.2.1))) v_X7_66_4 rfl (tq_ob1 hw) rfl (Nat.le_of_ble_eq_true rfl) (Nat.le_of_ble_eq_true rfl) (Nat.le_of_ble_eq_true rfl) ?_
    exact go_ireturn dX7_greatest_12 rfl rfl
  · skip
    refine go_iload_n dX7_greatest_0 rfl ?_
    refine go_stat0 dX7_greatest_1 (c_reqQueue_y l (k := 1) (by decide)) s_X7_111 kc_X7_requireQueue rfl rfl (Nat.le_of_ble_eq_true rfl) (Nat.le_of_ble_eq_true rfl) (Nat.le_of_ble_eq_true rfl) ?_
    refine go_aload_n dX7_greatest_4 rfl ?_
    refine go_getfield dX7_greatest_5 f_X7_10_6 (tq_ob hw) rfl ?_
    refine go_iload_n dX7_greatest_8 rfl ?_
    refine go_virt1 dX7_greatest_9 (tq_1 (c_greatestOf1 l (by show 1 + 8 < w.1; omega) (by rw [hI.1 1 (by decide)]; exact hI.2.1))) v_X7_66_4 rfl (tq_ob1 hw) rfl (Nat.le_of_ble_eq_true rfl) (Nat.le_of_ble_eq_true rfl) (Nat.le_of_ble_eq_true rfl) ?_
    exact go_ireturn dX7_greatest_12 rfl rfl
  · skip
    refine go_iload_n dX7_greatest_0 rfl ?_
    refine go_stat0 dX7_greatest_1 (c_reqQueue_y l (k := 2) (by decide)) s_X7_111 kc_X7_requireQueue rfl rfl (Nat.le_of_ble_eq_true rfl) (Nat.le_of_ble_eq_true rfl) (Nat.le_of_ble_eq_true rfl) ?_
    refine go_aload_n dX7_greatest_4 rfl ?_
    refine go_getfield dX7_greatest_5 f_X7_10_6 (tq_ob hw) rfl ?_
    refine go_iload_n dX7_greatest_8 rfl ?_
    refine go_virt1 dX7_greatest_9 (tq_1 (c_greatestOf2 l (by show 1 + 8 < w.1; omega) (by rw [hI.1 3 (by decide)]; exact hI.2.1))) v_X7_66_4 rfl (tq_ob1 hw) rfl (Nat.le_of_ble_eq_true rfl) (Nat.le_of_ble_eq_true rfl) (Nat.le_of_ble_eq_true rfl) ?_
    exact go_ireturn dX7_greatest_12 rfl rfl

theorem c_greatest_n (l : Launch) {w : MW} {Q U : QU} {H : HS} {t : Nat → Nat} {ln : Nat} {s : PS} (hw : 74 ≤ w.1) {x : Int32} (h : x < 0 ∨ 3 ≤ x) : Ct l (.code yX7_greatest cX7_greatest 2 (some .int)) yX7_greatest 7 1 6 [.ref 0, .int x] (tqW w Q U H t ln s) (.inr "java/lang/IllegalArgumentException") (tqW w Q U H t ln s) := by
  refine ct_of (by decide +kernel) (Nat.le_of_ble_eq_true rfl) ?_
  refine go_iload_n dX7_greatest_0 rfl ?_
  exact go_thrS (bc := 0) (bs := 0) dX7_greatest_1 (c_reqQueue_n l h) s_X7_111 kc_X7_requireQueue rfl rfl (Nat.le_of_ble_eq_true rfl) (Nat.le_of_ble_eq_true rfl) (Nat.le_of_ble_eq_true rfl)
theorem c_rank_y (l : Launch) {w : MW} {Q U : QU} {H : HS} {t : Nat → Nat} {ln : Nat} {s : PS} (hw : 74 ≤ w.1) (hI : qI Q) {x : Int32} (h : hasB Q x = true) : Ct l (.code yX7_rank cX7_rank 2 (some .int)) yX7_rank 7 0 0 [.ref 0, .int x] (tqW w Q U H t ln s) (.inl (some (.int (nI (lesS ltI (Q 0).2.1 ((Q 0).2.1 (fndN (Q 0).2.1 (Q 0).1 x)) (Q 0).1 0))))) (tqW w Q U H t ln s) := by
  refine ct_of (by decide +kernel) (Nat.le_of_ble_eq_true rfl) ?_
  refine go_aload_n dX7_rank_0 rfl ?_
  refine go_iload_n dX7_rank_1 rfl ?_
  refine go_virt0 dX7_rank_2 (c_reqItem_y l hw hI.2.1 h) v_X7_69_6 rfl (tq_ob hw) rfl (Nat.le_of_ble_eq_true rfl) (Nat.le_of_ble_eq_true rfl) (Nat.le_of_ble_eq_true rfl) ?_
  refine go_aload_n dX7_rank_5 rfl ?_
  refine go_getfield dX7_rank_6 f_X7_10_6 (tq_ob hw) rfl ?_
  refine go_iload_n dX7_rank_9 rfl ?_
  refine go_virt1 dX7_rank_10 (tq_1 (c_countLess l (by show 1 + 8 < w.1; omega) hI.2.1 (of_decide_eq_true h))) v_X7_118_4 rfl (tq_ob1 hw) rfl (Nat.le_of_ble_eq_true rfl) (Nat.le_of_ble_eq_true rfl) (Nat.le_of_ble_eq_true rfl) ?_
  exact go_ireturn dX7_rank_13 rfl rfl
theorem c_rank_n (l : Launch) {w : MW} {Q U : QU} {H : HS} {t : Nat → Nat} {ln : Nat} {s : PS} (hw : 74 ≤ w.1) (hn : (Q 0).1 ≤ 30) {x : Int32} (h : hasB Q x = false) : Ct l (.code yX7_rank cX7_rank 2 (some .int)) yX7_rank 7 1 6 [.ref 0, .int x] (tqW w Q U H t ln s) (.inr "java/lang/IndexOutOfBoundsException") (tqW w Q U H t ln s) := by
  refine ct_of (by decide +kernel) (Nat.le_of_ble_eq_true rfl) ?_
  refine go_aload_n dX7_rank_0 rfl ?_
  refine go_iload_n dX7_rank_1 rfl ?_
  exact go_thrV (bc := 0) (bs := 0) dX7_rank_2 (c_reqItem_n l hw hn h) v_X7_69_6 rfl (tq_ob hw) rfl (Nat.le_of_ble_eq_true rfl) (Nat.le_of_ble_eq_true rfl) (Nat.le_of_ble_eq_true rfl)
theorem c_comparisons_y (l : Launch) {w : MW} {Q U : QU} {H : HS} {t : Nat → Nat} {ln : Nat} {s : PS} (hw : 74 ≤ w.1) {k : Nat} (h : k < 3) : Ct l (.code yX7_comparisons cX7_comparisons 2 (some .int)) yX7_comparisons 7 0 0 [.ref 0, .int (nI k)] (tqW w Q U H t ln s) (.inl (some (.int (cntV Q k)))) (tqW w Q U H t ln s) := by
  refine ct_of (by decide +kernel) (Nat.le_of_ble_eq_true rfl) ?_
  refine go_iload_n dX7_comparisons_0 rfl ?_
  refine go_stat0 dX7_comparisons_1 (c_reqQueue_y l h) s_X7_111 kc_X7_requireQueue rfl rfl (Nat.le_of_ble_eq_true rfl) (Nat.le_of_ble_eq_true rfl) (Nat.le_of_ble_eq_true rfl) ?_
  refine go_aload_n dX7_comparisons_4 rfl ?_
  refine go_getfield dX7_comparisons_5 f_X7_10_6 (tq_ob hw) rfl ?_
  refine go_iload_n dX7_comparisons_8 rfl ?_
  refine go_virt1 dX7_comparisons_9 (tq_1 (c_countedIn l (by show 1 + 8 < w.1; omega) h)) v_X7_170_4 rfl (tq_ob1 hw) rfl (Nat.le_of_ble_eq_true rfl) (Nat.le_of_ble_eq_true rfl) (Nat.le_of_ble_eq_true rfl) ?_
  exact go_ireturn dX7_comparisons_12 rfl rfl
theorem c_comparisons_n (l : Launch) {w : MW} {Q U : QU} {H : HS} {t : Nat → Nat} {ln : Nat} {s : PS} (hw : 74 ≤ w.1) {x : Int32} (h : x < 0 ∨ 3 ≤ x) : Ct l (.code yX7_comparisons cX7_comparisons 2 (some .int)) yX7_comparisons 7 1 6 [.ref 0, .int x] (tqW w Q U H t ln s) (.inr "java/lang/IllegalArgumentException") (tqW w Q U H t ln s) := by
  refine ct_of (by decide +kernel) (Nat.le_of_ble_eq_true rfl) ?_
  refine go_iload_n dX7_comparisons_0 rfl ?_
  exact go_thrS (bc := 0) (bs := 0) dX7_comparisons_1 (c_reqQueue_n l h) s_X7_111 kc_X7_requireQueue rfl rfl (Nat.le_of_ble_eq_true rfl) (Nat.le_of_ble_eq_true rfl) (Nat.le_of_ble_eq_true rfl)
theorem c_forget (l : Launch) {w : MW} {Q U : QU} {H : HS} {t : Nat → Nat} {ln : Nat} {s : PS} (hw : 74 ≤ w.1) (hx : H.2.1 < 5) (hk : H.2.2 ≤ 5) : Ct l (.code yX7_forget cX7_forget 2 (some .int)) yX7_forget 5 0 0 [.ref 0] (tqW w Q U H t ln s) (.inl (some (.int (cntV Q 0 + cntV Q 1 + cntV Q 2)))) (tqW w (mapU opForget Q 4) U (keepH Q H) t ln s) := by
  refine ct_of (by decide +kernel) (Nat.le_of_ble_eq_true rfl) ?_
  refine go_aload_n dX7_forget_0 rfl ?_
  refine go_getfield dX7_forget_1 f_X7_22_6 (tq_ob hw) rfl ?_
  refine go_aload_n dX7_forget_4 rfl ?_
  refine go_getfield dX7_forget_5 f_X7_10_6 (tq_ob hw) rfl ?_
  refine go_virt0 dX7_forget_8 (c_keep l hw hx hk) v_X7_48_1 rfl (tq_obh hw) rfl (Nat.le_of_ble_eq_true rfl) (Nat.le_of_ble_eq_true rfl) (Nat.le_of_ble_eq_true rfl) ?_
  refine go_aload_n dX7_forget_11 rfl ?_
  refine go_getfield dX7_forget_12 f_X7_10_6 (tq_ob hw) rfl ?_
  refine go_virt1 dX7_forget_15 (tq_1 (c_countedInAll l (by show 1 + 8 < w.1; omega))) v_X7_82_4 rfl (tq_ob1 hw) rfl (Nat.le_of_ble_eq_true rfl) (Nat.le_of_ble_eq_true rfl) (Nat.le_of_ble_eq_true rfl) ?_
  refine go_istore_n dX7_forget_18 (Nat.le_of_ble_eq_true rfl) rfl ?_
  refine go_aload_n dX7_forget_19 rfl ?_
  refine go_getfield dX7_forget_20 f_X7_10_6 (tq_ob hw) rfl ?_
  refine go_virt0 dX7_forget_23 (tq_1 (c_qforget l (by show 1 + 8 < w.1; omega))) v_X7_173_4 rfl (tq_ob1 hw) rfl (Nat.le_of_ble_eq_true rfl) (Nat.le_of_ble_eq_true rfl) (Nat.le_of_ble_eq_true rfl) ?_
  refine go_iload_n dX7_forget_26 rfl ?_
  exact go_ireturn dX7_forget_27 rfl rfl
theorem c_clearText (l : Launch) {w : MW} {Q U : QU} {H : HS} {t : Nat → Nat} {ln : Nat} {s : PS} (hw : 74 ≤ w.1) : Ct l (.code yX7_clearText cX7_clearText 2 (some .int)) yX7_clearText 0 0 0 [.ref 0] (tqW w Q U H t ln s) (.inl (some (.int (nI ln)))) (tqW w Q U H t 0 s) := by
  refine ct_of (by decide +kernel) (Nat.le_of_ble_eq_true rfl) ?_
  refine go_aload_n dX7_clearText_0 rfl ?_
  refine go_getfield dX7_clearText_1 f_X7_29_6 (tq_ob hw) rfl ?_
  refine go_getfield dX7_clearText_4 f_X7_186_5 (tq_obs hw) rfl ?_
  refine go_istore_n dX7_clearText_7 (Nat.le_of_ble_eq_true rfl) rfl ?_
  refine go_aload_n dX7_clearText_8 rfl ?_
  refine go_getfield dX7_clearText_9 f_X7_29_6 (tq_ob hw) rfl ?_
  refine go_iconst 0 dX7_clearText_12 (by decide) ?_
  refine go_putfield dX7_clearText_13 p_X7_186_5 (tq_obs hw) (Nat.le_of_ble_eq_true rfl) (fun _ => ⟨rfl, rfl⟩) (fun _ z => nomatch z) ?_
  refine go_w _ (tq_up t 0 s) ?_
  refine go_iload_n dX7_clearText_16 rfl ?_
  exact go_ireturn dX7_clearText_17 rfl rfl
theorem c_fault (l : Launch) {w : MW} {Q U : QU} {H : HS} {t : Nat → Nat} {ln : Nat} {s : PS} (hw : 74 ≤ w.1) (ht : ∀ i, t i < 128) (hl : ln ≤ 120) : Ct l (.code yX7_fault cX7_fault 1 (some .int)) yX7_fault 6 0 0 [.ref 0] (tqW w Q U H t ln s) (.inl (some (.int (fltS t ln 120 (0, s.2)).1))) (tqW w Q U H t ln (fltS t ln 120 (0, s.2)).2) := by
  refine ct_of (by decide +kernel) (Nat.le_of_ble_eq_true rfl) ?_
  refine go_aload_n dX7_fault_0 rfl ?_
  refine go_getfield dX7_fault_1 f_X7_29_6 (tq_ob hw) rfl ?_
  refine go_virt1 dX7_fault_4 (tq_s (c_flt l (by show 66 + 1 < w.1; omega) ht hl)) v_X7_196_5 rfl (tq_obs hw) rfl (Nat.le_of_ble_eq_true rfl) (Nat.le_of_ble_eq_true rfl) (Nat.le_of_ble_eq_true rfl) ?_
  exact go_ireturn dX7_fault_7 rfl rfl
theorem c_undo_y (l : Launch) {w : MW} {Q U : QU} {H : HS} {t : Nat → Nat} {ln : Nat} {s : PS} (hw : 74 ≤ w.1) (hx : H.2.1 < 5) (hk : H.2.2 ≤ 5) (h : 0 < H.2.2) : Ct l (.code yX7_undo cX7_undo 1 (some .int)) yX7_undo 6 0 0 [.ref 0] (tqW w Q U H t ln s) (.inl (some (.int (nI (H.2.2 - 1))))) (tqW w (cpU (H.1 (lastN H)) Q) U (undoH H) t ln s) := by
  refine ct_of (by decide +kernel) (Nat.le_of_ble_eq_true rfl) ?_
  refine go_aload_n dX7_undo_0 rfl ?_
  refine go_getfield dX7_undo_1 f_X7_22_6 (tq_ob hw) rfl ?_
  refine go_getfield dX7_undo_4 f_X7_217_1 (tq_obh hw) rfl ?_
  refine go_if_ne_t 20 dX7_undo_7 (by decide) (nI_ne0 h (by omega)) ?_
  refine go_aload_n dX7_undo_20 rfl ?_
  refine go_getfield dX7_undo_21 f_X7_22_6 (tq_ob hw) rfl ?_
  refine go_aload_n dX7_undo_24 rfl ?_
  refine go_getfield dX7_undo_25 f_X7_10_6 (tq_ob hw) rfl ?_
  refine go_virt0 dX7_undo_28 (c_restore l hw hx hk h) v_X7_222_1 rfl (tq_obh hw) rfl (Nat.le_of_ble_eq_true rfl) (Nat.le_of_ble_eq_true rfl) (Nat.le_of_ble_eq_true rfl) ?_
  refine go_aload_n dX7_undo_31 rfl ?_
  refine go_getfield dX7_undo_32 f_X7_22_6 (tq_ob hw) rfl ?_
  refine go_getfield dX7_undo_35 f_X7_217_1 (tq_obh hw) rfl ?_
  exact go_ireturn dX7_undo_38 rfl rfl
theorem c_undo_n (l : Launch) {w : MW} {Q U : QU} {H : HS} {t : Nat → Nat} {ln : Nat} {s : PS} (hw : 74 ≤ w.1) (h : H.2.2 = 0) : Ct l (.code yX7_undo cX7_undo 1 (some .int)) yX7_undo 6 1 6 [.ref 0] (tqW w Q U H t ln s) (.inr "java/lang/IllegalStateException") (tqW w Q U H t ln s) := by
  refine ct_of (by decide +kernel) (Nat.le_of_ble_eq_true rfl) ?_
  refine go_aload_n dX7_undo_0 rfl ?_
  refine go_getfield dX7_undo_1 f_X7_22_6 (tq_ob hw) rfl ?_
  refine go_getfield dX7_undo_4 f_X7_217_1 (tq_obh hw) rfl ?_
  refine go_if_ne_f 20 dX7_undo_7 (by decide) (by rw [h]; rfl) ?_
  exact go_throw (bc := 0) (bs := 0) t_X7_220 dX7_undo_10 dX7_undo_13 dX7_undo_14 dX7_undo_16 dX7_undo_19 (Nat.le_of_ble_eq_true rfl)
theorem c_type_y (l : Launch) {w : MW} {Q U : QU} {H : HS} {t : Nat → Nat} {ln : Nat} {s : PS} (hw : 74 ≤ w.1) (hl : ln < 120) {k : Nat} (h1 : 32 ≤ k) (h2 : k ≤ 126) : Ct l (.code yX7_type cX7_type 2 (some .int)) yX7_type 6 0 0 [.ref 0, .int (nI k)] (tqW w Q U H t ln s) (.inl (some (.int (nI (ln + 1))))) (tqW w Q U H (updN t ln k) (ln + 1) s) := by
  refine ct_of (by decide +kernel) (Nat.le_of_ble_eq_true rfl) ?_
  refine go_iload_n dX7_type_0 rfl ?_
  refine go_bipush 32 dX7_type_1 (by decide) ?_
  refine go_icmp_lt_f 12 dX7_type_3 (by decide) (nI_nlt (b := 32) h1 (by omega)) ?_
  refine go_iload_n dX7_type_6 rfl ?_
  refine go_bipush 126 dX7_type_7 (by decide) ?_
  refine go_icmp_le_t 22 dX7_type_9 (by decide) (nI_le (b := 126) h2 (by decide)) ?_
  refine go_aload_n dX7_type_22 rfl ?_
  refine go_getfield dX7_type_23 f_X7_29_6 (tq_ob hw) rfl ?_
  refine go_getfield dX7_type_26 f_X7_186_5 (tq_obs hw) rfl ?_
  refine go_bipush 120 dX7_type_29 (by decide) ?_
  refine go_icmp_lt_t 44 dX7_type_31 (by decide) (nI_lt (b := 120) hl (by decide)) ?_
  refine go_aload_n dX7_type_44 rfl ?_
  refine go_getfield dX7_type_45 f_X7_29_6 (tq_ob hw) rfl ?_
  refine go_iload_n dX7_type_48 rfl ?_
  refine go_i2c dX7_type_49 ?_
  refine go_top (.int (nI k)) (nar_char (by omega)) ?_
  refine go_virt0 dX7_type_50 (tq_s (c_append l (by show 66 + 1 < w.1; omega) hl (k := k) (by omega))) v_X7_192_5 rfl (tq_obs hw) rfl (Nat.le_of_ble_eq_true rfl) (Nat.le_of_ble_eq_true rfl) (Nat.le_of_ble_eq_true rfl) ?_
  refine go_aload_n dX7_type_53 rfl ?_
  refine go_getfield dX7_type_54 f_X7_29_6 (tq_ob hw) rfl ?_
  refine go_getfield dX7_type_57 f_X7_186_5 (tq_obs hw) rfl ?_
  exact go_ireturn dX7_type_60 rfl rfl
theorem c_type_n1 (l : Launch) {w : MW} {Q U : QU} {H : HS} {t : Nat → Nat} {ln : Nat} {s : PS} (hw : 74 ≤ w.1) {x : Int32} (h : x < 32 ∨ 126 < x) : Ct l (.code yX7_type cX7_type 2 (some .int)) yX7_type 6 1 6 [.ref 0, .int x] (tqW w Q U H t ln s) (.inr "java/lang/IllegalArgumentException") (tqW w Q U H t ln s) := by
  refine ct_of (by decide +kernel) (Nat.le_of_ble_eq_true rfl) ?_
  by_cases h0 : x < 32
  · skip
    refine go_iload_n dX7_type_0 rfl ?_
    refine go_bipush 32 dX7_type_1 (by decide) ?_
    refine go_icmp_lt_t 12 dX7_type_3 (by decide) (h0) ?_
    exact go_throw (bc := 0) (bs := 0) t_X7_184 dX7_type_12 dX7_type_15 dX7_type_16 dX7_type_18 dX7_type_21 (Nat.le_of_ble_eq_true rfl)
  · skip
    refine go_iload_n dX7_type_0 rfl ?_
    refine go_bipush 32 dX7_type_1 (by decide) ?_
    refine go_icmp_lt_f 12 dX7_type_3 (by decide) (h0) ?_
    refine go_iload_n dX7_type_6 rfl ?_
    refine go_bipush 126 dX7_type_7 (by decide) ?_
    refine go_icmp_le_f 22 dX7_type_9 (by decide) (Int32.not_le.mpr (h.resolve_left h0)) ?_
    exact go_throw (bc := 0) (bs := 0) t_X7_184 dX7_type_12 dX7_type_15 dX7_type_16 dX7_type_18 dX7_type_21 (Nat.le_of_ble_eq_true rfl)
theorem c_type_n2 (l : Launch) {w : MW} {Q U : QU} {H : HS} {t : Nat → Nat} {ln : Nat} {s : PS} (hw : 74 ≤ w.1) (hl : ln = 120) {x : Int32} (h1 : ¬ x < 32) (h2 : x ≤ 126) : Ct l (.code yX7_type cX7_type 2 (some .int)) yX7_type 6 1 6 [.ref 0, .int x] (tqW w Q U H t ln s) (.inr "java/lang/IllegalStateException") (tqW w Q U H t ln s) := by
  refine ct_of (by decide +kernel) (Nat.le_of_ble_eq_true rfl) ?_
  refine go_iload_n dX7_type_0 rfl ?_
  refine go_bipush 32 dX7_type_1 (by decide) ?_
  refine go_icmp_lt_f 12 dX7_type_3 (by decide) (h1) ?_
  refine go_iload_n dX7_type_6 rfl ?_
  refine go_bipush 126 dX7_type_7 (by decide) ?_
  refine go_icmp_le_t 22 dX7_type_9 (by decide) (h2) ?_
  refine go_aload_n dX7_type_22 rfl ?_
  refine go_getfield dX7_type_23 f_X7_29_6 (tq_ob hw) rfl ?_
  refine go_getfield dX7_type_26 f_X7_186_5 (tq_obs hw) rfl ?_
  refine go_bipush 120 dX7_type_29 (by decide) ?_
  refine go_icmp_lt_f 44 dX7_type_31 (by decide) (by rw [hl]; decide) ?_
  exact go_throw (bc := 0) (bs := 0) t_X7_190 dX7_type_34 dX7_type_37 dX7_type_38 dX7_type_40 dX7_type_43 (Nat.le_of_ble_eq_true rfl)
theorem c_level_y (l : Launch) {w : MW} {Q U : QU} {H : HS} {t : Nat → Nat} {ln : Nat} {s : PS} (hw : 74 ≤ w.1) {k : Nat} (h : k ≤ 1000000) : Ct l (.code yX7_level cX7_level 2 (some .int)) yX7_level 6 0 0 [.ref 0, .int (nI k)] (tqW w Q U H t ln s) (.inl (some (.int (nI (lvl k))))) (tqW w Q U H t ln s) := by
  refine ct_of (by decide +kernel) (Nat.le_of_ble_eq_true rfl) ?_
  refine go_iload_n dX7_level_0 rfl ?_
  refine go_if_lt_f 10 dX7_level_1 (by decide) (nI_pos (by omega)) ?_
  refine go_iload_n dX7_level_4 rfl ?_
  refine go_ldc dX7_level_5 kd_X7_145 ?_
  refine go_icmp_le_t 20 dX7_level_7 (by decide) (nI_le (b := 1000000) h (by decide)) ?_
  refine go_iload_n dX7_level_20 rfl ?_
  refine go_stat1 dX7_level_21 (c_levelOf l (by omega)) s_X7_148 kc_X4_levelOf rfl rfl (Nat.le_of_ble_eq_true rfl) (Nat.le_of_ble_eq_true rfl) (Nat.le_of_ble_eq_true rfl) ?_
  exact go_ireturn dX7_level_24 rfl rfl
theorem c_level_n (l : Launch) {w : MW} {Q U : QU} {H : HS} {t : Nat → Nat} {ln : Nat} {s : PS} (hw : 74 ≤ w.1) {x : Int32} (h : x < 0 ∨ 1000000 < x) : Ct l (.code yX7_level cX7_level 2 (some .int)) yX7_level 6 1 6 [.ref 0, .int x] (tqW w Q U H t ln s) (.inr "java/lang/IllegalArgumentException") (tqW w Q U H t ln s) := by
  refine ct_of (by decide +kernel) (Nat.le_of_ble_eq_true rfl) ?_
  by_cases h0 : x < 0
  · skip
    refine go_iload_n dX7_level_0 rfl ?_
    refine go_if_lt_t 10 dX7_level_1 (by decide) (h0) ?_
    exact go_throw (bc := 0) (bs := 0) t_X7_146 dX7_level_10 dX7_level_13 dX7_level_14 dX7_level_16 dX7_level_19 (Nat.le_of_ble_eq_true rfl)
  · skip
    refine go_iload_n dX7_level_0 rfl ?_
    refine go_if_lt_f 10 dX7_level_1 (by decide) (h0) ?_
    refine go_iload_n dX7_level_4 rfl ?_
    refine go_ldc dX7_level_5 kd_X7_145 ?_
    refine go_icmp_le_f 20 dX7_level_7 (by decide) (Int32.not_le.mpr (h.resolve_left h0)) ?_
    exact go_throw (bc := 0) (bs := 0) t_X7_146 dX7_level_10 dX7_level_13 dX7_level_14 dX7_level_16 dX7_level_19 (Nat.le_of_ble_eq_true rfl)
theorem c_at_y1 (l : Launch) {w : MW} {Q U : QU} {H : HS} {t : Nat → Nat} {ln : Nat} {s : PS} (hw : 74 ≤ w.1) (hI : qI Q) {k j : Nat} (h : k < 4) (hj : j < (Q k).1) : Ct l (.code yX7_at cX7_at 3 (some .int)) yX7_at 7 0 0 [.ref 0, .int (nI k), .int (nI j)] (tqW w Q U H t ln s) (.inl (some (.int (hs ((Q k).2.1 j))))) (tqW w Q U H t ln s) := by
  refine ct_of (by decide +kernel) (Nat.le_of_ble_eq_true rfl) ?_
  refine go_iload_n dX7_at_0 rfl ?_
  refine go_stat0 dX7_at_1 (c_reqLayout_y l h) s_X7_121 kc_X7_requireLayout rfl rfl (Nat.le_of_ble_eq_true rfl) (Nat.le_of_ble_eq_true rfl) (Nat.le_of_ble_eq_true rfl) ?_
  refine go_aload_n dX7_at_4 rfl ?_
  refine go_getfield dX7_at_5 f_X7_10_6 (tq_ob hw) rfl ?_
  refine go_iload_n dX7_at_8 rfl ?_
  refine go_virt1 dX7_at_9 (tq_1 (c_layout l (by show 1 + 8 < w.1; omega) (k := k) h)) v_X7_124_4 rfl (tq_ob1 hw) rfl (Nat.le_of_ble_eq_true rfl) (Nat.le_of_ble_eq_true rfl) (Nat.le_of_ble_eq_true rfl) ?_
  refine go_iload_n dX7_at_12 rfl ?_
  refine go_virt1 dX7_at_13 (tq_1 (cq_handleAt1 l (by show 1 + 8 < w.1; omega) h (by rw [hI.1 k h]; exact hI.2.1) rfl hj)) (v_X7_128 kci_ok) rfl (tq_obk hw h (by omega) rfl) rfl (Nat.le_of_ble_eq_true rfl) (Nat.le_of_ble_eq_true rfl) (Nat.le_of_ble_eq_true rfl) ?_
  exact go_ireturn dX7_at_16 rfl rfl
theorem c_at_y0 (l : Launch) {w : MW} {Q U : QU} {H : HS} {t : Nat → Nat} {ln : Nat} {s : PS} (hw : 74 ≤ w.1) (hI : qI Q) {k : Nat} {z : Int32} (h : k < 4) (hj : z < 0 ∨ nI (Q k).1 ≤ z) : Ct l (.code yX7_at cX7_at 3 (some .int)) yX7_at 7 0 0 [.ref 0, .int (nI k), .int z] (tqW w Q U H t ln s) (.inl (some (.int (-1)))) (tqW w Q U H t ln s) := by
  refine ct_of (by decide +kernel) (Nat.le_of_ble_eq_true rfl) ?_
  refine go_iload_n dX7_at_0 rfl ?_
  refine go_stat0 dX7_at_1 (c_reqLayout_y l h) s_X7_121 kc_X7_requireLayout rfl rfl (Nat.le_of_ble_eq_true rfl) (Nat.le_of_ble_eq_true rfl) (Nat.le_of_ble_eq_true rfl) ?_
  refine go_aload_n dX7_at_4 rfl ?_
  refine go_getfield dX7_at_5 f_X7_10_6 (tq_ob hw) rfl ?_
  refine go_iload_n dX7_at_8 rfl ?_
  refine go_virt1 dX7_at_9 (tq_1 (c_layout l (by show 1 + 8 < w.1; omega) (k := k) h)) v_X7_124_4 rfl (tq_ob1 hw) rfl (Nat.le_of_ble_eq_true rfl) (Nat.le_of_ble_eq_true rfl) (Nat.le_of_ble_eq_true rfl) ?_
  refine go_iload_n dX7_at_12 rfl ?_
  refine go_virt1 dX7_at_13 (tq_1 (cq_handleAt0 l (by show 1 + 8 < w.1; omega) h (by rw [hI.1 k h]; exact hI.2.1) rfl hj)) (v_X7_128 kci_ok) rfl (tq_obk hw h (by omega) rfl) rfl (Nat.le_of_ble_eq_true rfl) (Nat.le_of_ble_eq_true rfl) (Nat.le_of_ble_eq_true rfl) ?_
  exact go_ireturn dX7_at_16 rfl rfl
theorem c_at_n (l : Launch) {w : MW} {Q U : QU} {H : HS} {t : Nat → Nat} {ln : Nat} {s : PS} (hw : 74 ≤ w.1) {x : Int32} (h : x < 0 ∨ 4 ≤ x) {z : Int32} : Ct l (.code yX7_at cX7_at 3 (some .int)) yX7_at 7 1 6 [.ref 0, .int x, .int z] (tqW w Q U H t ln s) (.inr "java/lang/IllegalArgumentException") (tqW w Q U H t ln s) := by
  refine ct_of (by decide +kernel) (Nat.le_of_ble_eq_true rfl) ?_
  refine go_iload_n dX7_at_0 rfl ?_
  exact go_thrS (bc := 0) (bs := 0) dX7_at_1 (c_reqLayout_n l h) s_X7_121 kc_X7_requireLayout rfl rfl (Nat.le_of_ble_eq_true rfl) (Nat.le_of_ble_eq_true rfl) (Nat.le_of_ble_eq_true rfl)
theorem c_where_y (l : Launch) {w : MW} {Q U : QU} {H : HS} {t : Nat → Nat} {ln : Nat} {s : PS} (hw : 74 ≤ w.1) (hI : qI Q) {k : Nat} {x : Int32} (h : k < 4) (hb : hasB Q x = true) : Ct l (.code yX7_where cX7_where 3 (some .int)) yX7_where 7 0 0 [.ref 0, .int (nI k), .int x] (tqW w Q U H t ln s) (.inl (some (.int (fndR (Q k).2.1 (Q k).1 x)))) (tqW w Q U H t ln s) := by
  refine ct_of (by decide +kernel) (Nat.le_of_ble_eq_true rfl) ?_
  refine go_iload_n dX7_where_0 rfl ?_
  refine go_stat0 dX7_where_1 (c_reqLayout_y l h) s_X7_121 kc_X7_requireLayout rfl rfl (Nat.le_of_ble_eq_true rfl) (Nat.le_of_ble_eq_true rfl) (Nat.le_of_ble_eq_true rfl) ?_
  refine go_aload_n dX7_where_4 rfl ?_
  refine go_iload_n dX7_where_5 rfl ?_
  refine go_virt0 dX7_where_6 (c_reqItem_y l hw hI.2.1 hb) v_X7_69_6 rfl (tq_ob hw) rfl (Nat.le_of_ble_eq_true rfl) (Nat.le_of_ble_eq_true rfl) (Nat.le_of_ble_eq_true rfl) ?_
  refine go_aload_n dX7_where_9 rfl ?_
  refine go_getfield dX7_where_10 f_X7_10_6 (tq_ob hw) rfl ?_
  refine go_iload_n dX7_where_13 rfl ?_
  refine go_virt1 dX7_where_14 (tq_1 (c_layout l (by show 1 + 8 < w.1; omega) (k := k) h)) v_X7_124_4 rfl (tq_ob1 hw) rfl (Nat.le_of_ble_eq_true rfl) (Nat.le_of_ble_eq_true rfl) (Nat.le_of_ble_eq_true rfl) ?_
  refine go_iload_n dX7_where_17 rfl ?_
  refine go_virt1 dX7_where_18 (tq_1 (cq_find l (by show 1 + 8 < w.1; omega) h (by rw [hI.1 k h]; exact hI.2.1) rfl)) (v_X7_133 kci_ok) rfl (tq_obk hw h (by omega) rfl) rfl (Nat.le_of_ble_eq_true rfl) (Nat.le_of_ble_eq_true rfl) (Nat.le_of_ble_eq_true rfl) ?_
  exact go_ireturn dX7_where_21 rfl rfl
theorem c_where_n1 (l : Launch) {w : MW} {Q U : QU} {H : HS} {t : Nat → Nat} {ln : Nat} {s : PS} (hw : 74 ≤ w.1) {x : Int32} (h : x < 0 ∨ 4 ≤ x) {z : Int32} : Ct l (.code yX7_where cX7_where 3 (some .int)) yX7_where 7 1 6 [.ref 0, .int x, .int z] (tqW w Q U H t ln s) (.inr "java/lang/IllegalArgumentException") (tqW w Q U H t ln s) := by
  refine ct_of (by decide +kernel) (Nat.le_of_ble_eq_true rfl) ?_
  refine go_iload_n dX7_where_0 rfl ?_
  exact go_thrS (bc := 0) (bs := 0) dX7_where_1 (c_reqLayout_n l h) s_X7_121 kc_X7_requireLayout rfl rfl (Nat.le_of_ble_eq_true rfl) (Nat.le_of_ble_eq_true rfl) (Nat.le_of_ble_eq_true rfl)
theorem c_where_n2 (l : Launch) {w : MW} {Q U : QU} {H : HS} {t : Nat → Nat} {ln : Nat} {s : PS} (hw : 74 ≤ w.1) (hI : qI Q) {k : Nat} {x : Int32} (h : k < 4) (hb : hasB Q x = false) : Ct l (.code yX7_where cX7_where 3 (some .int)) yX7_where 7 1 6 [.ref 0, .int (nI k), .int x] (tqW w Q U H t ln s) (.inr "java/lang/IndexOutOfBoundsException") (tqW w Q U H t ln s) := by
  refine ct_of (by decide +kernel) (Nat.le_of_ble_eq_true rfl) ?_
  refine go_iload_n dX7_where_0 rfl ?_
  refine go_stat0 dX7_where_1 (c_reqLayout_y l h) s_X7_121 kc_X7_requireLayout rfl rfl (Nat.le_of_ble_eq_true rfl) (Nat.le_of_ble_eq_true rfl) (Nat.le_of_ble_eq_true rfl) ?_
  refine go_aload_n dX7_where_4 rfl ?_
  refine go_iload_n dX7_where_5 rfl ?_
  exact go_thrV (bc := 0) (bs := 0) dX7_where_6 (c_reqItem_n l hw hI.2.1 hb) v_X7_69_6 rfl (tq_ob hw) rfl (Nat.le_of_ble_eq_true rfl) (Nat.le_of_ble_eq_true rfl) (Nat.le_of_ble_eq_true rfl)
