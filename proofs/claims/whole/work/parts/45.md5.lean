def getL (A : Nat → Int32) (k : Nat) : QS := (fun i => A (60 + 30 * k + i), A (181 + cq k))
def mI (A : Nat → Int32) : Prop := ∀ k, k < 4 → rowOK (getL A k).1
theorem getL_set {A : Nat → Int32} {k : Nat} (hk : k < 4) : setL A k (getL A k) = A := setL_same hk
theorem mI_set {A : Nat → Int32} {k : Nat} {s : QS} (hk : k < 4) (h : mI A) (hs : rowOK s.1) : mI (setL A k s) := by
  intro j hj i hi
  show okH (setL A k s (60 + 30 * j + i))
  by_cases e : j = k
  · rw [e, setL_row hi]
    exact hs i hi
  · unfold setL
    rw [if_neg (by omega), if_neg (by omega)]
    exact h j hj i hi
theorem settleS0_ok {lt : QL} {n k : Nat} {s : QS} (hk : 2 * k < n) (hn : n ≤ 30) (hr : rowOK s.1) : rowOK (settleS0 lt n k s).1 := by
  have ht := topN_lt hk
  exact sinkHighS_ok hn _ _ _ (sinkLowS_ok hn _ _ _ (riseHighS_ok _ _ _ _ (by omega) (by omega) (riseLowS_ok _ _ _ (by omega) (orderS_ok hr hn))))
theorem sinkS1_ok {lt : QL} {low : Bool} {n : Nat} (hn : n ≤ 30) (u i : Nat) (s : QS) (hr : rowOK s.1) : rowOK (sinkS1 lt low n u i s).1 := by
  induction u generalizing i s with
  | zero => exact hr
  | succ u ih =>
    by_cases h : 2 * i + 1 < n
    · have hb1 := fbS_lt (lt := lt) (low := low) (n := n) (f := s.1) (i := i) 5 1 (2 * i + 1, s.2) h (by show 2 * i + 1 ≠ 0; omega) (by decide)
      rw [sinkS1]
      rw [if_pos h]
      have h2 : rowOK (sw s.1 (fbS lt low n s.1 i 5 1 (2 * i + 1, s.2)).1 i) := rowOK_sw hr (by omega) (by omega)
      dsimp only
      split
      · split
        · exact h2
        · split
          · exact ih _ _ (rowOK_sw h2 (by omega) (by omega))
          · exact ih _ _ h2
      · exact hr
    · rw [sinkS1_n h]
      exact hr
theorem settleK_ok {lt : QL} {k n i : Nat} {s : QS} (hi : i < n) (hn : n ≤ 30) (hr : rowOK s.1) : rowOK (settleK lt k n i s).1 := by
  unfold settleK
  split
  · exact settleS0_ok (by omega) hn hr
  · split
    · exact sinkS1_ok hn _ _ _ (enterS1_ok _ _ (by omega) hr)
    · split
      · exact downS_ok hn _ _ _ (upS_ok _ _ _ (by omega) hr)
      · exact downS_ok hn _ _ _ (upS_ok _ _ _ (by omega) hr)
theorem enterS0_ok {lt : QL} {q : Nat} {s : QS} (hq : q < 30) (hr : rowOK s.1) : rowOK (enterS0 lt q s).1 := by
  unfold enterS0
  split
  · exact hr
  · split
    · split
      · exact riseLowS_ok _ _ _ (by omega) (rowOK_sw hr (by omega) (by omega))
      · exact riseHighS_ok _ _ _ _ (by omega) (by omega) hr
    · split
      · exact riseLowS_ok _ _ _ (by omega) hr
      · exact riseHighS_ok _ _ _ _ (by omega) (by omega) hr
theorem enterK_ok {lt : QL} {k q : Nat} {s : QS} (hq : q < 30) (hr : rowOK s.1) : rowOK (enterK lt k q s).1 := by
  unfold enterK
  split
  · exact enterS0_ok hq hr
  · split
    · exact enterS1_ok _ _ hq hr
    · split
      · exact upS_ok _ _ _ hq hr
      · exact upS_ok _ _ _ hq hr
def bldK (lt : QL) (k n m : Nat) (s : QS) : QS := if k = 0 then sinkHighS lt n 30 m (sinkLowS lt n 30 m s) else if k = 1 then sinkS1 lt (lowB m) n 30 m s else if k = 2 then downS lt true n 30 m s else downS lt false n 30 m s
theorem bldK_ok {lt : QL} {k n m : Nat} {s : QS} (hn : n ≤ 30) (hr : rowOK s.1) : rowOK (bldK lt k n m s).1 := by
  unfold bldK
  split
  · exact sinkHighS_ok hn _ _ _ (sinkLowS_ok hn _ _ _ hr)
  · split
    · exact sinkS1_ok hn _ _ _ hr
    · split
      · exact downS_ok hn _ _ _ hr
      · exact downS_ok hn _ _ _ hr
theorem lowK_2 : lowK 2 = true := rfl
theorem lowK_3 : lowK 3 = false := rfl
theorem settleJ_0 {lt : QL} {n i : Nat} {s : QS} : settleK lt 0 n i s = settleS0 lt n (i / 2) s := by unfold settleK; rw [if_pos rfl]
theorem settleJ_1 {lt : QL} {n i : Nat} {s : QS} : settleK lt 1 n i s = sinkS1 lt (lowB i) n 30 i (enterS1 lt i s) := by unfold settleK settleS1; rw [if_neg (by decide), if_pos rfl]
theorem settleJ_2 {lt : QL} {n i : Nat} {s : QS} : settleK lt 2 n i s = downS lt (lowK 2) n 30 i (upS lt (lowK 2) 30 i s) := by unfold settleK settleS2; rw [if_neg (by decide), if_neg (by decide), if_pos rfl, lowK_2]
theorem settleJ_3 {lt : QL} {n i : Nat} {s : QS} : settleK lt 3 n i s = downS lt (lowK 3) n 30 i (upS lt (lowK 3) 30 i s) := by unfold settleK settleS2; rw [if_neg (by decide), if_neg (by decide), if_neg (by decide), lowK_3]
theorem bldJ_0 {lt : QL} {n i : Nat} {s : QS} : bldK lt 0 n i s = sinkHighS lt n 30 i (sinkLowS lt n 30 i s) := by unfold bldK; rw [if_pos rfl]
theorem bldJ_1 {lt : QL} {n i : Nat} {s : QS} : bldK lt 1 n i s = sinkS1 lt (lowB i) n 30 i s := by unfold bldK; rw [if_neg (by decide), if_pos rfl]
theorem bldJ_2 {lt : QL} {n i : Nat} {s : QS} : bldK lt 2 n i s = downS lt (lowK 2) n 30 i s := by unfold bldK; rw [if_neg (by decide), if_neg (by decide), if_pos rfl, lowK_2]
theorem bldJ_3 {lt : QL} {n i : Nat} {s : QS} : bldK lt 3 n i s = downS lt (lowK 3) n 30 i s := by unfold bldK; rw [if_neg (by decide), if_neg (by decide), if_neg (by decide), lowK_3]
theorem enterJ_0 {lt : QL} {i : Nat} {s : QS} : enterK lt 0 i s = enterS0 lt i s := by unfold enterK; rw [if_pos rfl]
theorem enterJ_1 {lt : QL} {i : Nat} {s : QS} : enterK lt 1 i s = enterS1 lt i s := by unfold enterK; rw [if_neg (by decide), if_pos rfl]
theorem enterJ_2 {lt : QL} {i : Nat} {s : QS} : enterK lt 2 i s = upS lt (lowK 2) 30 i s := by unfold enterK; rw [if_neg (by decide), if_neg (by decide), if_pos rfl, lowK_2]
theorem enterJ_3 {lt : QL} {i : Nat} {s : QS} : enterK lt 3 i s = upS lt (lowK 3) 30 i s := by unfold enterK; rw [if_neg (by decide), if_neg (by decide), if_neg (by decide), lowK_3]
theorem m_moves (l : Launch) {w : MW} {p : Nat} {A P K T : Nat → Int32} {x : XS} (hp : p + 4 < w.1) {k : Nat} (hk : k < 4) {s : QS} (hr : rowOK s.1) {i n : Nat} (hi : i < n) (hn : n ≤ 30) : Ct l (.code yX8_moves cX8_moves 4 none) yX8_moves 5 0 0 [.ref p, .int (nI k), .int (nI i), .int (nI n)] (mdW w p (setL A k s) P K T x) (.inl none) (mdW w p (setL A k (settleK (ltA A) k n i s)) P K T x) := by
  refine ct_of (by decide +kernel) (Nat.le_of_ble_eq_true rfl) ?_
  rcases (show k = 0 ∨ k = 1 ∨ k = 2 ∨ k = 3 by omega) with rfl | rfl | rfl | rfl
  · rw [settleJ_0]
    refine go_iload_n dX8_moves_0 rfl ?_
    refine go_if_ne_f 15 dX8_moves_1 (by decide) (rfl) ?_
    refine go_aload_n dX8_moves_4 rfl ?_
    refine go_iload_n dX8_moves_5 rfl ?_
    refine go_iconst 2 dX8_moves_6 (by decide) ?_
    refine go_idiv dX8_moves_7 (by decide) ?_
    rw [a_div2 (by omega)]
    refine go_iload_n dX8_moves_8 rfl ?_
    refine go_virt0 dX8_moves_9 (m_settles l hp hr (k := i / 2) (by omega) hn) v_X8_108_7 rfl (mdW_ob hp) rfl (Nat.le_of_ble_eq_true rfl) (Nat.le_of_ble_eq_true rfl) (Nat.le_of_ble_eq_true rfl) ?_
    refine go_goto 47 dX8_moves_12 (by decide) ?_
    exact go_return dX8_moves_47 rfl
  · rw [settleJ_1]
    refine go_iload_n dX8_moves_0 rfl ?_
    refine go_if_ne_t 15 dX8_moves_1 (by decide) (by decide) ?_
    refine go_iload_n dX8_moves_15 rfl ?_
    refine go_iconst 1 dX8_moves_16 (by decide) ?_
    refine go_icmp_ne_f 34 dX8_moves_17 (by decide) (rfl) ?_
    refine go_aload_n dX8_moves_20 rfl ?_
    refine go_iload_n dX8_moves_21 rfl ?_
    refine go_virt0 dX8_moves_22 (m_enters1 l hp hr (by omega)) v_X8_102_7 rfl (mdW_ob hp) rfl (Nat.le_of_ble_eq_true rfl) (Nat.le_of_ble_eq_true rfl) (Nat.le_of_ble_eq_true rfl) ?_
    refine go_aload_n dX8_moves_25 rfl ?_
    refine go_iload_n dX8_moves_26 rfl ?_
    refine go_iload_n dX8_moves_27 rfl ?_
    refine go_virt0 dX8_moves_28 (m_sinks l hp (enterS1_ok _ _ (by omega) hr) (by omega) hn) v_X8_111_7 rfl (mdW_ob hp) rfl (Nat.le_of_ble_eq_true rfl) (Nat.le_of_ble_eq_true rfl) (Nat.le_of_ble_eq_true rfl) ?_
    refine go_goto 47 dX8_moves_31 (by decide) ?_
    exact go_return dX8_moves_47 rfl
  · rw [settleJ_2]
    refine go_iload_n dX8_moves_0 rfl ?_
    refine go_if_ne_t 15 dX8_moves_1 (by decide) (by decide) ?_
    refine go_iload_n dX8_moves_15 rfl ?_
    refine go_iconst 1 dX8_moves_16 (by decide) ?_
    refine go_icmp_ne_t 34 dX8_moves_17 (by decide) (by decide) ?_
    refine go_aload_n dX8_moves_34 rfl ?_
    refine go_iload_n dX8_moves_35 rfl ?_
    refine go_iload_n dX8_moves_36 rfl ?_
    refine go_virt0 dX8_moves_37 (m_up l hp (k := 2) (Or.inl rfl) hr (by omega)) v_X8_105_7 rfl (mdW_ob hp) rfl (Nat.le_of_ble_eq_true rfl) (Nat.le_of_ble_eq_true rfl) (Nat.le_of_ble_eq_true rfl) ?_
    refine go_aload_n dX8_moves_40 rfl ?_
    refine go_iload_n dX8_moves_41 rfl ?_
    refine go_iload_n dX8_moves_42 rfl ?_
    refine go_iload_n dX8_moves_43 rfl ?_
    refine go_virt0 dX8_moves_44 (m_down l hp (k := 2) (Or.inl rfl) (upS_ok _ _ _ (by omega) hr) (by omega) hn) v_X8_114_7 rfl (mdW_ob hp) rfl (Nat.le_of_ble_eq_true rfl) (Nat.le_of_ble_eq_true rfl) (Nat.le_of_ble_eq_true rfl) ?_
    exact go_return dX8_moves_47 rfl
  · rw [settleJ_3]
    refine go_iload_n dX8_moves_0 rfl ?_
    refine go_if_ne_t 15 dX8_moves_1 (by decide) (by decide) ?_
    refine go_iload_n dX8_moves_15 rfl ?_
    refine go_iconst 1 dX8_moves_16 (by decide) ?_
    refine go_icmp_ne_t 34 dX8_moves_17 (by decide) (by decide) ?_
    refine go_aload_n dX8_moves_34 rfl ?_
    refine go_iload_n dX8_moves_35 rfl ?_
    refine go_iload_n dX8_moves_36 rfl ?_
    refine go_virt0 dX8_moves_37 (m_up l hp (k := 3) (Or.inr rfl) hr (by omega)) v_X8_105_7 rfl (mdW_ob hp) rfl (Nat.le_of_ble_eq_true rfl) (Nat.le_of_ble_eq_true rfl) (Nat.le_of_ble_eq_true rfl) ?_
    refine go_aload_n dX8_moves_40 rfl ?_
    refine go_iload_n dX8_moves_41 rfl ?_
    refine go_iload_n dX8_moves_42 rfl ?_
    refine go_iload_n dX8_moves_43 rfl ?_
    refine go_virt0 dX8_moves_44 (m_down l hp (k := 3) (Or.inr rfl) (upS_ok _ _ _ (by omega) hr) (by omega) hn) v_X8_114_7 rfl (mdW_ob hp) rfl (Nat.le_of_ble_eq_true rfl) (Nat.le_of_ble_eq_true rfl) (Nat.le_of_ble_eq_true rfl) ?_
    exact go_return dX8_moves_47 rfl

theorem m_buildsAt (l : Launch) {w : MW} {p : Nat} {A P K T : Nat → Int32} {x : XS} (hp : p + 4 < w.1) {k : Nat} (hk : k < 4) {s : QS} (hr : rowOK s.1) {m n : Nat} (hm : m < 100) (hn : n ≤ 30) : Ct l (.code yX8_buildsAt cX8_buildsAt 4 none) yX8_buildsAt 4 0 0 [.ref p, .int (nI k), .int (nI m), .int (nI n)] (mdW w p (setL A k s) P K T x) (.inl none) (mdW w p (setL A k (bldK (ltA A) k n m s)) P K T x) := by
  refine ct_of (by decide +kernel) (Nat.le_of_ble_eq_true rfl) ?_
  rcases (show k = 0 ∨ k = 1 ∨ k = 2 ∨ k = 3 by omega) with rfl | rfl | rfl | rfl
  · rw [bldJ_0]
    refine go_iload_n dX8_buildsAt_0 rfl ?_
    refine go_if_ne_f 19 dX8_buildsAt_1 (by decide) (rfl) ?_
    refine go_aload_n dX8_buildsAt_4 rfl ?_
    refine go_iload_n dX8_buildsAt_5 rfl ?_
    refine go_iload_n dX8_buildsAt_6 rfl ?_
    refine go_virt0 dX8_buildsAt_7 (m_sinksLow l hp hr (by omega) hn) v_X8_72_7 rfl (mdW_ob hp) rfl (Nat.le_of_ble_eq_true rfl) (Nat.le_of_ble_eq_true rfl) (Nat.le_of_ble_eq_true rfl) ?_
    refine go_aload_n dX8_buildsAt_10 rfl ?_
    refine go_iload_n dX8_buildsAt_11 rfl ?_
    refine go_iload_n dX8_buildsAt_12 rfl ?_
    refine go_virt0 dX8_buildsAt_13 (m_sinksHigh l hp (sinkLowS_ok hn _ _ _ hr) (by omega) hn) v_X8_75_7 rfl (mdW_ob hp) rfl (Nat.le_of_ble_eq_true rfl) (Nat.le_of_ble_eq_true rfl) (Nat.le_of_ble_eq_true rfl) ?_
    refine go_goto 40 dX8_buildsAt_16 (by decide) ?_
    exact go_return dX8_buildsAt_40 rfl
  · rw [bldJ_1]
    refine go_iload_n dX8_buildsAt_0 rfl ?_
    refine go_if_ne_t 19 dX8_buildsAt_1 (by decide) (by decide) ?_
    refine go_iload_n dX8_buildsAt_19 rfl ?_
    refine go_iconst 1 dX8_buildsAt_20 (by decide) ?_
    refine go_icmp_ne_f 33 dX8_buildsAt_21 (by decide) (rfl) ?_
    refine go_aload_n dX8_buildsAt_24 rfl ?_
    refine go_iload_n dX8_buildsAt_25 rfl ?_
    refine go_iload_n dX8_buildsAt_26 rfl ?_
    refine go_virt0 dX8_buildsAt_27 (m_sinks l hp hr (by omega) hn) v_X8_111_7 rfl (mdW_ob hp) rfl (Nat.le_of_ble_eq_true rfl) (Nat.le_of_ble_eq_true rfl) (Nat.le_of_ble_eq_true rfl) ?_
    refine go_goto 40 dX8_buildsAt_30 (by decide) ?_
    exact go_return dX8_buildsAt_40 rfl
  · rw [bldJ_2]
    refine go_iload_n dX8_buildsAt_0 rfl ?_
    refine go_if_ne_t 19 dX8_buildsAt_1 (by decide) (by decide) ?_
    refine go_iload_n dX8_buildsAt_19 rfl ?_
    refine go_iconst 1 dX8_buildsAt_20 (by decide) ?_
    refine go_icmp_ne_t 33 dX8_buildsAt_21 (by decide) (by decide) ?_
    refine go_aload_n dX8_buildsAt_33 rfl ?_
    refine go_iload_n dX8_buildsAt_34 rfl ?_
    refine go_iload_n dX8_buildsAt_35 rfl ?_
    refine go_iload_n dX8_buildsAt_36 rfl ?_
    refine go_virt0 dX8_buildsAt_37 (m_down l hp (k := 2) (Or.inl rfl) hr (by omega) hn) v_X8_114_7 rfl (mdW_ob hp) rfl (Nat.le_of_ble_eq_true rfl) (Nat.le_of_ble_eq_true rfl) (Nat.le_of_ble_eq_true rfl) ?_
    exact go_return dX8_buildsAt_40 rfl
  · rw [bldJ_3]
    refine go_iload_n dX8_buildsAt_0 rfl ?_
    refine go_if_ne_t 19 dX8_buildsAt_1 (by decide) (by decide) ?_
    refine go_iload_n dX8_buildsAt_19 rfl ?_
    refine go_iconst 1 dX8_buildsAt_20 (by decide) ?_
    refine go_icmp_ne_t 33 dX8_buildsAt_21 (by decide) (by decide) ?_
    refine go_aload_n dX8_buildsAt_33 rfl ?_
    refine go_iload_n dX8_buildsAt_34 rfl ?_
    refine go_iload_n dX8_buildsAt_35 rfl ?_
    refine go_iload_n dX8_buildsAt_36 rfl ?_
    refine go_virt0 dX8_buildsAt_37 (m_down l hp (k := 3) (Or.inr rfl) hr (by omega) hn) v_X8_114_7 rfl (mdW_ob hp) rfl (Nat.le_of_ble_eq_true rfl) (Nat.le_of_ble_eq_true rfl) (Nat.le_of_ble_eq_true rfl) ?_
    exact go_return dX8_buildsAt_40 rfl

def fndH (f : Nat → Int32) (n : Nat) (x : Int32) : Nat := ff (fun j => decide (f j = x)) n 0
theorem m_placeOf_2 (l : Launch) {w : MW} {p : Nat} {A P K T : Nat → Int32} {x : XS} (hp : p + 4 < w.1) {k : Nat} (hk : k < 4) {s : QS} {h : Int32} {n r : Nat} (hn : n ≤ 30) (hlt : r < n) : ∀ (u j : Nat), u + j = n → r = ff (fun j => decide (s.1 j = h)) u j → Go l yX8_placeOf cX8_placeOf 4 (some .int) [] none (mm_Z (mm_eq (.inl (some (.int (nI r)))) (mdW w p (setL A k s) P K T x))) 1 0 0 2 [(0, .ref p), (1, .int (nI k)), (2, .int h), (3, .int (nI j))] [] (mdW w p (setL A k s) P K T x) := by
  intro u
  induction u with
  | zero =>
    intro j hu hrr
    exact absurd hrr (by unfold ff; omega)
  | succ u ih =>
    intro j hu hrr
    refine go_aload_n dX8_placeOf_2 rfl ?_
    refine go_iload_n dX8_placeOf_3 rfl ?_
    refine go_iload_n dX8_placeOf_4 rfl ?_
    refine go_virt1 dX8_placeOf_5 (m_item l hp hk (i := j) (by omega)) v_X8_37_7 rfl (mdW_ob hp) rfl (Nat.le_of_ble_eq_true rfl) (Nat.le_of_ble_eq_true rfl) (Nat.le_of_ble_eq_true rfl) ?_
    rw [setL_row (by omega)]
    refine go_iload_n dX8_placeOf_8 rfl ?_
    refine go_icmp_eq 18 dX8_placeOf_9 (by decide) (fun q9 => ?_) (fun q9 => ?_)
    · rw [hrr, ff_yes (decide_eq_true q9)]
      refine go_iload_n dX8_placeOf_18 rfl ?_
      exact go_ireturn dX8_placeOf_19 rfl rfl
    · refine go_iinc dX8_placeOf_12 rfl (Nat.le_of_ble_eq_true rfl) rfl (show _ = _ + 1 from rfl) ?_
      rw [a_k1]
      refine go_goto 2 dX8_placeOf_15 (by decide) ?_
      exact go_sub [(0, .ref p), (1, .int (nI k)), (2, .int h), (3, .int (nI (j + 1)))] ⟨rfl, rfl, rfl, rfl, trivial⟩ (ih (j + 1) (by omega) (hrr.trans (ff_no (decide_eq_false q9))))
theorem m_placeOf (l : Launch) {w : MW} {p : Nat} {A P K T : Nat → Int32} {x : XS} (hp : p + 4 < w.1) {k : Nat} (hk : k < 4) {s : QS} {h : Int32} {n : Nat} (hn : n ≤ 30) (hf : fndH s.1 n h < n) : Ct l (.code yX8_placeOf cX8_placeOf 4 (some .int)) yX8_placeOf 1 0 0 [.ref p, .int (nI k), .int h] (mdW w p (setL A k s) P K T x) (.inl (some (.int (nI (fndH s.1 n h))))) (mdW w p (setL A k s) P K T x) := by
  refine ct_of (by decide +kernel) (Nat.le_of_ble_eq_true rfl) ?_
  refine go_iconst 0 dX8_placeOf_0 (by decide) ?_
  refine go_istore_n dX8_placeOf_1 (Nat.le_of_ble_eq_true rfl) rfl ?_
  exact go_sub [(0, .ref p), (1, .int (nI k)), (2, .int h), (3, .int (nI 0))] ⟨rfl, rfl, rfl, rfl, trivial⟩ (m_placeOf_2 l hp hk hn hf n 0 (by omega) rfl)
theorem m_closes (l : Launch) {w : MW} {p : Nat} {A P K T : Nat → Int32} {x : XS} (hp : p + 4 < w.1) {k : Nat} (hk : k < 4) {s : QS} {i n : Nat} (hi : i < 30) (h1 : 1 ≤ n) (hn : n ≤ 30) : Ct l (.code yX8_closes cX8_closes 4 (some .int)) yX8_closes 1 0 0 [.ref p, .int (nI k), .int (nI i), .int (nI n)] (mdW w p (setL A k s) P K T x) (.inl (some (.int (nI (n - 1))))) (mdW w p (setL A k (upd (upd s.1 i (s.1 (n - 1))) (n - 1) 0, s.2)) P K T x) := by
  refine ct_of (by decide +kernel) (Nat.le_of_ble_eq_true rfl) ?_
  refine go_aload_n dX8_closes_0 rfl ?_
  refine go_iload_n dX8_closes_1 rfl ?_
  refine go_iload_n dX8_closes_2 rfl ?_
  refine go_aload_n dX8_closes_3 rfl ?_
  refine go_iload_n dX8_closes_4 rfl ?_
  refine go_iload_n dX8_closes_5 rfl ?_
  refine go_iconst 1 dX8_closes_6 (by decide) ?_
  refine go_isub dX8_closes_7 ?_
  rw [a_pred h1]
  refine go_virt1 dX8_closes_8 (m_item l hp hk (i := n - 1) (by omega)) v_X8_37_7 rfl (mdW_ob hp) rfl (Nat.le_of_ble_eq_true rfl) (Nat.le_of_ble_eq_true rfl) (Nat.le_of_ble_eq_true rfl) ?_
  rw [setL_row (by omega)]
  refine go_virt0 dX8_closes_11 (m_lays l hp hk hi) v_X8_45_7 rfl (mdW_ob hp) rfl (Nat.le_of_ble_eq_true rfl) (Nat.le_of_ble_eq_true rfl) (Nat.le_of_ble_eq_true rfl) ?_
  rw [setL_uR hk hi]
  refine go_aload_n dX8_closes_14 rfl ?_
  refine go_iload_n dX8_closes_15 rfl ?_
  refine go_iload_n dX8_closes_16 rfl ?_
  refine go_iconst 1 dX8_closes_17 (by decide) ?_
  refine go_isub dX8_closes_18 ?_
  rw [a_pred h1]
  refine go_iconst 0 dX8_closes_19 (by decide) ?_
  refine go_virt0 dX8_closes_20 (m_lays l hp hk (i := n - 1) (by omega)) v_X8_45_7 rfl (mdW_ob hp) rfl (Nat.le_of_ble_eq_true rfl) (Nat.le_of_ble_eq_true rfl) (Nat.le_of_ble_eq_true rfl) ?_
  rw [setL_uR hk (by omega)]
  refine go_iload_n dX8_closes_23 rfl ?_
  refine go_iconst 1 dX8_closes_24 (by decide) ?_
  refine go_isub dX8_closes_25 ?_
  rw [a_pred h1]
  exact go_ireturn dX8_closes_26 rfl rfl
def mskB (q : Int32) (k : Nat) : Bool := decide (q >>> (nI (cq k) &&& 31) - q >>> (nI (cq k) &&& 31) / 2 * 2 = 1)
def fldA (op : Nat → (Nat → Int32) → (Nat → Int32)) (q : Int32) : Nat → Nat → (Nat → Int32) → (Nat → Int32)
  | 0, _, A => A
  | u + 1, k, A => fldA op q u (k + 1) (if mskB q k = true then op k A else A)
def entA (m : Nat) (x : Int32) (k : Nat) (A : Nat → Int32) : Nat → Int32 := setL A k (enterK (ltA A) k m (upd (getL A k).1 m x, (getL A k).2))
def goS (lt : QL) (k n : Nat) (x : Int32) (s : QS) : QS := if fndH s.1 n x < n - 1 then settleK lt k (n - 1) (fndH s.1 n x) (upd (upd s.1 (fndH s.1 n x) (s.1 (n - 1))) (n - 1) 0, s.2) else (upd (upd s.1 (fndH s.1 n x) (s.1 (n - 1))) (n - 1) 0, s.2)
def goA (n : Nat) (x : Int32) (k : Nat) (A : Nat → Int32) : Nat → Int32 := setL A k (goS (ltA A) k n x (getL A k))
theorem okH_0 : okH 0 := ⟨0, by decide, rfl⟩
theorem mI_entA {A : Nat → Int32} {m k : Nat} {x : Int32} (hk : k < 4) (hm : m < 30) (hx : okH x) (h : mI A) : mI (entA m x k A) := mI_set hk h (enterK_ok hm (rowOK_upd (h k hk) hx))
theorem goS_ok {lt : QL} {k n : Nat} {x : Int32} {s : QS} (h1 : 1 ≤ n) (hn : n ≤ 30) (hr : rowOK s.1) : rowOK (goS lt k n x s).1 := by
  have h2 : rowOK (upd (upd s.1 (fndH s.1 n x) (s.1 (n - 1))) (n - 1) 0) := rowOK_upd (rowOK_upd hr (hr _ (by omega))) okH_0
  unfold goS
  split
  · rename_i z
    exact settleK_ok z (by omega) h2
  · exact h2
theorem entA_n {A : Nat → Int32} {m k : Nat} {x : Int32} (hk : k < 4) : entA m x k A 180 = A 180 := setL_n hk
theorem goA_n {A : Nat → Int32} {n k : Nat} {x : Int32} (hk : k < 4) : goA n x k A 180 = A 180 := setL_n hk
