def lstV (Q : QU) (k : Nat) : Int32 := if 0 < (Q k).1 then hs ((Q k).2.1 0) else -1
def grtV (Q : QU) (k : Nat) : Int32 := if k = 0 then (if 0 < (Q 0).1 then hs ((Q 0).2.1 (topN (Q 0).1 0)) else -1) else if k = 1 then (if (Q 1).1 = 0 then -1 else if (Q 1).1 < 3 then hs ((Q 1).2.1 ((Q 1).1 - 1)) else hs ((Q 1).2.1 (if ltI ((Q 1).2.1 1) ((Q 1).2.1 2) then 2 else 1))) else (if 0 < (Q 3).1 then hs ((Q 3).2.1 0) else -1)
def cntV (Q : QU) (k : Nat) : Int32 := if k = 2 then (Q 2).2.2 + (Q 3).2.2 else (Q k).2.2
def freeN (Q : QU) : Nat := ff (fun h => !hasB Q (nI h)) 30 0
def isKeyB (x : Int32) : Bool := decide (-999 ≤ x) && decide (x ≤ 999)
def qI (Q : QU) : Prop := (∀ k, k < 4 → (Q k).1 = (Q 0).1) ∧ (Q 0).1 ≤ 30 ∧ ∀ x, fndN (Q 0).2.1 (Q 0).1 x < (Q 0).1 → ∀ k, k < 4 → fndN (Q k).2.1 (Q k).1 x < (Q k).1
def posB (Q : QU) (cmd : Nat) (hd ky : Int32) : Bool := if cmd = 0 then isKeyB ky && decide ((Q 0).1 < 30) else if cmd = 1 ∨ cmd = 2 then decide (0 < (Q 0).1) else if cmd = 3 then hasB Q hd else if cmd = 5 then hasB Q hd && isKeyB ky else true
def cfgU (Q : QU) : QU := va_up Q 1 ((Q 1).1, (Q 1).2.1, if 3 ≤ (Q 1).1 then (Q 1).2.2 + 1 else (Q 1).2.2)
def cryQ (Q : QU) (cmd : Nat) (hd ky : Int32) : QU := if cmd = 0 then mapU (opPut ky (nI (freeN Q))) Q 4 else if cmd = 1 then mapU (opTake (lstV Q 0)) Q 4 else if cmd = 2 then mapU (opTake (grtV Q 0)) (cfgU Q) 4 else if cmd = 3 then mapU (opTake hd) Q 4 else if cmd = 5 then mapU (opGive hd ky) Q 4 else mapU opArr Q 4
theorem fnd_hit {f : Nat → Int32} {n j : Nat} (hj : j < n) : fndN f n (hs (f j)) < n := Nat.lt_of_le_of_lt (ff_lt (Nat.zero_le _) (by omega) (decide_eq_true rfl)) hj
theorem c_isKey (l : Launch) {w : MW} {x : Int32} : Ct l (.code yX7_isKey cX7_isKey 1 (some .boolean)) yX7_isKey 0 0 0 [.int x] w (.inl (some (.int (bI (isKeyB x))))) w := by
  refine ct_of (by decide +kernel) (Nat.le_of_ble_eq_true rfl) ?_
  refine go_iload_n dX7_isKey_0 rfl ?_
  refine go_sipush (-999) dX7_isKey_1 (by decide) ?_
  refine go_icmp_lt 18 dX7_isKey_4 (by decide) (fun q4 => ?_) (fun q4 => ?_)
  · rw [show isKeyB x = false from by unfold isKeyB; rw [decide_eq_false (Int32.not_le.mpr q4)]; rfl]
    refine go_iconst 0 dX7_isKey_18 (by decide) ?_
    exact go_ireturn dX7_isKey_19 rfl (by decide)
  · refine go_iload_n dX7_isKey_7 rfl ?_
    refine go_sipush 999 dX7_isKey_8 (by decide) ?_
    refine go_icmp_gt 18 dX7_isKey_11 (by decide) (fun q11 => ?_) (fun q11 => ?_)
    · rw [show isKeyB x = false from by unfold isKeyB; rw [decide_eq_false (p := x ≤ 999) (Int32.not_le.mpr q11), Bool.and_false]]
      refine go_iconst 0 dX7_isKey_18 (by decide) ?_
      exact go_ireturn dX7_isKey_19 rfl (by decide)
    · rw [show isKeyB x = true from by unfold isKeyB; rw [decide_eq_true (p := -999 ≤ x) (Int32.not_lt.mp q4), decide_eq_true (p := x ≤ 999) (Int32.not_lt.mp q11)]; rfl]
      refine go_iconst 1 dX7_isKey_14 (by decide) ?_
      refine go_goto 19 dX7_isKey_15 (by decide) ?_
      exact go_ireturn dX7_isKey_19 rfl (by decide)
theorem c_leastOf (l : Launch) {w : MW} {q : Nat} {Q : QU} (hq : q + 8 < w.1) {k : Nat} (hk : k < 4) (hn : (Q k).1 ≤ 30) : Ct l (.code yX5_leastOf cX5_leastOf 2 (some .int)) yX5_leastOf 2 0 0 [.ref q, .int (nI k)] (quW w q Q) (.inl (some (.int (lstV Q k)))) (quW w q Q) := by
  refine ct_of (by decide +kernel) (Nat.le_of_ble_eq_true rfl) ?_
  by_cases e : 0 < (Q k).1
  · rw [show lstV Q k = hs ((Q k).2.1 0) from if_pos e]
    refine go_aload_n dX5_leastOf_0 rfl ?_
    refine go_iload_n dX5_leastOf_1 rfl ?_
    refine go_virt1 dX5_leastOf_2 (c_layout l hq hk) v_X5_54_4 rfl (quW_ob hq) rfl (Nat.le_of_ble_eq_true rfl) (Nat.le_of_ble_eq_true rfl) (Nat.le_of_ble_eq_true rfl) ?_
    refine go_iconst 0 dX5_leastOf_5 (by decide) ?_
    refine go_virt1 dX5_leastOf_6 (cq_handleAt1 l hq hk hn rfl (j := 0) e) (v_X5_58 kci_ok) rfl (quW_obk hq hk rfl rfl) rfl (Nat.le_of_ble_eq_true rfl) (Nat.le_of_ble_eq_true rfl) (Nat.le_of_ble_eq_true rfl) ?_
    exact go_ireturn dX5_leastOf_9 rfl rfl
  · rw [show lstV Q k = -1 from if_neg e]
    refine go_aload_n dX5_leastOf_0 rfl ?_
    refine go_iload_n dX5_leastOf_1 rfl ?_
    refine go_virt1 dX5_leastOf_2 (c_layout l hq hk) v_X5_54_4 rfl (quW_ob hq) rfl (Nat.le_of_ble_eq_true rfl) (Nat.le_of_ble_eq_true rfl) (Nat.le_of_ble_eq_true rfl) ?_
    refine go_iconst 0 dX5_leastOf_5 (by decide) ?_
    refine go_virt1 dX5_leastOf_6 (cq_handleAt0 l hq hk hn rfl (x := 0) (Or.inr (nI_le (b := 0) (by omega) (by decide)))) (v_X5_58 kci_ok) rfl (quW_obk hq hk rfl rfl) rfl (Nat.le_of_ble_eq_true rfl) (Nat.le_of_ble_eq_true rfl) (Nat.le_of_ble_eq_true rfl) ?_
    exact go_ireturn dX5_leastOf_9 rfl rfl
theorem cq_gpos0 (l : Launch) {w : MW} {q : Nat} {Q : QU} (hq : q + 8 < w.1) (hn : (Q 0).1 ≤ 30) : Ct l (.code yX2_greatestPosition cX2_greatestPosition 1 (some .int)) yX2_greatestPosition 2 0 0 [.ref (q + 1)] (quW w q Q) (.inl (some (.int (nI (topN (Q 0).1 0))))) (quW w q Q) := ct_w (c_gpos0 l (w := quW w q Q) (h := q + 1 + 2 * 0) (by show q + 1 + 2 * 0 + 1 < w.1; omega) hn) (quW_lay (k := 0) (by decide)) (quW_lay (k := 0) (by decide)) rfl
theorem cq_gpos1a (l : Launch) {w : MW} {q : Nat} {Q : QU} (hq : q + 8 < w.1) (h3 : (Q 1).1 < 3) : Ct l (.code yX4_greatestPosition cX4_greatestPosition 1 (some .int)) yX4_greatestPosition 2 0 0 [.ref (q + 3)] (quW w q Q) (.inl (some (.int (nI (Q 1).1 - 1)))) (quW w q Q) := ct_w (c_gpos1a l (w := quW w q Q) (h := q + 1 + 2 * 1) (by show q + 1 + 2 * 1 + 1 < w.1; omega) (by omega) h3) (quW_lay (k := 1) (by decide)) (quW_lay (k := 1) (by decide)) rfl
theorem cq_gpos1b (l : Launch) {w : MW} {q : Nat} {Q : QU} (hq : q + 8 < w.1) (hn : (Q 1).1 ≤ 30) (h3 : 3 ≤ (Q 1).1) : Ct l (.code yX4_greatestPosition cX4_greatestPosition 1 (some .int)) yX4_greatestPosition 2 0 0 [.ref (q + 3)] (quW w q Q) (.inl (some (.int (nI (if ltI ((Q 1).2.1 1) ((Q 1).2.1 2) then 2 else 1))))) (quW w q Q) := ct_w (c_gpos1b l (w := quW w q Q) (h := q + 1 + 2 * 1) (by show q + 1 + 2 * 1 + 1 < w.1; omega) hn h3) (quW_lay (k := 1) (by decide)) (quW_lay (k := 1) (by decide)) rfl
theorem cq_cfg (l : Launch) {w : MW} {q : Nat} {Q : QU} (hq : q + 8 < w.1) (hn : (Q 1).1 ≤ 30) : Ct l (.code yX4_countFindingGreatest cX4_countFindingGreatest 1 none) yX4_countFindingGreatest 0 0 0 [.ref (q + 3)] (quW w q Q) (.inl none) (quW w q (cfgU Q)) := ct_w (c_cfg l (w := quW w q Q) (h := q + 1 + 2 * 1) (by show q + 1 + 2 * 1 + 1 < w.1; omega) hn) (quW_lay (k := 1) (by decide)) (quW_set (k := 1) (by decide) _ _ _) rfl
theorem c_greatestOf0 (l : Launch) {w : MW} {q : Nat} {Q : QU} (hq : q + 8 < w.1) (hn : (Q 0).1 ≤ 30) : Ct l (.code yX5_greatestOf cX5_greatestOf 2 (some .int)) yX5_greatestOf 3 0 0 [.ref q, .int 0] (quW w q Q) (.inl (some (.int (grtV Q 0)))) (quW w q Q) := by
  refine ct_of (by decide +kernel) (Nat.le_of_ble_eq_true rfl) ?_
  by_cases e : 0 < (Q 0).1
  · rw [show grtV Q 0 = hs ((Q 0).2.1 (topN (Q 0).1 0)) from by unfold grtV; rw [if_pos rfl, if_pos e]]
    refine go_iload_n dX5_greatestOf_0 rfl ?_
    refine go_lookup (off := 27) 28 dX5_greatestOf_1 (by decide) (by decide) (by decide) ?_
    refine go_aload_n dX5_greatestOf_28 rfl ?_
    refine go_getfield dX5_greatestOf_29 f_X5_12_4 (quW_ob hq) rfl ?_
    refine go_aload_n dX5_greatestOf_32 rfl ?_
    refine go_getfield dX5_greatestOf_33 f_X5_12_4 (quW_ob hq) rfl ?_
    refine go_virt1 dX5_greatestOf_36 (cq_gpos0 l hq hn) v_X5_61_2 rfl (quW_obk hq (k := 0) (by decide) rfl rfl) rfl (Nat.le_of_ble_eq_true rfl) (Nat.le_of_ble_eq_true rfl) (Nat.le_of_ble_eq_true rfl) ?_
    refine go_virt1 dX5_greatestOf_39 (cq_handleAt1 l hq (k := 0) (by decide) (by omega) rfl (j := topN (Q 0).1 0) (topN_lt (by omega))) v_X5_48_2 rfl (quW_obk hq (k := 0) (by decide) rfl rfl) rfl (Nat.le_of_ble_eq_true rfl) (Nat.le_of_ble_eq_true rfl) (Nat.le_of_ble_eq_true rfl) ?_
    exact go_ireturn dX5_greatestOf_42 rfl rfl
  · rw [show grtV Q 0 = -1 from by unfold grtV; rw [if_pos rfl, if_neg e]]
    refine go_iload_n dX5_greatestOf_0 rfl ?_
    refine go_lookup (off := 27) 28 dX5_greatestOf_1 (by decide) (by decide) (by decide) ?_
    refine go_aload_n dX5_greatestOf_28 rfl ?_
    refine go_getfield dX5_greatestOf_29 f_X5_12_4 (quW_ob hq) rfl ?_
    refine go_aload_n dX5_greatestOf_32 rfl ?_
    refine go_getfield dX5_greatestOf_33 f_X5_12_4 (quW_ob hq) rfl ?_
    refine go_virt1 dX5_greatestOf_36 (cq_gpos0 l hq hn) v_X5_61_2 rfl (quW_obk hq (k := 0) (by decide) rfl rfl) rfl (Nat.le_of_ble_eq_true rfl) (Nat.le_of_ble_eq_true rfl) (Nat.le_of_ble_eq_true rfl) ?_
    refine go_virt1 dX5_greatestOf_39 (cq_handleAt0 l hq (k := 0) (by decide) (by omega) rfl (x := nI (topN (Q 0).1 0)) (Or.inr (nI_le (by omega) (by have := topN_bd (Q 0).1 0; omega)))) v_X5_48_2 rfl (quW_obk hq (k := 0) (by decide) rfl rfl) rfl (Nat.le_of_ble_eq_true rfl) (Nat.le_of_ble_eq_true rfl) (Nat.le_of_ble_eq_true rfl) ?_
    exact go_ireturn dX5_greatestOf_42 rfl rfl
theorem c_greatestOf1 (l : Launch) {w : MW} {q : Nat} {Q : QU} (hq : q + 8 < w.1) (hn : (Q 1).1 ≤ 30) : Ct l (.code yX5_greatestOf cX5_greatestOf 2 (some .int)) yX5_greatestOf 3 0 0 [.ref q, .int 1] (quW w q Q) (.inl (some (.int (grtV Q 1)))) (quW w q Q) := by
  refine ct_of (by decide +kernel) (Nat.le_of_ble_eq_true rfl) ?_
  by_cases e : (Q 1).1 = 0
  · rw [show grtV Q 1 = -1 from by unfold grtV; rw [if_neg (by decide), if_pos rfl, if_pos e]]
    refine go_iload_n dX5_greatestOf_0 rfl ?_
    refine go_lookup (off := 42) 43 dX5_greatestOf_1 (by decide) (by decide) (by decide) ?_
    refine go_aload_n dX5_greatestOf_43 rfl ?_
    refine go_getfield dX5_greatestOf_44 f_X5_21_4 (quW_ob hq) rfl ?_
    refine go_aload_n dX5_greatestOf_47 rfl ?_
    refine go_getfield dX5_greatestOf_48 f_X5_21_4 (quW_ob hq) rfl ?_
    refine go_virt1 dX5_greatestOf_51 (cq_gpos1a l hq (by omega)) v_X5_65_3 rfl (quW_obk hq (k := 1) (by decide) rfl rfl) rfl (Nat.le_of_ble_eq_true rfl) (Nat.le_of_ble_eq_true rfl) (Nat.le_of_ble_eq_true rfl) ?_
    refine go_virt1 dX5_greatestOf_54 (cq_handleAt0 l hq (k := 1) (by decide) (by omega) rfl (x := nI (Q 1).1 - 1) (Or.inl (by rw [e]; decide))) v_X5_66_3 rfl (quW_obk hq (k := 1) (by decide) rfl rfl) rfl (Nat.le_of_ble_eq_true rfl) (Nat.le_of_ble_eq_true rfl) (Nat.le_of_ble_eq_true rfl) ?_
    exact go_ireturn dX5_greatestOf_57 rfl rfl
  · by_cases e3 : (Q 1).1 < 3
    · rw [show grtV Q 1 = hs ((Q 1).2.1 ((Q 1).1 - 1)) from by unfold grtV; rw [if_neg (by decide), if_pos rfl, if_neg e, if_pos e3]]
      have ep : nI (Q 1).1 - 1 = nI ((Q 1).1 - 1) := a_pred (by omega)
      have gp := cq_gpos1a l hq (Q := Q) (by omega)
      rw [ep] at gp
      refine go_iload_n dX5_greatestOf_0 rfl ?_
      refine go_lookup (off := 42) 43 dX5_greatestOf_1 (by decide) (by decide) (by decide) ?_
      refine go_aload_n dX5_greatestOf_43 rfl ?_
      refine go_getfield dX5_greatestOf_44 f_X5_21_4 (quW_ob hq) rfl ?_
      refine go_aload_n dX5_greatestOf_47 rfl ?_
      refine go_getfield dX5_greatestOf_48 f_X5_21_4 (quW_ob hq) rfl ?_
      refine go_virt1 dX5_greatestOf_51 gp v_X5_65_3 rfl (quW_obk hq (k := 1) (by decide) rfl rfl) rfl (Nat.le_of_ble_eq_true rfl) (Nat.le_of_ble_eq_true rfl) (Nat.le_of_ble_eq_true rfl) ?_
      refine go_virt1 dX5_greatestOf_54 (cq_handleAt1 l hq (k := 1) (by decide) (by omega) rfl (j := (Q 1).1 - 1) (by omega)) v_X5_66_3 rfl (quW_obk hq (k := 1) (by decide) rfl rfl) rfl (Nat.le_of_ble_eq_true rfl) (Nat.le_of_ble_eq_true rfl) (Nat.le_of_ble_eq_true rfl) ?_
      exact go_ireturn dX5_greatestOf_57 rfl rfl
    · rw [show grtV Q 1 = hs ((Q 1).2.1 (if ltI ((Q 1).2.1 1) ((Q 1).2.1 2) then 2 else 1)) from by unfold grtV; rw [if_neg (by decide), if_pos rfl, if_neg e, if_neg e3]]
      refine go_iload_n dX5_greatestOf_0 rfl ?_
      refine go_lookup (off := 42) 43 dX5_greatestOf_1 (by decide) (by decide) (by decide) ?_
      refine go_aload_n dX5_greatestOf_43 rfl ?_
      refine go_getfield dX5_greatestOf_44 f_X5_21_4 (quW_ob hq) rfl ?_
      refine go_aload_n dX5_greatestOf_47 rfl ?_
      refine go_getfield dX5_greatestOf_48 f_X5_21_4 (quW_ob hq) rfl ?_
      refine go_virt1 dX5_greatestOf_51 (cq_gpos1b l hq hn (by omega)) v_X5_65_3 rfl (quW_obk hq (k := 1) (by decide) rfl rfl) rfl (Nat.le_of_ble_eq_true rfl) (Nat.le_of_ble_eq_true rfl) (Nat.le_of_ble_eq_true rfl) ?_
      refine go_virt1 dX5_greatestOf_54 (cq_handleAt1 l hq (k := 1) (by decide) (by omega) rfl (j := if ltI ((Q 1).2.1 1) ((Q 1).2.1 2) then 2 else 1) (by split <;> omega)) v_X5_66_3 rfl (quW_obk hq (k := 1) (by decide) rfl rfl) rfl (Nat.le_of_ble_eq_true rfl) (Nat.le_of_ble_eq_true rfl) (Nat.le_of_ble_eq_true rfl) ?_
      exact go_ireturn dX5_greatestOf_57 rfl rfl
theorem c_greatestOf2 (l : Launch) {w : MW} {q : Nat} {Q : QU} (hq : q + 8 < w.1) (hn : (Q 3).1 ≤ 30) : Ct l (.code yX5_greatestOf cX5_greatestOf 2 (some .int)) yX5_greatestOf 3 0 0 [.ref q, .int 2] (quW w q Q) (.inl (some (.int (grtV Q 2)))) (quW w q Q) := by
  refine ct_of (by decide +kernel) (Nat.le_of_ble_eq_true rfl) ?_
  by_cases e : 0 < (Q 3).1
  · rw [show grtV Q 2 = hs ((Q 3).2.1 0) from by unfold grtV; rw [if_neg (by decide), if_neg (by decide), if_pos e]]
    refine go_iload_n dX5_greatestOf_0 rfl ?_
    refine go_lookup (off := 57) 58 dX5_greatestOf_1 (by decide) (by decide) (by decide) ?_
    refine go_aload_n dX5_greatestOf_58 rfl ?_
    refine go_getfield dX5_greatestOf_59 f_X5_34_4 (quW_ob hq) rfl ?_
    refine go_iconst 0 dX5_greatestOf_62 (by decide) ?_
    refine go_virt1 dX5_greatestOf_63 (cq_handleAt1 l hq (k := 3) (by decide) (by omega) rfl (j := 0) e) v_X5_67_0 rfl (quW_obk hq (k := 3) (by decide) rfl rfl) rfl (Nat.le_of_ble_eq_true rfl) (Nat.le_of_ble_eq_true rfl) (Nat.le_of_ble_eq_true rfl) ?_
    exact go_ireturn dX5_greatestOf_66 rfl rfl
  · rw [show grtV Q 2 = -1 from by unfold grtV; rw [if_neg (by decide), if_neg (by decide), if_neg e]]
    refine go_iload_n dX5_greatestOf_0 rfl ?_
    refine go_lookup (off := 57) 58 dX5_greatestOf_1 (by decide) (by decide) (by decide) ?_
    refine go_aload_n dX5_greatestOf_58 rfl ?_
    refine go_getfield dX5_greatestOf_59 f_X5_34_4 (quW_ob hq) rfl ?_
    refine go_iconst 0 dX5_greatestOf_62 (by decide) ?_
    refine go_virt1 dX5_greatestOf_63 (cq_handleAt0 l hq (k := 3) (by decide) (by omega) rfl (x := 0) (Or.inr (nI_le (b := 0) (by omega) (by decide)))) v_X5_67_0 rfl (quW_obk hq (k := 3) (by decide) rfl rfl) rfl (Nat.le_of_ble_eq_true rfl) (Nat.le_of_ble_eq_true rfl) (Nat.le_of_ble_eq_true rfl) ?_
    exact go_ireturn dX5_greatestOf_66 rfl rfl
theorem c_countedIn (l : Launch) {w : MW} {q : Nat} {Q : QU} (hq : q + 8 < w.1) {k : Nat} (hk : k < 3) : Ct l (.code yX5_countedIn cX5_countedIn 2 (some .int)) yX5_countedIn 1 0 0 [.ref q, .int (nI k)] (quW w q Q) (.inl (some (.int (cntV Q k)))) (quW w q Q) := by
  refine ct_of (by decide +kernel) (Nat.le_of_ble_eq_true rfl) ?_
  by_cases e : k = 2
  · subst e
    rw [show cntV Q 2 = (Q 2).2.2 + (Q 3).2.2 from if_pos rfl]
    refine go_iload_n dX5_countedIn_0 rfl ?_
    refine go_iconst 2 dX5_countedIn_1 (by decide) ?_
    refine go_icmp_ne_f 23 dX5_countedIn_2 (by decide) (rfl) ?_
    refine go_aload_n dX5_countedIn_5 rfl ?_
    refine go_getfield dX5_countedIn_6 f_X5_30_4 (quW_ob hq) rfl ?_
    refine go_getfield dX5_countedIn_9 f_X5_68_0 (quW_obk hq (k := 2) (by decide) rfl rfl) rfl ?_
    refine go_aload_n dX5_countedIn_12 rfl ?_
    refine go_getfield dX5_countedIn_13 f_X5_34_4 (quW_ob hq) rfl ?_
    refine go_getfield dX5_countedIn_16 f_X5_68_0 (quW_obk hq (k := 3) (by decide) rfl rfl) rfl ?_
    refine go_iadd dX5_countedIn_19 ?_
    refine go_goto 31 dX5_countedIn_20 (by decide) ?_
    exact go_ireturn dX5_countedIn_31 rfl rfl
  · rw [show cntV Q k = (Q k).2.2 from if_neg e]
    refine go_iload_n dX5_countedIn_0 rfl ?_
    refine go_iconst 2 dX5_countedIn_1 (by decide) ?_
    refine go_icmp_ne_t 23 dX5_countedIn_2 (by decide) (n_ne (b := 2) e (by omega) (by decide)) ?_
    refine go_aload_n dX5_countedIn_23 rfl ?_
    refine go_iload_n dX5_countedIn_24 rfl ?_
    refine go_virt1 dX5_countedIn_25 (c_layout l hq (by omega)) v_X5_54_4 rfl (quW_ob hq) rfl (Nat.le_of_ble_eq_true rfl) (Nat.le_of_ble_eq_true rfl) (Nat.le_of_ble_eq_true rfl) ?_
    refine go_getfield dX5_countedIn_28 (f_X5_71 kci_ok) (quW_obk hq (k := k) (by omega) rfl rfl) rfl ?_
    exact go_ireturn dX5_countedIn_31 rfl rfl
theorem c_countedInAll (l : Launch) {w : MW} {q : Nat} {Q : QU} (hq : q + 8 < w.1) : Ct l (.code yX5_countedInAll cX5_countedInAll 1 (some .int)) yX5_countedInAll 2 0 0 [.ref q] (quW w q Q) (.inl (some (.int (cntV Q 0 + cntV Q 1 + cntV Q 2)))) (quW w q Q) := by
  refine ct_of (by decide +kernel) (Nat.le_of_ble_eq_true rfl) ?_
  refine go_aload_n dX5_countedInAll_0 rfl ?_
  refine go_iconst 0 dX5_countedInAll_1 (by decide) ?_
  refine go_virt1 dX5_countedInAll_2 (c_countedIn l hq (k := 0) (by decide)) v_X5_72_4 rfl (quW_ob hq) rfl (Nat.le_of_ble_eq_true rfl) (Nat.le_of_ble_eq_true rfl) (Nat.le_of_ble_eq_true rfl) ?_
  refine go_aload_n dX5_countedInAll_5 rfl ?_
  refine go_iconst 1 dX5_countedInAll_6 (by decide) ?_
  refine go_virt1 dX5_countedInAll_7 (c_countedIn l hq (k := 1) (by decide)) v_X5_72_4 rfl (quW_ob hq) rfl (Nat.le_of_ble_eq_true rfl) (Nat.le_of_ble_eq_true rfl) (Nat.le_of_ble_eq_true rfl) ?_
  refine go_iadd dX5_countedInAll_10 ?_
  refine go_aload_n dX5_countedInAll_11 rfl ?_
  refine go_iconst 2 dX5_countedInAll_12 (by decide) ?_
  refine go_virt1 dX5_countedInAll_13 (c_countedIn l hq (k := 2) (by decide)) v_X5_72_4 rfl (quW_ob hq) rfl (Nat.le_of_ble_eq_true rfl) (Nat.le_of_ble_eq_true rfl) (Nat.le_of_ble_eq_true rfl) ?_
  refine go_iadd dX5_countedInAll_16 ?_
  exact go_ireturn dX5_countedInAll_17 rfl rfl
theorem c_free_2 (l : Launch) {w : MW} {q : Nat} {Q : QU} (hq : q + 8 < w.1) (hn : (Q 0).1 ≤ 30) : ∀ (u i r : Nat), u + i = 30 → r = ff (fun h => !hasB Q (nI h)) u i → Go l yX5_lowestFreeHandle cX5_lowestFreeHandle 2 (some .int) [] none (mm_Z (mm_eq (.inl (some (.int (nI r)))) (quW w q Q))) 4 0 0 2 [(0, .ref q), (1, .int (nI i))] [] (quW w q Q) := by
  intro u
  induction u with
  | zero =>
    intro i r hi hr
    have e : r = i := by rw [hr]; rfl
    subst e
    refine go_iload_n dX5_lowestFreeHandle_2 rfl ?_
    refine go_bipush 30 dX5_lowestFreeHandle_3 (by decide) ?_
    refine go_icmp_ge_t 22 dX5_lowestFreeHandle_5 (by decide) (nI_le (a := 30) (by omega) (by omega)) ?_
    refine go_iload_n dX5_lowestFreeHandle_22 rfl ?_
    exact go_ireturn dX5_lowestFreeHandle_23 rfl rfl
  | succ u ih =>
    intro i r hi hr
    refine go_iload_n dX5_lowestFreeHandle_2 rfl ?_
    refine go_bipush 30 dX5_lowestFreeHandle_3 (by decide) ?_
    refine go_icmp_ge_f 22 dX5_lowestFreeHandle_5 (by decide) (n_nle (a := 30) (by omega) (by decide)) ?_
    refine go_aload_n dX5_lowestFreeHandle_8 rfl ?_
    refine go_iload_n dX5_lowestFreeHandle_9 rfl ?_
    refine go_virt1 dX5_lowestFreeHandle_10 (c_has l hq hn) v_X5_75_4 rfl (quW_ob hq) rfl (Nat.le_of_ble_eq_true rfl) (Nat.le_of_ble_eq_true rfl) (Nat.le_of_ble_eq_true rfl) ?_
    refine go_if_eq 22 dX5_lowestFreeHandle_13 (by decide) (fun q13 => ?_) (fun q13 => ?_)
    · have e : r = i := by rw [hr]; exact ff_yes (by rw [bI_eq.mp q13]; rfl)
      subst e
      refine go_iload_n dX5_lowestFreeHandle_22 rfl ?_
      exact go_ireturn dX5_lowestFreeHandle_23 rfl rfl
    · rw [ff_no (by rw [bI_ne.mp q13]; rfl)] at hr
      refine go_iinc dX5_lowestFreeHandle_16 rfl (Nat.le_of_ble_eq_true rfl) rfl (show _ = _ + 1 from rfl) ?_
      rw [a_k1]
      refine go_goto 2 dX5_lowestFreeHandle_19 (by decide) ?_
      exact go_sub [(0, .ref q), (1, .int (nI (i + 1)))] ⟨rfl, rfl, trivial⟩ (ih (i + 1) r (by omega) hr)
theorem c_free (l : Launch) {w : MW} {q : Nat} {Q : QU} (hq : q + 8 < w.1) (hn : (Q 0).1 ≤ 30) : Ct l (.code yX5_lowestFreeHandle cX5_lowestFreeHandle 2 (some .int)) yX5_lowestFreeHandle 4 0 0 [.ref q] (quW w q Q) (.inl (some (.int (nI (freeN Q))))) (quW w q Q) := by
  refine ct_of (by decide +kernel) (Nat.le_of_ble_eq_true rfl) ?_
  refine go_iconst 0 dX5_lowestFreeHandle_0 (by decide) ?_
  refine go_istore_n dX5_lowestFreeHandle_1 (Nat.le_of_ble_eq_true rfl) rfl ?_
  exact go_sub [(0, .ref q), (1, .int (nI 0))] ⟨rfl, rfl, trivial⟩ (c_free_2 l hq hn 30 0 _ rfl rfl)
theorem c_qput_7 (l : Launch) {w : MW} {q : Nat} {Q : QU} (hq : q + 8 < w.1) {ky : Int32} {x : Nat} (hn : ∀ k, k < 4 → (Q k).1 < 30) : ∀ (u i : Nat), u + i = 4 → Go l yX5_putIn cX5_putIn 4 (some .int) [] none (mm_Z (mm_eq (.inl (some (.int (nI x)))) (quW w q (mapU (opPut ky (nI x)) Q 4)))) 5 0 0 7 [(0, .ref q), (1, .int ky), (2, .int (nI x)), (3, .int (nI i))] [] (quW w q (mapU (opPut ky (nI x)) Q i)) := by
  intro u
  induction u with
  | zero =>
    intro i hi
    have e : i = 4 := by omega
    subst e
    refine go_iload_n dX5_putIn_7 rfl ?_
    refine go_iconst 4 dX5_putIn_8 (by decide) ?_
    refine go_icmp_ge_t 28 dX5_putIn_9 (by decide) (by decide) ?_
    refine go_iload_n dX5_putIn_28 rfl ?_
    exact go_ireturn dX5_putIn_29 rfl rfl
  | succ u ih =>
    intro i hi
    refine go_iload_n dX5_putIn_7 rfl ?_
    refine go_iconst 4 dX5_putIn_8 (by decide) ?_
    refine go_icmp_ge_f 28 dX5_putIn_9 (by decide) (n_nle (a := 4) (by omega) (by decide)) ?_
    refine go_aload_n dX5_putIn_12 rfl ?_
    refine go_iload_n dX5_putIn_13 rfl ?_
    refine go_virt1 dX5_putIn_14 (c_layout l hq (k := i) (by omega)) v_X5_54_4 rfl (quW_ob hq) rfl (Nat.le_of_ble_eq_true rfl) (Nat.le_of_ble_eq_true rfl) (Nat.le_of_ble_eq_true rfl) ?_
    refine go_iload_n dX5_putIn_17 rfl ?_
    refine go_iload_n dX5_putIn_18 rfl ?_
    refine go_virt0 dX5_putIn_19 (cq_putIn l hq (k := i) (by omega) rfl (by rw [mapU_at]; exact hn i (by omega))) (v_X5_82 kci_ok) rfl (quW_obk hq (k := i) (by omega) rfl rfl) rfl (Nat.le_of_ble_eq_true rfl) (Nat.le_of_ble_eq_true rfl) (Nat.le_of_ble_eq_true rfl) ?_
    rw [mapU_at, mapU_s]
    refine go_iinc dX5_putIn_22 rfl (Nat.le_of_ble_eq_true rfl) rfl (show _ = _ + 1 from rfl) ?_
    rw [a_k1]
    refine go_goto 7 dX5_putIn_25 (by decide) ?_
    exact go_sub [(0, .ref q), (1, .int ky), (2, .int (nI x)), (3, .int (nI (i + 1)))] ⟨rfl, rfl, rfl, rfl, trivial⟩ (ih (i + 1) (by omega))
theorem c_qputIn (l : Launch) {w : MW} {q : Nat} {Q : QU} (hq : q + 8 < w.1) {ky : Int32} (hn : ∀ k, k < 4 → (Q k).1 < 30) : Ct l (.code yX5_putIn cX5_putIn 4 (some .int)) yX5_putIn 5 0 0 [.ref q, .int ky] (quW w q Q) (.inl (some (.int (nI (freeN Q))))) (quW w q (mapU (opPut ky (nI (freeN Q))) Q 4)) := by
  refine ct_of (by decide +kernel) (Nat.le_of_ble_eq_true rfl) ?_
  refine go_aload_n dX5_putIn_0 rfl ?_
  refine go_virt1 dX5_putIn_1 (c_free l hq (by have := hn 0 (by decide); omega)) v_X5_79_4 rfl (quW_ob hq) rfl (Nat.le_of_ble_eq_true rfl) (Nat.le_of_ble_eq_true rfl) (Nat.le_of_ble_eq_true rfl) ?_
  refine go_istore_n dX5_putIn_4 (Nat.le_of_ble_eq_true rfl) rfl ?_
  refine go_iconst 0 dX5_putIn_5 (by decide) ?_
  refine go_istore_n dX5_putIn_6 (Nat.le_of_ble_eq_true rfl) rfl ?_
  refine go_sub [(0, .ref q), (1, .int ky), (2, .int (nI (freeN Q))), (3, .int (nI 0))] ⟨rfl, rfl, rfl, rfl, trivial⟩ ?_
  have z := c_qput_7 l hq (Q := Q) (ky := ky) (x := freeN Q) hn 4 0 rfl
  rw [mapU_0] at z
  exact z
theorem c_qtake_2 (l : Launch) {w : MW} {q : Nat} {Q : QU} (hq : q + 8 < w.1) {x : Int32} (hn : ∀ k, k < 4 → (Q k).1 ≤ 30) (hx : ∀ k, k < 4 → fndN (Q k).2.1 (Q k).1 x < (Q k).1) : ∀ (u i : Nat), u + i = 4 → Go l yX5_takeOut cX5_takeOut 3 none [] none (mm_Z (mm_eq (.inl none) (quW w q (mapU (opTake x) Q 4)))) 5 0 0 2 [(0, .ref q), (1, .int x), (2, .int (nI i))] [] (quW w q (mapU (opTake x) Q i)) := by
  intro u
  induction u with
  | zero =>
    intro i hi
    have e : i = 4 := by omega
    subst e
    refine go_iload_n dX5_takeOut_2 rfl ?_
    refine go_iconst 4 dX5_takeOut_3 (by decide) ?_
    refine go_icmp_ge_t 22 dX5_takeOut_4 (by decide) (by decide) ?_
    exact go_return dX5_takeOut_22 rfl
  | succ u ih =>
    intro i hi
    refine go_iload_n dX5_takeOut_2 rfl ?_
    refine go_iconst 4 dX5_takeOut_3 (by decide) ?_
    refine go_icmp_ge_f 22 dX5_takeOut_4 (by decide) (n_nle (a := 4) (by omega) (by decide)) ?_
    refine go_aload_n dX5_takeOut_7 rfl ?_
    refine go_iload_n dX5_takeOut_8 rfl ?_
    refine go_virt1 dX5_takeOut_9 (c_layout l hq (k := i) (by omega)) v_X5_54_4 rfl (quW_ob hq) rfl (Nat.le_of_ble_eq_true rfl) (Nat.le_of_ble_eq_true rfl) (Nat.le_of_ble_eq_true rfl) ?_
    refine go_iload_n dX5_takeOut_12 rfl ?_
    refine go_virt0 dX5_takeOut_13 (cq_takeOut l hq (k := i) (by omega) (by rw [mapU_at]; exact hn i (by omega)) rfl (x := x) (by rw [mapU_at]; exact hx i (by omega))) (v_X5_86 kci_ok) rfl (quW_obk hq (k := i) (by omega) rfl rfl) rfl (Nat.le_of_ble_eq_true rfl) (Nat.le_of_ble_eq_true rfl) (Nat.le_of_ble_eq_true rfl) ?_
    rw [mapU_at, mapU_s]
    refine go_iinc dX5_takeOut_16 rfl (Nat.le_of_ble_eq_true rfl) rfl (show _ = _ + 1 from rfl) ?_
    rw [a_k1]
    refine go_goto 2 dX5_takeOut_19 (by decide) ?_
    exact go_sub [(0, .ref q), (1, .int x), (2, .int (nI (i + 1)))] ⟨rfl, rfl, rfl, trivial⟩ (ih (i + 1) (by omega))
theorem c_qtakeOut (l : Launch) {w : MW} {q : Nat} {Q : QU} (hq : q + 8 < w.1) {x : Int32} (hn : ∀ k, k < 4 → (Q k).1 ≤ 30) (hx : ∀ k, k < 4 → fndN (Q k).2.1 (Q k).1 x < (Q k).1) : Ct l (.code yX5_takeOut cX5_takeOut 3 none) yX5_takeOut 5 0 0 [.ref q, .int x] (quW w q Q) (.inl none) (quW w q (mapU (opTake x) Q 4)) := by
  refine ct_of (by decide +kernel) (Nat.le_of_ble_eq_true rfl) ?_
  refine go_iconst 0 dX5_takeOut_0 (by decide) ?_
  refine go_istore_n dX5_takeOut_1 (Nat.le_of_ble_eq_true rfl) rfl ?_
  refine go_sub [(0, .ref q), (1, .int x), (2, .int (nI 0))] ⟨rfl, rfl, rfl, trivial⟩ ?_
  have z := c_qtake_2 l hq (Q := Q) hn hx 4 0 rfl
  rw [mapU_0] at z
  exact z
theorem c_qgive_2 (l : Launch) {w : MW} {q : Nat} {Q : QU} (hq : q + 8 < w.1) {x ky : Int32} (hn : ∀ k, k < 4 → (Q k).1 ≤ 30) (hx : ∀ k, k < 4 → fndN (Q k).2.1 (Q k).1 x < (Q k).1) : ∀ (u i : Nat), u + i = 4 → Go l yX5_giveKey cX5_giveKey 4 none [] none (mm_Z (mm_eq (.inl none) (quW w q (mapU (opGive x ky) Q 4)))) 5 0 0 2 [(0, .ref q), (1, .int x), (2, .int ky), (3, .int (nI i))] [] (quW w q (mapU (opGive x ky) Q i)) := by
  intro u
  induction u with
  | zero =>
    intro i hi
    have e : i = 4 := by omega
    subst e
    refine go_iload_n dX5_giveKey_2 rfl ?_
    refine go_iconst 4 dX5_giveKey_3 (by decide) ?_
    refine go_icmp_ge_t 23 dX5_giveKey_4 (by decide) (by decide) ?_
    exact go_return dX5_giveKey_23 rfl
  | succ u ih =>
    intro i hi
    refine go_iload_n dX5_giveKey_2 rfl ?_
    refine go_iconst 4 dX5_giveKey_3 (by decide) ?_
    refine go_icmp_ge_f 23 dX5_giveKey_4 (by decide) (n_nle (a := 4) (by omega) (by decide)) ?_
    refine go_aload_n dX5_giveKey_7 rfl ?_
    refine go_iload_n dX5_giveKey_8 rfl ?_
    refine go_virt1 dX5_giveKey_9 (c_layout l hq (k := i) (by omega)) v_X5_54_4 rfl (quW_ob hq) rfl (Nat.le_of_ble_eq_true rfl) (Nat.le_of_ble_eq_true rfl) (Nat.le_of_ble_eq_true rfl) ?_
    refine go_iload_n dX5_giveKey_12 rfl ?_
    refine go_iload_n dX5_giveKey_13 rfl ?_
    refine go_virt0 dX5_giveKey_14 (cq_giveKey l hq (k := i) (by omega) (by rw [mapU_at]; exact hn i (by omega)) rfl (x := x) (ky := ky) (by rw [mapU_at]; exact hx i (by omega))) (v_X5_91 kci_ok) rfl (quW_obk hq (k := i) (by omega) rfl rfl) rfl (Nat.le_of_ble_eq_true rfl) (Nat.le_of_ble_eq_true rfl) (Nat.le_of_ble_eq_true rfl) ?_
    rw [mapU_at, mapU_s]
    refine go_iinc dX5_giveKey_17 rfl (Nat.le_of_ble_eq_true rfl) rfl (show _ = _ + 1 from rfl) ?_
    rw [a_k1]
    refine go_goto 2 dX5_giveKey_20 (by decide) ?_
    exact go_sub [(0, .ref q), (1, .int x), (2, .int ky), (3, .int (nI (i + 1)))] ⟨rfl, rfl, rfl, rfl, trivial⟩ (ih (i + 1) (by omega))
theorem c_qgiveKey (l : Launch) {w : MW} {q : Nat} {Q : QU} (hq : q + 8 < w.1) {x ky : Int32} (hn : ∀ k, k < 4 → (Q k).1 ≤ 30) (hx : ∀ k, k < 4 → fndN (Q k).2.1 (Q k).1 x < (Q k).1) : Ct l (.code yX5_giveKey cX5_giveKey 4 none) yX5_giveKey 5 0 0 [.ref q, .int x, .int ky] (quW w q Q) (.inl none) (quW w q (mapU (opGive x ky) Q 4)) := by
  refine ct_of (by decide +kernel) (Nat.le_of_ble_eq_true rfl) ?_
  refine go_iconst 0 dX5_giveKey_0 (by decide) ?_
  refine go_istore_n dX5_giveKey_1 (Nat.le_of_ble_eq_true rfl) rfl ?_
  refine go_sub [(0, .ref q), (1, .int x), (2, .int ky), (3, .int (nI 0))] ⟨rfl, rfl, rfl, rfl, trivial⟩ ?_
  have z := c_qgive_2 l hq (Q := Q) (ky := ky) hn hx 4 0 rfl
  rw [mapU_0] at z
  exact z
theorem c_qarr_2 (l : Launch) {w : MW} {q : Nat} {Q : QU} (hq : q + 8 < w.1) (hn : ∀ k, k < 4 → (Q k).1 ≤ 30) : ∀ (u i : Nat), u + i = 4 → Go l yX5_arrange cX5_arrange 2 none [] none (mm_Z (mm_eq (.inl none) (quW w q (mapU opArr Q 4)))) 5 0 0 2 [(0, .ref q), (1, .int (nI i))] [] (quW w q (mapU opArr Q i)) := by
  intro u
  induction u with
  | zero =>
    intro i hi
    have e : i = 4 := by omega
    subst e
    refine go_iload_n dX5_arrange_2 rfl ?_
    refine go_iconst 4 dX5_arrange_3 (by decide) ?_
    refine go_icmp_ge_t 21 dX5_arrange_4 (by decide) (by decide) ?_
    exact go_return dX5_arrange_21 rfl
  | succ u ih =>
    intro i hi
    refine go_iload_n dX5_arrange_2 rfl ?_
    refine go_iconst 4 dX5_arrange_3 (by decide) ?_
    refine go_icmp_ge_f 21 dX5_arrange_4 (by decide) (n_nle (a := 4) (by omega) (by decide)) ?_
    refine go_aload_n dX5_arrange_7 rfl ?_
    refine go_iload_n dX5_arrange_8 rfl ?_
    refine go_virt1 dX5_arrange_9 (c_layout l hq (k := i) (by omega)) v_X5_54_4 rfl (quW_ob hq) rfl (Nat.le_of_ble_eq_true rfl) (Nat.le_of_ble_eq_true rfl) (Nat.le_of_ble_eq_true rfl) ?_
    refine go_virt0 dX5_arrange_12 (cq_arrange l hq (k := i) (by omega) (by rw [mapU_at]; exact hn i (by omega)) rfl) (v_X5_94 kci_ok) rfl (quW_obk hq (k := i) (by omega) rfl rfl) rfl (Nat.le_of_ble_eq_true rfl) (Nat.le_of_ble_eq_true rfl) (Nat.le_of_ble_eq_true rfl) ?_
    rw [mapU_at, mapU_s]
    refine go_iinc dX5_arrange_15 rfl (Nat.le_of_ble_eq_true rfl) rfl (show _ = _ + 1 from rfl) ?_
    rw [a_k1]
    refine go_goto 2 dX5_arrange_18 (by decide) ?_
    exact go_sub [(0, .ref q), (1, .int (nI (i + 1)))] ⟨rfl, rfl, trivial⟩ (ih (i + 1) (by omega))
theorem c_qarrange (l : Launch) {w : MW} {q : Nat} {Q : QU} (hq : q + 8 < w.1) (hn : ∀ k, k < 4 → (Q k).1 ≤ 30) : Ct l (.code yX5_arrange cX5_arrange 2 none) yX5_arrange 5 0 0 [.ref q] (quW w q Q) (.inl none) (quW w q (mapU opArr Q 4)) := by
  refine ct_of (by decide +kernel) (Nat.le_of_ble_eq_true rfl) ?_
  refine go_iconst 0 dX5_arrange_0 (by decide) ?_
  refine go_istore_n dX5_arrange_1 (Nat.le_of_ble_eq_true rfl) rfl ?_
  refine go_sub [(0, .ref q), (1, .int (nI 0))] ⟨rfl, rfl, trivial⟩ ?_
  have z := c_qarr_2 l hq (Q := Q) hn 4 0 rfl
  rw [mapU_0] at z
  exact z
theorem quW_putN {w : MW} {q : Nat} {Q : QU} {k m : Nat} (hk : k < 4) : mm_up (quW w q Q) (q + 1 + 2 * k) (.inr (kci k, (Value.ref (q + 1 + 2 * k + 1) :: .int (nI (Q k).1) :: .int (Q k).2.2 :: kxt k).set 1 (.int (nI m)))) = quW w q (va_up Q k (m, (Q k).2)) := by
  have h1 := layW_upN (w := quW w q Q) (h := q + 1 + 2 * k) (ci := kci k) (xt := kxt k) (f := (Q k).2.1) (n := (Q k).1) (c := (Q k).2.2) m
  rw [quW_lay hk, quW_set hk] at h1
  exact h1
theorem quW_putC {w : MW} {q : Nat} {Q : QU} {k : Nat} {c' : Int32} (hk : k < 4) : mm_up (quW w q Q) (q + 1 + 2 * k) (.inr (kci k, (Value.ref (q + 1 + 2 * k + 1) :: .int (nI (Q k).1) :: .int (Q k).2.2 :: kxt k).set 2 (.int c'))) = quW w q (va_up Q k ((Q k).1, (Q k).2.1, c')) := by
  have h1 := layW_upC (w := quW w q Q) (h := q + 1 + 2 * k) (ci := kci k) (xt := kxt k) (f := (Q k).2.1) (n := (Q k).1) (c := (Q k).2.2) c'
  rw [quW_lay hk, quW_set hk] at h1
  exact h1
theorem c_qemp_2 (l : Launch) {w : MW} {q : Nat} {Q : QU} (hq : q + 8 < w.1)  : ∀ (u i : Nat), u + i = 4 → Go l yX5_empty cX5_empty 2 none [] none (mm_Z (mm_eq (.inl none) (quW w q (mapU opEmpty Q 4)))) 1 0 0 2 [(0, .ref q), (1, .int (nI i))] [] (quW w q (mapU opEmpty Q i)) := by
  intro u
  induction u with
  | zero =>
    intro i hi
    have e : i = 4 := by omega
    subst e
    refine go_iload_n dX5_empty_2 rfl ?_
    refine go_iconst 4 dX5_empty_3 (by decide) ?_
    refine go_icmp_ge_t 22 dX5_empty_4 (by decide) (by decide) ?_
    exact go_return dX5_empty_22 rfl
  | succ u ih =>
    intro i hi
    refine go_iload_n dX5_empty_2 rfl ?_
    refine go_iconst 4 dX5_empty_3 (by decide) ?_
    refine go_icmp_ge_f 22 dX5_empty_4 (by decide) (n_nle (a := 4) (by omega) (by decide)) ?_
    refine go_aload_n dX5_empty_7 rfl ?_
    refine go_iload_n dX5_empty_8 rfl ?_
    refine go_virt1 dX5_empty_9 (c_layout l hq (k := i) (by omega)) v_X5_54_4 rfl (quW_ob hq) rfl (Nat.le_of_ble_eq_true rfl) (Nat.le_of_ble_eq_true rfl) (Nat.le_of_ble_eq_true rfl) ?_
    refine go_iconst 0 dX5_empty_12 (by decide) ?_
    refine go_putfield dX5_empty_13 (p_X5_97 kci_ok) (quW_obk hq (k := i) (by omega) rfl rfl) (by simp only [List.length_cons]; omega) (fun _ => ⟨rfl, rfl⟩) (fun _ z => nomatch z) ?_
    refine go_w _ (quW_putN (m := 0) (by omega)) ?_
    rw [mapU_at, show ((0, (Q i).2) : QK) = opEmpty i (Q i) from rfl, mapU_s]
    refine go_iinc dX5_empty_16 rfl (Nat.le_of_ble_eq_true rfl) rfl (show _ = _ + 1 from rfl) ?_
    rw [a_k1]
    refine go_goto 2 dX5_empty_19 (by decide) ?_
    exact go_sub [(0, .ref q), (1, .int (nI (i + 1)))] ⟨rfl, rfl, trivial⟩ (ih (i + 1) (by omega))
theorem c_qempty (l : Launch) {w : MW} {q : Nat} {Q : QU} (hq : q + 8 < w.1)  : Ct l (.code yX5_empty cX5_empty 2 none) yX5_empty 1 0 0 [.ref q] (quW w q Q) (.inl none) (quW w q (mapU opEmpty Q 4)) := by
  refine ct_of (by decide +kernel) (Nat.le_of_ble_eq_true rfl) ?_
  refine go_iconst 0 dX5_empty_0 (by decide) ?_
  refine go_istore_n dX5_empty_1 (Nat.le_of_ble_eq_true rfl) rfl ?_
  refine go_sub [(0, .ref q), (1, .int (nI 0))] ⟨rfl, rfl, trivial⟩ ?_
  have z := c_qemp_2 l hq (Q := Q)  4 0 rfl
  rw [mapU_0] at z
  exact z
theorem c_qfor_2 (l : Launch) {w : MW} {q : Nat} {Q : QU} (hq : q + 8 < w.1)  : ∀ (u i : Nat), u + i = 4 → Go l yX5_forgetCounts cX5_forgetCounts 2 none [] none (mm_Z (mm_eq (.inl none) (quW w q (mapU opForget Q 4)))) 1 0 0 2 [(0, .ref q), (1, .int (nI i))] [] (quW w q (mapU opForget Q i)) := by
  intro u
  induction u with
  | zero =>
    intro i hi
    have e : i = 4 := by omega
    subst e
    refine go_iload_n dX5_forgetCounts_2 rfl ?_
    refine go_iconst 4 dX5_forgetCounts_3 (by decide) ?_
    refine go_icmp_ge_t 22 dX5_forgetCounts_4 (by decide) (by decide) ?_
    exact go_return dX5_forgetCounts_22 rfl
  | succ u ih =>
    intro i hi
    refine go_iload_n dX5_forgetCounts_2 rfl ?_
    refine go_iconst 4 dX5_forgetCounts_3 (by decide) ?_
    refine go_icmp_ge_f 22 dX5_forgetCounts_4 (by decide) (n_nle (a := 4) (by omega) (by decide)) ?_
    refine go_aload_n dX5_forgetCounts_7 rfl ?_
    refine go_iload_n dX5_forgetCounts_8 rfl ?_
    refine go_virt1 dX5_forgetCounts_9 (c_layout l hq (k := i) (by omega)) v_X5_54_4 rfl (quW_ob hq) rfl (Nat.le_of_ble_eq_true rfl) (Nat.le_of_ble_eq_true rfl) (Nat.le_of_ble_eq_true rfl) ?_
    refine go_iconst 0 dX5_forgetCounts_12 (by decide) ?_
    refine go_putfield dX5_forgetCounts_13 (p_X5_71 kci_ok) (quW_obk hq (k := i) (by omega) rfl rfl) (by simp only [List.length_cons]; omega) (fun _ => ⟨rfl, rfl⟩) (fun _ z => nomatch z) ?_
    refine go_w _ (quW_putC (c' := 0) (by omega)) ?_
    rw [mapU_at, show (((Q i).1, (Q i).2.1, 0) : QK) = opForget i (Q i) from rfl, mapU_s]
    refine go_iinc dX5_forgetCounts_16 rfl (Nat.le_of_ble_eq_true rfl) rfl (show _ = _ + 1 from rfl) ?_
    rw [a_k1]
    refine go_goto 2 dX5_forgetCounts_19 (by decide) ?_
    exact go_sub [(0, .ref q), (1, .int (nI (i + 1)))] ⟨rfl, rfl, trivial⟩ (ih (i + 1) (by omega))
theorem c_qforget (l : Launch) {w : MW} {q : Nat} {Q : QU} (hq : q + 8 < w.1)  : Ct l (.code yX5_forgetCounts cX5_forgetCounts 2 none) yX5_forgetCounts 1 0 0 [.ref q] (quW w q Q) (.inl none) (quW w q (mapU opForget Q 4)) := by
  refine ct_of (by decide +kernel) (Nat.le_of_ble_eq_true rfl) ?_
  refine go_iconst 0 dX5_forgetCounts_0 (by decide) ?_
  refine go_istore_n dX5_forgetCounts_1 (Nat.le_of_ble_eq_true rfl) rfl ?_
  refine go_sub [(0, .ref q), (1, .int (nI 0))] ⟨rfl, rfl, trivial⟩ ?_
  have z := c_qfor_2 l hq (Q := Q)  4 0 rfl
  rw [mapU_0] at z
  exact z
