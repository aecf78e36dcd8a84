theorem chS_lt {n k : Nat} {p : Bool} (h : 2 * (2 * k + 1) < n) : 2 * chS (decide (2 * (2 * k + 2) < n)) p k < n := by
  by_cases e : 2 * (2 * k + 2) < n
  · rw [decide_eq_true e]
    cases p
    · rw [chS_f rfl]; exact h
    · rw [chS_t rfl]; exact e
  · rw [decide_eq_false e, chS_0]; exact h
theorem sinkLowS_ok {lt : QL} {n : Nat} (hn : n ≤ 30) (u k : Nat) (s : QS) (hr : rowOK s.1) : rowOK (sinkLowS lt n u k s).1 := by
  induction u generalizing k s with
  | zero => exact hr
  | succ u ih =>
    by_cases h : 2 * (2 * k + 1) < n
    · rw [sinkLowS_s h rfl rfl]
      have hc := chS_lt (p := lt ((orderS lt n k s).1 (2 * (2 * k + 2))) ((orderS lt n k s).1 (2 * (2 * k + 1)))) h
      split
      · exact ih _ _ (rowOK_sw (orderS_ok hr hn) (by omega) (by omega))
      · exact orderS_ok hr hn
    · rw [sinkLowS_n h]
      exact orderS_ok hr hn
theorem sinkHighS_ok {lt : QL} {n : Nat} (hn : n ≤ 30) (u k : Nat) (s : QS) (hr : rowOK s.1) : rowOK (sinkHighS lt n u k s).1 := by
  induction u generalizing k s with
  | zero => exact hr
  | succ u ih =>
    by_cases h : 2 * (2 * k + 1) < n
    · rw [sinkHighS_s h rfl rfl]
      have hc := chS_lt (p := lt ((orderS lt n k s).1 (topN n (2 * k + 1))) ((orderS lt n k s).1 (topN n (2 * k + 2)))) h
      have h1 := topN_lt (n := n) (k := k) (by omega)
      have h2 := topN_lt hc
      split
      · exact ih _ _ (rowOK_sw (orderS_ok hr hn) (by omega) (by omega))
      · exact orderS_ok hr hn
    · rw [sinkHighS_n h]
      exact orderS_ok hr hn
theorem m_settles (l : Launch) {w : MW} {p : Nat} {A P K T : Nat → Int32} {x : XS} (hp : p + 4 < w.1) {s : QS} (hr : rowOK s.1) {k n : Nat} (hk : 2 * k < n) (hn : n ≤ 30) : Ct l (.code yX8_settles cX8_settles 3 none) yX8_settles 4 0 0 [.ref p, .int (nI k), .int (nI n)] (mdW w p (setL A 0 s) P K T x) (.inl none) (mdW w p (setL A 0 (settleS0 (ltA A) n k s)) P K T x) := by
  refine ct_of (by decide +kernel) (Nat.le_of_ble_eq_true rfl) ?_
  have ht := topN_lt hk
  have r1 : rowOK (orderS (ltA A) n k s).1 := orderS_ok hr hn
  have r2 : rowOK (riseLowS (ltA A) 30 k (orderS (ltA A) n k s)).1 := riseLowS_ok 30 k _ (by omega) r1
  have r3 : rowOK (riseHighS (ltA A) 30 k (topN n k) (riseLowS (ltA A) 30 k (orderS (ltA A) n k s))).1 := riseHighS_ok 30 k _ _ (by omega) (by omega) r2
  have r4 : rowOK (sinkLowS (ltA A) n 30 k (riseHighS (ltA A) 30 k (topN n k) (riseLowS (ltA A) 30 k (orderS (ltA A) n k s)))).1 := sinkLowS_ok hn 30 k _ r3
  refine go_aload_n dX8_settles_0 rfl ?_
  refine go_iload_n dX8_settles_1 rfl ?_
  refine go_iload_n dX8_settles_2 rfl ?_
  refine go_virt0 dX8_settles_3 (m_orders l hp hr (by omega) hn) v_X8_58_7 rfl (mdW_ob hp) rfl (Nat.le_of_ble_eq_true rfl) (Nat.le_of_ble_eq_true rfl) (Nat.le_of_ble_eq_true rfl) ?_
  refine go_aload_n dX8_settles_6 rfl ?_
  refine go_iload_n dX8_settles_7 rfl ?_
  refine go_virt0 dX8_settles_8 (m_risesLow l hp r1 (by omega)) v_X8_65_7 rfl (mdW_ob hp) rfl (Nat.le_of_ble_eq_true rfl) (Nat.le_of_ble_eq_true rfl) (Nat.le_of_ble_eq_true rfl) ?_
  refine go_aload_n dX8_settles_11 rfl ?_
  refine go_iload_n dX8_settles_12 rfl ?_
  refine go_aload_n dX8_settles_13 rfl ?_
  refine go_iload_n dX8_settles_14 rfl ?_
  refine go_iload_n dX8_settles_15 rfl ?_
  refine go_virt1 dX8_settles_16 (m_topOf l hp (by omega) hn) v_X8_62_7 rfl (mdW_ob hp) rfl (Nat.le_of_ble_eq_true rfl) (Nat.le_of_ble_eq_true rfl) (Nat.le_of_ble_eq_true rfl) ?_
  refine go_virt0 dX8_settles_19 (m_risesHigh l hp r2 (by omega) (by omega)) v_X8_69_7 rfl (mdW_ob hp) rfl (Nat.le_of_ble_eq_true rfl) (Nat.le_of_ble_eq_true rfl) (Nat.le_of_ble_eq_true rfl) ?_
  refine go_aload_n dX8_settles_22 rfl ?_
  refine go_iload_n dX8_settles_23 rfl ?_
  refine go_iload_n dX8_settles_24 rfl ?_
  refine go_virt0 dX8_settles_25 (m_sinksLow l hp r3 (by omega) hn) v_X8_72_7 rfl (mdW_ob hp) rfl (Nat.le_of_ble_eq_true rfl) (Nat.le_of_ble_eq_true rfl) (Nat.le_of_ble_eq_true rfl) ?_
  refine go_aload_n dX8_settles_28 rfl ?_
  refine go_iload_n dX8_settles_29 rfl ?_
  refine go_iload_n dX8_settles_30 rfl ?_
  refine go_virt0 dX8_settles_31 (m_sinksHigh l hp r4 (by omega) hn) v_X8_75_7 rfl (mdW_ob hp) rfl (Nat.le_of_ble_eq_true rfl) (Nat.le_of_ble_eq_true rfl) (Nat.le_of_ble_eq_true rfl) ?_
  exact go_return dX8_settles_34 rfl
theorem m_comesFirst (l : Launch) {w : MW} {p : Nat} {A P K T : Nat → Int32} {x : XS} (hp : p + 4 < w.1) {s : QS} (hr : rowOK s.1) {q : Nat} (hq : q < 30) : Ct l (.code yX8_comesFirst cX8_comesFirst 4 none) yX8_comesFirst 3 0 0 [.ref p, .int (nI (q + 1))] (mdW w p (setL A 0 s) P K T x) (.inl none) (mdW w p (setL A 0 (enterS0 (ltA A) q s)) P K T x) := by
  refine ct_of (by decide +kernel) (Nat.le_of_ble_eq_true rfl) ?_
  refine go_iload_n dX8_comesFirst_0 rfl ?_
  refine go_iconst 1 dX8_comesFirst_1 (by decide) ?_
  refine go_isub dX8_comesFirst_2 ?_
  rw [nI_pred]
  refine go_istore_n dX8_comesFirst_3 (Nat.le_of_ble_eq_true rfl) rfl ?_
  refine go_iload_n dX8_comesFirst_4 rfl ?_
  refine go_iconst 2 dX8_comesFirst_5 (by decide) ?_
  refine go_idiv dX8_comesFirst_6 (by decide) ?_
  rw [a_div2 (by omega)]
  refine go_istore_n dX8_comesFirst_7 (Nat.le_of_ble_eq_true rfl) rfl ?_
  refine go_iload_n dX8_comesFirst_8 rfl ?_
  refine go_if_ne 13 dX8_comesFirst_9 (by decide) (fun q9 => ?_) (fun q9 => ?_)
  · have z0 : q ≠ 0 := fun e => q9 (by rw [e]; rfl)
    refine go_iload_n dX8_comesFirst_13 rfl ?_
    refine go_iconst 2 dX8_comesFirst_14 (by decide) ?_
    refine go_irem dX8_comesFirst_15 (by decide) ?_
    refine go_top (.int (nI (q % 2))) (congrArg Value.int (pk_rem (a := q) (d := 2) (by omega) (by decide) (by decide))) ?_
    refine go_iconst 1 dX8_comesFirst_16 (by decide) ?_
    refine go_icmp_ne 58 dX8_comesFirst_17 (by decide) (fun q17 => ?_) (fun q17 => ?_)
    · have z1 : ¬ q = 2 * (q / 2) + 1 := fun e => q17 (by rw [show q % 2 = 1 by omega]; rfl)
      refine go_aload_n dX8_comesFirst_58 rfl ?_
      refine go_iconst 0 dX8_comesFirst_59 (by decide) ?_
      refine go_iload_n dX8_comesFirst_60 rfl ?_
      refine go_iload_n dX8_comesFirst_61 rfl ?_
      refine go_iconst 1 dX8_comesFirst_62 (by decide) ?_
      refine go_isub dX8_comesFirst_63 ?_
      refine go_iconst 2 dX8_comesFirst_64 (by decide) ?_
      refine go_idiv dX8_comesFirst_65 (by decide) ?_
      refine go_iconst 2 dX8_comesFirst_66 (by decide) ?_
      refine go_imul dX8_comesFirst_67 ?_
      rw [a_par (k := q / 2) (by omega) (by omega), a_2c]
      refine go_virt1 dX8_comesFirst_68 (m_less l hp (k := 0) (by omega) hr (a := q) (b := 2 * ((q / 2 - 1) / 2)) (by omega) (by omega)) v_X8_52_7 rfl (mdW_ob hp) rfl (Nat.le_of_ble_eq_true rfl) (Nat.le_of_ble_eq_true rfl) (Nat.le_of_ble_eq_true rfl) ?_
      refine go_if_eq 82 dX8_comesFirst_71 (by decide) (fun q71 => ?_) (fun q71 => ?_)
      · rw [show (enterS0 (ltA A) q s) = riseHighS (ltA A) 30 (q / 2) q (s.1, s.2 + 1) from by unfold enterS0; rw [if_neg z0, if_neg z1, if_neg (bI_ff q71)]]
        refine go_aload_n dX8_comesFirst_82 rfl ?_
        refine go_iload_n dX8_comesFirst_83 rfl ?_
        refine go_iload_n dX8_comesFirst_84 rfl ?_
        refine go_virt0 dX8_comesFirst_85 (m_risesHigh l hp (s := (s.1, s.2 + 1)) hr (by omega) (by omega)) v_X8_69_7 rfl (mdW_ob hp) rfl (Nat.le_of_ble_eq_true rfl) (Nat.le_of_ble_eq_true rfl) (Nat.le_of_ble_eq_true rfl) ?_
        exact go_return dX8_comesFirst_88 rfl
      · rw [show (enterS0 (ltA A) q s) = riseLowS (ltA A) 30 (q / 2) (s.1, s.2 + 1) from by unfold enterS0; rw [if_neg z0, if_neg z1, if_pos (bI_ne.mp q71)]]
        refine go_aload_n dX8_comesFirst_74 rfl ?_
        refine go_iload_n dX8_comesFirst_75 rfl ?_
        refine go_virt0 dX8_comesFirst_76 (m_risesLow l hp (s := (s.1, s.2 + 1)) hr (by omega)) v_X8_65_7 rfl (mdW_ob hp) rfl (Nat.le_of_ble_eq_true rfl) (Nat.le_of_ble_eq_true rfl) (Nat.le_of_ble_eq_true rfl) ?_
        refine go_goto 88 dX8_comesFirst_79 (by decide) ?_
        exact go_return dX8_comesFirst_88 rfl
    · have z1 : q = 2 * (q / 2) + 1 := by have := (nI_eq (a := q % 2) (b := 1) (by omega) (by decide)).mp q17; omega
      refine go_aload_n dX8_comesFirst_20 rfl ?_
      refine go_iconst 0 dX8_comesFirst_21 (by decide) ?_
      refine go_iload_n dX8_comesFirst_22 rfl ?_
      refine go_iconst 2 dX8_comesFirst_23 (by decide) ?_
      refine go_iload_n dX8_comesFirst_24 rfl ?_
      refine go_imul dX8_comesFirst_25 ?_
      rw [a_2]
      refine go_virt1 dX8_comesFirst_26 (m_less l hp (k := 0) (by omega) hr (a := q) (b := 2 * (q / 2)) (by omega) (by omega)) v_X8_52_7 rfl (mdW_ob hp) rfl (Nat.le_of_ble_eq_true rfl) (Nat.le_of_ble_eq_true rfl) (Nat.le_of_ble_eq_true rfl) ?_
      refine go_if_eq 49 dX8_comesFirst_29 (by decide) (fun q29 => ?_) (fun q29 => ?_)
      · rw [show (enterS0 (ltA A) q s) = riseHighS (ltA A) 30 (q / 2) q (s.1, s.2 + 1) from by unfold enterS0; rw [if_neg z0, if_pos z1, if_neg (bI_ff q29)]]
        refine go_aload_n dX8_comesFirst_49 rfl ?_
        refine go_iload_n dX8_comesFirst_50 rfl ?_
        refine go_iload_n dX8_comesFirst_51 rfl ?_
        refine go_virt0 dX8_comesFirst_52 (m_risesHigh l hp (s := (s.1, s.2 + 1)) hr (by omega) (by omega)) v_X8_69_7 rfl (mdW_ob hp) rfl (Nat.le_of_ble_eq_true rfl) (Nat.le_of_ble_eq_true rfl) (Nat.le_of_ble_eq_true rfl) ?_
        refine go_goto 88 dX8_comesFirst_55 (by decide) ?_
        exact go_return dX8_comesFirst_88 rfl
      · rw [show (enterS0 (ltA A) q s) = riseLowS (ltA A) 30 (q / 2) (sw s.1 q (2 * (q / 2)), s.2 + 1) from by unfold enterS0; rw [if_neg z0, if_pos z1, if_pos (bI_ne.mp q29)]]
        refine go_aload_n dX8_comesFirst_32 rfl ?_
        refine go_iconst 0 dX8_comesFirst_33 (by decide) ?_
        refine go_iload_n dX8_comesFirst_34 rfl ?_
        refine go_iconst 2 dX8_comesFirst_35 (by decide) ?_
        refine go_iload_n dX8_comesFirst_36 rfl ?_
        refine go_imul dX8_comesFirst_37 ?_
        rw [a_2]
        refine go_virt0 dX8_comesFirst_38 (m_exch l hp (k := 0) (s := (s.1, s.2 + 1)) (by omega) (a := q) (b := 2 * (q / 2)) (by omega) (by omega)) v_X8_55_7 rfl (mdW_ob hp) rfl (Nat.le_of_ble_eq_true rfl) (Nat.le_of_ble_eq_true rfl) (Nat.le_of_ble_eq_true rfl) ?_
        refine go_aload_n dX8_comesFirst_41 rfl ?_
        refine go_iload_n dX8_comesFirst_42 rfl ?_
        refine go_virt0 dX8_comesFirst_43 (m_risesLow l hp (s := (sw s.1 q (2 * (q / 2)), s.2 + 1)) (rowOK_sw hr (by omega) (by omega)) (by omega)) v_X8_65_7 rfl (mdW_ob hp) rfl (Nat.le_of_ble_eq_true rfl) (Nat.le_of_ble_eq_true rfl) (Nat.le_of_ble_eq_true rfl) ?_
        refine go_goto 88 dX8_comesFirst_46 (by decide) ?_
        exact go_return dX8_comesFirst_88 rfl
  · have z0 : q = 0 := (nI_eq (a := q) (b := 0) (by omega) (by decide)).mp q9
    rw [show (enterS0 (ltA A) q s) = s from if_pos z0]
    exact go_return dX8_comesFirst_12 rfl
theorem log2_s {t : Nat} (h : 1 < t) : Nat.log2 t = Nat.log2 (t / 2) + 1 := by
  rw [Nat.log2_def, if_pos (by omega)]
theorem log2_1 {t : Nat} (h : t ≤ 1) : Nat.log2 t = 0 := by
  rw [Nat.log2_def, if_neg (by omega)]
theorem m_level_6 (l : Launch) {w : MW} {r : Nat} : ∀ (u t v : Nat), t ≤ u → t < 2 ^ 30 → r = v + Nat.log2 t → Go l yX8_levelOf cX8_levelOf 3 (some .int) [] none (mm_Z (mm_eq (.inl (some (.int (nI r)))) w)) 0 0 0 6 [(1, .int (nI v)), (2, .int (nI t))] [] w := by
  intro u
  induction u with
  | zero =>
    intro t v ht hb hr
    rw [hr, log2_1 (by omega)]
    refine go_iload_n dX8_levelOf_6 rfl ?_
    refine go_iconst 1 dX8_levelOf_7 (by decide) ?_
    refine go_icmp_le_t 21 dX8_levelOf_8 (by decide) (nI_le (b := 1) (by omega) (by decide)) ?_
    refine go_iload_n dX8_levelOf_21 rfl ?_
    exact go_ireturn dX8_levelOf_22 rfl rfl
  | succ u ih =>
    intro t v ht hb hr
    refine go_iload_n dX8_levelOf_6 rfl ?_
    refine go_iconst 1 dX8_levelOf_7 (by decide) ?_
    refine go_icmp_le 21 dX8_levelOf_8 (by decide) (fun q8 => ?_) (fun q8 => ?_)
    · have z := n_le' (b := 1) q8 (by omega) (by decide)
      rw [hr, log2_1 z]
      refine go_iload_n dX8_levelOf_21 rfl ?_
      exact go_ireturn dX8_levelOf_22 rfl rfl
    · have z := n_lt' (a := 1) q8 (by decide)
      refine go_iinc dX8_levelOf_11 rfl (Nat.le_of_ble_eq_true rfl) rfl (show _ = _ + 1 from rfl) ?_
      rw [a_k1]
      refine go_iload_n dX8_levelOf_14 rfl ?_
      refine go_iconst 2 dX8_levelOf_15 (by decide) ?_
      refine go_idiv dX8_levelOf_16 (by decide) ?_
      rw [a_div2 (by omega)]
      refine go_istore_n dX8_levelOf_17 (Nat.le_of_ble_eq_true rfl) rfl ?_
      refine go_goto 6 dX8_levelOf_18 (by decide) ?_
      exact go_sub [(1, .int (nI (v + 1))), (2, .int (nI (t / 2)))] ⟨rfl, rfl, trivial⟩ (ih (t / 2) (v + 1) (by omega) (by omega) (by rw [hr, log2_s z]; omega))
theorem m_levelOf (l : Launch) {w : MW} {q : Nat} (hq : q < 2 ^ 29) : Ct l (.code yX8_levelOf cX8_levelOf 3 (some .int)) yX8_levelOf 0 0 0 [.int (nI q)] w (.inl (some (.int (nI (lvl q))))) w := by
  refine ct_of (by decide +kernel) (Nat.le_of_ble_eq_true rfl) ?_
  refine go_iconst 0 dX8_levelOf_0 (by decide) ?_
  refine go_istore_n dX8_levelOf_1 (Nat.le_of_ble_eq_true rfl) rfl ?_
  refine go_iload_n dX8_levelOf_2 rfl ?_
  refine go_iconst 1 dX8_levelOf_3 (by decide) ?_
  refine go_iadd dX8_levelOf_4 ?_
  rw [a_k1]
  refine go_istore_n dX8_levelOf_5 (Nat.le_of_ble_eq_true rfl) rfl ?_
  exact go_sub [(1, .int (nI 0)), (2, .int (nI (q + 1)))] ⟨rfl, rfl, trivial⟩ (m_level_6 l (q + 1) (q + 1) 0 (by omega) (by omega) (by unfold lvl; omega))
theorem m_isLow (l : Launch) {w : MW} {q : Nat} (hq : q < 2 ^ 29) : Ct l (.code yX8_isLow cX8_isLow 1 (some .boolean)) yX8_isLow 1 0 0 [.int (nI q)] w (.inl (some (.int (bI (lowB q))))) w := by
  refine ct_of (by decide +kernel) (Nat.le_of_ble_eq_true rfl) ?_
  have hl : lvl q < 2 ^ 31 := Nat.lt_of_le_of_lt lvl_le (by omega)
  refine go_iload_n dX8_isLow_0 rfl ?_
  refine go_stat1 dX8_isLow_1 (m_levelOf l hq) s_X8_78 kc_X8_levelOf rfl rfl (Nat.le_of_ble_eq_true rfl) (Nat.le_of_ble_eq_true rfl) (Nat.le_of_ble_eq_true rfl) ?_
  refine go_iconst 2 dX8_isLow_4 (by decide) ?_
  refine go_irem dX8_isLow_5 (by decide) ?_
  refine go_top (.int (nI (lvl q % 2))) (congrArg Value.int (pk_rem (a := lvl q) (d := 2) (by omega) (by decide) (by decide))) ?_
  refine go_if_ne 13 dX8_isLow_6 (by decide) (fun q6 => ?_) (fun q6 => ?_)
  · rw [show lowB q = false from decide_eq_false (fun e => q6 (by rw [e]; rfl))]
    refine go_iconst 0 dX8_isLow_13 (by decide) ?_
    exact go_ireturn dX8_isLow_14 rfl (by first | exact nar_b true | exact nar_b false)
  · rw [show lowB q = true from decide_eq_true ((nI_eq (a := lvl q % 2) (b := 0) (by omega) (by decide)).mp q6)]
    refine go_iconst 1 dX8_isLow_9 (by decide) ?_
    refine go_goto 14 dX8_isLow_10 (by decide) ?_
    exact go_ireturn dX8_isLow_14 rfl (by first | exact nar_b true | exact nar_b false)
theorem m_leads (l : Launch) {w : MW} {p : Nat} {A P K T : Nat → Int32} {x : XS} (hp : p + 4 < w.1) {s : QS} (hr : rowOK s.1) {low : Bool} {a b : Nat} (ha : a < 30) (hb : b < 30) : Ct l (.code yX8_leads cX8_leads 4 (some .boolean)) yX8_leads 2 0 0 [.ref p, .int (bI low), .int (nI a), .int (nI b)] (mdW w p (setL A 1 s) P K T x) (.inl (some (.int (bI (ld (ltA A) low (s.1 a) (s.1 b)))))) (mdW w p (setL A 1 (s.1, s.2 + 1)) P K T x) := by
  refine ct_of (by decide +kernel) (Nat.le_of_ble_eq_true rfl) ?_
  cases low
  · skip
    refine go_iload_n dX8_leads_0 rfl ?_
    refine go_if_eq_t 14 dX8_leads_1 (by decide) (rfl) ?_
    refine go_aload_n dX8_leads_14 rfl ?_
    refine go_iconst 1 dX8_leads_15 (by decide) ?_
    refine go_iload_n dX8_leads_16 rfl ?_
    refine go_iload_n dX8_leads_17 rfl ?_
    refine go_virt1 dX8_leads_18 (m_less l hp (k := 1) (by omega) hr (a := b) (b := a) hb ha) v_X8_52_7 rfl (mdW_ob hp) rfl (Nat.le_of_ble_eq_true rfl) (Nat.le_of_ble_eq_true rfl) (Nat.le_of_ble_eq_true rfl) ?_
    exact go_ireturn dX8_leads_21 rfl (nar_b _)
  · skip
    refine go_iload_n dX8_leads_0 rfl ?_
    refine go_if_eq_f 14 dX8_leads_1 (by decide) (by decide) ?_
    refine go_aload_n dX8_leads_4 rfl ?_
    refine go_iconst 1 dX8_leads_5 (by decide) ?_
    refine go_iload_n dX8_leads_6 rfl ?_
    refine go_iload_n dX8_leads_7 rfl ?_
    refine go_virt1 dX8_leads_8 (m_less l hp (k := 1) (by omega) hr (a := a) (b := b) ha hb) v_X8_52_7 rfl (mdW_ob hp) rfl (Nat.le_of_ble_eq_true rfl) (Nat.le_of_ble_eq_true rfl) (Nat.le_of_ble_eq_true rfl) ?_
    refine go_goto 21 dX8_leads_11 (by decide) ?_
    exact go_ireturn dX8_leads_21 rfl (nar_b _)
theorem lowB_g {i : Nat} (h : 2 < i) : lowB ((i - 3) / 4) = lowB i := by
  have e1 := lowB_s (p := i) (by omega)
  have e2 := lowB_s (p := (i - 1) / 2) (by omega)
  rw [show ((i - 1) / 2 - 1) / 2 = (i - 3) / 4 by omega, e1, Bool.not_not] at e2
  exact e2
theorem m_rises_2 (l : Launch) {w : MW} {p : Nat} {A P K T : Nat → Int32} {x : XS} (hp : p + 4 < w.1) {low : Bool} : ∀ (u i : Nat) (s r : QS), i ≤ u + 2 → i < 30 → lowB i = low → rowOK s.1 → r = riseS1 (ltA A) low u i s → Go l yX8_rises cX8_rises 4 none [] none (mm_Z (mm_eq (.inl none) (mdW w p (setL A 1 r) P K T x))) 3 0 0 2 [(0, .ref p), (2, .int (nI i))] [] (mdW w p (setL A 1 s) P K T x) := by
  intro u
  induction u with
  | zero =>
    intro i s r hu hi hlow hr hrr
    rw [hrr, riseS1]
    refine go_iload_n dX8_rises_2 rfl ?_
    refine go_iconst 2 dX8_rises_3 (by decide) ?_
    refine go_icmp_le_t 50 dX8_rises_4 (by decide) (nI_le (b := 2) (by omega) (by decide)) ?_
    exact go_return dX8_rises_50 rfl
  | succ u ih =>
    intro i s r hu hi hlow hr hrr
    refine go_iload_n dX8_rises_2 rfl ?_
    refine go_iconst 2 dX8_rises_3 (by decide) ?_
    refine go_icmp_le 50 dX8_rises_4 (by decide) (fun q4 => ?_) (fun q4 => ?_)
    · have z := n_le' (b := 2) q4 (by omega) (by decide)
      rw [hrr, show riseS1 (ltA A) low (u + 1) i s = s from by rw [riseS1, if_pos z]]
      exact go_return dX8_rises_50 rfl
    · have z := n_lt' (a := 2) q4 (by decide)
      refine go_aload_n dX8_rises_7 rfl ?_
      refine go_iload_n dX8_rises_8 rfl ?_
      refine go_stat1 dX8_rises_9 (m_isLow l (by omega)) s_X8_82 kc_X8_isLow rfl rfl (Nat.le_of_ble_eq_true rfl) (Nat.le_of_ble_eq_true rfl) (Nat.le_of_ble_eq_true rfl) ?_
      rw [hlow]
      refine go_iload_n dX8_rises_12 rfl ?_
      refine go_iload_n dX8_rises_13 rfl ?_
      refine go_iconst 1 dX8_rises_14 (by decide) ?_
      refine go_isub dX8_rises_15 ?_
      refine go_iconst 2 dX8_rises_16 (by decide) ?_
      refine go_idiv dX8_rises_17 (by decide) ?_
      refine go_iconst 1 dX8_rises_18 (by decide) ?_
      refine go_isub dX8_rises_19 ?_
      refine go_iconst 2 dX8_rises_20 (by decide) ?_
      refine go_idiv dX8_rises_21 (by decide) ?_
      rw [a_par (k := i) (by omega) (by omega), a_par (k := (i - 1) / 2) (by omega) (by omega), show ((i - 1) / 2 - 1) / 2 = (i - 3) / 4 by omega]
      refine go_virt1 dX8_rises_22 (m_leads l hp hr (low := low) (a := i) (b := (i - 3) / 4) (by omega) (by omega)) v_X8_85_7 rfl (mdW_ob hp) rfl (Nat.le_of_ble_eq_true rfl) (Nat.le_of_ble_eq_true rfl) (Nat.le_of_ble_eq_true rfl) ?_
      refine go_if_eq 50 dX8_rises_25 (by decide) (fun q25 => ?_) (fun q25 => ?_)
      · rw [hrr, show riseS1 (ltA A) low (u + 1) i s = (s.1, s.2 + 1) from by rw [riseS1, if_neg (by omega), if_neg (bI_ff q25)]]
        exact go_return dX8_rises_50 rfl
      · refine go_iload_n dX8_rises_28 rfl ?_
        refine go_iconst 1 dX8_rises_29 (by decide) ?_
        refine go_isub dX8_rises_30 ?_
        refine go_iconst 2 dX8_rises_31 (by decide) ?_
        refine go_idiv dX8_rises_32 (by decide) ?_
        refine go_iconst 1 dX8_rises_33 (by decide) ?_
        refine go_isub dX8_rises_34 ?_
        refine go_iconst 2 dX8_rises_35 (by decide) ?_
        refine go_idiv dX8_rises_36 (by decide) ?_
        rw [a_par (k := i) (by omega) (by omega), a_par (k := (i - 1) / 2) (by omega) (by omega), show ((i - 1) / 2 - 1) / 2 = (i - 3) / 4 by omega]
        refine go_istore_n dX8_rises_37 (Nat.le_of_ble_eq_true rfl) rfl ?_
        refine go_aload_n dX8_rises_38 rfl ?_
        refine go_iconst 1 dX8_rises_39 (by decide) ?_
        refine go_iload_n dX8_rises_40 rfl ?_
        refine go_iload_n dX8_rises_41 rfl ?_
        refine go_virt0 dX8_rises_42 (m_exch l hp (k := 1) (s := (s.1, s.2 + 1)) (by omega) (a := i) (b := (i - 3) / 4) (by omega) (by omega)) v_X8_55_7 rfl (mdW_ob hp) rfl (Nat.le_of_ble_eq_true rfl) (Nat.le_of_ble_eq_true rfl) (Nat.le_of_ble_eq_true rfl) ?_
        refine go_iload_n dX8_rises_45 rfl ?_
        refine go_istore_n dX8_rises_46 (Nat.le_of_ble_eq_true rfl) rfl ?_
        refine go_goto 2 dX8_rises_47 (by decide) ?_
        exact go_sub [(0, .ref p), (2, .int (nI ((i - 3) / 4)))] ⟨rfl, rfl, trivial⟩ (ih ((i - 3) / 4) (sw s.1 i ((i - 3) / 4), s.2 + 1) r (by omega) (by omega) ((lowB_g (by omega)).trans hlow) (rowOK_sw hr (by omega) (by omega)) (by rw [hrr, riseS1, if_neg (by omega), if_pos (bI_ne.mp q25)]))
theorem m_rises (l : Launch) {w : MW} {p : Nat} {A P K T : Nat → Int32} {x : XS} (hp : p + 4 < w.1) {s : QS} (hr : rowOK s.1) {i : Nat} (hi : i < 30) : Ct l (.code yX8_rises cX8_rises 4 none) yX8_rises 3 0 0 [.ref p, .int (nI i)] (mdW w p (setL A 1 s) P K T x) (.inl none) (mdW w p (setL A 1 (riseS1 (ltA A) (lowB i) 30 i s)) P K T x) := by
  refine ct_of (by decide +kernel) (Nat.le_of_ble_eq_true rfl) ?_
  refine go_iload_n dX8_rises_0 rfl ?_
  refine go_istore_n dX8_rises_1 (Nat.le_of_ble_eq_true rfl) rfl ?_
  exact go_sub [(0, .ref p), (2, .int (nI i))] ⟨rfl, rfl, trivial⟩ (m_rises_2 l hp 30 i s _ (by omega) hi rfl hr rfl)
theorem m_enters1 (l : Launch) {w : MW} {p : Nat} {A P K T : Nat → Int32} {x : XS} (hp : p + 4 < w.1) {s : QS} (hr : rowOK s.1) {i : Nat} (hi : i < 30) : Ct l (.code yX8_enters cX8_enters 3 none) yX8_enters 4 0 0 [.ref p, .int (nI i)] (mdW w p (setL A 1 s) P K T x) (.inl none) (mdW w p (setL A 1 (enterS1 (ltA A) i s)) P K T x) := by
  refine ct_of (by decide +kernel) (Nat.le_of_ble_eq_true rfl) ?_
  refine go_iload_n dX8_enters_0 rfl ?_
  refine go_if_ne 5 dX8_enters_1 (by decide) (fun q1 => ?_) (fun q1 => ?_)
  · have z0 : i ≠ 0 := fun e => q1 (by rw [e]; rfl)
    refine go_iload_n dX8_enters_5 rfl ?_
    refine go_iconst 1 dX8_enters_6 (by decide) ?_
    refine go_isub dX8_enters_7 ?_
    refine go_iconst 2 dX8_enters_8 (by decide) ?_
    refine go_idiv dX8_enters_9 (by decide) ?_
    rw [a_par (k := i) (by omega) (by omega)]
    refine go_istore_n dX8_enters_10 (Nat.le_of_ble_eq_true rfl) rfl ?_
    refine go_aload_n dX8_enters_11 rfl ?_
    refine go_iload_n dX8_enters_12 rfl ?_
    refine go_stat1 dX8_enters_13 (m_isLow l (by omega)) s_X8_82 kc_X8_isLow rfl rfl (Nat.le_of_ble_eq_true rfl) (Nat.le_of_ble_eq_true rfl) (Nat.le_of_ble_eq_true rfl) ?_
    refine go_iload_n dX8_enters_16 rfl ?_
    refine go_iload_n dX8_enters_17 rfl ?_
    refine go_virt1 dX8_enters_18 (m_leads l hp hr (low := lowB i) (a := (i - 1) / 2) (b := i) (by omega) (by omega)) v_X8_85_7 rfl (mdW_ob hp) rfl (Nat.le_of_ble_eq_true rfl) (Nat.le_of_ble_eq_true rfl) (Nat.le_of_ble_eq_true rfl) ?_
    refine go_if_eq 39 dX8_enters_21 (by decide) (fun q21 => ?_) (fun q21 => ?_)
    · rw [show (enterS1 (ltA A) i s) = riseS1 (ltA A) (lowB i) 30 i (s.1, s.2 + 1) from by unfold enterS1; rw [if_neg z0, if_neg (bI_ff q21)]]
      refine go_aload_n dX8_enters_39 rfl ?_
      refine go_iload_n dX8_enters_40 rfl ?_
      refine go_virt0 dX8_enters_41 (m_rises l hp (s := (s.1, s.2 + 1)) hr hi) v_X8_89_7 rfl (mdW_ob hp) rfl (Nat.le_of_ble_eq_true rfl) (Nat.le_of_ble_eq_true rfl) (Nat.le_of_ble_eq_true rfl) ?_
      exact go_return dX8_enters_44 rfl
    · rw [show (enterS1 (ltA A) i s) = riseS1 (ltA A) (lowB ((i - 1) / 2)) 30 ((i - 1) / 2) (sw s.1 i ((i - 1) / 2), s.2 + 1) from by unfold enterS1; rw [if_neg z0, if_pos (bI_ne.mp q21), lowB_s (by omega), sw_comm]]
      refine go_aload_n dX8_enters_24 rfl ?_
      refine go_iconst 1 dX8_enters_25 (by decide) ?_
      refine go_iload_n dX8_enters_26 rfl ?_
      refine go_iload_n dX8_enters_27 rfl ?_
      refine go_virt0 dX8_enters_28 (m_exch l hp (k := 1) (s := (s.1, s.2 + 1)) (by omega) (a := i) (b := (i - 1) / 2) (by omega) (by omega)) v_X8_55_7 rfl (mdW_ob hp) rfl (Nat.le_of_ble_eq_true rfl) (Nat.le_of_ble_eq_true rfl) (Nat.le_of_ble_eq_true rfl) ?_
      refine go_aload_n dX8_enters_31 rfl ?_
      refine go_iload_n dX8_enters_32 rfl ?_
      refine go_virt0 dX8_enters_33 (m_rises l hp (s := (sw s.1 i ((i - 1) / 2), s.2 + 1)) (rowOK_sw hr (by omega) (by omega)) (by omega)) v_X8_89_7 rfl (mdW_ob hp) rfl (Nat.le_of_ble_eq_true rfl) (Nat.le_of_ble_eq_true rfl) (Nat.le_of_ble_eq_true rfl) ?_
      refine go_goto 44 dX8_enters_36 (by decide) ?_
      exact go_return dX8_enters_44 rfl
  · rw [show (enterS1 (ltA A) i s) = s from if_pos ((nI_eq (a := i) (b := 0) (by omega) (by decide)).mp q1)]
    exact go_return dX8_enters_4 rfl
def lowK (k : Nat) : Bool := decide (k = 2)
theorem m_isAhead (l : Launch) {w : MW} {p : Nat} {A P K T : Nat → Int32} {x : XS} (hp : p + 4 < w.1) {k : Nat} (hk : k = 2 ∨ k = 3) {s : QS} (hr : rowOK s.1) {a b : Nat} (ha : a < 30) (hb : b < 30) : Ct l (.code yX8_isAhead cX8_isAhead 4 (some .boolean)) yX8_isAhead 2 0 0 [.ref p, .int (nI k), .int (nI a), .int (nI b)] (mdW w p (setL A k s) P K T x) (.inl (some (.int (bI (ld (ltA A) (lowK k) (s.1 a) (s.1 b)))))) (mdW w p (setL A k (s.1, s.2 + 1)) P K T x) := by
  refine ct_of (by decide +kernel) (Nat.le_of_ble_eq_true rfl) ?_
  rcases hk with rfl | rfl
  · skip
    refine go_iload_n dX8_isAhead_0 rfl ?_
    refine go_iconst 2 dX8_isAhead_1 (by decide) ?_
    refine go_icmp_ne_f 15 dX8_isAhead_2 (by decide) (rfl) ?_
    refine go_aload_n dX8_isAhead_5 rfl ?_
    refine go_iconst 2 dX8_isAhead_6 (by decide) ?_
    refine go_iload_n dX8_isAhead_7 rfl ?_
    refine go_iload_n dX8_isAhead_8 rfl ?_
    refine go_virt1 dX8_isAhead_9 (m_less l hp (k := 2) (by omega) hr (a := a) (b := b) ha hb) v_X8_52_7 rfl (mdW_ob hp) rfl (Nat.le_of_ble_eq_true rfl) (Nat.le_of_ble_eq_true rfl) (Nat.le_of_ble_eq_true rfl) ?_
    refine go_goto 22 dX8_isAhead_12 (by decide) ?_
    exact go_ireturn dX8_isAhead_22 rfl (nar_b _)
  · skip
    refine go_iload_n dX8_isAhead_0 rfl ?_
    refine go_iconst 2 dX8_isAhead_1 (by decide) ?_
    refine go_icmp_ne_t 15 dX8_isAhead_2 (by decide) (by decide) ?_
    refine go_aload_n dX8_isAhead_15 rfl ?_
    refine go_iconst 3 dX8_isAhead_16 (by decide) ?_
    refine go_iload_n dX8_isAhead_17 rfl ?_
    refine go_iload_n dX8_isAhead_18 rfl ?_
    refine go_virt1 dX8_isAhead_19 (m_less l hp (k := 3) (by omega) hr (a := b) (b := a) hb ha) v_X8_52_7 rfl (mdW_ob hp) rfl (Nat.le_of_ble_eq_true rfl) (Nat.le_of_ble_eq_true rfl) (Nat.le_of_ble_eq_true rfl) ?_
    exact go_ireturn dX8_isAhead_22 rfl (nar_b _)
theorem m_up_2 (l : Launch) {w : MW} {p : Nat} {A P K T : Nat → Int32} {x : XS} (hp : p + 4 < w.1) {k : Nat} (hk : k = 2 ∨ k = 3) : ∀ (u i : Nat) (s r : QS), i ≤ u → i < 30 → rowOK s.1 → r = upS (ltA A) (lowK k) u i s → Go l yX8_up cX8_up 4 none [] none (mm_Z (mm_eq (.inl none) (mdW w p (setL A k r) P K T x))) 3 0 0 2 [(0, .ref p), (1, .int (nI k)), (3, .int (nI i))] [] (mdW w p (setL A k s) P K T x) := by
  intro u
  induction u with
  | zero =>
    intro i s r hu hi hr hrr
    rw [hrr, upS]
    refine go_iload_n dX8_up_2 rfl ?_
    refine go_if_le_t 40 dX8_up_3 (by decide) (by rw [show i = 0 by omega]; exact Int32.le_refl _) ?_
    exact go_return dX8_up_40 rfl
  | succ u ih =>
    intro i s r hu hi hr hrr
    refine go_iload_n dX8_up_2 rfl ?_
    refine go_if_le 40 dX8_up_3 (by decide) (fun q3 => ?_) (fun q3 => ?_)
    · have z := n_le' (b := 0) q3 (by omega) (by decide)
      rw [hrr, show upS (ltA A) (lowK k) (u + 1) i s = s from by rw [upS, if_pos (by omega)]]
      exact go_return dX8_up_40 rfl
    · have z := n_lt' (a := 0) q3 (by decide)
      refine go_aload_n dX8_up_6 rfl ?_
      refine go_iload_n dX8_up_7 rfl ?_
      refine go_iload_n dX8_up_8 rfl ?_
      refine go_iload_n dX8_up_9 rfl ?_
      refine go_iconst 1 dX8_up_10 (by decide) ?_
      refine go_isub dX8_up_11 ?_
      refine go_iconst 2 dX8_up_12 (by decide) ?_
      refine go_idiv dX8_up_13 (by decide) ?_
      rw [a_par (k := i) z (by omega)]
      refine go_virt1 dX8_up_14 (m_isAhead l hp hk hr (a := i) (b := (i - 1) / 2) (by omega) (by omega)) v_X8_92_7 rfl (mdW_ob hp) rfl (Nat.le_of_ble_eq_true rfl) (Nat.le_of_ble_eq_true rfl) (Nat.le_of_ble_eq_true rfl) ?_
      refine go_if_eq 40 dX8_up_17 (by decide) (fun q17 => ?_) (fun q17 => ?_)
      · rw [hrr, show upS (ltA A) (lowK k) (u + 1) i s = (s.1, s.2 + 1) from by rw [upS, if_neg (by omega), if_neg (bI_ff q17)]]
        exact go_return dX8_up_40 rfl
      · refine go_aload_n dX8_up_20 rfl ?_
        refine go_iload_n dX8_up_21 rfl ?_
        refine go_iload_n dX8_up_22 rfl ?_
        refine go_iload_n dX8_up_23 rfl ?_
        refine go_iconst 1 dX8_up_24 (by decide) ?_
        refine go_isub dX8_up_25 ?_
        refine go_iconst 2 dX8_up_26 (by decide) ?_
        refine go_idiv dX8_up_27 (by decide) ?_
        rw [a_par (k := i) z (by omega)]
        refine go_virt0 dX8_up_28 (m_exch l hp (k := k) (s := (s.1, s.2 + 1)) (by omega) (a := i) (b := (i - 1) / 2) (by omega) (by omega)) v_X8_55_7 rfl (mdW_ob hp) rfl (Nat.le_of_ble_eq_true rfl) (Nat.le_of_ble_eq_true rfl) (Nat.le_of_ble_eq_true rfl) ?_
        refine go_iload_n dX8_up_31 rfl ?_
        refine go_iconst 1 dX8_up_32 (by decide) ?_
        refine go_isub dX8_up_33 ?_
        refine go_iconst 2 dX8_up_34 (by decide) ?_
        refine go_idiv dX8_up_35 (by decide) ?_
        rw [a_par (k := i) z (by omega)]
        refine go_istore_n dX8_up_36 (Nat.le_of_ble_eq_true rfl) rfl ?_
        refine go_goto 2 dX8_up_37 (by decide) ?_
        exact go_sub [(0, .ref p), (1, .int (nI k)), (3, .int (nI ((i - 1) / 2)))] ⟨rfl, rfl, rfl, trivial⟩ (ih ((i - 1) / 2) (sw s.1 i ((i - 1) / 2), s.2 + 1) r (by omega) (by omega) (rowOK_sw hr (by omega) (by omega)) (by rw [hrr, upS, if_neg (by omega), if_pos (bI_ne.mp q17)]))
theorem m_up (l : Launch) {w : MW} {p : Nat} {A P K T : Nat → Int32} {x : XS} (hp : p + 4 < w.1) {k : Nat} (hk : k = 2 ∨ k = 3) {s : QS} (hr : rowOK s.1) {i : Nat} (hi : i < 30) : Ct l (.code yX8_up cX8_up 4 none) yX8_up 3 0 0 [.ref p, .int (nI k), .int (nI i)] (mdW w p (setL A k s) P K T x) (.inl none) (mdW w p (setL A k (upS (ltA A) (lowK k) 30 i s)) P K T x) := by
  refine ct_of (by decide +kernel) (Nat.le_of_ble_eq_true rfl) ?_
  refine go_iload_n dX8_up_0 rfl ?_
  refine go_istore_n dX8_up_1 (Nat.le_of_ble_eq_true rfl) rfl ?_
  exact go_sub [(0, .ref p), (1, .int (nI k)), (3, .int (nI i))] ⟨rfl, rfl, rfl, trivial⟩ (m_up_2 l hp hk 30 i s _ (by omega) hi hr rfl)
