theorem c_enter0 (l : Launch) {w : MW} {h : Nat} {n : Nat} {f : Nat → Int32} {c : Int32} (hh : h + 1 < w.1) (hn : n ≤ 30) {p : Nat} (hp : p < n) : Ct l (.code yX2_enter cX2_enter 5 none) yX2_enter 2 0 0 [.ref h, .int (nI p)] (layW w h 2 [] f n c) (.inl none) (layP w h 2 [] n (enterS0 ltI p (f, c))) := by
  refine ct_of (by decide +kernel) (Nat.le_of_ble_eq_true rfl) ?_
  unfold enterS0
  by_cases e0 : p = 0
  · subst e0
    rw [if_pos rfl]
    refine go_iload_n dX2_enter_0 rfl ?_
    refine go_if_ne_f 5 dX2_enter_1 (by decide) (rfl) ?_
    exact go_return dX2_enter_4 rfl
  rw [if_neg e0]
  by_cases e1 : p = 2 * (p / 2) + 1
  · rw [if_pos e1]
    refine go_iload_n dX2_enter_0 rfl ?_
    refine go_if_ne_t 5 dX2_enter_1 (by decide) (n_ne (b := 0) (by omega) (by omega) (by decide)) ?_
    refine go_iload_n dX2_enter_5 rfl ?_
    refine go_iconst 2 dX2_enter_6 (by decide) ?_
    refine go_idiv dX2_enter_7 (by decide) ?_
    rw [a_div2 (by omega)]
    refine go_istore_n dX2_enter_8 (Nat.le_of_ble_eq_true rfl) rfl ?_
    refine go_iload_n dX2_enter_9 rfl ?_
    refine go_iload_n dX2_enter_10 rfl ?_
    refine go_stat1 dX2_enter_11 (c_high l (k := p / 2)) s_X2_9 kc_X2_high rfl rfl (Nat.le_of_ble_eq_true rfl) (Nat.le_of_ble_eq_true rfl) (Nat.le_of_ble_eq_true rfl) ?_
    refine go_icmp_ne_f 21 dX2_enter_14 (by decide) (by rw [← e1]) ?_
    refine go_iconst 1 dX2_enter_17 (by decide) ?_
    refine go_goto 22 dX2_enter_18 (by decide) ?_
    refine go_istore_n dX2_enter_22 (Nat.le_of_ble_eq_true rfl) rfl ?_
    refine go_iload_n dX2_enter_23 rfl ?_
    refine go_if_eq_f 34 dX2_enter_24 (by decide) (by decide) ?_
    refine go_iload_n dX2_enter_27 rfl ?_
    refine go_stat1 dX2_enter_28 (c_low l (k := p / 2)) s_X2_19 kc_X2_low rfl rfl (Nat.le_of_ble_eq_true rfl) (Nat.le_of_ble_eq_true rfl) (Nat.le_of_ble_eq_true rfl) ?_
    refine go_goto 41 dX2_enter_31 (by decide) ?_
    refine go_istore dX2_enter_41 (Nat.le_of_ble_eq_true rfl) rfl ?_
    refine go_aload_n dX2_enter_43 rfl ?_
    refine go_iload_n dX2_enter_44 rfl ?_
    refine go_iload dX2_enter_45 rfl ?_
    refine go_iconst 1 dX2_enter_47 (by decide) ?_
    refine go_virt1 dX2_enter_48 (c_aheadL l hh (Or.inr (Or.inl rfl)) hn (i := p) (j := 2 * (p / 2)) (by omega) (by omega)) v_X2_25_2 rfl (layW_ob hh) rfl (Nat.le_of_ble_eq_true rfl) (Nat.le_of_ble_eq_true rfl) (Nat.le_of_ble_eq_true rfl) ?_
    refine go_if_ne 61 dX2_enter_51 (by decide) (fun q51 => ?_) (fun q51 => ?_)
    · rw [if_pos (by simpa [ltI] using bI_ne.mp q51)]
      refine go_iload_n dX2_enter_61 rfl ?_
      refine go_if_eq_f 72 dX2_enter_62 (by decide) (by decide) ?_
      refine go_aload_n dX2_enter_65 rfl ?_
      refine go_iload_n dX2_enter_66 rfl ?_
      refine go_iload dX2_enter_67 rfl ?_
      refine go_virt0 dX2_enter_69 (c_exchange l hh (Or.inr (Or.inl rfl)) hn (i := p) (j := 2 * (p / 2)) (by omega) (by omega)) v_X2_29_2 rfl (layW_ob hh) rfl (Nat.le_of_ble_eq_true rfl) (Nat.le_of_ble_eq_true rfl) (Nat.le_of_ble_eq_true rfl) ?_
      refine go_aload_n dX2_enter_72 rfl ?_
      refine go_iload_n dX2_enter_73 rfl ?_
      refine go_virt0 dX2_enter_74 (c_riseLow l hh hn (k := p / 2) (by omega)) v_X2_43_2 rfl (layW_ob hh) rfl (Nat.le_of_ble_eq_true rfl) (Nat.le_of_ble_eq_true rfl) (Nat.le_of_ble_eq_true rfl) ?_
      exact go_return dX2_enter_77 rfl
    · rw [if_neg (by simpa [ltI] using bI_eq.mp q51)]
      refine go_aload_n dX2_enter_54 rfl ?_
      refine go_iload_n dX2_enter_55 rfl ?_
      refine go_iload_n dX2_enter_56 rfl ?_
      refine go_virt0 dX2_enter_57 (c_riseHigh l hh hn (k := p / 2) (i := p) (by omega) (by omega)) v_X2_40_2 rfl (layW_ob hh) rfl (Nat.le_of_ble_eq_true rfl) (Nat.le_of_ble_eq_true rfl) (Nat.le_of_ble_eq_true rfl) ?_
      exact go_return dX2_enter_60 rfl
  · rw [if_neg e1]
    refine go_iload_n dX2_enter_0 rfl ?_
    refine go_if_ne_t 5 dX2_enter_1 (by decide) (n_ne (b := 0) (by omega) (by omega) (by decide)) ?_
    refine go_iload_n dX2_enter_5 rfl ?_
    refine go_iconst 2 dX2_enter_6 (by decide) ?_
    refine go_idiv dX2_enter_7 (by decide) ?_
    rw [a_div2 (by omega)]
    refine go_istore_n dX2_enter_8 (Nat.le_of_ble_eq_true rfl) rfl ?_
    refine go_iload_n dX2_enter_9 rfl ?_
    refine go_iload_n dX2_enter_10 rfl ?_
    refine go_stat1 dX2_enter_11 (c_high l (k := p / 2)) s_X2_9 kc_X2_high rfl rfl (Nat.le_of_ble_eq_true rfl) (Nat.le_of_ble_eq_true rfl) (Nat.le_of_ble_eq_true rfl) ?_
    refine go_icmp_ne_t 21 dX2_enter_14 (by decide) (n_ne e1 (by omega) (by omega)) ?_
    refine go_iconst 0 dX2_enter_21 (by decide) ?_
    refine go_istore_n dX2_enter_22 (Nat.le_of_ble_eq_true rfl) rfl ?_
    refine go_iload_n dX2_enter_23 rfl ?_
    refine go_if_eq_t 34 dX2_enter_24 (by decide) (rfl) ?_
    refine go_iload_n dX2_enter_34 rfl ?_
    refine go_statU dX2_enter_35 (c_parentOf l (by omega) (by omega)) u_X2_33 kc_X3_parentOf rfl rfl (Nat.le_of_ble_eq_true rfl) (Nat.le_of_ble_eq_true rfl) (Nat.le_of_ble_eq_true rfl) ?_
    refine go_stat1 dX2_enter_38 (c_low l (k := (p / 2 - 1) / 2)) s_X2_19 kc_X2_low rfl rfl (Nat.le_of_ble_eq_true rfl) (Nat.le_of_ble_eq_true rfl) (Nat.le_of_ble_eq_true rfl) ?_
    refine go_istore dX2_enter_41 (Nat.le_of_ble_eq_true rfl) rfl ?_
    refine go_aload_n dX2_enter_43 rfl ?_
    refine go_iload_n dX2_enter_44 rfl ?_
    refine go_iload dX2_enter_45 rfl ?_
    refine go_iconst 1 dX2_enter_47 (by decide) ?_
    refine go_virt1 dX2_enter_48 (c_aheadL l hh (Or.inr (Or.inl rfl)) hn (i := p) (j := 2 * ((p / 2 - 1) / 2)) (by omega) (by omega)) v_X2_25_2 rfl (layW_ob hh) rfl (Nat.le_of_ble_eq_true rfl) (Nat.le_of_ble_eq_true rfl) (Nat.le_of_ble_eq_true rfl) ?_
    refine go_if_ne 61 dX2_enter_51 (by decide) (fun q51 => ?_) (fun q51 => ?_)
    · rw [if_pos (by simpa [ltI] using bI_ne.mp q51)]
      refine go_iload_n dX2_enter_61 rfl ?_
      refine go_if_eq_t 72 dX2_enter_62 (by decide) (rfl) ?_
      refine go_aload_n dX2_enter_72 rfl ?_
      refine go_iload_n dX2_enter_73 rfl ?_
      refine go_virt0 dX2_enter_74 (c_riseLow l hh hn (k := p / 2) (by omega)) v_X2_43_2 rfl (layW_ob hh) rfl (Nat.le_of_ble_eq_true rfl) (Nat.le_of_ble_eq_true rfl) (Nat.le_of_ble_eq_true rfl) ?_
      exact go_return dX2_enter_77 rfl
    · rw [if_neg (by simpa [ltI] using bI_eq.mp q51)]
      refine go_aload_n dX2_enter_54 rfl ?_
      refine go_iload_n dX2_enter_55 rfl ?_
      refine go_iload_n dX2_enter_56 rfl ?_
      refine go_virt0 dX2_enter_57 (c_riseHigh l hh hn (k := p / 2) (i := p) (by omega) (by omega)) v_X2_40_2 rfl (layW_ob hh) rfl (Nat.le_of_ble_eq_true rfl) (Nat.le_of_ble_eq_true rfl) (Nat.le_of_ble_eq_true rfl) ?_
      exact go_return dX2_enter_60 rfl
theorem c_settle0 (l : Launch) {w : MW} {h : Nat} {n : Nat} {f : Nat → Int32} {c : Int32} (hh : h + 1 < w.1) (hn : n ≤ 30) {p : Nat} (hp : p < n) : Ct l (.code yX2_settle cX2_settle 3 none) yX2_settle 3 0 0 [.ref h, .int (nI p)] (layW w h 2 [] f n c) (.inl none) (layP w h 2 [] n (settleS0 ltI n (p / 2) (f, c))) := by
  refine ct_of (by decide +kernel) (Nat.le_of_ble_eq_true rfl) ?_
  refine go_iload_n dX2_settle_0 rfl ?_
  refine go_iconst 2 dX2_settle_1 (by decide) ?_
  refine go_idiv dX2_settle_2 (by decide) ?_
  rw [a_div2 (by omega)]
  refine go_istore_n dX2_settle_3 (Nat.le_of_ble_eq_true rfl) rfl ?_
  refine go_aload_n dX2_settle_4 rfl ?_
  refine go_iload_n dX2_settle_5 rfl ?_
  refine go_virt0 dX2_settle_6 (c_order l hh hn (k := p / 2) (by omega)) v_X2_36_2 rfl (layW_ob hh) rfl (Nat.le_of_ble_eq_true rfl) (Nat.le_of_ble_eq_true rfl) (Nat.le_of_ble_eq_true rfl) ?_
  refine go_aload_n dX2_settle_9 rfl ?_
  refine go_iload_n dX2_settle_10 rfl ?_
  refine go_virt0 dX2_settle_11 (c_riseLow l hh hn (k := p / 2) (by omega)) v_X2_43_2 rfl (layW_ob hh) rfl (Nat.le_of_ble_eq_true rfl) (Nat.le_of_ble_eq_true rfl) (Nat.le_of_ble_eq_true rfl) ?_
  refine go_aload_n dX2_settle_14 rfl ?_
  refine go_iload_n dX2_settle_15 rfl ?_
  refine go_aload_n dX2_settle_16 rfl ?_
  refine go_iload_n dX2_settle_17 rfl ?_
  refine go_virt1 dX2_settle_18 (c_top l hh hn (k := p / 2) (by omega)) v_X2_22_2 rfl (layW_ob hh) rfl (Nat.le_of_ble_eq_true rfl) (Nat.le_of_ble_eq_true rfl) (Nat.le_of_ble_eq_true rfl) ?_
  refine go_virt0 dX2_settle_21 (c_riseHigh l hh hn (k := p / 2) (i := topN n (p / 2)) (by omega) (topN_lt (by omega))) v_X2_40_2 rfl (layW_ob hh) rfl (Nat.le_of_ble_eq_true rfl) (Nat.le_of_ble_eq_true rfl) (Nat.le_of_ble_eq_true rfl) ?_
  refine go_aload_n dX2_settle_24 rfl ?_
  refine go_iload_n dX2_settle_25 rfl ?_
  refine go_virt0 dX2_settle_26 (c_sinkLow l hh hn (k := p / 2) (by omega)) v_X2_46_2 rfl (layW_ob hh) rfl (Nat.le_of_ble_eq_true rfl) (Nat.le_of_ble_eq_true rfl) (Nat.le_of_ble_eq_true rfl) ?_
  refine go_aload_n dX2_settle_29 rfl ?_
  refine go_iload_n dX2_settle_30 rfl ?_
  refine go_virt0 dX2_settle_31 (c_sinkHigh l hh hn (k := p / 2) (by omega)) v_X2_49_2 rfl (layW_ob hh) rfl (Nat.le_of_ble_eq_true rfl) (Nat.le_of_ble_eq_true rfl) (Nat.le_of_ble_eq_true rfl) ?_
  exact go_return dX2_settle_34 rfl
theorem c_settleAll0_11 (l : Launch) {w : MW} {h : Nat} {n : Nat} (hh : h + 1 < w.1) (hn : n ≤ 30) : ∀ (m : Nat) (s r : QS), 2 * m < n + 2 → r = allS0 ltI n m s → Go l yX2_settleAll cX2_settleAll 2 none [] none (mm_Z (mm_eq (.inl none) (layP w h 2 [] n r))) 3 0 0 11 [(0, .ref h), (1, .int (nI m - 1))] [] (layP w h 2 [] n s) := by
  intro m
  induction m with
  | zero =>
    intro s r hm hr
    subst hr
    refine go_iload_n dX2_settleAll_11 rfl ?_
    refine go_if_lt_t 31 dX2_settleAll_12 (by decide) (by decide) ?_
    exact go_return dX2_settleAll_31 rfl
  | succ m ih =>
    intro s r hm hr
    rw [nI_pred]
    refine go_iload_n dX2_settleAll_11 rfl ?_
    refine go_if_lt_f 31 dX2_settleAll_12 (by decide) (nI_pos (by omega)) ?_
    refine go_aload_n dX2_settleAll_15 rfl ?_
    refine go_iload_n dX2_settleAll_16 rfl ?_
    refine go_virt0 dX2_settleAll_17 (c_sinkLow l hh hn (k := m) (by omega)) v_X2_46_2 rfl (layW_ob hh) rfl (Nat.le_of_ble_eq_true rfl) (Nat.le_of_ble_eq_true rfl) (Nat.le_of_ble_eq_true rfl) ?_
    refine go_aload_n dX2_settleAll_20 rfl ?_
    refine go_iload_n dX2_settleAll_21 rfl ?_
    refine go_virt0 dX2_settleAll_22 (c_sinkHigh l hh hn (k := m) (by omega)) v_X2_49_2 rfl (layW_ob hh) rfl (Nat.le_of_ble_eq_true rfl) (Nat.le_of_ble_eq_true rfl) (Nat.le_of_ble_eq_true rfl) ?_
    refine go_iinc dX2_settleAll_25 rfl (Nat.le_of_ble_eq_true rfl) rfl (show _ = _ + (-1) from rfl) ?_
    refine go_goto 11 dX2_settleAll_28 (by decide) ?_
    rw [show nI m + -1 = nI m - 1 from (Int32.sub_eq_add_neg _ _).symm]
    exact go_sub [(0, .ref h), (1, .int (nI m - 1))] ⟨rfl, rfl, trivial⟩ (ih _ r (by omega) hr)
theorem c_settleAll0 (l : Launch) {w : MW} {h : Nat} {n : Nat} {f : Nat → Int32} {c : Int32} (hh : h + 1 < w.1) (hn : n ≤ 30) : Ct l (.code yX2_settleAll cX2_settleAll 2 none) yX2_settleAll 3 0 0 [.ref h] (layW w h 2 [] f n c) (.inl none) (layP w h 2 [] n (allS0 ltI n ((n + 1) / 2) (f, c))) := by
  refine ct_of (by decide +kernel) (Nat.le_of_ble_eq_true rfl) ?_
  refine go_aload_n dX2_settleAll_0 rfl ?_
  refine go_getfield dX2_settleAll_1 f_X2_15_2 (layW_ob hh) rfl ?_
  refine go_iconst 1 dX2_settleAll_4 (by decide) ?_
  refine go_iadd dX2_settleAll_5 ?_
  rw [a_k1]
  refine go_iconst 2 dX2_settleAll_6 (by decide) ?_
  refine go_idiv dX2_settleAll_7 (by decide) ?_
  rw [a_div2 (by omega)]
  refine go_iconst 1 dX2_settleAll_8 (by decide) ?_
  refine go_isub dX2_settleAll_9 ?_
  refine go_istore_n dX2_settleAll_10 (Nat.le_of_ble_eq_true rfl) rfl ?_
  exact go_sub [(0, .ref h), (1, .int (nI ((n + 1) / 2) - 1))] ⟨rfl, rfl, trivial⟩ (c_settleAll0_11 l hh hn _ (f, c) _ (by omega) rfl)
theorem c_broken0_4 (l : Launch) {w : MW} {h : Nat} {n : Nat} {f : Nat → Int32} {c : Int32} (hh : h + 1 < w.1) (hn : n ≤ 30) {r : Nat} (hr : r = brk0 ltI n f ((n + 1) / 2)) : ∀ (k m b : Nat), m + k = (n + 1) / 2 → b = brk0 ltI n f m → b ≤ 3 * m → Go l yX2_brokenPairs cX2_brokenPairs 3 (some .int) [] none (mm_Z (mm_eq (.inl (some (.int (nI r)))) (layW w h 2 [] f n c))) 2 0 0 4 [(0, .ref h), (1, .int (nI b)), (2, .int (nI m))] [] (layW w h 2 [] f n c) := by
  intro k
  induction k with
  | zero =>
    intro m b hm hb _
    have e : m = (n + 1) / 2 := by omega
    rw [← e, ← hb] at hr
    subst hr
    refine go_iload_n dX2_brokenPairs_4 rfl ?_
    refine go_stat1 dX2_brokenPairs_5 (c_low l (k := m)) s_X2_19 kc_X2_low rfl rfl (Nat.le_of_ble_eq_true rfl) (Nat.le_of_ble_eq_true rfl) (Nat.le_of_ble_eq_true rfl) ?_
    refine go_aload_n dX2_brokenPairs_8 rfl ?_
    refine go_getfield dX2_brokenPairs_9 f_X2_15_2 (layW_ob hh) rfl ?_
    refine go_icmp_ge_t 103 dX2_brokenPairs_12 (by decide) (nI_le (by omega) (by omega)) ?_
    refine go_iload_n dX2_brokenPairs_103 rfl ?_
    exact go_ireturn dX2_brokenPairs_104 rfl rfl
  | succ k ih0 =>
    intro m b hm hb hb3
    have ih : ∀ (m2 b2 : Nat), m2 = m + 1 → b2 = brk0 ltI n f m + brkA ltI n f m + brkB ltI f m + brkC ltI n f m → b2 ≤ 3 * m + 3 → Go l yX2_brokenPairs cX2_brokenPairs 3 (some .int) [] none (mm_Z (mm_eq (.inl (some (.int (nI r)))) (layW w h 2 [] f n c))) 2 0 0 4 [(0, .ref h), (1, .int (nI b2)), (2, .int (nI m2))] [] (layW w h 2 [] f n c) := by
      intro m2 b2 h1 h2 h3
      subst h1
      exact ih0 (m + 1) b2 (by omega) h2 (by omega)
    have lA : brkA ltI n f m ≤ 1 := by unfold brkA bN; split <;> omega
    have lB : brkB ltI f m ≤ 1 := by unfold brkB bN; split <;> (try split) <;> omega
    have lC : brkC ltI n f m ≤ 1 := by unfold brkC bN; split <;> (try split) <;> omega
    have K97 : ∀ b2 : Nat, b2 = b + brkA ltI n f m + brkB ltI f m + brkC ltI n f m → Go l yX2_brokenPairs cX2_brokenPairs 3 (some .int) [] none (mm_Z (mm_eq (.inl (some (.int (nI r)))) (layW w h 2 [] f n c))) 2 0 0 97 [(0, .ref h), (1, .int (nI b2)), (2, .int (nI m))] [] (layW w h 2 [] f n c) := by
      intro b hb2
      refine go_iinc dX2_brokenPairs_97 rfl (Nat.le_of_ble_eq_true rfl) rfl (show _ = _ + 1 from rfl) ?_
      rw [a_k1]
      refine go_goto 4 dX2_brokenPairs_100 (by decide) ?_
      exact go_sub [(0, .ref h), (1, .int (nI b)), (2, .int (nI (m + 1)))] ⟨rfl, rfl, rfl, trivial⟩ (ih (m + 1) b (by omega) (by omega) (by omega))
    have K67 : ∀ b2 : Nat, b2 = b + brkA ltI n f m + brkB ltI f m → Go l yX2_brokenPairs cX2_brokenPairs 3 (some .int) [] none (mm_Z (mm_eq (.inl (some (.int (nI r)))) (layW w h 2 [] f n c))) 2 0 0 67 [(0, .ref h), (1, .int (nI b2)), (2, .int (nI m))] [] (layW w h 2 [] f n c) := by
      intro b hb2
      by_cases e : m = 0
      · skip
        refine go_iload_n dX2_brokenPairs_67 rfl ?_
        refine go_if_le_t 97 dX2_brokenPairs_68 (by decide) (by rw [e]; decide) ?_
        have e3 : brkC ltI n f m = 0 := if_pos e
        exact go_sub [(0, .ref h), (1, .int (nI _)), (2, .int (nI m))] ⟨rfl, rfl, rfl, trivial⟩ (K97 _ (by omega))
      · skip
        refine go_iload_n dX2_brokenPairs_67 rfl ?_
        refine go_if_le_f 97 dX2_brokenPairs_68 (by decide) (n_le0 (by omega) (by omega)) ?_
        refine go_aload_n dX2_brokenPairs_71 rfl ?_
        refine go_iload_n dX2_brokenPairs_72 rfl ?_
        refine go_statU dX2_brokenPairs_73 (c_parentOf l (by omega) (by omega)) u_X2_33 kc_X3_parentOf rfl rfl (Nat.le_of_ble_eq_true rfl) (Nat.le_of_ble_eq_true rfl) (Nat.le_of_ble_eq_true rfl) ?_
        refine go_stat1 dX2_brokenPairs_76 (c_high l (k := (m - 1) / 2)) s_X2_9 kc_X2_high rfl rfl (Nat.le_of_ble_eq_true rfl) (Nat.le_of_ble_eq_true rfl) (Nat.le_of_ble_eq_true rfl) ?_
        refine go_virt1 dX2_brokenPairs_79 (c_itemAt1 l hh (Or.inr (Or.inl rfl)) hn (j := 2 * ((m - 1) / 2) + 1) (by omega)) v_X2_52_2 rfl (layW_ob hh) rfl (Nat.le_of_ble_eq_true rfl) (Nat.le_of_ble_eq_true rfl) (Nat.le_of_ble_eq_true rfl) ?_
        refine go_aload_n dX2_brokenPairs_82 rfl ?_
        refine go_aload_n dX2_brokenPairs_83 rfl ?_
        refine go_iload_n dX2_brokenPairs_84 rfl ?_
        refine go_virt1 dX2_brokenPairs_85 (c_top l hh hn (k := m) (by omega)) v_X2_22_2 rfl (layW_ob hh) rfl (Nat.le_of_ble_eq_true rfl) (Nat.le_of_ble_eq_true rfl) (Nat.le_of_ble_eq_true rfl) ?_
        refine go_virt1 dX2_brokenPairs_88 (c_itemAt1 l hh (Or.inr (Or.inl rfl)) hn (j := topN n m) (topN_lt (by omega))) v_X2_52_2 rfl (layW_ob hh) rfl (Nat.le_of_ble_eq_true rfl) (Nat.le_of_ble_eq_true rfl) (Nat.le_of_ble_eq_true rfl) ?_
        refine go_icmp_ge 97 dX2_brokenPairs_91 (by decide) (fun q91 => ?_) (fun q91 => ?_)
        · have e3 : brkC ltI n f m = 0 := by unfold brkC; rw [if_neg e]; exact bN_0 (decide_eq_false (Int32.not_lt.mpr q91))
          exact go_sub [(0, .ref h), (1, .int (nI _)), (2, .int (nI m))] ⟨rfl, rfl, rfl, trivial⟩ (K97 _ (by omega))
        · have e3 : brkC ltI n f m = 1 := by unfold brkC; rw [if_neg e]; exact bN_1 (decide_eq_true (Int32.not_le.mp q91))
          refine go_iinc dX2_brokenPairs_94 rfl (Nat.le_of_ble_eq_true rfl) rfl (show _ = _ + 1 from rfl) ?_
          rw [a_k1]
          exact go_sub [(0, .ref h), (1, .int (nI _)), (2, .int (nI m))] ⟨rfl, rfl, rfl, trivial⟩ (K97 _ (by omega))
    have K38 : ∀ b2 : Nat, b2 = b + brkA ltI n f m → Go l yX2_brokenPairs cX2_brokenPairs 3 (some .int) [] none (mm_Z (mm_eq (.inl (some (.int (nI r)))) (layW w h 2 [] f n c))) 2 0 0 38 [(0, .ref h), (1, .int (nI b2)), (2, .int (nI m))] [] (layW w h 2 [] f n c) := by
      intro b hb2
      by_cases e : m = 0
      · skip
        refine go_iload_n dX2_brokenPairs_38 rfl ?_
        refine go_if_le_t 67 dX2_brokenPairs_39 (by decide) (by rw [e]; decide) ?_
        have e3 : brkB ltI f m = 0 := if_pos e
        exact go_sub [(0, .ref h), (1, .int (nI _)), (2, .int (nI m))] ⟨rfl, rfl, rfl, trivial⟩ (K67 _ (by omega))
      · skip
        refine go_iload_n dX2_brokenPairs_38 rfl ?_
        refine go_if_le_f 67 dX2_brokenPairs_39 (by decide) (n_le0 (by omega) (by omega)) ?_
        refine go_aload_n dX2_brokenPairs_42 rfl ?_
        refine go_iload_n dX2_brokenPairs_43 rfl ?_
        refine go_stat1 dX2_brokenPairs_44 (c_low l (k := m)) s_X2_19 kc_X2_low rfl rfl (Nat.le_of_ble_eq_true rfl) (Nat.le_of_ble_eq_true rfl) (Nat.le_of_ble_eq_true rfl) ?_
        refine go_virt1 dX2_brokenPairs_47 (c_itemAt1 l hh (Or.inr (Or.inl rfl)) hn (j := 2 * m) (by omega)) v_X2_52_2 rfl (layW_ob hh) rfl (Nat.le_of_ble_eq_true rfl) (Nat.le_of_ble_eq_true rfl) (Nat.le_of_ble_eq_true rfl) ?_
        refine go_aload_n dX2_brokenPairs_50 rfl ?_
        refine go_iload_n dX2_brokenPairs_51 rfl ?_
        refine go_statU dX2_brokenPairs_52 (c_parentOf l (by omega) (by omega)) u_X2_33 kc_X3_parentOf rfl rfl (Nat.le_of_ble_eq_true rfl) (Nat.le_of_ble_eq_true rfl) (Nat.le_of_ble_eq_true rfl) ?_
        refine go_stat1 dX2_brokenPairs_55 (c_low l (k := (m - 1) / 2)) s_X2_19 kc_X2_low rfl rfl (Nat.le_of_ble_eq_true rfl) (Nat.le_of_ble_eq_true rfl) (Nat.le_of_ble_eq_true rfl) ?_
        refine go_virt1 dX2_brokenPairs_58 (c_itemAt1 l hh (Or.inr (Or.inl rfl)) hn (j := 2 * ((m - 1) / 2)) (by omega)) v_X2_52_2 rfl (layW_ob hh) rfl (Nat.le_of_ble_eq_true rfl) (Nat.le_of_ble_eq_true rfl) (Nat.le_of_ble_eq_true rfl) ?_
        refine go_icmp_ge 67 dX2_brokenPairs_61 (by decide) (fun q61 => ?_) (fun q61 => ?_)
        · have e3 : brkB ltI f m = 0 := by unfold brkB; rw [if_neg e]; exact bN_0 (decide_eq_false (Int32.not_lt.mpr q61))
          exact go_sub [(0, .ref h), (1, .int (nI _)), (2, .int (nI m))] ⟨rfl, rfl, rfl, trivial⟩ (K67 _ (by omega))
        · have e3 : brkB ltI f m = 1 := by unfold brkB; rw [if_neg e]; exact bN_1 (decide_eq_true (Int32.not_le.mp q61))
          refine go_iinc dX2_brokenPairs_64 rfl (Nat.le_of_ble_eq_true rfl) rfl (show _ = _ + 1 from rfl) ?_
          rw [a_k1]
          exact go_sub [(0, .ref h), (1, .int (nI _)), (2, .int (nI m))] ⟨rfl, rfl, rfl, trivial⟩ (K67 _ (by omega))
    refine go_iload_n dX2_brokenPairs_4 rfl ?_
    refine go_stat1 dX2_brokenPairs_5 (c_low l (k := m)) s_X2_19 kc_X2_low rfl rfl (Nat.le_of_ble_eq_true rfl) (Nat.le_of_ble_eq_true rfl) (Nat.le_of_ble_eq_true rfl) ?_
    refine go_aload_n dX2_brokenPairs_8 rfl ?_
    refine go_getfield dX2_brokenPairs_9 f_X2_15_2 (layW_ob hh) rfl ?_
    refine go_icmp_ge_f 103 dX2_brokenPairs_12 (by decide) (n_nle (by omega) (by omega)) ?_
    refine go_aload_n dX2_brokenPairs_15 rfl ?_
    refine go_aload_n dX2_brokenPairs_16 rfl ?_
    refine go_iload_n dX2_brokenPairs_17 rfl ?_
    refine go_virt1 dX2_brokenPairs_18 (c_top l hh hn (k := m) (by omega)) v_X2_22_2 rfl (layW_ob hh) rfl (Nat.le_of_ble_eq_true rfl) (Nat.le_of_ble_eq_true rfl) (Nat.le_of_ble_eq_true rfl) ?_
    refine go_virt1 dX2_brokenPairs_21 (c_itemAt1 l hh (Or.inr (Or.inl rfl)) hn (j := topN n m) (topN_lt (by omega))) v_X2_52_2 rfl (layW_ob hh) rfl (Nat.le_of_ble_eq_true rfl) (Nat.le_of_ble_eq_true rfl) (Nat.le_of_ble_eq_true rfl) ?_
    refine go_aload_n dX2_brokenPairs_24 rfl ?_
    refine go_iload_n dX2_brokenPairs_25 rfl ?_
    refine go_stat1 dX2_brokenPairs_26 (c_low l (k := m)) s_X2_19 kc_X2_low rfl rfl (Nat.le_of_ble_eq_true rfl) (Nat.le_of_ble_eq_true rfl) (Nat.le_of_ble_eq_true rfl) ?_
    refine go_virt1 dX2_brokenPairs_29 (c_itemAt1 l hh (Or.inr (Or.inl rfl)) hn (j := 2 * m) (by omega)) v_X2_52_2 rfl (layW_ob hh) rfl (Nat.le_of_ble_eq_true rfl) (Nat.le_of_ble_eq_true rfl) (Nat.le_of_ble_eq_true rfl) ?_
    refine go_icmp_ge 38 dX2_brokenPairs_32 (by decide) (fun q32 => ?_) (fun q32 => ?_)
    · have e3 : brkA ltI n f m = 0 := bN_0 (decide_eq_false (Int32.not_lt.mpr q32))
      exact go_sub [(0, .ref h), (1, .int (nI _)), (2, .int (nI m))] ⟨rfl, rfl, rfl, trivial⟩ (K38 _ (by omega))
    · have e3 : brkA ltI n f m = 1 := bN_1 (decide_eq_true (Int32.not_le.mp q32))
      refine go_iinc dX2_brokenPairs_35 rfl (Nat.le_of_ble_eq_true rfl) rfl (show _ = _ + 1 from rfl) ?_
      rw [a_k1]
      exact go_sub [(0, .ref h), (1, .int (nI _)), (2, .int (nI m))] ⟨rfl, rfl, rfl, trivial⟩ (K38 _ (by omega))
theorem c_broken0 (l : Launch) {w : MW} {h : Nat} {n : Nat} {f : Nat → Int32} {c : Int32} (hh : h + 1 < w.1) (hn : n ≤ 30) : Ct l (.code yX2_brokenPairs cX2_brokenPairs 3 (some .int)) yX2_brokenPairs 2 0 0 [.ref h] (layW w h 2 [] f n c) (.inl (some (.int (nI (brk0 ltI n f ((n + 1) / 2)))))) (layW w h 2 [] f n c) := by
  refine ct_of (by decide +kernel) (Nat.le_of_ble_eq_true rfl) ?_
  refine go_iconst 0 dX2_brokenPairs_0 (by decide) ?_
  refine go_istore_n dX2_brokenPairs_1 (Nat.le_of_ble_eq_true rfl) rfl ?_
  refine go_iconst 0 dX2_brokenPairs_2 (by decide) ?_
  refine go_istore_n dX2_brokenPairs_3 (Nat.le_of_ble_eq_true rfl) rfl ?_
  exact go_sub [(0, .ref h), (1, .int (nI 0)), (2, .int (nI 0))] ⟨rfl, rfl, rfl, trivial⟩ (c_broken0_4 l hh hn rfl ((n + 1) / 2) 0 0 (by omega) rfl (by omega))
