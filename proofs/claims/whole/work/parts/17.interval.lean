theorem c_low (l : Launch) {w : MW} {k : Nat} : Ct l (.code yX2_low cX2_low 1 (some .int)) yX2_low 0 0 0 [.int (nI k)] w (.inl (some (.int (nI (2 * k))))) w := by
  refine ct_of (by decide +kernel) (Nat.le_of_ble_eq_true rfl) ?_
  refine go_iconst 2 dX2_low_0 (by decide) ?_
  refine go_iload_n dX2_low_1 rfl ?_
  refine go_imul dX2_low_2 ?_
  rw [a_2]
  exact go_ireturn dX2_low_3 rfl rfl
theorem c_high (l : Launch) {w : MW} {k : Nat} : Ct l (.code yX2_high cX2_high 1 (some .int)) yX2_high 0 0 0 [.int (nI k)] w (.inl (some (.int (nI (2 * k + 1))))) w := by
  refine ct_of (by decide +kernel) (Nat.le_of_ble_eq_true rfl) ?_
  refine go_iconst 2 dX2_high_0 (by decide) ?_
  refine go_iload_n dX2_high_1 rfl ?_
  refine go_imul dX2_high_2 ?_
  rw [a_2]
  refine go_iconst 1 dX2_high_3 (by decide) ?_
  refine go_iadd dX2_high_4 ?_
  rw [a_k1]
  exact go_ireturn dX2_high_5 rfl rfl
theorem c_top (l : Launch) {w : MW} {h : Nat} {n : Nat} {f : Nat → Int32} {c : Int32} (hh : h + 1 < w.1) (hn : n ≤ 30) {k : Nat} (hk : k < 2 ^ 20) : Ct l (.code yX2_top cX2_top 2 (some .int)) yX2_top 1 0 0 [.ref h, .int (nI k)] (layW w h 2 [] f n c) (.inl (some (.int (nI (topN n k))))) (layW w h 2 [] f n c) := by
  refine ct_of (by decide +kernel) (Nat.le_of_ble_eq_true rfl) ?_
  refine go_iload_n dX2_top_0 rfl ?_
  refine go_stat1 dX2_top_1 (c_high l (k := k)) s_X2_9 kc_X2_high rfl rfl (Nat.le_of_ble_eq_true rfl) (Nat.le_of_ble_eq_true rfl) (Nat.le_of_ble_eq_true rfl) ?_
  refine go_aload_n dX2_top_4 rfl ?_
  refine go_getfield dX2_top_5 f_X2_15_2 (layW_ob hh) rfl ?_
  refine go_icmp_ge 18 dX2_top_8 (by decide) (fun q8 => ?_) (fun q8 => ?_)
  · have z8 := n_le' q8 (by omega) (by omega)
    rw [topN_0 (by omega)]
    refine go_iload_n dX2_top_18 rfl ?_
    refine go_stat1 dX2_top_19 (c_low l (k := k)) s_X2_19 kc_X2_low rfl rfl (Nat.le_of_ble_eq_true rfl) (Nat.le_of_ble_eq_true rfl) (Nat.le_of_ble_eq_true rfl) ?_
    exact go_ireturn dX2_top_22 rfl rfl
  · rw [topN_1 (n_lt' q8 (by omega))]
    refine go_iload_n dX2_top_11 rfl ?_
    refine go_stat1 dX2_top_12 (c_high l (k := k)) s_X2_9 kc_X2_high rfl rfl (Nat.le_of_ble_eq_true rfl) (Nat.le_of_ble_eq_true rfl) (Nat.le_of_ble_eq_true rfl) ?_
    refine go_goto 22 dX2_top_15 (by decide) ?_
    exact go_ireturn dX2_top_22 rfl rfl
theorem c_gpos0 (l : Launch) {w : MW} {h : Nat} {n : Nat} {f : Nat → Int32} {c : Int32} (hh : h + 1 < w.1) (hn : n ≤ 30) : Ct l (.code yX2_greatestPosition cX2_greatestPosition 1 (some .int)) yX2_greatestPosition 2 0 0 [.ref h] (layW w h 2 [] f n c) (.inl (some (.int (nI (topN n 0))))) (layW w h 2 [] f n c) := by
  refine ct_of (by decide +kernel) (Nat.le_of_ble_eq_true rfl) ?_
  refine go_aload_n dX2_greatestPosition_0 rfl ?_
  refine go_iconst 0 dX2_greatestPosition_1 (by decide) ?_
  refine go_virt1 dX2_greatestPosition_2 (c_top l hh hn (k := 0) (by decide)) v_X2_22_2 rfl (layW_ob hh) rfl (Nat.le_of_ble_eq_true rfl) (Nat.le_of_ble_eq_true rfl) (Nat.le_of_ble_eq_true rfl) ?_
  exact go_ireturn dX2_greatestPosition_5 rfl rfl
theorem c_order (l : Launch) {w : MW} {h : Nat} {n : Nat} {f : Nat → Int32} {c : Int32} (hh : h + 1 < w.1) (hn : n ≤ 30) {k : Nat} (hk : 2 * k < n) : Ct l (.code yX2_order cX2_order 2 none) yX2_order 1 0 0 [.ref h, .int (nI k)] (layW w h 2 [] f n c) (.inl none) (layP w h 2 [] n (orderS ltI n k (f, c))) := by
  refine ct_of (by decide +kernel) (Nat.le_of_ble_eq_true rfl) ?_
  refine go_iload_n dX2_order_0 rfl ?_
  refine go_stat1 dX2_order_1 (c_high l (k := k)) s_X2_9 kc_X2_high rfl rfl (Nat.le_of_ble_eq_true rfl) (Nat.le_of_ble_eq_true rfl) (Nat.le_of_ble_eq_true rfl) ?_
  refine go_aload_n dX2_order_4 rfl ?_
  refine go_getfield dX2_order_5 f_X2_15_2 (layW_ob hh) rfl ?_
  refine go_icmp_ge 39 dX2_order_8 (by decide) (fun q8 => ?_) (fun q8 => ?_)
  · have z8 := (nI_leI (by omega) (by omega)).mp q8
    rw [show orderS ltI n k (f, c) = (f, c) from if_neg (by omega)]
    exact go_return dX2_order_39 rfl
  · have z8 : 2 * k + 1 < n := n_lt' q8 (by omega)
    refine go_aload_n dX2_order_11 rfl ?_
    refine go_iload_n dX2_order_12 rfl ?_
    refine go_stat1 dX2_order_13 (c_high l (k := k)) s_X2_9 kc_X2_high rfl rfl (Nat.le_of_ble_eq_true rfl) (Nat.le_of_ble_eq_true rfl) (Nat.le_of_ble_eq_true rfl) ?_
    refine go_iload_n dX2_order_16 rfl ?_
    refine go_stat1 dX2_order_17 (c_low l (k := k)) s_X2_19 kc_X2_low rfl rfl (Nat.le_of_ble_eq_true rfl) (Nat.le_of_ble_eq_true rfl) (Nat.le_of_ble_eq_true rfl) ?_
    refine go_iconst 1 dX2_order_20 (by decide) ?_
    refine go_virt1 dX2_order_21 (c_aheadL l hh (Or.inr (Or.inl rfl)) hn (i := 2 * k + 1) (j := 2 * k) (by omega) (by omega)) v_X2_25_2 rfl (layW_ob hh) rfl (Nat.le_of_ble_eq_true rfl) (Nat.le_of_ble_eq_true rfl) (Nat.le_of_ble_eq_true rfl) ?_
    refine go_if_eq 39 dX2_order_24 (by decide) (fun q24 => ?_) (fun q24 => ?_)
    · rw [show orderS ltI n k (f, c) = (f, c + 1) from by unfold orderS; rw [if_pos z8, if_neg (by simpa [ltI] using bI_eq.mp q24)]]
      exact go_return dX2_order_39 rfl
    · rw [show orderS ltI n k (f, c) = (sw f (2 * k + 1) (2 * k), c + 1) from by unfold orderS; rw [if_pos z8, if_pos (by simpa [ltI] using bI_ne.mp q24)]]
      refine go_aload_n dX2_order_27 rfl ?_
      refine go_iload_n dX2_order_28 rfl ?_
      refine go_stat1 dX2_order_29 (c_high l (k := k)) s_X2_9 kc_X2_high rfl rfl (Nat.le_of_ble_eq_true rfl) (Nat.le_of_ble_eq_true rfl) (Nat.le_of_ble_eq_true rfl) ?_
      refine go_iload_n dX2_order_32 rfl ?_
      refine go_stat1 dX2_order_33 (c_low l (k := k)) s_X2_19 kc_X2_low rfl rfl (Nat.le_of_ble_eq_true rfl) (Nat.le_of_ble_eq_true rfl) (Nat.le_of_ble_eq_true rfl) ?_
      refine go_virt0 dX2_order_36 (c_exchange l hh (Or.inr (Or.inl rfl)) hn (i := 2 * k + 1) (j := 2 * k) (by omega) (by omega)) v_X2_29_2 rfl (layW_ob hh) rfl (Nat.le_of_ble_eq_true rfl) (Nat.le_of_ble_eq_true rfl) (Nat.le_of_ble_eq_true rfl) ?_
      exact go_return dX2_order_39 rfl
theorem c_riseLow_2 (l : Launch) {w : MW} {h : Nat} {n : Nat} (hh : h + 1 < w.1) (hn : n ≤ 30) : ∀ (u k : Nat) (s r : QS), k ≤ u → 2 * k < n → r = riseLowS ltI u k s → Go l yX2_riseLow cX2_riseLow 4 none [] none (mm_Z (mm_eq (.inl none) (layP w h 2 [] n r))) 1 0 0 2 [(0, .ref h), (2, .int (nI k))] [] (layP w h 2 [] n s) := by
  intro u
  induction u with
  | zero =>
    intro k s r hk hkn hr
    have e : k = 0 := by omega
    subst e
    subst hr
    refine go_iload_n dX2_riseLow_2 rfl ?_
    refine go_if_le_t 46 dX2_riseLow_3 (by decide) (by decide) ?_
    exact go_return dX2_riseLow_46 rfl
  | succ u ih =>
    intro k s r hk hkn hr
    by_cases e : k = 0
    · subst e
      rw [show riseLowS ltI (u + 1) 0 s = s from by unfold riseLowS; rw [if_pos rfl]] at hr
      subst hr
      refine go_iload_n dX2_riseLow_2 rfl ?_
      refine go_if_le_t 46 dX2_riseLow_3 (by decide) (by decide) ?_
      exact go_return dX2_riseLow_46 rfl
    · have k0 : 0 < k := by omega
      unfold riseLowS at hr
      rw [if_neg e] at hr
      refine go_iload_n dX2_riseLow_2 rfl ?_
      refine go_if_le_f 46 dX2_riseLow_3 (by decide) (n_le0 k0 (by omega)) ?_
      refine go_iload_n dX2_riseLow_6 rfl ?_
      refine go_statU dX2_riseLow_7 (c_parentOf l k0 (by omega)) u_X2_33 kc_X3_parentOf rfl rfl (Nat.le_of_ble_eq_true rfl) (Nat.le_of_ble_eq_true rfl) (Nat.le_of_ble_eq_true rfl) ?_
      refine go_stat1 dX2_riseLow_10 (c_low l (k := (k - 1) / 2)) s_X2_19 kc_X2_low rfl rfl (Nat.le_of_ble_eq_true rfl) (Nat.le_of_ble_eq_true rfl) (Nat.le_of_ble_eq_true rfl) ?_
      refine go_istore_n dX2_riseLow_13 (Nat.le_of_ble_eq_true rfl) rfl ?_
      refine go_aload_n dX2_riseLow_14 rfl ?_
      refine go_iload_n dX2_riseLow_15 rfl ?_
      refine go_stat1 dX2_riseLow_16 (c_low l (k := k)) s_X2_19 kc_X2_low rfl rfl (Nat.le_of_ble_eq_true rfl) (Nat.le_of_ble_eq_true rfl) (Nat.le_of_ble_eq_true rfl) ?_
      refine go_iload_n dX2_riseLow_19 rfl ?_
      refine go_iconst 1 dX2_riseLow_20 (by decide) ?_
      refine go_virt1 dX2_riseLow_21 (c_aheadL l hh (Or.inr (Or.inl rfl)) hn (i := 2 * k) (j := 2 * ((k - 1) / 2)) (by omega) (by omega)) v_X2_25_2 rfl (layW_ob hh) rfl (Nat.le_of_ble_eq_true rfl) (Nat.le_of_ble_eq_true rfl) (Nat.le_of_ble_eq_true rfl) ?_
      refine go_if_ne 28 dX2_riseLow_24 (by decide) (fun q24 => ?_) (fun q24 => ?_)
      · rw [if_pos (by simpa [ltI] using bI_ne.mp q24)] at hr
        refine go_aload_n dX2_riseLow_28 rfl ?_
        refine go_iload_n dX2_riseLow_29 rfl ?_
        refine go_stat1 dX2_riseLow_30 (c_low l (k := k)) s_X2_19 kc_X2_low rfl rfl (Nat.le_of_ble_eq_true rfl) (Nat.le_of_ble_eq_true rfl) (Nat.le_of_ble_eq_true rfl) ?_
        refine go_iload_n dX2_riseLow_33 rfl ?_
        refine go_virt0 dX2_riseLow_34 (c_exchange l hh (Or.inr (Or.inl rfl)) hn (i := 2 * k) (j := 2 * ((k - 1) / 2)) (by omega) (by omega)) v_X2_29_2 rfl (layW_ob hh) rfl (Nat.le_of_ble_eq_true rfl) (Nat.le_of_ble_eq_true rfl) (Nat.le_of_ble_eq_true rfl) ?_
        refine go_iload_n dX2_riseLow_37 rfl ?_
        refine go_iconst 1 dX2_riseLow_38 (by decide) ?_
        refine go_isub dX2_riseLow_39 ?_
        refine go_iconst 2 dX2_riseLow_40 (by decide) ?_
        refine go_idiv dX2_riseLow_41 (by decide) ?_
        rw [a_par k0 (by omega)]
        refine go_istore_n dX2_riseLow_42 (Nat.le_of_ble_eq_true rfl) rfl ?_
        refine go_goto 2 dX2_riseLow_43 (by decide) ?_
        exact go_sub [(0, .ref h), (2, .int (nI ((k - 1) / 2)))] ⟨rfl, rfl, trivial⟩ (ih ((k - 1) / 2) _ r (by omega) (by omega) hr)
      · rw [if_neg (by simpa [ltI] using bI_eq.mp q24)] at hr
        subst hr
        exact go_return dX2_riseLow_27 rfl
theorem c_riseLow (l : Launch) {w : MW} {h : Nat} {n : Nat} {f : Nat → Int32} {c : Int32} (hh : h + 1 < w.1) (hn : n ≤ 30) {k : Nat} (hk : 2 * k < n) : Ct l (.code yX2_riseLow cX2_riseLow 4 none) yX2_riseLow 1 0 0 [.ref h, .int (nI k)] (layW w h 2 [] f n c) (.inl none) (layP w h 2 [] n (riseLowS ltI 30 k (f, c))) := by
  refine ct_of (by decide +kernel) (Nat.le_of_ble_eq_true rfl) ?_
  refine go_iload_n dX2_riseLow_0 rfl ?_
  refine go_istore_n dX2_riseLow_1 (Nat.le_of_ble_eq_true rfl) rfl ?_
  exact go_sub [(0, .ref h), (2, .int (nI k))] ⟨rfl, rfl, trivial⟩ (c_riseLow_2 l hh hn 30 k (f, c) _ (by omega) hk rfl)
theorem c_riseHigh_5 (l : Launch) {w : MW} {h : Nat} {n : Nat} (hh : h + 1 < w.1) (hn : n ≤ 30) : ∀ (u k i : Nat) (s r : QS), k ≤ u → 2 * k < n → i < n → r = riseHighS ltI u k i s → Go l yX2_riseHigh cX2_riseHigh 6 none [] none (mm_Z (mm_eq (.inl none) (layP w h 2 [] n r))) 1 0 0 5 [(0, .ref h), (3, .int (nI i)), (4, .int (nI k))] [] (layP w h 2 [] n s) := by
  intro u
  induction u with
  | zero =>
    intro k i s r hk hkn hi hr
    have e : k = 0 := by omega
    subst e
    subst hr
    refine go_iload dX2_riseHigh_5 rfl ?_
    refine go_if_le_t 53 dX2_riseHigh_7 (by decide) (by decide) ?_
    exact go_return dX2_riseHigh_53 rfl
  | succ u ih =>
    intro k i s r hk hkn hi hr
    by_cases e : k = 0
    · subst e
      rw [show riseHighS ltI (u + 1) 0 i s = s from by unfold riseHighS; rw [if_pos rfl]] at hr
      subst hr
      refine go_iload dX2_riseHigh_5 rfl ?_
      refine go_if_le_t 53 dX2_riseHigh_7 (by decide) (by decide) ?_
      exact go_return dX2_riseHigh_53 rfl
    · have k0 : 0 < k := by omega
      unfold riseHighS at hr
      rw [if_neg e] at hr
      refine go_iload dX2_riseHigh_5 rfl ?_
      refine go_if_le_f 53 dX2_riseHigh_7 (by decide) (n_le0 k0 (by omega)) ?_
      refine go_iload dX2_riseHigh_10 rfl ?_
      refine go_statU dX2_riseHigh_12 (c_parentOf l k0 (by omega)) u_X2_33 kc_X3_parentOf rfl rfl (Nat.le_of_ble_eq_true rfl) (Nat.le_of_ble_eq_true rfl) (Nat.le_of_ble_eq_true rfl) ?_
      refine go_stat1 dX2_riseHigh_15 (c_high l (k := (k - 1) / 2)) s_X2_9 kc_X2_high rfl rfl (Nat.le_of_ble_eq_true rfl) (Nat.le_of_ble_eq_true rfl) (Nat.le_of_ble_eq_true rfl) ?_
      refine go_istore dX2_riseHigh_18 (Nat.le_of_ble_eq_true rfl) rfl ?_
      refine go_aload_n dX2_riseHigh_20 rfl ?_
      refine go_iload dX2_riseHigh_21 rfl ?_
      refine go_iload_n dX2_riseHigh_23 rfl ?_
      refine go_iconst 1 dX2_riseHigh_24 (by decide) ?_
      refine go_virt1 dX2_riseHigh_25 (c_aheadL l hh (Or.inr (Or.inl rfl)) hn (i := 2 * ((k - 1) / 2) + 1) (j := i) (by omega) hi) v_X2_25_2 rfl (layW_ob hh) rfl (Nat.le_of_ble_eq_true rfl) (Nat.le_of_ble_eq_true rfl) (Nat.le_of_ble_eq_true rfl) ?_
      refine go_if_ne 32 dX2_riseHigh_28 (by decide) (fun q28 => ?_) (fun q28 => ?_)
      · rw [if_pos (by simpa [ltI] using bI_ne.mp q28)] at hr
        refine go_aload_n dX2_riseHigh_32 rfl ?_
        refine go_iload dX2_riseHigh_33 rfl ?_
        refine go_iload_n dX2_riseHigh_35 rfl ?_
        refine go_virt0 dX2_riseHigh_36 (c_exchange l hh (Or.inr (Or.inl rfl)) hn (i := 2 * ((k - 1) / 2) + 1) (j := i) (by omega) hi) v_X2_29_2 rfl (layW_ob hh) rfl (Nat.le_of_ble_eq_true rfl) (Nat.le_of_ble_eq_true rfl) (Nat.le_of_ble_eq_true rfl) ?_
        refine go_iload dX2_riseHigh_39 rfl ?_
        refine go_istore_n dX2_riseHigh_41 (Nat.le_of_ble_eq_true rfl) rfl ?_
        refine go_iload dX2_riseHigh_42 rfl ?_
        refine go_iconst 1 dX2_riseHigh_44 (by decide) ?_
        refine go_isub dX2_riseHigh_45 ?_
        refine go_iconst 2 dX2_riseHigh_46 (by decide) ?_
        refine go_idiv dX2_riseHigh_47 (by decide) ?_
        rw [a_par k0 (by omega)]
        refine go_istore dX2_riseHigh_48 (Nat.le_of_ble_eq_true rfl) rfl ?_
        refine go_goto 5 dX2_riseHigh_50 (by decide) ?_
        exact go_sub [(0, .ref h), (3, .int (nI (2 * ((k - 1) / 2) + 1))), (4, .int (nI ((k - 1) / 2)))] ⟨rfl, rfl, rfl, trivial⟩ (ih ((k - 1) / 2) _ _ r (by omega) (by omega) (by omega) hr)
      · rw [if_neg (by simpa [ltI] using bI_eq.mp q28)] at hr
        subst hr
        exact go_return dX2_riseHigh_31 rfl
theorem c_riseHigh (l : Launch) {w : MW} {h : Nat} {n : Nat} {f : Nat → Int32} {c : Int32} (hh : h + 1 < w.1) (hn : n ≤ 30) {k i : Nat} (hk : 2 * k < n) (hi : i < n) : Ct l (.code yX2_riseHigh cX2_riseHigh 6 none) yX2_riseHigh 1 0 0 [.ref h, .int (nI k), .int (nI i)] (layW w h 2 [] f n c) (.inl none) (layP w h 2 [] n (riseHighS ltI 30 k i (f, c))) := by
  refine ct_of (by decide +kernel) (Nat.le_of_ble_eq_true rfl) ?_
  refine go_iload_n dX2_riseHigh_0 rfl ?_
  refine go_istore_n dX2_riseHigh_1 (Nat.le_of_ble_eq_true rfl) rfl ?_
  refine go_iload_n dX2_riseHigh_2 rfl ?_
  refine go_istore dX2_riseHigh_3 (Nat.le_of_ble_eq_true rfl) rfl ?_
  exact go_sub [(0, .ref h), (3, .int (nI i)), (4, .int (nI k))] ⟨rfl, rfl, rfl, trivial⟩ (c_riseHigh_5 l hh hn 30 k i (f, c) _ (by omega) hk hi rfl)
theorem c_sinkLow_J (l : Launch) {w : MW} {h : Nat} {n : Nat} (hh : h + 1 < w.1) (hn : n ≤ 30) {u t k ch : Nat} {x r : QS} (ht : t < 30) (hk : 2 * k < n) (hch : 2 * ch < n) (ih : ∀ (k : Nat) (s r : QS), 2 * k < n → r = sinkLowS ltI n u k s → Go l yX2_sinkLow cX2_sinkLow 7 none [] none (mm_Z (mm_eq (.inl none) (layP w h 2 [] n r))) 2 0 0 4 [(0, .ref h), (2, .int (nI k)), (3, .int (nI (t + 1)))] [] (layP w h 2 [] n s)) (hr : r = if ltI (x.1 (2 * ch)) (x.1 (2 * k)) then sinkLowS ltI n u ch (sw x.1 (2 * ch) (2 * k), x.2 + 1) else (x.1, x.2 + 1)) : Go l yX2_sinkLow cX2_sinkLow 7 none [] none (mm_Z (mm_eq (.inl none) (layP w h 2 [] n r))) 2 0 0 78 [(0, .ref h), (2, .int (nI k)), (3, .int (nI t))] [.int (nI ch)] (layP w h 2 [] n x) := by
  refine go_istore dX2_sinkLow_78 (Nat.le_of_ble_eq_true rfl) rfl ?_
  refine go_aload_n dX2_sinkLow_80 rfl ?_
  refine go_iload dX2_sinkLow_81 rfl ?_
  refine go_stat1 dX2_sinkLow_83 (c_low l (k := ch)) s_X2_19 kc_X2_low rfl rfl (Nat.le_of_ble_eq_true rfl) (Nat.le_of_ble_eq_true rfl) (Nat.le_of_ble_eq_true rfl) ?_
  refine go_iload_n dX2_sinkLow_86 rfl ?_
  refine go_stat1 dX2_sinkLow_87 (c_low l (k := k)) s_X2_19 kc_X2_low rfl rfl (Nat.le_of_ble_eq_true rfl) (Nat.le_of_ble_eq_true rfl) (Nat.le_of_ble_eq_true rfl) ?_
  refine go_iconst 1 dX2_sinkLow_90 (by decide) ?_
  refine go_virt1 dX2_sinkLow_91 (c_aheadL l hh (Or.inr (Or.inl rfl)) hn (i := 2 * ch) (j := 2 * k) (by omega) (by omega)) v_X2_25_2 rfl (layW_ob hh) rfl (Nat.le_of_ble_eq_true rfl) (Nat.le_of_ble_eq_true rfl) (Nat.le_of_ble_eq_true rfl) ?_
  refine go_if_ne 98 dX2_sinkLow_94 (by decide) (fun q94 => ?_) (fun q94 => ?_)
  · rw [if_pos (by simpa [ltI] using bI_ne.mp q94)] at hr
    refine go_aload_n dX2_sinkLow_98 rfl ?_
    refine go_iload dX2_sinkLow_99 rfl ?_
    refine go_stat1 dX2_sinkLow_101 (c_low l (k := ch)) s_X2_19 kc_X2_low rfl rfl (Nat.le_of_ble_eq_true rfl) (Nat.le_of_ble_eq_true rfl) (Nat.le_of_ble_eq_true rfl) ?_
    refine go_iload_n dX2_sinkLow_104 rfl ?_
    refine go_stat1 dX2_sinkLow_105 (c_low l (k := k)) s_X2_19 kc_X2_low rfl rfl (Nat.le_of_ble_eq_true rfl) (Nat.le_of_ble_eq_true rfl) (Nat.le_of_ble_eq_true rfl) ?_
    refine go_virt0 dX2_sinkLow_108 (c_exchange l hh (Or.inr (Or.inl rfl)) hn (i := 2 * ch) (j := 2 * k) (by omega) (by omega)) v_X2_29_2 rfl (layW_ob hh) rfl (Nat.le_of_ble_eq_true rfl) (Nat.le_of_ble_eq_true rfl) (Nat.le_of_ble_eq_true rfl) ?_
    refine go_iload dX2_sinkLow_111 rfl ?_
    refine go_istore_n dX2_sinkLow_113 (Nat.le_of_ble_eq_true rfl) rfl ?_
    refine go_iinc dX2_sinkLow_114 rfl (Nat.le_of_ble_eq_true rfl) rfl (show _ = _ + 1 from rfl) ?_
    refine go_goto 4 dX2_sinkLow_117 (by decide) ?_
    rw [a_k1]
    exact go_sub [(0, .ref h), (2, .int (nI ch)), (3, .int (nI (t + 1)))] ⟨rfl, rfl, rfl, trivial⟩ (ih ch _ r (by omega) hr)
  · rw [if_neg (by simpa [ltI] using bI_eq.mp q94)] at hr
    subst hr
    exact go_return dX2_sinkLow_97 rfl
theorem c_sinkLow_4 (l : Launch) {w : MW} {h : Nat} {n : Nat} (hh : h + 1 < w.1) (hn : n ≤ 30) : ∀ (u t : Nat), u + t = 30 → ∀ (k : Nat) (s r : QS), 2 * k < n → r = sinkLowS ltI n u k s → Go l yX2_sinkLow cX2_sinkLow 7 none [] none (mm_Z (mm_eq (.inl none) (layP w h 2 [] n r))) 2 0 0 4 [(0, .ref h), (2, .int (nI k)), (3, .int (nI t))] [] (layP w h 2 [] n s) := by
  intro u
  induction u with
  | zero =>
    intro t ht k s r hk hr
    have e : t = 30 := by omega
    subst e
    subst hr
    refine go_iload_n dX2_sinkLow_4 rfl ?_
    refine go_bipush 30 dX2_sinkLow_5 (by decide) ?_
    refine go_icmp_ge_t 120 dX2_sinkLow_7 (by decide) (by decide) ?_
    exact go_return dX2_sinkLow_120 rfl
  | succ u ih =>
    intro t ht k s r hk hr
    unfold sinkLowS at hr
    simp only at hr
    refine go_iload_n dX2_sinkLow_4 rfl ?_
    refine go_bipush 30 dX2_sinkLow_5 (by decide) ?_
    refine go_icmp_ge_f 120 dX2_sinkLow_7 (by decide) (n_nle (a := 30) (show t < 30 by omega) (by decide)) ?_
    refine go_aload_n dX2_sinkLow_10 rfl ?_
    refine go_iload_n dX2_sinkLow_11 rfl ?_
    refine go_virt0 dX2_sinkLow_12 (c_order l hh hn hk) v_X2_36_2 rfl (layW_ob hh) rfl (Nat.le_of_ble_eq_true rfl) (Nat.le_of_ble_eq_true rfl) (Nat.le_of_ble_eq_true rfl) ?_
    refine go_iconst 2 dX2_sinkLow_15 (by decide) ?_
    refine go_iload_n dX2_sinkLow_16 rfl ?_
    refine go_imul dX2_sinkLow_17 ?_
    refine go_iconst 1 dX2_sinkLow_18 (by decide) ?_
    refine go_iadd dX2_sinkLow_19 ?_
    rw [a_2, a_k1]
    refine go_istore dX2_sinkLow_20 (Nat.le_of_ble_eq_true rfl) rfl ?_
    refine go_iload dX2_sinkLow_22 rfl ?_
    refine go_iconst 1 dX2_sinkLow_24 (by decide) ?_
    refine go_iadd dX2_sinkLow_25 ?_
    rw [a_k1]
    refine go_istore dX2_sinkLow_26 (Nat.le_of_ble_eq_true rfl) rfl ?_
    refine go_iload dX2_sinkLow_28 rfl ?_
    refine go_stat1 dX2_sinkLow_30 (c_low l (k := (2 * k + 1))) s_X2_19 kc_X2_low rfl rfl (Nat.le_of_ble_eq_true rfl) (Nat.le_of_ble_eq_true rfl) (Nat.le_of_ble_eq_true rfl) ?_
    refine go_aload_n dX2_sinkLow_33 rfl ?_
    refine go_getfield dX2_sinkLow_34 f_X2_15_2 (layW_ob hh) rfl ?_
    refine go_icmp_lt 41 dX2_sinkLow_37 (by decide) (fun q37 => ?_) (fun q37 => ?_)
    · have z37 := n_lt2 q37 (by omega) (by omega)
      rw [if_pos z37] at hr
      refine go_iload dX2_sinkLow_41 rfl ?_
      refine go_stat1 dX2_sinkLow_43 (c_low l (k := (2 * k + 2))) s_X2_19 kc_X2_low rfl rfl (Nat.le_of_ble_eq_true rfl) (Nat.le_of_ble_eq_true rfl) (Nat.le_of_ble_eq_true rfl) ?_
      refine go_aload_n dX2_sinkLow_46 rfl ?_
      refine go_getfield dX2_sinkLow_47 f_X2_15_2 (layW_ob hh) rfl ?_
      refine go_icmp_ge 76 dX2_sinkLow_50 (by decide) (fun q50 => ?_) (fun q50 => ?_)
      · have z50 := n_le' q50 (by omega) (by omega)
        rw [decide_eq_false (show ¬ 2 * (2 * k + 2) < n by omega)] at hr
        simp only [Bool.false_eq_true, if_false, chS_0] at hr
        have J := fun (ch : Nat) (hc : 2 * ch < n) => c_sinkLow_J l hh hn (u := u) (t := t) (k := k) (ch := ch) (x := orderS ltI n k s) (r := r) (by omega) hk hc (ih (t + 1) (by omega))
        refine go_iload dX2_sinkLow_76 rfl ?_
        exact go_sub [(0, .ref h), (2, .int (nI k)), (3, .int (nI t))] ⟨rfl, rfl, rfl, trivial⟩ (J _ (by omega) hr)
      · have z50 := n_lt' q50 (by omega)
        rw [decide_eq_true z50] at hr
        simp only [if_true] at hr
        have J := fun (ch : Nat) (hc : 2 * ch < n) => c_sinkLow_J l hh hn (u := u) (t := t) (k := k) (ch := ch) (x := ((orderS ltI n k s).1, (orderS ltI n k s).2 + 1)) (r := r) (by omega) hk hc (ih (t + 1) (by omega))
        refine go_aload_n dX2_sinkLow_53 rfl ?_
        refine go_iload dX2_sinkLow_54 rfl ?_
        refine go_stat1 dX2_sinkLow_56 (c_low l (k := (2 * k + 2))) s_X2_19 kc_X2_low rfl rfl (Nat.le_of_ble_eq_true rfl) (Nat.le_of_ble_eq_true rfl) (Nat.le_of_ble_eq_true rfl) ?_
        refine go_iload dX2_sinkLow_59 rfl ?_
        refine go_stat1 dX2_sinkLow_61 (c_low l (k := (2 * k + 1))) s_X2_19 kc_X2_low rfl rfl (Nat.le_of_ble_eq_true rfl) (Nat.le_of_ble_eq_true rfl) (Nat.le_of_ble_eq_true rfl) ?_
        refine go_iconst 1 dX2_sinkLow_64 (by decide) ?_
        refine go_virt1 dX2_sinkLow_65 (c_aheadL l hh (Or.inr (Or.inl rfl)) hn (i := 2 * (2 * k + 2)) (j := 2 * (2 * k + 1)) (by omega) (by omega)) v_X2_25_2 rfl (layW_ob hh) rfl (Nat.le_of_ble_eq_true rfl) (Nat.le_of_ble_eq_true rfl) (Nat.le_of_ble_eq_true rfl) ?_
        refine go_if_eq 76 dX2_sinkLow_68 (by decide) (fun q68 => ?_) (fun q68 => ?_)
        · rw [chS_f (by simpa [ltI] using bI_eq.mp q68)] at hr
          refine go_iload dX2_sinkLow_76 rfl ?_
          exact go_sub [(0, .ref h), (2, .int (nI k)), (3, .int (nI t))] ⟨rfl, rfl, rfl, trivial⟩ (J _ (by omega) hr)
        · rw [chS_t (by simpa [ltI] using bI_ne.mp q68)] at hr
          refine go_iload dX2_sinkLow_71 rfl ?_
          refine go_goto 78 dX2_sinkLow_73 (by decide) ?_
          exact go_sub [(0, .ref h), (2, .int (nI k)), (3, .int (nI t))] ⟨rfl, rfl, rfl, trivial⟩ (J _ (by omega) hr)
    · have z37 := n_ge2 q37 (by omega)
      rw [if_neg (by omega)] at hr
      subst hr
      exact go_return dX2_sinkLow_40 rfl
theorem c_sinkLow (l : Launch) {w : MW} {h : Nat} {n : Nat} {f : Nat → Int32} {c : Int32} (hh : h + 1 < w.1) (hn : n ≤ 30) {k : Nat} (hk : 2 * k < n) : Ct l (.code yX2_sinkLow cX2_sinkLow 7 none) yX2_sinkLow 2 0 0 [.ref h, .int (nI k)] (layW w h 2 [] f n c) (.inl none) (layP w h 2 [] n (sinkLowS ltI n 30 k (f, c))) := by
  refine ct_of (by decide +kernel) (Nat.le_of_ble_eq_true rfl) ?_
  refine go_iload_n dX2_sinkLow_0 rfl ?_
  refine go_istore_n dX2_sinkLow_1 (Nat.le_of_ble_eq_true rfl) rfl ?_
  refine go_iconst 0 dX2_sinkLow_2 (by decide) ?_
  refine go_istore_n dX2_sinkLow_3 (Nat.le_of_ble_eq_true rfl) rfl ?_
  exact go_sub [(0, .ref h), (2, .int (nI k)), (3, .int (nI 0))] ⟨rfl, rfl, rfl, trivial⟩ (c_sinkLow_4 l hh hn 30 0 rfl k (f, c) _ hk rfl)
theorem c_sinkHigh_J (l : Launch) {w : MW} {h : Nat} {n : Nat} (hh : h + 1 < w.1) (hn : n ≤ 30) {u t k ch : Nat} {x r : QS} (ht : t < 30) (hk : 2 * k < n) (hch : 2 * ch < n) (ih : ∀ (k : Nat) (s r : QS), 2 * k < n → r = sinkHighS ltI n u k s → Go l yX2_sinkHigh cX2_sinkHigh 7 none [] none (mm_Z (mm_eq (.inl none) (layP w h 2 [] n r))) 2 0 0 4 [(0, .ref h), (2, .int (nI k)), (3, .int (nI (t + 1)))] [] (layP w h 2 [] n s)) (hr : r = if ltI (x.1 (topN n k)) (x.1 (topN n ch)) then sinkHighS ltI n u ch (sw x.1 (topN n k) (topN n ch), x.2 + 1) else (x.1, x.2 + 1)) : Go l yX2_sinkHigh cX2_sinkHigh 7 none [] none (mm_Z (mm_eq (.inl none) (layP w h 2 [] n r))) 2 0 0 80 [(0, .ref h), (2, .int (nI k)), (3, .int (nI t))] [.int (nI ch)] (layP w h 2 [] n x) := by
  refine go_istore dX2_sinkHigh_80 (Nat.le_of_ble_eq_true rfl) rfl ?_
  refine go_aload_n dX2_sinkHigh_82 rfl ?_
  refine go_aload_n dX2_sinkHigh_83 rfl ?_
  refine go_iload_n dX2_sinkHigh_84 rfl ?_
  refine go_virt1 dX2_sinkHigh_85 (c_top l hh hn (k := k) (by omega)) v_X2_22_2 rfl (layW_ob hh) rfl (Nat.le_of_ble_eq_true rfl) (Nat.le_of_ble_eq_true rfl) (Nat.le_of_ble_eq_true rfl) ?_
  refine go_aload_n dX2_sinkHigh_88 rfl ?_
  refine go_iload dX2_sinkHigh_89 rfl ?_
  refine go_virt1 dX2_sinkHigh_91 (c_top l hh hn (k := ch) (by omega)) v_X2_22_2 rfl (layW_ob hh) rfl (Nat.le_of_ble_eq_true rfl) (Nat.le_of_ble_eq_true rfl) (Nat.le_of_ble_eq_true rfl) ?_
  refine go_iconst 1 dX2_sinkHigh_94 (by decide) ?_
  refine go_virt1 dX2_sinkHigh_95 (c_aheadL l hh (Or.inr (Or.inl rfl)) hn (i := topN n k) (j := topN n ch) (topN_lt (by omega)) (topN_lt (by omega))) v_X2_25_2 rfl (layW_ob hh) rfl (Nat.le_of_ble_eq_true rfl) (Nat.le_of_ble_eq_true rfl) (Nat.le_of_ble_eq_true rfl) ?_
  refine go_if_ne 102 dX2_sinkHigh_98 (by decide) (fun q98 => ?_) (fun q98 => ?_)
  · rw [if_pos (by simpa [ltI] using bI_ne.mp q98)] at hr
    refine go_aload_n dX2_sinkHigh_102 rfl ?_
    refine go_aload_n dX2_sinkHigh_103 rfl ?_
    refine go_iload_n dX2_sinkHigh_104 rfl ?_
    refine go_virt1 dX2_sinkHigh_105 (c_top l hh hn (k := k) (by omega)) v_X2_22_2 rfl (layW_ob hh) rfl (Nat.le_of_ble_eq_true rfl) (Nat.le_of_ble_eq_true rfl) (Nat.le_of_ble_eq_true rfl) ?_
    refine go_aload_n dX2_sinkHigh_108 rfl ?_
    refine go_iload dX2_sinkHigh_109 rfl ?_
    refine go_virt1 dX2_sinkHigh_111 (c_top l hh hn (k := ch) (by omega)) v_X2_22_2 rfl (layW_ob hh) rfl (Nat.le_of_ble_eq_true rfl) (Nat.le_of_ble_eq_true rfl) (Nat.le_of_ble_eq_true rfl) ?_
    refine go_virt0 dX2_sinkHigh_114 (c_exchange l hh (Or.inr (Or.inl rfl)) hn (i := topN n k) (j := topN n ch) (topN_lt (by omega)) (topN_lt (by omega))) v_X2_29_2 rfl (layW_ob hh) rfl (Nat.le_of_ble_eq_true rfl) (Nat.le_of_ble_eq_true rfl) (Nat.le_of_ble_eq_true rfl) ?_
    refine go_iload dX2_sinkHigh_117 rfl ?_
    refine go_istore_n dX2_sinkHigh_119 (Nat.le_of_ble_eq_true rfl) rfl ?_
    refine go_iinc dX2_sinkHigh_120 rfl (Nat.le_of_ble_eq_true rfl) rfl (show _ = _ + 1 from rfl) ?_
    refine go_goto 4 dX2_sinkHigh_123 (by decide) ?_
    rw [a_k1]
    exact go_sub [(0, .ref h), (2, .int (nI ch)), (3, .int (nI (t + 1)))] ⟨rfl, rfl, rfl, trivial⟩ (ih ch _ r (by omega) hr)
  · rw [if_neg (by simpa [ltI] using bI_eq.mp q98)] at hr
    subst hr
    exact go_return dX2_sinkHigh_101 rfl
theorem c_sinkHigh_4 (l : Launch) {w : MW} {h : Nat} {n : Nat} (hh : h + 1 < w.1) (hn : n ≤ 30) : ∀ (u t : Nat), u + t = 30 → ∀ (k : Nat) (s r : QS), 2 * k < n → r = sinkHighS ltI n u k s → Go l yX2_sinkHigh cX2_sinkHigh 7 none [] none (mm_Z (mm_eq (.inl none) (layP w h 2 [] n r))) 2 0 0 4 [(0, .ref h), (2, .int (nI k)), (3, .int (nI t))] [] (layP w h 2 [] n s) := by
  intro u
  induction u with
  | zero =>
    intro t ht k s r hk hr
    have e : t = 30 := by omega
    subst e
    subst hr
    refine go_iload_n dX2_sinkHigh_4 rfl ?_
    refine go_bipush 30 dX2_sinkHigh_5 (by decide) ?_
    refine go_icmp_ge_t 126 dX2_sinkHigh_7 (by decide) (by decide) ?_
    exact go_return dX2_sinkHigh_126 rfl
  | succ u ih =>
    intro t ht k s r hk hr
    unfold sinkHighS at hr
    simp only at hr
    refine go_iload_n dX2_sinkHigh_4 rfl ?_
    refine go_bipush 30 dX2_sinkHigh_5 (by decide) ?_
    refine go_icmp_ge_f 126 dX2_sinkHigh_7 (by decide) (n_nle (a := 30) (show t < 30 by omega) (by decide)) ?_
    refine go_aload_n dX2_sinkHigh_10 rfl ?_
    refine go_iload_n dX2_sinkHigh_11 rfl ?_
    refine go_virt0 dX2_sinkHigh_12 (c_order l hh hn hk) v_X2_36_2 rfl (layW_ob hh) rfl (Nat.le_of_ble_eq_true rfl) (Nat.le_of_ble_eq_true rfl) (Nat.le_of_ble_eq_true rfl) ?_
    refine go_iconst 2 dX2_sinkHigh_15 (by decide) ?_
    refine go_iload_n dX2_sinkHigh_16 rfl ?_
    refine go_imul dX2_sinkHigh_17 ?_
    refine go_iconst 1 dX2_sinkHigh_18 (by decide) ?_
    refine go_iadd dX2_sinkHigh_19 ?_
    rw [a_2, a_k1]
    refine go_istore dX2_sinkHigh_20 (Nat.le_of_ble_eq_true rfl) rfl ?_
    refine go_iload dX2_sinkHigh_22 rfl ?_
    refine go_iconst 1 dX2_sinkHigh_24 (by decide) ?_
    refine go_iadd dX2_sinkHigh_25 ?_
    rw [a_k1]
    refine go_istore dX2_sinkHigh_26 (Nat.le_of_ble_eq_true rfl) rfl ?_
    refine go_iload dX2_sinkHigh_28 rfl ?_
    refine go_stat1 dX2_sinkHigh_30 (c_low l (k := (2 * k + 1))) s_X2_19 kc_X2_low rfl rfl (Nat.le_of_ble_eq_true rfl) (Nat.le_of_ble_eq_true rfl) (Nat.le_of_ble_eq_true rfl) ?_
    refine go_aload_n dX2_sinkHigh_33 rfl ?_
    refine go_getfield dX2_sinkHigh_34 f_X2_15_2 (layW_ob hh) rfl ?_
    refine go_icmp_lt 41 dX2_sinkHigh_37 (by decide) (fun q37 => ?_) (fun q37 => ?_)
    · have z37 := n_lt2 q37 (by omega) (by omega)
      rw [if_pos z37] at hr
      refine go_iload dX2_sinkHigh_41 rfl ?_
      refine go_stat1 dX2_sinkHigh_43 (c_low l (k := (2 * k + 2))) s_X2_19 kc_X2_low rfl rfl (Nat.le_of_ble_eq_true rfl) (Nat.le_of_ble_eq_true rfl) (Nat.le_of_ble_eq_true rfl) ?_
      refine go_aload_n dX2_sinkHigh_46 rfl ?_
      refine go_getfield dX2_sinkHigh_47 f_X2_15_2 (layW_ob hh) rfl ?_
      refine go_icmp_ge 78 dX2_sinkHigh_50 (by decide) (fun q50 => ?_) (fun q50 => ?_)
      · have z50 := n_le' q50 (by omega) (by omega)
        rw [decide_eq_false (show ¬ 2 * (2 * k + 2) < n by omega)] at hr
        simp only [Bool.false_eq_true, if_false, chS_0] at hr
        have J := fun (ch : Nat) (hc : 2 * ch < n) => c_sinkHigh_J l hh hn (u := u) (t := t) (k := k) (ch := ch) (x := orderS ltI n k s) (r := r) (by omega) hk hc (ih (t + 1) (by omega))
        refine go_iload dX2_sinkHigh_78 rfl ?_
        exact go_sub [(0, .ref h), (2, .int (nI k)), (3, .int (nI t))] ⟨rfl, rfl, rfl, trivial⟩ (J _ (by omega) hr)
      · have z50 := n_lt' q50 (by omega)
        rw [decide_eq_true z50] at hr
        simp only [if_true] at hr
        have J := fun (ch : Nat) (hc : 2 * ch < n) => c_sinkHigh_J l hh hn (u := u) (t := t) (k := k) (ch := ch) (x := ((orderS ltI n k s).1, (orderS ltI n k s).2 + 1)) (r := r) (by omega) hk hc (ih (t + 1) (by omega))
        refine go_aload_n dX2_sinkHigh_53 rfl ?_
        refine go_aload_n dX2_sinkHigh_54 rfl ?_
        refine go_iload dX2_sinkHigh_55 rfl ?_
        refine go_virt1 dX2_sinkHigh_57 (c_top l hh hn (k := (2 * k + 1)) (by omega)) v_X2_22_2 rfl (layW_ob hh) rfl (Nat.le_of_ble_eq_true rfl) (Nat.le_of_ble_eq_true rfl) (Nat.le_of_ble_eq_true rfl) ?_
        refine go_aload_n dX2_sinkHigh_60 rfl ?_
        refine go_iload dX2_sinkHigh_61 rfl ?_
        refine go_virt1 dX2_sinkHigh_63 (c_top l hh hn (k := (2 * k + 2)) (by omega)) v_X2_22_2 rfl (layW_ob hh) rfl (Nat.le_of_ble_eq_true rfl) (Nat.le_of_ble_eq_true rfl) (Nat.le_of_ble_eq_true rfl) ?_
        refine go_iconst 1 dX2_sinkHigh_66 (by decide) ?_
        refine go_virt1 dX2_sinkHigh_67 (c_aheadL l hh (Or.inr (Or.inl rfl)) hn (i := topN n (2 * k + 1)) (j := topN n (2 * k + 2)) (topN_lt (by omega)) (topN_lt (by omega))) v_X2_25_2 rfl (layW_ob hh) rfl (Nat.le_of_ble_eq_true rfl) (Nat.le_of_ble_eq_true rfl) (Nat.le_of_ble_eq_true rfl) ?_
        refine go_if_eq 78 dX2_sinkHigh_70 (by decide) (fun q70 => ?_) (fun q70 => ?_)
        · rw [chS_f (by simpa [ltI] using bI_eq.mp q70)] at hr
          refine go_iload dX2_sinkHigh_78 rfl ?_
          exact go_sub [(0, .ref h), (2, .int (nI k)), (3, .int (nI t))] ⟨rfl, rfl, rfl, trivial⟩ (J _ (by omega) hr)
        · rw [chS_t (by simpa [ltI] using bI_ne.mp q70)] at hr
          refine go_iload dX2_sinkHigh_73 rfl ?_
          refine go_goto 80 dX2_sinkHigh_75 (by decide) ?_
          exact go_sub [(0, .ref h), (2, .int (nI k)), (3, .int (nI t))] ⟨rfl, rfl, rfl, trivial⟩ (J _ (by omega) hr)
    · have z37 := n_ge2 q37 (by omega)
      rw [if_neg (by omega)] at hr
      subst hr
      exact go_return dX2_sinkHigh_40 rfl
theorem c_sinkHigh (l : Launch) {w : MW} {h : Nat} {n : Nat} {f : Nat → Int32} {c : Int32} (hh : h + 1 < w.1) (hn : n ≤ 30) {k : Nat} (hk : 2 * k < n) : Ct l (.code yX2_sinkHigh cX2_sinkHigh 7 none) yX2_sinkHigh 2 0 0 [.ref h, .int (nI k)] (layW w h 2 [] f n c) (.inl none) (layP w h 2 [] n (sinkHighS ltI n 30 k (f, c))) := by
  refine ct_of (by decide +kernel) (Nat.le_of_ble_eq_true rfl) ?_
  refine go_iload_n dX2_sinkHigh_0 rfl ?_
  refine go_istore_n dX2_sinkHigh_1 (Nat.le_of_ble_eq_true rfl) rfl ?_
  refine go_iconst 0 dX2_sinkHigh_2 (by decide) ?_
  refine go_istore_n dX2_sinkHigh_3 (Nat.le_of_ble_eq_true rfl) rfl ?_
  exact go_sub [(0, .ref h), (2, .int (nI k)), (3, .int (nI 0))] ⟨rfl, rfl, rfl, trivial⟩ (c_sinkHigh_4 l hh hn 30 0 rfl k (f, c) _ hk rfl)
