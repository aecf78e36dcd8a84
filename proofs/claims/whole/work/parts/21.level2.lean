theorem c_sink1_10 (l : Launch) {w : MW} {h : Nat} {n : Nat} (hh : h + 1 < w.1) (hn : n ≤ 30) {low : Bool} : ∀ (u t : Nat), u + t = 30 → ∀ (i : Nat) (s r : QS), i < n → r = sinkS1 ltI low n u i s → Go l yX4_sink cX4_sink 7 none [] none (mm_Z (mm_eq (.inl none) (layP w h 3 [] n r))) 2 0 0 10 [(0, .ref h), (2, .int (bI low)), (3, .int (nI i)), (4, .int (nI t))] [] (layP w h 3 [] n s) := by
  intro u
  induction u with
  | zero =>
    intro t ht i s r hi hr
    have e : t = 30 := by omega
    subst e
    subst hr
    refine go_iload dX4_sink_10 rfl ?_
    refine go_bipush 30 dX4_sink_12 (by decide) ?_
    refine go_icmp_ge_t 93 dX4_sink_14 (by decide) (by decide) ?_
    exact go_return dX4_sink_93 rfl
  | succ u ih =>
    intro t ht i s r hi hr
    unfold sinkS1 at hr
    by_cases e : 2 * i + 1 < n
    · rw [if_pos e] at hr
      obtain ⟨b, hb⟩ : ∃ b, b = fbS ltI low n s.1 i 5 1 (2 * i + 1, s.2) := ⟨_, rfl⟩
      have hb1 : b.1 < n := by rw [hb]; exact (fbS_lt 5 1 _ e (by simp) (by omega)).1
      have hb0 : b.1 ≠ 0 := by rw [hb]; exact (fbS_lt 5 1 _ e (by simp) (by omega)).2
      simp only [← hb] at hr
      refine go_iload dX4_sink_10 rfl ?_
      refine go_bipush 30 dX4_sink_12 (by decide) ?_
      refine go_icmp_ge_f 93 dX4_sink_14 (by decide) (n_nle (a := 30) (show t < 30 by omega) (by decide)) ?_
      refine go_aload_n dX4_sink_17 rfl ?_
      refine go_iload_n dX4_sink_18 rfl ?_
      refine go_iload_n dX4_sink_19 rfl ?_
      refine go_virt1 dX4_sink_20 (c_fb1 l hh hn (low := low) e) v_X4_37_3 rfl (layW_ob hh) rfl (Nat.le_of_ble_eq_true rfl) (Nat.le_of_ble_eq_true rfl) (Nat.le_of_ble_eq_true rfl) ?_
      rw [← hb]
      refine go_istore dX4_sink_23 (Nat.le_of_ble_eq_true rfl) rfl ?_
      refine go_iload dX4_sink_25 rfl ?_
      refine go_iconst (-1) dX4_sink_27 (by decide) ?_
      refine go_icmp_eq_f 42 dX4_sink_28 (by decide) (fun z => absurd (congrArg Int32.toInt z) (by rw [nI_toInt (by omega)]; intro z2; have : ((-1 : Int32)).toInt = -1 := rfl; omega)) ?_
      refine go_aload_n dX4_sink_31 rfl ?_
      refine go_iload dX4_sink_32 rfl ?_
      refine go_iload_n dX4_sink_34 rfl ?_
      refine go_iload_n dX4_sink_35 rfl ?_
      refine go_virt1 dX4_sink_36 (c_aheadB l hh (Or.inr (Or.inr rfl)) hn (i := b.1) (j := i) hb1 (by omega) low) v_X4_25_3 rfl (layW_ob hh) rfl (Nat.le_of_ble_eq_true rfl) (Nat.le_of_ble_eq_true rfl) (Nat.le_of_ble_eq_true rfl) ?_
      refine go_if_ne 43 dX4_sink_39 (by decide) (fun q39 => ?_) (fun q39 => ?_)
      · rw [if_pos (bI_ne.mp q39)] at hr
        refine go_aload_n dX4_sink_43 rfl ?_
        refine go_iload dX4_sink_44 rfl ?_
        refine go_iload_n dX4_sink_46 rfl ?_
        refine go_virt0 dX4_sink_47 (c_exchange l hh (Or.inr (Or.inr rfl)) hn (i := b.1) (j := i) hb1 (by omega)) v_X4_29_3 rfl (layW_ob hh) rfl (Nat.le_of_ble_eq_true rfl) (Nat.le_of_ble_eq_true rfl) (Nat.le_of_ble_eq_true rfl) ?_
        refine go_iload dX4_sink_50 rfl ?_
        refine go_statU dX4_sink_52 (c_parentOf l (by omega) (by omega)) u_X4_41 kc_X3_parentOf rfl rfl (Nat.le_of_ble_eq_true rfl) (Nat.le_of_ble_eq_true rfl) (Nat.le_of_ble_eq_true rfl) ?_
        refine go_istore dX4_sink_55 (Nat.le_of_ble_eq_true rfl) rfl ?_
        refine go_iload dX4_sink_57 rfl ?_
        refine go_iload_n dX4_sink_59 rfl ?_
        refine go_icmp_ne 64 dX4_sink_60 (by decide) (fun q60 => ?_) (fun q60 => ?_)
        · rw [if_neg (fun z => q60 (by rw [z]))] at hr
          refine go_aload_n dX4_sink_64 rfl ?_
          refine go_iload dX4_sink_65 rfl ?_
          refine go_iload dX4_sink_67 rfl ?_
          refine go_iload_n dX4_sink_69 rfl ?_
          refine go_virt1 dX4_sink_70 (c_aheadB l hh (Or.inr (Or.inr rfl)) hn (i := (b.1 - 1) / 2) (j := b.1) (by omega) hb1 low) v_X4_25_3 rfl (layW_ob hh) rfl (Nat.le_of_ble_eq_true rfl) (Nat.le_of_ble_eq_true rfl) (Nat.le_of_ble_eq_true rfl) ?_
          refine go_if_eq 84 dX4_sink_73 (by decide) (fun q73 => ?_) (fun q73 => ?_)
          · rw [if_neg (by rw [bI_eq.mp q73]; decide)] at hr
            refine go_iload dX4_sink_84 rfl ?_
            refine go_istore_n dX4_sink_86 (Nat.le_of_ble_eq_true rfl) rfl ?_
            refine go_iinc dX4_sink_87 rfl (Nat.le_of_ble_eq_true rfl) rfl (show _ = _ + 1 from rfl) ?_
            rw [a_k1]
            refine go_goto 10 dX4_sink_90 (by decide) ?_
            exact go_sub [(0, .ref h), (2, .int (bI low)), (3, .int (nI b.1)), (4, .int (nI (t + 1)))] ⟨rfl, rfl, rfl, rfl, trivial⟩ (ih (t + 1) (by omega) b.1 _ r hb1 hr)
          · rw [if_pos (bI_ne.mp q73)] at hr
            refine go_aload_n dX4_sink_76 rfl ?_
            refine go_iload dX4_sink_77 rfl ?_
            refine go_iload dX4_sink_79 rfl ?_
            refine go_virt0 dX4_sink_81 (c_exchange l hh (Or.inr (Or.inr rfl)) hn (i := (b.1 - 1) / 2) (j := b.1) (by omega) hb1) v_X4_29_3 rfl (layW_ob hh) rfl (Nat.le_of_ble_eq_true rfl) (Nat.le_of_ble_eq_true rfl) (Nat.le_of_ble_eq_true rfl) ?_
            refine go_iload dX4_sink_84 rfl ?_
            refine go_istore_n dX4_sink_86 (Nat.le_of_ble_eq_true rfl) rfl ?_
            refine go_iinc dX4_sink_87 rfl (Nat.le_of_ble_eq_true rfl) rfl (show _ = _ + 1 from rfl) ?_
            rw [a_k1]
            refine go_goto 10 dX4_sink_90 (by decide) ?_
            exact go_sub [(0, .ref h), (2, .int (bI low)), (3, .int (nI b.1)), (4, .int (nI (t + 1)))] ⟨rfl, rfl, rfl, rfl, trivial⟩ (ih (t + 1) (by omega) b.1 _ r hb1 hr)
        · rw [if_pos ((nI_eq (by omega) (by omega)).mp q60)] at hr
          subst hr
          exact go_return dX4_sink_63 rfl
      · rw [if_neg (by rw [bI_eq.mp q39]; decide)] at hr
        subst hr
        exact go_return dX4_sink_42 rfl
    · rw [if_neg e] at hr
      subst hr
      refine go_iload dX4_sink_10 rfl ?_
      refine go_bipush 30 dX4_sink_12 (by decide) ?_
      refine go_icmp_ge_f 93 dX4_sink_14 (by decide) (n_nle (a := 30) (show t < 30 by omega) (by decide)) ?_
      refine go_aload_n dX4_sink_17 rfl ?_
      refine go_iload_n dX4_sink_18 rfl ?_
      refine go_iload_n dX4_sink_19 rfl ?_
      refine go_virt1 dX4_sink_20 (c_fb0 l hh hn (low := low) e hi) v_X4_37_3 rfl (layW_ob hh) rfl (Nat.le_of_ble_eq_true rfl) (Nat.le_of_ble_eq_true rfl) (Nat.le_of_ble_eq_true rfl) ?_
      refine go_istore dX4_sink_23 (Nat.le_of_ble_eq_true rfl) rfl ?_
      refine go_iload dX4_sink_25 rfl ?_
      refine go_iconst (-1) dX4_sink_27 (by decide) ?_
      refine go_icmp_eq_t 42 dX4_sink_28 (by decide) (rfl) ?_
      exact go_return dX4_sink_42 rfl
theorem c_sink1 (l : Launch) {w : MW} {h : Nat} {n : Nat} {f : Nat → Int32} {c : Int32} (hh : h + 1 < w.1) (hn : n ≤ 30) {i : Nat} (hi : i < n) : Ct l (.code yX4_sink cX4_sink 7 none) yX4_sink 2 0 0 [.ref h, .int (nI i)] (layW w h 3 [] f n c) (.inl none) (layP w h 3 [] n (sinkS1 ltI (lowB i) n 30 i (f, c))) := by
  refine ct_of (by decide +kernel) (Nat.le_of_ble_eq_true rfl) ?_
  refine go_iload_n dX4_sink_0 rfl ?_
  refine go_stat1 dX4_sink_1 (c_isLow l (by omega)) s_X4_33 kc_X4_isLow rfl rfl (Nat.le_of_ble_eq_true rfl) (Nat.le_of_ble_eq_true rfl) (Nat.le_of_ble_eq_true rfl) ?_
  refine go_istore_n dX4_sink_4 (Nat.le_of_ble_eq_true rfl) rfl ?_
  refine go_iload_n dX4_sink_5 rfl ?_
  refine go_istore_n dX4_sink_6 (Nat.le_of_ble_eq_true rfl) rfl ?_
  refine go_iconst 0 dX4_sink_7 (by decide) ?_
  refine go_istore dX4_sink_8 (Nat.le_of_ble_eq_true rfl) rfl ?_
  exact go_sub [(0, .ref h), (2, .int (bI (lowB i))), (3, .int (nI i)), (4, .int (nI 0))] ⟨rfl, rfl, rfl, rfl, trivial⟩ (c_sink1_10 l hh hn 30 0 rfl i (f, c) _ hi rfl)
theorem c_enter1 (l : Launch) {w : MW} {h : Nat} {n : Nat} {f : Nat → Int32} {c : Int32} (hh : h + 1 < w.1) (hn : n ≤ 30) {i : Nat} (hi : i < n) : Ct l (.code yX4_enter cX4_enter 4 none) yX4_enter 2 0 0 [.ref h, .int (nI i)] (layW w h 3 [] f n c) (.inl none) (layP w h 3 [] n (enterS1 ltI i (f, c))) := by
  refine ct_of (by decide +kernel) (Nat.le_of_ble_eq_true rfl) ?_
  unfold enterS1
  by_cases e0 : i = 0
  · subst e0
    rw [if_pos rfl]
    refine go_iload_n dX4_enter_0 rfl ?_
    refine go_if_ne_f 5 dX4_enter_1 (by decide) (rfl) ?_
    exact go_return dX4_enter_4 rfl
  rw [if_neg e0]
  refine go_iload_n dX4_enter_0 rfl ?_
  refine go_if_ne_t 5 dX4_enter_1 (by decide) (n_ne (b := 0) e0 (by omega) (by decide)) ?_
  refine go_iload_n dX4_enter_5 rfl ?_
  refine go_stat1 dX4_enter_6 (c_isLow l (by omega)) s_X4_33 kc_X4_isLow rfl rfl (Nat.le_of_ble_eq_true rfl) (Nat.le_of_ble_eq_true rfl) (Nat.le_of_ble_eq_true rfl) ?_
  refine go_istore_n dX4_enter_9 (Nat.le_of_ble_eq_true rfl) rfl ?_
  refine go_iload_n dX4_enter_10 rfl ?_
  refine go_statU dX4_enter_11 (c_parentOf l (by omega) (by omega)) u_X4_41 kc_X3_parentOf rfl rfl (Nat.le_of_ble_eq_true rfl) (Nat.le_of_ble_eq_true rfl) (Nat.le_of_ble_eq_true rfl) ?_
  refine go_istore_n dX4_enter_14 (Nat.le_of_ble_eq_true rfl) rfl ?_
  refine go_aload_n dX4_enter_15 rfl ?_
  refine go_iload_n dX4_enter_16 rfl ?_
  refine go_iload_n dX4_enter_17 rfl ?_
  refine go_iload_n dX4_enter_18 rfl ?_
  refine go_virt1 dX4_enter_19 (c_aheadB l hh (Or.inr (Or.inr rfl)) hn (i := (i - 1) / 2) (j := i) (by omega) (by omega) (lowB i)) v_X4_25_3 rfl (layW_ob hh) rfl (Nat.le_of_ble_eq_true rfl) (Nat.le_of_ble_eq_true rfl) (Nat.le_of_ble_eq_true rfl) ?_
  refine go_if_eq 48 dX4_enter_22 (by decide) (fun q22 => ?_) (fun q22 => ?_)
  · rw [if_neg (by rw [bI_eq.mp q22]; decide)]
    refine go_aload_n dX4_enter_48 rfl ?_
    refine go_iload_n dX4_enter_49 rfl ?_
    refine go_iload_n dX4_enter_50 rfl ?_
    refine go_virt0 dX4_enter_51 (c_rise l hh hn (low := lowB i) (i := i) hi) v_X4_44_3 rfl (layW_ob hh) rfl (Nat.le_of_ble_eq_true rfl) (Nat.le_of_ble_eq_true rfl) (Nat.le_of_ble_eq_true rfl) ?_
    exact go_return dX4_enter_54 rfl
  · rw [if_pos (bI_ne.mp q22)]
    refine go_aload_n dX4_enter_25 rfl ?_
    refine go_iload_n dX4_enter_26 rfl ?_
    refine go_iload_n dX4_enter_27 rfl ?_
    refine go_virt0 dX4_enter_28 (c_exchange l hh (Or.inr (Or.inr rfl)) hn (i := (i - 1) / 2) (j := i) (by omega) (by omega)) v_X4_29_3 rfl (layW_ob hh) rfl (Nat.le_of_ble_eq_true rfl) (Nat.le_of_ble_eq_true rfl) (Nat.le_of_ble_eq_true rfl) ?_
    refine go_aload_n dX4_enter_31 rfl ?_
    refine go_iload_n dX4_enter_32 rfl ?_
    refine go_iload_n dX4_enter_33 rfl ?_
    refine go_if_ne 41 dX4_enter_34 (by decide) (fun q34 => ?_) (fun q34 => ?_)
    · refine go_iconst 0 dX4_enter_41 (by decide) ?_
      refine go_top (.int (bI (!lowB i))) (by rw [bI_ne.mp q34]; rfl) ?_
      refine go_virt0 dX4_enter_42 (c_rise l hh hn (low := !lowB i) (i := (i - 1) / 2) (by omega)) v_X4_44_3 rfl (layW_ob hh) rfl (Nat.le_of_ble_eq_true rfl) (Nat.le_of_ble_eq_true rfl) (Nat.le_of_ble_eq_true rfl) ?_
      refine go_goto 54 dX4_enter_45 (by decide) ?_
      exact go_return dX4_enter_54 rfl
    · refine go_iconst 1 dX4_enter_37 (by decide) ?_
      refine go_top (.int (bI (!lowB i))) (by rw [bI_eq.mp q34]; rfl) ?_
      refine go_goto 42 dX4_enter_38 (by decide) ?_
      refine go_virt0 dX4_enter_42 (c_rise l hh hn (low := !lowB i) (i := (i - 1) / 2) (by omega)) v_X4_44_3 rfl (layW_ob hh) rfl (Nat.le_of_ble_eq_true rfl) (Nat.le_of_ble_eq_true rfl) (Nat.le_of_ble_eq_true rfl) ?_
      refine go_goto 54 dX4_enter_45 (by decide) ?_
      exact go_return dX4_enter_54 rfl
theorem c_settle1 (l : Launch) {w : MW} {h : Nat} {n : Nat} {f : Nat → Int32} {c : Int32} (hh : h + 1 < w.1) (hn : n ≤ 30) {i : Nat} (hi : i < n) : Ct l (.code yX4_settle cX4_settle 2 none) yX4_settle 3 0 0 [.ref h, .int (nI i)] (layW w h 3 [] f n c) (.inl none) (layP w h 3 [] n (settleS1 ltI n i (f, c))) := by
  refine ct_of (by decide +kernel) (Nat.le_of_ble_eq_true rfl) ?_
  refine go_aload_n dX4_settle_0 rfl ?_
  refine go_iload_n dX4_settle_1 rfl ?_
  refine go_virt0 dX4_settle_2 (c_enter1 l hh hn hi) v_X4_48_3 rfl (layW_ob hh) rfl (Nat.le_of_ble_eq_true rfl) (Nat.le_of_ble_eq_true rfl) (Nat.le_of_ble_eq_true rfl) ?_
  refine go_aload_n dX4_settle_5 rfl ?_
  refine go_iload_n dX4_settle_6 rfl ?_
  refine go_virt0 dX4_settle_7 (c_sink1 l hh hn hi) v_X4_52_3 rfl (layW_ob hh) rfl (Nat.le_of_ble_eq_true rfl) (Nat.le_of_ble_eq_true rfl) (Nat.le_of_ble_eq_true rfl) ?_
  exact go_return dX4_settle_10 rfl
theorem c_settleAll1_7 (l : Launch) {w : MW} {h : Nat} {n : Nat} (hh : h + 1 < w.1) (hn : n ≤ 30) : ∀ (m : Nat) (s r : QS), m ≤ n → r = allS1 ltI n m s → Go l yX4_settleAll cX4_settleAll 2 none [] none (mm_Z (mm_eq (.inl none) (layP w h 3 [] n r))) 3 0 0 7 [(0, .ref h), (1, .int (nI m - 1))] [] (layP w h 3 [] n s) := by
  intro m
  induction m with
  | zero =>
    intro s r hm hr
    subst hr
    refine go_iload_n dX4_settleAll_7 rfl ?_
    refine go_if_lt_t 22 dX4_settleAll_8 (by decide) (by decide) ?_
    exact go_return dX4_settleAll_22 rfl
  | succ m ih =>
    intro s r hm hr
    rw [nI_pred]
    refine go_iload_n dX4_settleAll_7 rfl ?_
    refine go_if_lt_f 22 dX4_settleAll_8 (by decide) (nI_pos (by omega)) ?_
    refine go_aload_n dX4_settleAll_11 rfl ?_
    refine go_iload_n dX4_settleAll_12 rfl ?_
    refine go_virt0 dX4_settleAll_13 (c_sink1 l hh hn (i := m) (by omega)) v_X4_52_3 rfl (layW_ob hh) rfl (Nat.le_of_ble_eq_true rfl) (Nat.le_of_ble_eq_true rfl) (Nat.le_of_ble_eq_true rfl) ?_
    refine go_iinc dX4_settleAll_16 rfl (Nat.le_of_ble_eq_true rfl) rfl (show _ = _ + (-1) from rfl) ?_
    refine go_goto 7 dX4_settleAll_19 (by decide) ?_
    rw [show nI m + -1 = nI m - 1 from (Int32.sub_eq_add_neg _ _).symm]
    exact go_sub [(0, .ref h), (1, .int (nI m - 1))] ⟨rfl, rfl, trivial⟩ (ih _ r (by omega) hr)
theorem c_settleAll1 (l : Launch) {w : MW} {h : Nat} {n : Nat} {f : Nat → Int32} {c : Int32} (hh : h + 1 < w.1) (hn : n ≤ 30) : Ct l (.code yX4_settleAll cX4_settleAll 2 none) yX4_settleAll 3 0 0 [.ref h] (layW w h 3 [] f n c) (.inl none) (layP w h 3 [] n (allS1 ltI n n (f, c))) := by
  refine ct_of (by decide +kernel) (Nat.le_of_ble_eq_true rfl) ?_
  refine go_aload_n dX4_settleAll_0 rfl ?_
  refine go_getfield dX4_settleAll_1 f_X4_15_3 (layW_ob hh) rfl ?_
  refine go_iconst 1 dX4_settleAll_4 (by decide) ?_
  refine go_isub dX4_settleAll_5 ?_
  refine go_istore_n dX4_settleAll_6 (Nat.le_of_ble_eq_true rfl) rfl ?_
  exact go_sub [(0, .ref h), (1, .int (nI n - 1))] ⟨rfl, rfl, trivial⟩ (c_settleAll1_7 l hh hn _ (f, c) _ (by omega) rfl)
theorem c_broken1_14 (l : Launch) {w : MW} {h : Nat} {n : Nat} {f : Nat → Int32} {c : Int32} (hh : h + 1 < w.1) (hn : n ≤ 30) {r m B : Nat} (hm : m < n) (K : ∀ b : Nat, b = B → Go l yX4_brokenPairs cX4_brokenPairs 6 (some .int) [] none (mm_Z (mm_eq (.inl (some (.int (nI r)))) (layW w h 3 [] f n c))) 2 0 0 4 [(0, .ref h), (1, .int (nI b)), (2, .int (nI (m + 1)))] [] (layW w h 3 [] f n c)) : ∀ (u i b : Nat), i ≤ u → i ≤ m → b + brkU ltI f m u i = B → Go l yX4_brokenPairs cX4_brokenPairs 6 (some .int) [] none (mm_Z (mm_eq (.inl (some (.int (nI r)))) (layW w h 3 [] f n c))) 2 0 0 14 [(0, .ref h), (1, .int (nI b)), (2, .int (nI m)), (3, .int (nI i))] [] (layW w h 3 [] f n c) := by
  intro u
  induction u with
  | zero =>
    intro i b hi him hb
    have e : i = 0 := by omega
    subst e
    simp only [brkU] at hb
    refine go_iload_n dX4_brokenPairs_14 rfl ?_
    refine go_if_le_t 81 dX4_brokenPairs_15 (by decide) (by decide) ?_
    refine go_iinc dX4_brokenPairs_81 rfl (Nat.le_of_ble_eq_true rfl) rfl (show _ = _ + 1 from rfl) ?_
    rw [a_k1]
    refine go_goto 4 dX4_brokenPairs_84 (by decide) ?_
    exact go_sub [(0, .ref h), (1, .int (nI b)), (2, .int (nI (m + 1)))] ⟨rfl, rfl, rfl, trivial⟩ (K _ (by omega))
  | succ u ih =>
    intro i b hi him hb
    unfold brkU at hb
    by_cases e : i = 0
    · subst e
      rw [if_pos rfl] at hb
      refine go_iload_n dX4_brokenPairs_14 rfl ?_
      refine go_if_le_t 81 dX4_brokenPairs_15 (by decide) (by decide) ?_
      refine go_iinc dX4_brokenPairs_81 rfl (Nat.le_of_ble_eq_true rfl) rfl (show _ = _ + 1 from rfl) ?_
      rw [a_k1]
      refine go_goto 4 dX4_brokenPairs_84 (by decide) ?_
      exact go_sub [(0, .ref h), (1, .int (nI b)), (2, .int (nI (m + 1)))] ⟨rfl, rfl, rfl, trivial⟩ (K _ (by omega))
    · rw [if_neg e] at hb
      by_cases el : lowB ((i - 1) / 2) = true
      · skip
        refine go_iload_n dX4_brokenPairs_14 rfl ?_
        refine go_if_le_f 81 dX4_brokenPairs_15 (by decide) (n_le0 (by omega) (by omega)) ?_
        refine go_iload_n dX4_brokenPairs_18 rfl ?_
        refine go_statU dX4_brokenPairs_19 (c_parentOf l (by omega) (by omega)) u_X4_41 kc_X3_parentOf rfl rfl (Nat.le_of_ble_eq_true rfl) (Nat.le_of_ble_eq_true rfl) (Nat.le_of_ble_eq_true rfl) ?_
        refine go_istore dX4_brokenPairs_22 (Nat.le_of_ble_eq_true rfl) rfl ?_
        refine go_iload dX4_brokenPairs_24 rfl ?_
        refine go_stat1 dX4_brokenPairs_26 (c_isLow l (by omega)) s_X4_33 kc_X4_isLow rfl rfl (Nat.le_of_ble_eq_true rfl) (Nat.le_of_ble_eq_true rfl) (Nat.le_of_ble_eq_true rfl) ?_
        refine go_istore dX4_brokenPairs_29 (Nat.le_of_ble_eq_true rfl) rfl ?_
        refine go_iload dX4_brokenPairs_31 rfl ?_
        refine go_if_eq_f 50 dX4_brokenPairs_33 (by decide) (by rw [el]; decide) ?_
        refine go_aload_n dX4_brokenPairs_36 rfl ?_
        refine go_iload_n dX4_brokenPairs_37 rfl ?_
        refine go_virt1 dX4_brokenPairs_38 (c_itemAt1 l hh (Or.inr (Or.inr rfl)) hn (j := m) (by omega)) v_X4_19_3 rfl (layW_ob hh) rfl (Nat.le_of_ble_eq_true rfl) (Nat.le_of_ble_eq_true rfl) (Nat.le_of_ble_eq_true rfl) ?_
        refine go_aload_n dX4_brokenPairs_41 rfl ?_
        refine go_iload dX4_brokenPairs_42 rfl ?_
        refine go_virt1 dX4_brokenPairs_44 (c_itemAt1 l hh (Or.inr (Or.inr rfl)) hn (j := (i - 1) / 2) (by omega)) v_X4_19_3 rfl (layW_ob hh) rfl (Nat.le_of_ble_eq_true rfl) (Nat.le_of_ble_eq_true rfl) (Nat.le_of_ble_eq_true rfl) ?_
        refine go_icmp_lt 69 dX4_brokenPairs_47 (by decide) (fun q47 => ?_) (fun q47 => ?_)
        · have e3 : bN (ld ltI (lowB ((i - 1) / 2)) (f m) (f ((i - 1) / 2))) = 1 := by rw [el]; exact bN_1 (decide_eq_true q47)
          refine go_iinc dX4_brokenPairs_69 rfl (Nat.le_of_ble_eq_true rfl) rfl (show _ = _ + 1 from rfl) ?_
          rw [a_k1]
          refine go_iload_n dX4_brokenPairs_72 rfl ?_
          refine go_iconst 1 dX4_brokenPairs_73 (by decide) ?_
          refine go_isub dX4_brokenPairs_74 ?_
          refine go_iconst 2 dX4_brokenPairs_75 (by decide) ?_
          refine go_idiv dX4_brokenPairs_76 (by decide) ?_
          rw [a_par (by omega) (by omega)]
          refine go_istore_n dX4_brokenPairs_77 (Nat.le_of_ble_eq_true rfl) rfl ?_
          refine go_goto 14 dX4_brokenPairs_78 (by decide) ?_
          exact go_sub [(0, .ref h), (1, .int (nI _)), (2, .int (nI m)), (3, .int (nI ((i - 1) / 2)))] ⟨rfl, rfl, rfl, rfl, trivial⟩ (ih ((i - 1) / 2) _ (by omega) (by omega) (by omega))
        · have e3 : bN (ld ltI (lowB ((i - 1) / 2)) (f m) (f ((i - 1) / 2))) = 0 := by rw [el]; exact bN_0 (decide_eq_false q47)
          refine go_iload dX4_brokenPairs_50 rfl ?_
          refine go_if_ne_t 72 dX4_brokenPairs_52 (by decide) (by rw [el]; decide) ?_
          refine go_iload_n dX4_brokenPairs_72 rfl ?_
          refine go_iconst 1 dX4_brokenPairs_73 (by decide) ?_
          refine go_isub dX4_brokenPairs_74 ?_
          refine go_iconst 2 dX4_brokenPairs_75 (by decide) ?_
          refine go_idiv dX4_brokenPairs_76 (by decide) ?_
          rw [a_par (by omega) (by omega)]
          refine go_istore_n dX4_brokenPairs_77 (Nat.le_of_ble_eq_true rfl) rfl ?_
          refine go_goto 14 dX4_brokenPairs_78 (by decide) ?_
          exact go_sub [(0, .ref h), (1, .int (nI _)), (2, .int (nI m)), (3, .int (nI ((i - 1) / 2)))] ⟨rfl, rfl, rfl, rfl, trivial⟩ (ih ((i - 1) / 2) _ (by omega) (by omega) (by omega))
      · have el : lowB ((i - 1) / 2) = false := by simpa using el
        refine go_iload_n dX4_brokenPairs_14 rfl ?_
        refine go_if_le_f 81 dX4_brokenPairs_15 (by decide) (n_le0 (by omega) (by omega)) ?_
        refine go_iload_n dX4_brokenPairs_18 rfl ?_
        refine go_statU dX4_brokenPairs_19 (c_parentOf l (by omega) (by omega)) u_X4_41 kc_X3_parentOf rfl rfl (Nat.le_of_ble_eq_true rfl) (Nat.le_of_ble_eq_true rfl) (Nat.le_of_ble_eq_true rfl) ?_
        refine go_istore dX4_brokenPairs_22 (Nat.le_of_ble_eq_true rfl) rfl ?_
        refine go_iload dX4_brokenPairs_24 rfl ?_
        refine go_stat1 dX4_brokenPairs_26 (c_isLow l (by omega)) s_X4_33 kc_X4_isLow rfl rfl (Nat.le_of_ble_eq_true rfl) (Nat.le_of_ble_eq_true rfl) (Nat.le_of_ble_eq_true rfl) ?_
        refine go_istore dX4_brokenPairs_29 (Nat.le_of_ble_eq_true rfl) rfl ?_
        refine go_iload dX4_brokenPairs_31 rfl ?_
        refine go_if_eq_t 50 dX4_brokenPairs_33 (by decide) (by rw [el]; decide) ?_
        refine go_iload dX4_brokenPairs_50 rfl ?_
        refine go_if_ne_f 72 dX4_brokenPairs_52 (by decide) (by rw [el]; decide) ?_
        refine go_aload_n dX4_brokenPairs_55 rfl ?_
        refine go_iload dX4_brokenPairs_56 rfl ?_
        refine go_virt1 dX4_brokenPairs_58 (c_itemAt1 l hh (Or.inr (Or.inr rfl)) hn (j := (i - 1) / 2) (by omega)) v_X4_19_3 rfl (layW_ob hh) rfl (Nat.le_of_ble_eq_true rfl) (Nat.le_of_ble_eq_true rfl) (Nat.le_of_ble_eq_true rfl) ?_
        refine go_aload_n dX4_brokenPairs_61 rfl ?_
        refine go_iload_n dX4_brokenPairs_62 rfl ?_
        refine go_virt1 dX4_brokenPairs_63 (c_itemAt1 l hh (Or.inr (Or.inr rfl)) hn (j := m) (by omega)) v_X4_19_3 rfl (layW_ob hh) rfl (Nat.le_of_ble_eq_true rfl) (Nat.le_of_ble_eq_true rfl) (Nat.le_of_ble_eq_true rfl) ?_
        refine go_icmp_ge 72 dX4_brokenPairs_66 (by decide) (fun q66 => ?_) (fun q66 => ?_)
        · have e3 : bN (ld ltI (lowB ((i - 1) / 2)) (f m) (f ((i - 1) / 2))) = 0 := by rw [el]; exact bN_0 (decide_eq_false (Int32.not_lt.mpr q66))
          refine go_iload_n dX4_brokenPairs_72 rfl ?_
          refine go_iconst 1 dX4_brokenPairs_73 (by decide) ?_
          refine go_isub dX4_brokenPairs_74 ?_
          refine go_iconst 2 dX4_brokenPairs_75 (by decide) ?_
          refine go_idiv dX4_brokenPairs_76 (by decide) ?_
          rw [a_par (by omega) (by omega)]
          refine go_istore_n dX4_brokenPairs_77 (Nat.le_of_ble_eq_true rfl) rfl ?_
          refine go_goto 14 dX4_brokenPairs_78 (by decide) ?_
          exact go_sub [(0, .ref h), (1, .int (nI _)), (2, .int (nI m)), (3, .int (nI ((i - 1) / 2)))] ⟨rfl, rfl, rfl, rfl, trivial⟩ (ih ((i - 1) / 2) _ (by omega) (by omega) (by omega))
        · have e3 : bN (ld ltI (lowB ((i - 1) / 2)) (f m) (f ((i - 1) / 2))) = 1 := by rw [el]; exact bN_1 (decide_eq_true (Int32.not_le.mp q66))
          refine go_iinc dX4_brokenPairs_69 rfl (Nat.le_of_ble_eq_true rfl) rfl (show _ = _ + 1 from rfl) ?_
          rw [a_k1]
          refine go_iload_n dX4_brokenPairs_72 rfl ?_
          refine go_iconst 1 dX4_brokenPairs_73 (by decide) ?_
          refine go_isub dX4_brokenPairs_74 ?_
          refine go_iconst 2 dX4_brokenPairs_75 (by decide) ?_
          refine go_idiv dX4_brokenPairs_76 (by decide) ?_
          rw [a_par (by omega) (by omega)]
          refine go_istore_n dX4_brokenPairs_77 (Nat.le_of_ble_eq_true rfl) rfl ?_
          refine go_goto 14 dX4_brokenPairs_78 (by decide) ?_
          exact go_sub [(0, .ref h), (1, .int (nI _)), (2, .int (nI m)), (3, .int (nI ((i - 1) / 2)))] ⟨rfl, rfl, rfl, rfl, trivial⟩ (ih ((i - 1) / 2) _ (by omega) (by omega) (by omega))
theorem c_broken1_4 (l : Launch) {w : MW} {h : Nat} {n : Nat} {f : Nat → Int32} {c : Int32} (hh : h + 1 < w.1) (hn : n ≤ 30) {r N : Nat} (hN : N = max 1 n) (hr : r = brk1 ltI f N) : ∀ (k m b : Nat), m + k = N → b = brk1 ltI f m → Go l yX4_brokenPairs cX4_brokenPairs 6 (some .int) [] none (mm_Z (mm_eq (.inl (some (.int (nI r)))) (layW w h 3 [] f n c))) 2 0 0 4 [(0, .ref h), (1, .int (nI b)), (2, .int (nI m))] [] (layW w h 3 [] f n c) := by
  intro k
  induction k with
  | zero =>
    intro m b hm hb
    have e : m = N := by omega
    rw [← e, ← hb] at hr
    subst hr
    refine go_iload_n dX4_brokenPairs_4 rfl ?_
    refine go_aload_n dX4_brokenPairs_5 rfl ?_
    refine go_getfield dX4_brokenPairs_6 f_X4_15_3 (layW_ob hh) rfl ?_
    refine go_icmp_ge_t 87 dX4_brokenPairs_9 (by decide) (nI_le (by omega) (by omega)) ?_
    refine go_iload_n dX4_brokenPairs_87 rfl ?_
    exact go_ireturn dX4_brokenPairs_88 rfl rfl
  | succ k ih =>
    intro m b hm hb
    by_cases hmn : m < n
    · skip
      refine go_iload_n dX4_brokenPairs_4 rfl ?_
      refine go_aload_n dX4_brokenPairs_5 rfl ?_
      refine go_getfield dX4_brokenPairs_6 f_X4_15_3 (layW_ob hh) rfl ?_
      refine go_icmp_ge_f 87 dX4_brokenPairs_9 (by decide) (n_nle (by omega) (by omega)) ?_
      refine go_iload_n dX4_brokenPairs_12 rfl ?_
      refine go_istore_n dX4_brokenPairs_13 (Nat.le_of_ble_eq_true rfl) rfl ?_
      exact go_sub [(0, .ref h), (1, .int (nI b)), (2, .int (nI m)), (3, .int (nI m))] ⟨rfl, rfl, rfl, rfl, trivial⟩ (c_broken1_14 l hh hn (B := b + brkU ltI f m 30 m) (by omega) (fun b2 hb2 => ih (m + 1) b2 (by omega) (by rw [hb2, hb]; rfl)) 30 m b (by omega) (by omega) rfl)
    · have e : m = 0 := by omega
      have e2 : n = 0 := by omega
      have e3 : k = 0 := by omega
      subst e; subst e2; subst e3
      have e4 : N = 1 := by omega
      subst e4
      have e5 : r = b := by rw [hr, hb]; rfl
      subst e5
      refine go_iload_n dX4_brokenPairs_4 rfl ?_
      refine go_aload_n dX4_brokenPairs_5 rfl ?_
      refine go_getfield dX4_brokenPairs_6 f_X4_15_3 (layW_ob hh) rfl ?_
      refine go_icmp_ge_t 87 dX4_brokenPairs_9 (by decide) (nI_le (by omega) (by omega)) ?_
      refine go_iload_n dX4_brokenPairs_87 rfl ?_
      exact go_ireturn dX4_brokenPairs_88 rfl rfl
theorem c_broken1 (l : Launch) {w : MW} {h : Nat} {n : Nat} {f : Nat → Int32} {c : Int32} (hh : h + 1 < w.1) (hn : n ≤ 30) : Ct l (.code yX4_brokenPairs cX4_brokenPairs 6 (some .int)) yX4_brokenPairs 2 0 0 [.ref h] (layW w h 3 [] f n c) (.inl (some (.int (nI (brk1 ltI f (max 1 n)))))) (layW w h 3 [] f n c) := by
  refine ct_of (by decide +kernel) (Nat.le_of_ble_eq_true rfl) ?_
  refine go_iconst 0 dX4_brokenPairs_0 (by decide) ?_
  refine go_istore_n dX4_brokenPairs_1 (Nat.le_of_ble_eq_true rfl) rfl ?_
  refine go_iconst 1 dX4_brokenPairs_2 (by decide) ?_
  refine go_istore_n dX4_brokenPairs_3 (Nat.le_of_ble_eq_true rfl) rfl ?_
  exact go_sub [(0, .ref h), (1, .int (nI 0)), (2, .int (nI 1))] ⟨rfl, rfl, rfl, trivial⟩ (c_broken1_4 l hh hn rfl rfl (max 1 n - 1) 1 0 (by omega) rfl)
