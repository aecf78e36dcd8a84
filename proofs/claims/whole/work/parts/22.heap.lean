theorem c_up_2 (l : Launch) {w : MW} {h : Nat} {n : Nat} {low : Bool} (hh : h + 1 < w.1) (hn : n ≤ 30) : ∀ (u i : Nat) (s r : QS), i ≤ u → i < n → r = upS ltI low u i s → Go l yX0_enter cX0_enter 3 none [] none (mm_Z (mm_eq (.inl none) (layP w h 0 [.int (bI low)] n r))) 1 0 0 2 [(0, .ref h), (2, .int (nI i))] [] (layP w h 0 [.int (bI low)] n s) := by
  intro u
  induction u with
  | zero =>
    intro i s r hi hin hr
    have e : i = 0 := by omega
    subst e
    subst hr
    refine go_iload_n dX0_enter_2 rfl ?_
    refine go_if_le_t 41 dX0_enter_3 (by decide) (by decide) ?_
    exact go_return dX0_enter_41 rfl
  | succ u ih =>
    intro i s r hi hin hr
    unfold upS at hr
    by_cases e : i = 0
    · subst e
      rw [if_pos rfl] at hr
      subst hr
      refine go_iload_n dX0_enter_2 rfl ?_
      refine go_if_le_t 41 dX0_enter_3 (by decide) (by decide) ?_
      exact go_return dX0_enter_41 rfl
    · rw [if_neg e] at hr
      refine go_iload_n dX0_enter_2 rfl ?_
      refine go_if_le_f 41 dX0_enter_3 (by decide) (n_le0 (by omega) (by omega)) ?_
      refine go_aload_n dX0_enter_6 rfl ?_
      refine go_iload_n dX0_enter_7 rfl ?_
      refine go_iload_n dX0_enter_8 rfl ?_
      refine go_statU dX0_enter_9 (c_parentOf l (by omega) (by omega)) u_X0_19 kc_X3_parentOf rfl rfl (Nat.le_of_ble_eq_true rfl) (Nat.le_of_ble_eq_true rfl) (Nat.le_of_ble_eq_true rfl) ?_
      refine go_aload_n dX0_enter_12 rfl ?_
      refine go_getfield dX0_enter_13 f_X0_9_0 (layW_ob hh) rfl ?_
      refine go_virt1 dX0_enter_16 (c_aheadB l hh (Or.inl rfl) hn (i := i) (j := (i - 1) / 2) (by omega) (by omega) low) v_X0_29_0 rfl (layW_ob hh) rfl (Nat.le_of_ble_eq_true rfl) (Nat.le_of_ble_eq_true rfl) (Nat.le_of_ble_eq_true rfl) ?_
      refine go_if_ne 23 dX0_enter_19 (by decide) (fun q19 => ?_) (fun q19 => ?_)
      · rw [if_pos (bI_ne.mp q19)] at hr
        refine go_aload_n dX0_enter_23 rfl ?_
        refine go_iload_n dX0_enter_24 rfl ?_
        refine go_iload_n dX0_enter_25 rfl ?_
        refine go_statU dX0_enter_26 (c_parentOf l (by omega) (by omega)) u_X0_19 kc_X3_parentOf rfl rfl (Nat.le_of_ble_eq_true rfl) (Nat.le_of_ble_eq_true rfl) (Nat.le_of_ble_eq_true rfl) ?_
        refine go_virt0 dX0_enter_29 (c_exchange l hh (Or.inl rfl) hn (i := i) (j := (i - 1) / 2) (by omega) (by omega)) v_X0_33_0 rfl (layW_ob hh) rfl (Nat.le_of_ble_eq_true rfl) (Nat.le_of_ble_eq_true rfl) (Nat.le_of_ble_eq_true rfl) ?_
        refine go_iload_n dX0_enter_32 rfl ?_
        refine go_iconst 1 dX0_enter_33 (by decide) ?_
        refine go_isub dX0_enter_34 ?_
        refine go_iconst 2 dX0_enter_35 (by decide) ?_
        refine go_idiv dX0_enter_36 (by decide) ?_
        rw [a_par (by omega) (by omega)]
        refine go_istore_n dX0_enter_37 (Nat.le_of_ble_eq_true rfl) rfl ?_
        refine go_goto 2 dX0_enter_38 (by decide) ?_
        exact go_sub [(0, .ref h), (2, .int (nI ((i - 1) / 2)))] ⟨rfl, rfl, trivial⟩ (ih ((i - 1) / 2) _ r (by omega) (by omega) hr)
      · rw [if_neg (by rw [bI_eq.mp q19]; decide)] at hr
        subst hr
        exact go_return dX0_enter_22 rfl
theorem c_up (l : Launch) {w : MW} {h : Nat} {n : Nat} {f : Nat → Int32} {c : Int32} {low : Bool} (hh : h + 1 < w.1) (hn : n ≤ 30) {i : Nat} (hi : i < n) : Ct l (.code yX0_enter cX0_enter 3 none) yX0_enter 1 0 0 [.ref h, .int (nI i)] (layW w h 0 [.int (bI low)] f n c) (.inl none) (layP w h 0 [.int (bI low)] n (upS ltI low 30 i (f, c))) := by
  refine ct_of (by decide +kernel) (Nat.le_of_ble_eq_true rfl) ?_
  refine go_iload_n dX0_enter_0 rfl ?_
  refine go_istore_n dX0_enter_1 (Nat.le_of_ble_eq_true rfl) rfl ?_
  exact go_sub [(0, .ref h), (2, .int (nI i))] ⟨rfl, rfl, trivial⟩ (c_up_2 l hh hn 30 i (f, c) _ (by omega) hi rfl)
theorem c_down_J (l : Launch) {w : MW} {h : Nat} {n : Nat} {low : Bool} (hh : h + 1 < w.1) (hn : n ≤ 30) {u t i ch : Nat} {x r : QS} (ht : t < 30) (hi : i < n) (hch : ch < n) (ih : ∀ (k : Nat) (s r : QS), k < n → r = downS ltI low n u k s → Go l yX0_down cX0_down 7 none [] none (mm_Z (mm_eq (.inl none) (layP w h 0 [.int (bI low)] n r))) 1 0 0 4 [(0, .ref h), (2, .int (nI k)), (3, .int (nI (t + 1)))] [] (layP w h 0 [.int (bI low)] n s)) (hr : r = if ld ltI low (x.1 ch) (x.1 i) then downS ltI low n u ch (sw x.1 ch i, x.2 + 1) else (x.1, x.2 + 1)) : Go l yX0_down cX0_down 7 none [] none (mm_Z (mm_eq (.inl none) (layP w h 0 [.int (bI low)] n r))) 1 0 0 64 [(0, .ref h), (2, .int (nI i)), (3, .int (nI t))] [.int (nI ch)] (layP w h 0 [.int (bI low)] n x) := by
  refine go_istore dX0_down_64 (Nat.le_of_ble_eq_true rfl) rfl ?_
  refine go_aload_n dX0_down_66 rfl ?_
  refine go_iload dX0_down_67 rfl ?_
  refine go_iload_n dX0_down_69 rfl ?_
  refine go_aload_n dX0_down_70 rfl ?_
  refine go_getfield dX0_down_71 f_X0_9_0 (layW_ob hh) rfl ?_
  refine go_virt1 dX0_down_74 (c_aheadB l hh (Or.inl rfl) hn (i := ch) (j := i) (by omega) (by omega) low) v_X0_29_0 rfl (layW_ob hh) rfl (Nat.le_of_ble_eq_true rfl) (Nat.le_of_ble_eq_true rfl) (Nat.le_of_ble_eq_true rfl) ?_
  refine go_if_ne 81 dX0_down_77 (by decide) (fun q77 => ?_) (fun q77 => ?_)
  · rw [if_pos (bI_ne.mp q77)] at hr
    refine go_aload_n dX0_down_81 rfl ?_
    refine go_iload dX0_down_82 rfl ?_
    refine go_iload_n dX0_down_84 rfl ?_
    refine go_virt0 dX0_down_85 (c_exchange l hh (Or.inl rfl) hn (i := ch) (j := i) (by omega) (by omega)) v_X0_33_0 rfl (layW_ob hh) rfl (Nat.le_of_ble_eq_true rfl) (Nat.le_of_ble_eq_true rfl) (Nat.le_of_ble_eq_true rfl) ?_
    refine go_iload dX0_down_88 rfl ?_
    refine go_istore_n dX0_down_90 (Nat.le_of_ble_eq_true rfl) rfl ?_
    refine go_iinc dX0_down_91 rfl (Nat.le_of_ble_eq_true rfl) rfl (show _ = _ + 1 from rfl) ?_
    rw [a_k1]
    refine go_goto 4 dX0_down_94 (by decide) ?_
    exact go_sub [(0, .ref h), (2, .int (nI ch)), (3, .int (nI (t + 1)))] ⟨rfl, rfl, rfl, trivial⟩ (ih ch _ r (by omega) hr)
  · rw [if_neg (by rw [bI_eq.mp q77]; decide)] at hr
    subst hr
    exact go_return dX0_down_80 rfl
theorem c_down_4 (l : Launch) {w : MW} {h : Nat} {n : Nat} {low : Bool} (hh : h + 1 < w.1) (hn : n ≤ 30) : ∀ (u t : Nat), u + t = 30 → ∀ (i : Nat) (s r : QS), i < n → r = downS ltI low n u i s → Go l yX0_down cX0_down 7 none [] none (mm_Z (mm_eq (.inl none) (layP w h 0 [.int (bI low)] n r))) 1 0 0 4 [(0, .ref h), (2, .int (nI i)), (3, .int (nI t))] [] (layP w h 0 [.int (bI low)] n s) := by
  intro u
  induction u with
  | zero =>
    intro t ht i s r hi hr
    have e : t = 30 := by omega
    subst e
    subst hr
    refine go_iload_n dX0_down_4 rfl ?_
    refine go_bipush 30 dX0_down_5 (by decide) ?_
    refine go_icmp_ge_t 97 dX0_down_7 (by decide) (by decide) ?_
    exact go_return dX0_down_97 rfl
  | succ u ih =>
    intro t ht i s r hi hr
    unfold downS at hr
    simp only at hr
    refine go_iload_n dX0_down_4 rfl ?_
    refine go_bipush 30 dX0_down_5 (by decide) ?_
    refine go_icmp_ge_f 97 dX0_down_7 (by decide) (n_nle (a := 30) (show t < 30 by omega) (by decide)) ?_
    refine go_iconst 2 dX0_down_10 (by decide) ?_
    refine go_iload_n dX0_down_11 rfl ?_
    refine go_imul dX0_down_12 ?_
    refine go_iconst 1 dX0_down_13 (by decide) ?_
    refine go_iadd dX0_down_14 ?_
    rw [a_2, a_k1]
    refine go_istore dX0_down_15 (Nat.le_of_ble_eq_true rfl) rfl ?_
    refine go_iload dX0_down_17 rfl ?_
    refine go_iconst 1 dX0_down_19 (by decide) ?_
    refine go_iadd dX0_down_20 ?_
    rw [a_k1]
    refine go_istore dX0_down_21 (Nat.le_of_ble_eq_true rfl) rfl ?_
    refine go_iload dX0_down_23 rfl ?_
    refine go_aload_n dX0_down_25 rfl ?_
    refine go_getfield dX0_down_26 f_X0_25_0 (layW_ob hh) rfl ?_
    refine go_icmp_lt 33 dX0_down_29 (by decide) (fun q29 => ?_) (fun q29 => ?_)
    · have z29 := n_lt2 q29 (by omega) (by omega)
      rw [if_pos z29] at hr
      refine go_iload dX0_down_33 rfl ?_
      refine go_aload_n dX0_down_35 rfl ?_
      refine go_getfield dX0_down_36 f_X0_25_0 (layW_ob hh) rfl ?_
      refine go_icmp_ge 62 dX0_down_39 (by decide) (fun q39 => ?_) (fun q39 => ?_)
      · have z39 := n_le' q39 (by omega) (by omega)
        rw [decide_eq_false (show ¬ 2 * i + 2 < n by omega)] at hr
        simp only [Bool.false_eq_true, if_false, chS_0] at hr
        have J := fun (ch : Nat) (hc : ch < n) => c_down_J l hh hn (u := u) (t := t) (i := i) (ch := ch) (x := s) (r := r) (by omega) hi hc (ih (t + 1) (by omega))
        refine go_iload dX0_down_62 rfl ?_
        exact go_sub [(0, .ref h), (2, .int (nI i)), (3, .int (nI t))] ⟨rfl, rfl, rfl, trivial⟩ (J _ (by omega) hr)
      · have z39 : 2 * i + 2 < n := n_lt' q39 (by omega)
        rw [decide_eq_true z39] at hr
        simp only [if_true] at hr
        have J := fun (ch : Nat) (hc : ch < n) => c_down_J l hh hn (u := u) (t := t) (i := i) (ch := ch) (x := (s.1, s.2 + 1)) (r := r) (by omega) hi hc (ih (t + 1) (by omega))
        refine go_aload_n dX0_down_42 rfl ?_
        refine go_iload dX0_down_43 rfl ?_
        refine go_iload dX0_down_45 rfl ?_
        refine go_aload_n dX0_down_47 rfl ?_
        refine go_getfield dX0_down_48 f_X0_9_0 (layW_ob hh) rfl ?_
        refine go_virt1 dX0_down_51 (c_aheadB l hh (Or.inl rfl) hn (i := 2 * i + 2) (j := 2 * i + 1) (by omega) (by omega) low) v_X0_29_0 rfl (layW_ob hh) rfl (Nat.le_of_ble_eq_true rfl) (Nat.le_of_ble_eq_true rfl) (Nat.le_of_ble_eq_true rfl) ?_
        refine go_if_eq 62 dX0_down_54 (by decide) (fun q54 => ?_) (fun q54 => ?_)
        · rw [chS_f (bI_eq.mp q54)] at hr
          refine go_iload dX0_down_62 rfl ?_
          exact go_sub [(0, .ref h), (2, .int (nI i)), (3, .int (nI t))] ⟨rfl, rfl, rfl, trivial⟩ (J _ (by omega) hr)
        · rw [chS_t (bI_ne.mp q54)] at hr
          refine go_iload dX0_down_57 rfl ?_
          refine go_goto 64 dX0_down_59 (by decide) ?_
          exact go_sub [(0, .ref h), (2, .int (nI i)), (3, .int (nI t))] ⟨rfl, rfl, rfl, trivial⟩ (J _ (by omega) hr)
    · have z29 := n_ge2 q29 (by omega)
      rw [if_neg (by omega)] at hr
      subst hr
      exact go_return dX0_down_32 rfl
theorem c_down (l : Launch) {w : MW} {h : Nat} {n : Nat} {f : Nat → Int32} {c : Int32} {low : Bool} (hh : h + 1 < w.1) (hn : n ≤ 30) {i : Nat} (hi : i < n) : Ct l (.code yX0_down cX0_down 7 none) yX0_down 1 0 0 [.ref h, .int (nI i)] (layW w h 0 [.int (bI low)] f n c) (.inl none) (layP w h 0 [.int (bI low)] n (downS ltI low n 30 i (f, c))) := by
  refine ct_of (by decide +kernel) (Nat.le_of_ble_eq_true rfl) ?_
  refine go_iload_n dX0_down_0 rfl ?_
  refine go_istore_n dX0_down_1 (Nat.le_of_ble_eq_true rfl) rfl ?_
  refine go_iconst 0 dX0_down_2 (by decide) ?_
  refine go_istore_n dX0_down_3 (Nat.le_of_ble_eq_true rfl) rfl ?_
  exact go_sub [(0, .ref h), (2, .int (nI i)), (3, .int (nI 0))] ⟨rfl, rfl, rfl, trivial⟩ (c_down_4 l hh hn 30 0 rfl i (f, c) _ hi rfl)
theorem c_settle2 (l : Launch) {w : MW} {h : Nat} {n : Nat} {f : Nat → Int32} {c : Int32} {low : Bool} (hh : h + 1 < w.1) (hn : n ≤ 30) {i : Nat} (hi : i < n) : Ct l (.code yX0_settle cX0_settle 2 none) yX0_settle 2 0 0 [.ref h, .int (nI i)] (layW w h 0 [.int (bI low)] f n c) (.inl none) (layP w h 0 [.int (bI low)] n (settleS2 ltI low n i (f, c))) := by
  refine ct_of (by decide +kernel) (Nat.le_of_ble_eq_true rfl) ?_
  refine go_aload_n dX0_settle_0 rfl ?_
  refine go_iload_n dX0_settle_1 rfl ?_
  refine go_virt0 dX0_settle_2 (c_up l hh hn hi) v_X0_37_0 rfl (layW_ob hh) rfl (Nat.le_of_ble_eq_true rfl) (Nat.le_of_ble_eq_true rfl) (Nat.le_of_ble_eq_true rfl) ?_
  refine go_aload_n dX0_settle_5 rfl ?_
  refine go_iload_n dX0_settle_6 rfl ?_
  refine go_virt0 dX0_settle_7 (c_down l hh hn hi) v_X0_41_0 rfl (layW_ob hh) rfl (Nat.le_of_ble_eq_true rfl) (Nat.le_of_ble_eq_true rfl) (Nat.le_of_ble_eq_true rfl) ?_
  exact go_return dX0_settle_10 rfl
theorem c_settleAll2_7 (l : Launch) {w : MW} {h : Nat} {n : Nat} {low : Bool} (hh : h + 1 < w.1) (hn : n ≤ 30) : ∀ (m : Nat) (s r : QS), m ≤ n → r = allS2 ltI low n m s → Go l yX0_settleAll cX0_settleAll 2 none [] none (mm_Z (mm_eq (.inl none) (layP w h 0 [.int (bI low)] n r))) 2 0 0 7 [(0, .ref h), (1, .int (nI m - 1))] [] (layP w h 0 [.int (bI low)] n s) := by
  intro m
  induction m with
  | zero =>
    intro s r hm hr
    subst hr
    refine go_iload_n dX0_settleAll_7 rfl ?_
    refine go_if_lt_t 22 dX0_settleAll_8 (by decide) (by decide) ?_
    exact go_return dX0_settleAll_22 rfl
  | succ m ih =>
    intro s r hm hr
    rw [nI_pred]
    refine go_iload_n dX0_settleAll_7 rfl ?_
    refine go_if_lt_f 22 dX0_settleAll_8 (by decide) (nI_pos (by omega)) ?_
    refine go_aload_n dX0_settleAll_11 rfl ?_
    refine go_iload_n dX0_settleAll_12 rfl ?_
    refine go_virt0 dX0_settleAll_13 (c_down l hh hn (i := m) (by omega)) v_X0_41_0 rfl (layW_ob hh) rfl (Nat.le_of_ble_eq_true rfl) (Nat.le_of_ble_eq_true rfl) (Nat.le_of_ble_eq_true rfl) ?_
    refine go_iinc dX0_settleAll_16 rfl (Nat.le_of_ble_eq_true rfl) rfl (show _ = _ + (-1) from rfl) ?_
    refine go_goto 7 dX0_settleAll_19 (by decide) ?_
    rw [show nI m + -1 = nI m - 1 from (Int32.sub_eq_add_neg _ _).symm]
    exact go_sub [(0, .ref h), (1, .int (nI m - 1))] ⟨rfl, rfl, trivial⟩ (ih _ r (by omega) hr)
theorem c_settleAll2 (l : Launch) {w : MW} {h : Nat} {n : Nat} {f : Nat → Int32} {c : Int32} {low : Bool} (hh : h + 1 < w.1) (hn : n ≤ 30) : Ct l (.code yX0_settleAll cX0_settleAll 2 none) yX0_settleAll 2 0 0 [.ref h] (layW w h 0 [.int (bI low)] f n c) (.inl none) (layP w h 0 [.int (bI low)] n (allS2 ltI low n n (f, c))) := by
  refine ct_of (by decide +kernel) (Nat.le_of_ble_eq_true rfl) ?_
  refine go_aload_n dX0_settleAll_0 rfl ?_
  refine go_getfield dX0_settleAll_1 f_X0_25_0 (layW_ob hh) rfl ?_
  refine go_iconst 1 dX0_settleAll_4 (by decide) ?_
  refine go_isub dX0_settleAll_5 ?_
  refine go_istore_n dX0_settleAll_6 (Nat.le_of_ble_eq_true rfl) rfl ?_
  exact go_sub [(0, .ref h), (1, .int (nI n - 1))] ⟨rfl, rfl, trivial⟩ (c_settleAll2_7 l hh hn _ (f, c) _ (by omega) rfl)
theorem c_broken2_4 (l : Launch) {w : MW} {h : Nat} {n : Nat} {f : Nat → Int32} {c : Int32} {low : Bool} (hh : h + 1 < w.1) (hn : n ≤ 30) {r N : Nat} (hN : N = max 1 n) (hr : r = brk2 ltI low f N) : ∀ (k m b : Nat), m + k = N → b = brk2 ltI low f m → 1 ≤ m → Go l yX0_brokenPairs cX0_brokenPairs 5 (some .int) [] none (mm_Z (mm_eq (.inl (some (.int (nI r)))) (layW w h 0 [.int (bI low)] f n c))) 2 0 0 4 [(0, .ref h), (1, .int (nI b)), (2, .int (nI m))] [] (layW w h 0 [.int (bI low)] f n c) := by
  intro k
  induction k with
  | zero =>
    intro m b hm hb _
    have e : m = N := by omega
    rw [← e, ← hb] at hr
    subst hr
    refine go_iload_n dX0_brokenPairs_4 rfl ?_
    refine go_aload_n dX0_brokenPairs_5 rfl ?_
    refine go_getfield dX0_brokenPairs_6 f_X0_25_0 (layW_ob hh) rfl ?_
    refine go_icmp_ge_t 68 dX0_brokenPairs_9 (by decide) (nI_le (by omega) (by omega)) ?_
    refine go_iload_n dX0_brokenPairs_68 rfl ?_
    exact go_ireturn dX0_brokenPairs_69 rfl rfl
  | succ k ih =>
    intro m b hm hb h1
    cases low
    · skip
      refine go_iload_n dX0_brokenPairs_4 rfl ?_
      refine go_aload_n dX0_brokenPairs_5 rfl ?_
      refine go_getfield dX0_brokenPairs_6 f_X0_25_0 (layW_ob hh) rfl ?_
      refine go_icmp_ge_f 68 dX0_brokenPairs_9 (by decide) (n_nle (by omega) (by omega)) ?_
      refine go_aload_n dX0_brokenPairs_12 rfl ?_
      refine go_getfield dX0_brokenPairs_13 f_X0_9_0 (layW_ob hh) rfl ?_
      refine go_if_eq_t 26 dX0_brokenPairs_16 (by decide) (rfl) ?_
      refine go_iload_n dX0_brokenPairs_26 rfl ?_
      refine go_istore_n dX0_brokenPairs_27 (Nat.le_of_ble_eq_true rfl) rfl ?_
      refine go_aload_n dX0_brokenPairs_28 rfl ?_
      refine go_getfield dX0_brokenPairs_29 f_X0_9_0 (layW_ob hh) rfl ?_
      refine go_if_eq_t 39 dX0_brokenPairs_32 (by decide) (rfl) ?_
      refine go_iload_n dX0_brokenPairs_39 rfl ?_
      refine go_statU dX0_brokenPairs_40 (c_parentOf l (by omega) (by omega)) u_X0_19 kc_X3_parentOf rfl rfl (Nat.le_of_ble_eq_true rfl) (Nat.le_of_ble_eq_true rfl) (Nat.le_of_ble_eq_true rfl) ?_
      refine go_istore dX0_brokenPairs_43 (Nat.le_of_ble_eq_true rfl) rfl ?_
      refine go_aload_n dX0_brokenPairs_45 rfl ?_
      refine go_iload dX0_brokenPairs_46 rfl ?_
      refine go_virt1 dX0_brokenPairs_48 (c_itemAt1 l hh (Or.inl rfl) hn (j := (m - 1) / 2) (by omega)) v_X0_44_0 rfl (layW_ob hh) rfl (Nat.le_of_ble_eq_true rfl) (Nat.le_of_ble_eq_true rfl) (Nat.le_of_ble_eq_true rfl) ?_
      refine go_aload_n dX0_brokenPairs_51 rfl ?_
      refine go_iload_n dX0_brokenPairs_52 rfl ?_
      refine go_virt1 dX0_brokenPairs_53 (c_itemAt1 l hh (Or.inl rfl) hn (j := m) (by omega)) v_X0_44_0 rfl (layW_ob hh) rfl (Nat.le_of_ble_eq_true rfl) (Nat.le_of_ble_eq_true rfl) (Nat.le_of_ble_eq_true rfl) ?_
      refine go_icmp_ge 62 dX0_brokenPairs_56 (by decide) (fun q56 => ?_) (fun q56 => ?_)
      · have e3 : bN (ld ltI false (f m) (f ((m - 1) / 2))) = 0 := bN_0 (decide_eq_false (Int32.not_lt.mpr q56))
        refine go_iinc dX0_brokenPairs_62 rfl (Nat.le_of_ble_eq_true rfl) rfl (show _ = _ + 1 from rfl) ?_
        rw [a_k1]
        refine go_goto 4 dX0_brokenPairs_65 (by decide) ?_
        exact go_sub [(0, .ref h), (1, .int (nI _)), (2, .int (nI (m + 1)))] ⟨rfl, rfl, rfl, trivial⟩ (ih (m + 1) _ (by omega) (by unfold brk2; rw [if_neg (show ¬ m = 0 by omega)]; omega) (by omega))
      · have e3 : bN (ld ltI false (f m) (f ((m - 1) / 2))) = 1 := bN_1 (decide_eq_true (Int32.not_le.mp q56))
        refine go_iinc dX0_brokenPairs_59 rfl (Nat.le_of_ble_eq_true rfl) rfl (show _ = _ + 1 from rfl) ?_
        rw [a_k1]
        refine go_iinc dX0_brokenPairs_62 rfl (Nat.le_of_ble_eq_true rfl) rfl (show _ = _ + 1 from rfl) ?_
        rw [a_k1]
        refine go_goto 4 dX0_brokenPairs_65 (by decide) ?_
        exact go_sub [(0, .ref h), (1, .int (nI _)), (2, .int (nI (m + 1)))] ⟨rfl, rfl, rfl, trivial⟩ (ih (m + 1) _ (by omega) (by unfold brk2; rw [if_neg (show ¬ m = 0 by omega)]; omega) (by omega))
    · skip
      refine go_iload_n dX0_brokenPairs_4 rfl ?_
      refine go_aload_n dX0_brokenPairs_5 rfl ?_
      refine go_getfield dX0_brokenPairs_6 f_X0_25_0 (layW_ob hh) rfl ?_
      refine go_icmp_ge_f 68 dX0_brokenPairs_9 (by decide) (n_nle (by omega) (by omega)) ?_
      refine go_aload_n dX0_brokenPairs_12 rfl ?_
      refine go_getfield dX0_brokenPairs_13 f_X0_9_0 (layW_ob hh) rfl ?_
      refine go_if_eq_f 26 dX0_brokenPairs_16 (by decide) (by decide) ?_
      refine go_iload_n dX0_brokenPairs_19 rfl ?_
      refine go_statU dX0_brokenPairs_20 (c_parentOf l (by omega) (by omega)) u_X0_19 kc_X3_parentOf rfl rfl (Nat.le_of_ble_eq_true rfl) (Nat.le_of_ble_eq_true rfl) (Nat.le_of_ble_eq_true rfl) ?_
      refine go_goto 27 dX0_brokenPairs_23 (by decide) ?_
      refine go_istore_n dX0_brokenPairs_27 (Nat.le_of_ble_eq_true rfl) rfl ?_
      refine go_aload_n dX0_brokenPairs_28 rfl ?_
      refine go_getfield dX0_brokenPairs_29 f_X0_9_0 (layW_ob hh) rfl ?_
      refine go_if_eq_f 39 dX0_brokenPairs_32 (by decide) (by decide) ?_
      refine go_iload_n dX0_brokenPairs_35 rfl ?_
      refine go_goto 43 dX0_brokenPairs_36 (by decide) ?_
      refine go_istore dX0_brokenPairs_43 (Nat.le_of_ble_eq_true rfl) rfl ?_
      refine go_aload_n dX0_brokenPairs_45 rfl ?_
      refine go_iload dX0_brokenPairs_46 rfl ?_
      refine go_virt1 dX0_brokenPairs_48 (c_itemAt1 l hh (Or.inl rfl) hn (j := m) (by omega)) v_X0_44_0 rfl (layW_ob hh) rfl (Nat.le_of_ble_eq_true rfl) (Nat.le_of_ble_eq_true rfl) (Nat.le_of_ble_eq_true rfl) ?_
      refine go_aload_n dX0_brokenPairs_51 rfl ?_
      refine go_iload_n dX0_brokenPairs_52 rfl ?_
      refine go_virt1 dX0_brokenPairs_53 (c_itemAt1 l hh (Or.inl rfl) hn (j := (m - 1) / 2) (by omega)) v_X0_44_0 rfl (layW_ob hh) rfl (Nat.le_of_ble_eq_true rfl) (Nat.le_of_ble_eq_true rfl) (Nat.le_of_ble_eq_true rfl) ?_
      refine go_icmp_ge 62 dX0_brokenPairs_56 (by decide) (fun q56 => ?_) (fun q56 => ?_)
      · have e3 : bN (ld ltI true (f m) (f ((m - 1) / 2))) = 0 := bN_0 (decide_eq_false (Int32.not_lt.mpr q56))
        refine go_iinc dX0_brokenPairs_62 rfl (Nat.le_of_ble_eq_true rfl) rfl (show _ = _ + 1 from rfl) ?_
        rw [a_k1]
        refine go_goto 4 dX0_brokenPairs_65 (by decide) ?_
        exact go_sub [(0, .ref h), (1, .int (nI _)), (2, .int (nI (m + 1)))] ⟨rfl, rfl, rfl, trivial⟩ (ih (m + 1) _ (by omega) (by unfold brk2; rw [if_neg (show ¬ m = 0 by omega)]; omega) (by omega))
      · have e3 : bN (ld ltI true (f m) (f ((m - 1) / 2))) = 1 := bN_1 (decide_eq_true (Int32.not_le.mp q56))
        refine go_iinc dX0_brokenPairs_59 rfl (Nat.le_of_ble_eq_true rfl) rfl (show _ = _ + 1 from rfl) ?_
        rw [a_k1]
        refine go_iinc dX0_brokenPairs_62 rfl (Nat.le_of_ble_eq_true rfl) rfl (show _ = _ + 1 from rfl) ?_
        rw [a_k1]
        refine go_goto 4 dX0_brokenPairs_65 (by decide) ?_
        exact go_sub [(0, .ref h), (1, .int (nI _)), (2, .int (nI (m + 1)))] ⟨rfl, rfl, rfl, trivial⟩ (ih (m + 1) _ (by omega) (by unfold brk2; rw [if_neg (show ¬ m = 0 by omega)]; omega) (by omega))
theorem c_broken2 (l : Launch) {w : MW} {h : Nat} {n : Nat} {f : Nat → Int32} {c : Int32} {low : Bool} (hh : h + 1 < w.1) (hn : n ≤ 30) : Ct l (.code yX0_brokenPairs cX0_brokenPairs 5 (some .int)) yX0_brokenPairs 2 0 0 [.ref h] (layW w h 0 [.int (bI low)] f n c) (.inl (some (.int (nI (brk2 ltI low f (max 1 n)))))) (layW w h 0 [.int (bI low)] f n c) := by
  refine ct_of (by decide +kernel) (Nat.le_of_ble_eq_true rfl) ?_
  refine go_iconst 0 dX0_brokenPairs_0 (by decide) ?_
  refine go_istore_n dX0_brokenPairs_1 (Nat.le_of_ble_eq_true rfl) rfl ?_
  refine go_iconst 1 dX0_brokenPairs_2 (by decide) ?_
  refine go_istore_n dX0_brokenPairs_3 (Nat.le_of_ble_eq_true rfl) rfl ?_
  exact go_sub [(0, .ref h), (1, .int (nI 0)), (2, .int (nI 1))] ⟨rfl, rfl, rfl, trivial⟩ (c_broken2_4 l hh hn rfl rfl (max 1 n - 1) 1 0 (by omega) rfl (by omega))
def abS (f : Nat → Int32) : Nat → Nat → Int32 → Int32
  | 0, _, a => a
  | u + 1, i, a => if i = 0 then a else abS f u ((i - 1) / 2) (a ||| (1 <<< (hs (f ((i - 1) / 2)) &&& 31)))
theorem c_above_8 (l : Launch) {w : MW} {h : Nat} {n : Nat} {f : Nat → Int32} {c : Int32} {low : Bool} (hh : h + 1 < w.1) (hn : n ≤ 30) : ∀ (u i : Nat) (a r : Int32), i ≤ u → i < n → r = abS f u i a → Go l yX0_handlesAbove cX0_handlesAbove 4 (some .int) [] none (mm_Z (mm_eq (.inl (some (.int r))) (layW w h 0 [.int (bI low)] f n c))) 3 0 0 8 [(0, .ref h), (2, .int a), (3, .int (nI i))] [] (layW w h 0 [.int (bI low)] f n c) := by
  intro u
  induction u with
  | zero =>
    intro i a r hi hin hr
    have e : i = 0 := by omega
    subst e
    subst hr
    refine go_iload_n dX0_handlesAbove_8 rfl ?_
    refine go_if_le_t 34 dX0_handlesAbove_9 (by decide) (by decide) ?_
    refine go_iload_n dX0_handlesAbove_34 rfl ?_
    exact go_ireturn dX0_handlesAbove_35 rfl rfl
  | succ u ih =>
    intro i a r hi hin hr
    unfold abS at hr
    by_cases e : i = 0
    · subst e
      rw [if_pos rfl] at hr
      subst hr
      refine go_iload_n dX0_handlesAbove_8 rfl ?_
      refine go_if_le_t 34 dX0_handlesAbove_9 (by decide) (by decide) ?_
      refine go_iload_n dX0_handlesAbove_34 rfl ?_
      exact go_ireturn dX0_handlesAbove_35 rfl rfl
    · rw [if_neg e] at hr
      refine go_iload_n dX0_handlesAbove_8 rfl ?_
      refine go_if_le_f 34 dX0_handlesAbove_9 (by decide) (n_le0 (by omega) (by omega)) ?_
      refine go_iload_n dX0_handlesAbove_12 rfl ?_
      refine go_iconst 1 dX0_handlesAbove_13 (by decide) ?_
      refine go_aload_n dX0_handlesAbove_14 rfl ?_
      refine go_iload_n dX0_handlesAbove_15 rfl ?_
      refine go_statU dX0_handlesAbove_16 (c_parentOf l (by omega) (by omega)) u_X0_19 kc_X3_parentOf rfl rfl (Nat.le_of_ble_eq_true rfl) (Nat.le_of_ble_eq_true rfl) (Nat.le_of_ble_eq_true rfl) ?_
      refine go_virt1 dX0_handlesAbove_19 (c_handleAt1 l hh (Or.inl rfl) hn (j := (i - 1) / 2) (by omega)) v_X0_22_0 rfl (layW_ob hh) rfl (Nat.le_of_ble_eq_true rfl) (Nat.le_of_ble_eq_true rfl) (Nat.le_of_ble_eq_true rfl) ?_
      refine go_ishl dX0_handlesAbove_22 ?_
      refine go_ior dX0_handlesAbove_23 ?_
      refine go_istore_n dX0_handlesAbove_24 (Nat.le_of_ble_eq_true rfl) rfl ?_
      refine go_iload_n dX0_handlesAbove_25 rfl ?_
      refine go_iconst 1 dX0_handlesAbove_26 (by decide) ?_
      refine go_isub dX0_handlesAbove_27 ?_
      refine go_iconst 2 dX0_handlesAbove_28 (by decide) ?_
      refine go_idiv dX0_handlesAbove_29 (by decide) ?_
      rw [a_par (by omega) (by omega)]
      refine go_istore_n dX0_handlesAbove_30 (Nat.le_of_ble_eq_true rfl) rfl ?_
      refine go_goto 8 dX0_handlesAbove_31 (by decide) ?_
      exact go_sub [(0, .ref h), (2, .int (a ||| (1 <<< (hs (f ((i - 1) / 2)) &&& 31)))), (3, .int (nI ((i - 1) / 2)))] ⟨rfl, rfl, rfl, trivial⟩ (ih ((i - 1) / 2) _ r (by omega) (by omega) hr)
theorem c_above (l : Launch) {w : MW} {h : Nat} {n : Nat} {f : Nat → Int32} {c : Int32} {low : Bool} (hh : h + 1 < w.1) (hn : n ≤ 30) {x : Int32} (hx : fndN f n x < n) : Ct l (.code yX0_handlesAbove cX0_handlesAbove 4 (some .int)) yX0_handlesAbove 3 0 0 [.ref h, .int x] (layW w h 0 [.int (bI low)] f n c) (.inl (some (.int (abS f 30 (fndN f n x) 0)))) (layW w h 0 [.int (bI low)] f n c) := by
  refine ct_of (by decide +kernel) (Nat.le_of_ble_eq_true rfl) ?_
  refine go_iconst 0 dX0_handlesAbove_0 (by decide) ?_
  refine go_istore_n dX0_handlesAbove_1 (Nat.le_of_ble_eq_true rfl) rfl ?_
  refine go_aload_n dX0_handlesAbove_2 rfl ?_
  refine go_iload_n dX0_handlesAbove_3 rfl ?_
  refine go_virt1 dX0_handlesAbove_4 (c_find l hh (Or.inl rfl) hn (x := x)) v_X0_15_0 rfl (layW_ob hh) rfl (Nat.le_of_ble_eq_true rfl) (Nat.le_of_ble_eq_true rfl) (Nat.le_of_ble_eq_true rfl) ?_
  rw [show fndR f n x = nI (fndN f n x) from if_pos hx]
  refine go_istore_n dX0_handlesAbove_7 (Nat.le_of_ble_eq_true rfl) rfl ?_
  exact go_sub [(0, .ref h), (2, .int 0), (3, .int (nI (fndN f n x)))] ⟨rfl, rfl, rfl, trivial⟩ (c_above_8 l hh hn 30 _ 0 _ (by omega) hx rfl)
