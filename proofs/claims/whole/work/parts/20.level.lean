theorem c_levelOf_4 (l : Launch) {w : MW} : ∀ (u p a r : Nat), p ≤ u → p < 2 ^ 30 → r = a + lvl p → Go l yX4_levelOf cX4_levelOf 3 (some .int) [] none (mm_Z (mm_eq (.inl (some (.int (nI r)))) w)) 0 0 0 4 [(1, .int (nI a)), (2, .int (nI p))] [] w := by
  intro u
  induction u with
  | zero =>
    intro p a r hp _ hr
    have e : p = 0 := by omega
    subst e
    rw [lvl_0] at hr
    subst hr
    refine go_iload_n dX4_levelOf_4 rfl ?_
    refine go_if_le_t 20 dX4_levelOf_5 (by decide) (by decide) ?_
    refine go_iload_n dX4_levelOf_20 rfl ?_
    exact go_ireturn dX4_levelOf_21 rfl rfl
  | succ u ih =>
    intro p a r hp hb hr
    by_cases e : p = 0
    · subst e
      rw [lvl_0] at hr
      subst hr
      refine go_iload_n dX4_levelOf_4 rfl ?_
      refine go_if_le_t 20 dX4_levelOf_5 (by decide) (by decide) ?_
      refine go_iload_n dX4_levelOf_20 rfl ?_
      exact go_ireturn dX4_levelOf_21 rfl rfl
    · skip
      refine go_iload_n dX4_levelOf_4 rfl ?_
      refine go_if_le_f 20 dX4_levelOf_5 (by decide) (n_le0 (by omega) (by omega)) ?_
      refine go_iinc dX4_levelOf_8 rfl (Nat.le_of_ble_eq_true rfl) rfl (show _ = _ + 1 from rfl) ?_
      rw [a_k1]
      refine go_iload_n dX4_levelOf_11 rfl ?_
      refine go_iconst 1 dX4_levelOf_12 (by decide) ?_
      refine go_isub dX4_levelOf_13 ?_
      refine go_iconst 2 dX4_levelOf_14 (by decide) ?_
      refine go_idiv dX4_levelOf_15 (by decide) ?_
      rw [a_par (by omega) (by omega)]
      refine go_istore_n dX4_levelOf_16 (Nat.le_of_ble_eq_true rfl) rfl ?_
      refine go_goto 4 dX4_levelOf_17 (by decide) ?_
      exact go_sub [(1, .int (nI (a + 1))), (2, .int (nI ((p - 1) / 2)))] ⟨rfl, rfl, trivial⟩ (ih ((p - 1) / 2) (a + 1) r (by omega) (by omega) (by rw [hr, lvl_s (by omega)]; omega))
theorem c_levelOf (l : Launch) {w : MW} {p : Nat} (hp : p < 2 ^ 30) : Ct l (.code yX4_levelOf cX4_levelOf 3 (some .int)) yX4_levelOf 0 0 0 [.int (nI p)] w (.inl (some (.int (nI (lvl p))))) w := by
  refine ct_of (by decide +kernel) (Nat.le_of_ble_eq_true rfl) ?_
  refine go_iconst 0 dX4_levelOf_0 (by decide) ?_
  refine go_istore_n dX4_levelOf_1 (Nat.le_of_ble_eq_true rfl) rfl ?_
  refine go_iload_n dX4_levelOf_2 rfl ?_
  refine go_istore_n dX4_levelOf_3 (Nat.le_of_ble_eq_true rfl) rfl ?_
  exact go_sub [(1, .int (nI 0)), (2, .int (nI p))] ⟨rfl, rfl, trivial⟩ (c_levelOf_4 l p p 0 _ (by omega) hp (by omega))
theorem c_isLow (l : Launch) {w : MW} {p : Nat} (hp : p < 2 ^ 30) : Ct l (.code yX4_isLow cX4_isLow 1 (some .boolean)) yX4_isLow 1 0 0 [.int (nI p)] w (.inl (some (.int (bI (lowB p))))) w := by
  refine ct_of (by decide +kernel) (Nat.le_of_ble_eq_true rfl) ?_
  refine go_iload_n dX4_isLow_0 rfl ?_
  refine go_stat1 dX4_isLow_1 (c_levelOf l hp) s_X4_9 kc_X4_levelOf rfl rfl (Nat.le_of_ble_eq_true rfl) (Nat.le_of_ble_eq_true rfl) (Nat.le_of_ble_eq_true rfl) ?_
  refine go_iconst 2 dX4_isLow_4 (by decide) ?_
  refine go_irem dX4_isLow_5 (by decide) ?_
  have hl := @lvl_le p
  rw [show nI (lvl p) - nI (lvl p) / 2 * 2 = nI (lvl p % 2) from pk_rem (a := lvl p) (d := 2) (by omega) (by decide) (by decide)]
  refine go_if_ne 13 dX4_isLow_6 (by decide) (fun q6 => ?_) (fun q6 => ?_)
  · rw [show lowB p = false from decide_eq_false (fun e => q6 (by rw [e]; rfl))]
    refine go_iconst 0 dX4_isLow_13 (by decide) ?_
    exact go_ireturn dX4_isLow_14 rfl (by decide)
  · rw [show lowB p = true from decide_eq_true ((nI_eq (b := 0) (by omega) (by decide)).mp q6)]
    refine go_iconst 1 dX4_isLow_9 (by decide) ?_
    refine go_goto 14 dX4_isLow_10 (by decide) ?_
    exact go_ireturn dX4_isLow_14 rfl (by decide)
theorem c_gpos1a (l : Launch) {w : MW} {h : Nat} {n : Nat} {f : Nat → Int32} {c : Int32} (hh : h + 1 < w.1) (hn : n ≤ 30) (h3 : n < 3) : Ct l (.code yX4_greatestPosition cX4_greatestPosition 1 (some .int)) yX4_greatestPosition 2 0 0 [.ref h] (layW w h 3 [] f n c) (.inl (some (.int (nI n - 1)))) (layW w h 3 [] f n c) := by
  refine ct_of (by decide +kernel) (Nat.le_of_ble_eq_true rfl) ?_
  refine go_aload_n dX4_greatestPosition_0 rfl ?_
  refine go_getfield dX4_greatestPosition_1 f_X4_15_3 (layW_ob hh) rfl ?_
  refine go_iconst 3 dX4_greatestPosition_4 (by decide) ?_
  refine go_icmp_ge_f 15 dX4_greatestPosition_5 (by decide) (n_nle (a := 3) h3 (by decide)) ?_
  refine go_aload_n dX4_greatestPosition_8 rfl ?_
  refine go_getfield dX4_greatestPosition_9 f_X4_15_3 (layW_ob hh) rfl ?_
  refine go_iconst 1 dX4_greatestPosition_12 (by decide) ?_
  refine go_isub dX4_greatestPosition_13 ?_
  exact go_ireturn dX4_greatestPosition_14 rfl rfl
theorem c_gpos1b (l : Launch) {w : MW} {h : Nat} {n : Nat} {f : Nat → Int32} {c : Int32} (hh : h + 1 < w.1) (hn : n ≤ 30) (h3 : 3 ≤ n) : Ct l (.code yX4_greatestPosition cX4_greatestPosition 1 (some .int)) yX4_greatestPosition 2 0 0 [.ref h] (layW w h 3 [] f n c) (.inl (some (.int (nI (if ltI (f 1) (f 2) then 2 else 1))))) (layW w h 3 [] f n c) := by
  refine ct_of (by decide +kernel) (Nat.le_of_ble_eq_true rfl) ?_
  refine go_aload_n dX4_greatestPosition_0 rfl ?_
  refine go_getfield dX4_greatestPosition_1 f_X4_15_3 (layW_ob hh) rfl ?_
  refine go_iconst 3 dX4_greatestPosition_4 (by decide) ?_
  refine go_icmp_ge_t 15 dX4_greatestPosition_5 (by decide) (nI_le (a := 3) h3 (by omega)) ?_
  refine go_aload_n dX4_greatestPosition_15 rfl ?_
  refine go_iconst 1 dX4_greatestPosition_16 (by decide) ?_
  refine go_virt1 dX4_greatestPosition_17 (c_itemAt1 l hh (Or.inr (Or.inr rfl)) hn (j := 1) (by omega)) v_X4_19_3 rfl (layW_ob hh) rfl (Nat.le_of_ble_eq_true rfl) (Nat.le_of_ble_eq_true rfl) (Nat.le_of_ble_eq_true rfl) ?_
  refine go_aload_n dX4_greatestPosition_20 rfl ?_
  refine go_iconst 2 dX4_greatestPosition_21 (by decide) ?_
  refine go_virt1 dX4_greatestPosition_22 (c_itemAt1 l hh (Or.inr (Or.inr rfl)) hn (j := 2) (by omega)) v_X4_19_3 rfl (layW_ob hh) rfl (Nat.le_of_ble_eq_true rfl) (Nat.le_of_ble_eq_true rfl) (Nat.le_of_ble_eq_true rfl) ?_
  refine go_icmp_ge 32 dX4_greatestPosition_25 (by decide) (fun q25 => ?_) (fun q25 => ?_)
  · rw [if_neg (show ¬ ltI (f 1) (f 2) = true by simpa [ltI] using q25)]
    refine go_iconst 1 dX4_greatestPosition_32 (by decide) ?_
    exact go_ireturn dX4_greatestPosition_33 rfl rfl
  · rw [if_pos (show ltI (f 1) (f 2) = true by simpa [ltI] using q25)]
    refine go_iconst 2 dX4_greatestPosition_28 (by decide) ?_
    refine go_goto 33 dX4_greatestPosition_29 (by decide) ?_
    exact go_ireturn dX4_greatestPosition_33 rfl rfl
theorem c_cfg (l : Launch) {w : MW} {h : Nat} {n : Nat} {f : Nat → Int32} {c : Int32} (hh : h + 1 < w.1) (hn : n ≤ 30) : Ct l (.code yX4_countFindingGreatest cX4_countFindingGreatest 1 none) yX4_countFindingGreatest 0 0 0 [.ref h] (layW w h 3 [] f n c) (.inl none) (layW w h 3 [] f n (if 3 ≤ n then c + 1 else c)) := by
  refine ct_of (by decide +kernel) (Nat.le_of_ble_eq_true rfl) ?_
  refine go_aload_n dX4_countFindingGreatest_0 rfl ?_
  refine go_getfield dX4_countFindingGreatest_1 f_X4_15_3 (layW_ob hh) rfl ?_
  refine go_iconst 3 dX4_countFindingGreatest_4 (by decide) ?_
  refine go_icmp_lt 18 dX4_countFindingGreatest_5 (by decide) (fun q5 => ?_) (fun q5 => ?_)
  · have z5 := n_lt2 (b := 3) q5 (by omega) (by decide)
    rw [if_neg (by omega)]
    exact go_return dX4_countFindingGreatest_18 rfl
  · have z5 := n_ge2 (b := 3) q5 (by decide)
    rw [if_pos z5]
    refine go_aload_n dX4_countFindingGreatest_8 rfl ?_
    refine go_dup dX4_countFindingGreatest_9 rfl ?_
    refine go_getfield dX4_countFindingGreatest_10 f_X4_22_3 (layW_ob hh) rfl ?_
    refine go_iconst 1 dX4_countFindingGreatest_13 (by decide) ?_
    refine go_iadd dX4_countFindingGreatest_14 ?_
    refine go_putfield dX4_countFindingGreatest_15 p_X4_22_3 (layW_ob hh) (by simp only [List.length_cons]; omega) (fun _ => ⟨rfl, rfl⟩) (fun _ z => nomatch z) ?_
    rw [layW_upC]
    exact go_return dX4_countFindingGreatest_18 rfl
theorem c_rise_2 (l : Launch) {w : MW} {h : Nat} {n : Nat} (hh : h + 1 < w.1) (hn : n ≤ 30) {low : Bool} : ∀ (u i : Nat) (s r : QS), i ≤ u → i < n → r = riseS1 ltI low u i s → Go l yX4_rise cX4_rise 5 none [] none (mm_Z (mm_eq (.inl none) (layP w h 3 [] n r))) 1 0 0 2 [(0, .ref h), (2, .int (bI low)), (3, .int (nI i))] [] (layP w h 3 [] n s) := by
  intro u
  induction u with
  | zero =>
    intro i s r hi hin hr
    subst hr
    refine go_iload_n dX4_rise_2 rfl ?_
    refine go_iconst 2 dX4_rise_3 (by decide) ?_
    refine go_icmp_le_t 42 dX4_rise_4 (by decide) (nI_le (b := 2) (by omega) (by decide)) ?_
    exact go_return dX4_rise_42 rfl
  | succ u ih =>
    intro i s r hi hin hr
    unfold riseS1 at hr
    by_cases e : i ≤ 2
    · rw [if_pos e] at hr
      subst hr
      refine go_iload_n dX4_rise_2 rfl ?_
      refine go_iconst 2 dX4_rise_3 (by decide) ?_
      refine go_icmp_le_t 42 dX4_rise_4 (by decide) (nI_le (b := 2) (by omega) (by decide)) ?_
      exact go_return dX4_rise_42 rfl
    · rw [if_neg e] at hr
      refine go_iload_n dX4_rise_2 rfl ?_
      refine go_iconst 2 dX4_rise_3 (by decide) ?_
      refine go_icmp_le_f 42 dX4_rise_4 (by decide) (n_nle (b := 2) (by omega) (by omega)) ?_
      refine go_iload_n dX4_rise_7 rfl ?_
      refine go_iconst 3 dX4_rise_8 (by decide) ?_
      refine go_isub dX4_rise_9 ?_
      refine go_iconst 4 dX4_rise_10 (by decide) ?_
      refine go_idiv dX4_rise_11 (by decide) ?_
      rw [show (nI i - 3) / 4 = nI ((i - 3) / 4) from by rw [show nI i - 3 = nI (i - 3) from pk_sub (b := 3) (by omega)]; exact pk_div (a := i - 3) (d := 4) (by omega) (by decide) (by decide)]
      refine go_istore dX4_rise_12 (Nat.le_of_ble_eq_true rfl) rfl ?_
      refine go_aload_n dX4_rise_14 rfl ?_
      refine go_iload_n dX4_rise_15 rfl ?_
      refine go_iload dX4_rise_16 rfl ?_
      refine go_iload_n dX4_rise_18 rfl ?_
      refine go_virt1 dX4_rise_19 (c_aheadB l hh (Or.inr (Or.inr rfl)) hn (i := i) (j := (i - 3) / 4) (by omega) (by omega) low) v_X4_25_3 rfl (layW_ob hh) rfl (Nat.le_of_ble_eq_true rfl) (Nat.le_of_ble_eq_true rfl) (Nat.le_of_ble_eq_true rfl) ?_
      refine go_if_ne 26 dX4_rise_22 (by decide) (fun q22 => ?_) (fun q22 => ?_)
      · rw [if_pos (bI_ne.mp q22)] at hr
        refine go_aload_n dX4_rise_26 rfl ?_
        refine go_iload_n dX4_rise_27 rfl ?_
        refine go_iload dX4_rise_28 rfl ?_
        refine go_virt0 dX4_rise_30 (c_exchange l hh (Or.inr (Or.inr rfl)) hn (i := i) (j := (i - 3) / 4) (by omega) (by omega)) v_X4_29_3 rfl (layW_ob hh) rfl (Nat.le_of_ble_eq_true rfl) (Nat.le_of_ble_eq_true rfl) (Nat.le_of_ble_eq_true rfl) ?_
        refine go_iload_n dX4_rise_33 rfl ?_
        refine go_iconst 3 dX4_rise_34 (by decide) ?_
        refine go_isub dX4_rise_35 ?_
        refine go_iconst 4 dX4_rise_36 (by decide) ?_
        refine go_idiv dX4_rise_37 (by decide) ?_
        rw [show (nI i - 3) / 4 = nI ((i - 3) / 4) from by rw [show nI i - 3 = nI (i - 3) from pk_sub (b := 3) (by omega)]; exact pk_div (a := i - 3) (d := 4) (by omega) (by decide) (by decide)]
        refine go_istore_n dX4_rise_38 (Nat.le_of_ble_eq_true rfl) rfl ?_
        refine go_goto 2 dX4_rise_39 (by decide) ?_
        exact go_sub [(0, .ref h), (2, .int (bI low)), (3, .int (nI ((i - 3) / 4)))] ⟨rfl, rfl, rfl, trivial⟩ (ih ((i - 3) / 4) _ r (by omega) (by omega) hr)
      · rw [if_neg (by rw [bI_eq.mp q22]; decide)] at hr
        subst hr
        exact go_return dX4_rise_25 rfl
theorem c_rise (l : Launch) {w : MW} {h : Nat} {n : Nat} {f : Nat → Int32} {c : Int32} (hh : h + 1 < w.1) (hn : n ≤ 30) {low : Bool} {i : Nat} (hi : i < n) : Ct l (.code yX4_rise cX4_rise 5 none) yX4_rise 1 0 0 [.ref h, .int (nI i), .int (bI low)] (layW w h 3 [] f n c) (.inl none) (layP w h 3 [] n (riseS1 ltI low 30 i (f, c))) := by
  refine ct_of (by decide +kernel) (Nat.le_of_ble_eq_true rfl) ?_
  refine go_iload_n dX4_rise_0 rfl ?_
  refine go_istore_n dX4_rise_1 (Nat.le_of_ble_eq_true rfl) rfl ?_
  exact go_sub [(0, .ref h), (2, .int (bI low)), (3, .int (nI i))] ⟨rfl, rfl, rfl, trivial⟩ (c_rise_2 l hh hn 30 i (f, c) _ (by omega) hi rfl)
theorem c_fb_19 (l : Launch) {w : MW} {h : Nat} {n : Nat} {f : Nat → Int32} (hh : h + 1 < w.1) (hn : n ≤ 30) {low : Bool} {i : Nat} (hi : i < n) : ∀ (u m : Nat), u + m = 6 → 1 ≤ m → ∀ (x r : Nat × Int32), x.1 < n → r = fbS ltI low n f i u m x → Go l yX4_foremostBelow cX4_foremostBelow 6 (some .int) [] none (mm_Z (mm_eq (.inl (some (.int (nI r.1)))) (layW w h 3 [] f n r.2))) 1 0 0 19 [(0, .ref h), (1, .int (nI i)), (2, .int (bI low)), (3, .int (nI x.1)), (4, .int (nI m))] [] (layW w h 3 [] f n x.2) := by
  intro u
  induction u with
  | zero =>
    intro m hm h1 x r hx hr
    unfold fbS at hr
    subst hr
    refine go_iload dX4_foremostBelow_19 rfl ?_
    refine go_iconst 5 dX4_foremostBelow_21 (by decide) ?_
    refine go_icmp_gt_t 78 dX4_foremostBelow_22 (by decide) (nI_lt (a := 5) (by omega) (by omega)) ?_
    refine go_iload_n dX4_foremostBelow_78 rfl ?_
    exact go_ireturn dX4_foremostBelow_79 rfl rfl
  | succ u ih =>
    intro m hm h1 x r hx hr
    have KJ : Go l yX4_foremostBelow cX4_foremostBelow 6 (some .int) [] none (mm_Z (mm_eq (.inl (some (.int (nI r.1)))) (layW w h 3 [] f n r.2))) 1 0 0 47 [(0, .ref h), (1, .int (nI i)), (2, .int (bI low)), (3, .int (nI x.1)), (4, .int (nI m))] [.int (nI (cand i m))] (layW w h 3 [] f n x.2) := by
      have hcb : cand i m ≤ 4 * i + 6 := by unfold cand; split <;> omega
      unfold fbS at hr
      refine go_istore dX4_foremostBelow_47 (Nat.le_of_ble_eq_true rfl) rfl ?_
      refine go_iload dX4_foremostBelow_49 rfl ?_
      refine go_aload_n dX4_foremostBelow_51 rfl ?_
      refine go_getfield dX4_foremostBelow_52 f_X4_15_3 (layW_ob hh) rfl ?_
      refine go_icmp_ge 72 dX4_foremostBelow_55 (by decide) (fun q55 => ?_) (fun q55 => ?_)
      · have z55 := n_le' q55 (by omega) (by omega)
        rw [if_neg (by omega)] at hr
        refine go_iinc dX4_foremostBelow_72 rfl (Nat.le_of_ble_eq_true rfl) rfl (show _ = _ + 1 from rfl) ?_
        rw [a_k1]
        refine go_goto 19 dX4_foremostBelow_75 (by decide) ?_
        exact go_sub [(0, .ref h), (1, .int (nI i)), (2, .int (bI low)), (3, .int (nI _)), (4, .int (nI (m + 1)))] ⟨rfl, rfl, rfl, rfl, rfl, trivial⟩ (ih (m + 1) (by omega) (by omega) (_, _) r (by first | exact hx | exact hc) hr)
      · have hc := n_lt' q55 (by omega)
        rw [if_pos hc] at hr
        refine go_aload_n dX4_foremostBelow_58 rfl ?_
        refine go_iload dX4_foremostBelow_59 rfl ?_
        refine go_iload_n dX4_foremostBelow_61 rfl ?_
        refine go_iload_n dX4_foremostBelow_62 rfl ?_
        refine go_virt1 dX4_foremostBelow_63 (c_aheadB l hh (Or.inr (Or.inr rfl)) hn (i := cand i m) (j := x.1) hc hx low) v_X4_25_3 rfl (layW_ob hh) rfl (Nat.le_of_ble_eq_true rfl) (Nat.le_of_ble_eq_true rfl) (Nat.le_of_ble_eq_true rfl) ?_
        refine go_if_eq 72 dX4_foremostBelow_66 (by decide) (fun q66 => ?_) (fun q66 => ?_)
        · rw [if_neg (by rw [bI_eq.mp q66]; decide)] at hr
          refine go_iinc dX4_foremostBelow_72 rfl (Nat.le_of_ble_eq_true rfl) rfl (show _ = _ + 1 from rfl) ?_
          rw [a_k1]
          refine go_goto 19 dX4_foremostBelow_75 (by decide) ?_
          exact go_sub [(0, .ref h), (1, .int (nI i)), (2, .int (bI low)), (3, .int (nI _)), (4, .int (nI (m + 1)))] ⟨rfl, rfl, rfl, rfl, rfl, trivial⟩ (ih (m + 1) (by omega) (by omega) (_, _) r (by first | exact hx | exact hc) hr)
        · rw [if_pos (bI_ne.mp q66)] at hr
          refine go_iload dX4_foremostBelow_69 rfl ?_
          refine go_istore_n dX4_foremostBelow_71 (Nat.le_of_ble_eq_true rfl) rfl ?_
          refine go_iinc dX4_foremostBelow_72 rfl (Nat.le_of_ble_eq_true rfl) rfl (show _ = _ + 1 from rfl) ?_
          rw [a_k1]
          refine go_goto 19 dX4_foremostBelow_75 (by decide) ?_
          exact go_sub [(0, .ref h), (1, .int (nI i)), (2, .int (bI low)), (3, .int (nI _)), (4, .int (nI (m + 1)))] ⟨rfl, rfl, rfl, rfl, rfl, trivial⟩ (ih (m + 1) (by omega) (by omega) (_, _) r (by first | exact hx | exact hc) hr)
    by_cases e1 : m = 1
    · skip
      refine go_iload dX4_foremostBelow_19 rfl ?_
      refine go_iconst 5 dX4_foremostBelow_21 (by decide) ?_
      refine go_icmp_gt_f 78 dX4_foremostBelow_22 (by decide) (fun z => absurd (n_lt2 (a := 5) z (by decide) (by omega)) (by omega)) ?_
      refine go_iload dX4_foremostBelow_25 rfl ?_
      refine go_iconst 1 dX4_foremostBelow_27 (by decide) ?_
      refine go_icmp_ne_f 39 dX4_foremostBelow_28 (by decide) (by rw [e1]; rfl) ?_
      refine go_iconst 2 dX4_foremostBelow_31 (by decide) ?_
      refine go_iload_n dX4_foremostBelow_32 rfl ?_
      refine go_imul dX4_foremostBelow_33 ?_
      refine go_iconst 2 dX4_foremostBelow_34 (by decide) ?_
      refine go_iadd dX4_foremostBelow_35 ?_
      refine go_goto 47 dX4_foremostBelow_36 (by decide) ?_
      rw [a_2, a_k2, show 2 * i + 2 = cand i m from by unfold cand; rw [if_pos e1]]
      exact KJ
    · skip
      refine go_iload dX4_foremostBelow_19 rfl ?_
      refine go_iconst 5 dX4_foremostBelow_21 (by decide) ?_
      refine go_icmp_gt_f 78 dX4_foremostBelow_22 (by decide) (fun z => absurd (n_lt2 (a := 5) z (by decide) (by omega)) (by omega)) ?_
      refine go_iload dX4_foremostBelow_25 rfl ?_
      refine go_iconst 1 dX4_foremostBelow_27 (by decide) ?_
      refine go_icmp_ne_t 39 dX4_foremostBelow_28 (by decide) (fun z => e1 ((nI_eq (b := 1) (by omega) (by decide)).mp z)) ?_
      refine go_iconst 4 dX4_foremostBelow_39 (by decide) ?_
      refine go_iload_n dX4_foremostBelow_40 rfl ?_
      refine go_imul dX4_foremostBelow_41 ?_
      refine go_iconst 1 dX4_foremostBelow_42 (by decide) ?_
      refine go_iadd dX4_foremostBelow_43 ?_
      refine go_iload dX4_foremostBelow_44 rfl ?_
      refine go_iadd dX4_foremostBelow_46 ?_
      rw [show 4 * nI i = nI (4 * i) from pk_mul 4 i, a_k1, nI_add, show 4 * i + 1 + m = cand i m from by unfold cand; rw [if_neg e1]]
      exact KJ
theorem c_fb1 (l : Launch) {w : MW} {h : Nat} {n : Nat} {f : Nat → Int32} {c : Int32} (hh : h + 1 < w.1) (hn : n ≤ 30) {low : Bool} {i : Nat} (hi : 2 * i + 1 < n) : Ct l (.code yX4_foremostBelow cX4_foremostBelow 6 (some .int)) yX4_foremostBelow 1 0 0 [.ref h, .int (nI i), .int (bI low)] (layW w h 3 [] f n c) (.inl (some (.int (nI (fbS ltI low n f i 5 1 (2 * i + 1, c)).1)))) (layW w h 3 [] f n (fbS ltI low n f i 5 1 (2 * i + 1, c)).2) := by
  refine ct_of (by decide +kernel) (Nat.le_of_ble_eq_true rfl) ?_
  refine go_iconst 2 dX4_foremostBelow_0 (by decide) ?_
  refine go_iload_n dX4_foremostBelow_1 rfl ?_
  refine go_imul dX4_foremostBelow_2 ?_
  refine go_iconst 1 dX4_foremostBelow_3 (by decide) ?_
  refine go_iadd dX4_foremostBelow_4 ?_
  rw [a_2, a_k1]
  refine go_istore_n dX4_foremostBelow_5 (Nat.le_of_ble_eq_true rfl) rfl ?_
  refine go_iload_n dX4_foremostBelow_6 rfl ?_
  refine go_aload_n dX4_foremostBelow_7 rfl ?_
  refine go_getfield dX4_foremostBelow_8 f_X4_15_3 (layW_ob hh) rfl ?_
  refine go_icmp_lt_t 16 dX4_foremostBelow_11 (by decide) (nI_lt hi (by omega)) ?_
  refine go_iconst 1 dX4_foremostBelow_16 (by decide) ?_
  refine go_istore dX4_foremostBelow_17 (Nat.le_of_ble_eq_true rfl) rfl ?_
  exact go_sub [(0, .ref h), (1, .int (nI i)), (2, .int (bI low)), (3, .int (nI (2 * i + 1))), (4, .int (nI 1))] ⟨rfl, rfl, rfl, rfl, rfl, trivial⟩ (c_fb_19 l hh hn (by omega) 5 1 rfl (by omega) (2 * i + 1, c) _ hi rfl)
theorem c_fb0 (l : Launch) {w : MW} {h : Nat} {n : Nat} {f : Nat → Int32} {c : Int32} (hh : h + 1 < w.1) (hn : n ≤ 30) {low : Bool} {i : Nat} (hi : ¬ 2 * i + 1 < n) (hin : i < n) : Ct l (.code yX4_foremostBelow cX4_foremostBelow 6 (some .int)) yX4_foremostBelow 1 0 0 [.ref h, .int (nI i), .int (bI low)] (layW w h 3 [] f n c) (.inl (some (.int (-1)))) (layW w h 3 [] f n c) := by
  refine ct_of (by decide +kernel) (Nat.le_of_ble_eq_true rfl) ?_
  refine go_iconst 2 dX4_foremostBelow_0 (by decide) ?_
  refine go_iload_n dX4_foremostBelow_1 rfl ?_
  refine go_imul dX4_foremostBelow_2 ?_
  refine go_iconst 1 dX4_foremostBelow_3 (by decide) ?_
  refine go_iadd dX4_foremostBelow_4 ?_
  rw [a_2, a_k1]
  refine go_istore_n dX4_foremostBelow_5 (Nat.le_of_ble_eq_true rfl) rfl ?_
  refine go_iload_n dX4_foremostBelow_6 rfl ?_
  refine go_aload_n dX4_foremostBelow_7 rfl ?_
  refine go_getfield dX4_foremostBelow_8 f_X4_15_3 (layW_ob hh) rfl ?_
  refine go_icmp_lt_f 16 dX4_foremostBelow_11 (by decide) (nI_nlt (by omega) (by omega)) ?_
  refine go_iconst (-1) dX4_foremostBelow_14 (by decide) ?_
  exact go_ireturn dX4_foremostBelow_15 rfl rfl
