theorem nar_b (b : Bool) : narrow .boolean (.int (bI b)) = .int (bI b) := by cases b <;> decide
theorem c_cur (l : Launch) {w : MW} {p : Nat} {t : Nat → Nat} {ln : Nat} {s : PS} (hp : p + 1 < w.1) (ht : ∀ i, t i < 128) (hl : ln ≤ 120) (hs : s.1 ≤ ln) : Ct l (.code yX6_current cX6_current 1 (some .char)) yX6_current 0 0 0 [.ref p] (scW w p t ln s) (.inl (some (.int (nI (curN t ln s.1))))) (scW w p t ln s) := by
  refine ct_of (by decide +kernel) (Nat.le_of_ble_eq_true rfl) ?_
  refine go_aload_n dX6_current_0 rfl ?_
  refine go_getfield dX6_current_1 f_X6_19_5 (scW_ob hp) rfl ?_
  refine go_if_lt_f 30 dX6_current_4 (by decide) (nI_pos (by omega)) ?_
  refine go_aload_n dX6_current_7 rfl ?_
  refine go_getfield dX6_current_8 f_X6_19_5 (scW_ob hp) rfl ?_
  refine go_aload_n dX6_current_11 rfl ?_
  refine go_getfield dX6_current_12 f_X6_15_5 (scW_ob hp) rfl ?_
  refine go_icmp_ge 30 dX6_current_15 (by decide) (fun q15 => ?_) (fun q15 => ?_)
  · have z := n_le' q15 (by omega) (by omega)
    have e9 : curN t ln s.1 = 0 := by unfold curN; rw [if_neg (by omega)]
    
    refine go_iconst 0 dX6_current_30 (by decide) ?_
    refine go_top (.int (nI (curN t ln s.1))) (by rw [e9]; rfl) ?_
    exact go_ireturn dX6_current_31 rfl (nar_char (cur_128 ht))
  · have z := n_lt' q15 (by omega)
    have e9 : curN t ln s.1 = t s.1 := by unfold curN; rw [if_pos z]
    refine go_aload_n dX6_current_18 rfl ?_
    refine go_getfield dX6_current_19 f_X6_9_5 (scW_ob hp) rfl ?_
    refine go_aload_n dX6_current_22 rfl ?_
    refine go_getfield dX6_current_23 f_X6_19_5 (scW_ob hp) rfl ?_
    refine go_caload s.1 dX6_current_26 (scW_ar hp) rfl (by omega) (by decide) ?_
    rw [← e9]
    refine go_goto 31 dX6_current_27 (by decide) ?_
    exact go_ireturn dX6_current_31 rfl (nar_char (cur_128 ht))
theorem c_rdSign (l : Launch) {w : MW} {p : Nat} {t : Nat → Nat} {ln : Nat} {s : PS} (hp : p + 1 < w.1) (ht : ∀ i, t i < 128) (hl : ln ≤ 120) (hs : s.1 ≤ ln) {c : Nat} (hc : c < 128) : Ct l (.code yX6_readSign cX6_readSign 2 (some .boolean)) yX6_readSign 1 0 0 [.ref p, .int (nI c)] (scW w p t ln s) (.inl (some (.int (bI (rdSign t ln c s).1)))) (scW w p t ln (rdSign t ln c s).2) := by
  refine ct_of (by decide +kernel) (Nat.le_of_ble_eq_true rfl) ?_
  refine go_aload_n dX6_readSign_0 rfl ?_
  refine go_virt1 dX6_readSign_1 (c_cur l hp ht hl hs) v_X6_29_5 rfl (scW_ob hp) rfl (Nat.le_of_ble_eq_true rfl) (Nat.le_of_ble_eq_true rfl) (Nat.le_of_ble_eq_true rfl) ?_
  refine go_iload_n dX6_readSign_4 rfl ?_
  refine go_icmp_eq 10 dX6_readSign_5 (by decide) (fun q5 => ?_) (fun q5 => ?_)
  · have e : curN t ln s.1 = c := (nI_eq (by have := cur_128 (ln := ln) (cu := s.1) ht; omega) (by omega)).mp q5
    rw [show rdSign t ln c s = (true, s.1 + 1, s.2) from if_pos e]
    refine go_aload_n dX6_readSign_10 rfl ?_
    refine go_dup dX6_readSign_11 rfl ?_
    refine go_getfield dX6_readSign_12 f_X6_19_5 (scW_ob hp) rfl ?_
    refine go_iconst 1 dX6_readSign_15 (by decide) ?_
    refine go_iadd dX6_readSign_16 ?_
    rw [a_k1]
    refine go_putfield dX6_readSign_17 p_X6_19_5 (scW_ob hp) (by decide) (fun _ => ⟨rfl, rfl⟩) (fun _ z => nomatch z) ?_
    refine go_w _ (scW_up t ln (s.1 + 1, s.2)) ?_
    refine go_iconst 1 dX6_readSign_20 (by decide) ?_
    exact go_ireturn dX6_readSign_21 rfl (by decide)
  · rw [show rdSign t ln c s = (false, s) from if_neg (fun e => q5 (by rw [e]))]
    refine go_iconst 0 dX6_readSign_8 (by decide) ?_
    exact go_ireturn dX6_readSign_9 rfl (by decide)
theorem c_rdN_7 (l : Launch) {w : MW} {p : Nat} {t : Nat → Nat} {ln : Nat} {x : Int32 × Int32 × Int32} (hp : p + 1 < w.1) (ht : ∀ i, t i < 128) (hl : ln ≤ 120) {m c0 : Nat} (hm : m ≤ 3) : ∀ (u dg cu v : Nat) (r : Nat × Nat), u + dg = m → cu = c0 + dg → cu ≤ ln → r = rdN t ln u cu v → Go l yX6_readNumber cX6_readNumber 3 (some .boolean) [] none (mm_Z (mm_eq (.inl (some (.int (bI (decide (c0 < r.1)))))) (scW w p t ln (r.1, r.2, x)))) 1 0 0 7 [(0, .ref p), (1, .int (nI m)), (2, .int (nI dg))] [] (scW w p t ln (cu, v, x)) := by
  intro u
  induction u with
  | zero =>
    intro dg cu v r hd hc hcu hr
    have KE : Go l yX6_readNumber cX6_readNumber 3 (some .boolean) [] none (mm_Z (mm_eq (.inl (some (.int (bI (decide (c0 < r.1)))))) (scW w p t ln (r.1, r.2, x)))) 1 0 0 65 [(0, .ref p), (1, .int (nI m)), (2, .int (nI dg))] [] (scW w p t ln (cu, v, x)) := by
      unfold rdN at hr
      subst hr
      refine go_iload_n dX6_readNumber_65 rfl ?_
      refine go_if_le 73 dX6_readNumber_66 (by decide) (fun q66 => ?_) (fun q66 => ?_)
      · have z := n_le' (b := 0) q66 (by omega) (by decide)
        rw [decide_eq_false (by omega)]
        refine go_iconst 0 dX6_readNumber_73 (by decide) ?_
        exact go_ireturn dX6_readNumber_74 rfl (by decide)
      · have z := n_lt' (a := 0) q66 (by decide)
        rw [decide_eq_true (by omega)]
        refine go_iconst 1 dX6_readNumber_69 (by decide) ?_
        refine go_goto 74 dX6_readNumber_70 (by decide) ?_
        exact go_ireturn dX6_readNumber_74 rfl (by decide)
    refine go_iload_n dX6_readNumber_7 rfl ?_
    refine go_iload_n dX6_readNumber_8 rfl ?_
    refine go_icmp_ge_t 65 dX6_readNumber_9 (by decide) (nI_le (by omega) (by omega)) ?_
    exact KE
  | succ u ih =>
    intro dg cu v r hd hc hcu hr
    have c128 := cur_128 (ln := ln) (cu := cu) ht
    have KE' : ¬ (48 ≤ curN t ln cu ∧ curN t ln cu ≤ 57) → Go l yX6_readNumber cX6_readNumber 3 (some .boolean) [] none (mm_Z (mm_eq (.inl (some (.int (bI (decide (c0 < r.1)))))) (scW w p t ln (r.1, r.2, x)))) 1 0 0 65 [(0, .ref p), (1, .int (nI m)), (2, .int (nI dg))] [] (scW w p t ln (cu, v, x)) := by
      intro z
      unfold rdN at hr
      rw [if_neg z] at hr
      subst hr
      refine go_iload_n dX6_readNumber_65 rfl ?_
      refine go_if_le 73 dX6_readNumber_66 (by decide) (fun q66 => ?_) (fun q66 => ?_)
      · have z := n_le' (b := 0) q66 (by omega) (by decide)
        rw [decide_eq_false (by omega)]
        refine go_iconst 0 dX6_readNumber_73 (by decide) ?_
        exact go_ireturn dX6_readNumber_74 rfl (by decide)
      · have z := n_lt' (a := 0) q66 (by decide)
        rw [decide_eq_true (by omega)]
        refine go_iconst 1 dX6_readNumber_69 (by decide) ?_
        refine go_goto 74 dX6_readNumber_70 (by decide) ?_
        exact go_ireturn dX6_readNumber_74 rfl (by decide)
    have KD : (48 ≤ curN t ln cu ∧ curN t ln cu ≤ 57) → Go l yX6_readNumber cX6_readNumber 3 (some .boolean) [] none (mm_Z (mm_eq (.inl (some (.int (bI (decide (c0 < r.1)))))) (scW w p t ln (r.1, r.2, x)))) 1 0 0 30 [(0, .ref p), (1, .int (nI m)), (2, .int (nI dg))] [] (scW w p t ln (cu, v, x)) := by
      intro z
      refine go_aload_n dX6_readNumber_30 rfl ?_
      refine go_bipush 10 dX6_readNumber_31 (by decide) ?_
      refine go_aload_n dX6_readNumber_33 rfl ?_
      refine go_getfield dX6_readNumber_34 f_X6_57_5 (scW_ob hp) rfl ?_
      refine go_imul dX6_readNumber_37 ?_
      refine go_aload_n dX6_readNumber_38 rfl ?_
      refine go_virt1 dX6_readNumber_39 (c_cur l hp ht hl (s := (cu, v, x)) hcu) v_X6_29_5 rfl (scW_ob hp) rfl (Nat.le_of_ble_eq_true rfl) (Nat.le_of_ble_eq_true rfl) (Nat.le_of_ble_eq_true rfl) ?_
      refine go_bipush 48 dX6_readNumber_42 (by decide) ?_
      refine go_isub dX6_readNumber_44 ?_
      refine go_iadd dX6_readNumber_45 ?_
      rw [show 10 * nI v + (nI (curN t ln cu) - 48) = nI (10 * v + (curN t ln cu - 48)) from by rw [show nI (curN t ln cu) - 48 = nI (curN t ln cu - 48) from pk_sub (b := 48) z.1, show 10 * nI v = nI (10 * v) from pk_mul 10 v, nI_add]]
      refine go_putfield dX6_readNumber_46 p_X6_57_5 (scW_ob hp) (by decide) (fun _ => ⟨rfl, rfl⟩) (fun _ z => nomatch z) ?_
      refine go_w _ (scW_up t ln (cu, 10 * v + (curN t ln cu - 48), x)) ?_
      refine go_aload_n dX6_readNumber_49 rfl ?_
      refine go_dup dX6_readNumber_50 rfl ?_
      refine go_getfield dX6_readNumber_51 f_X6_19_5 (scW_ob hp) rfl ?_
      refine go_iconst 1 dX6_readNumber_54 (by decide) ?_
      refine go_iadd dX6_readNumber_55 ?_
      rw [a_k1]
      refine go_putfield dX6_readNumber_56 p_X6_19_5 (scW_ob hp) (by decide) (fun _ => ⟨rfl, rfl⟩) (fun _ z => nomatch z) ?_
      refine go_w _ (scW_up t ln (cu + 1, 10 * v + (curN t ln cu - 48), x)) ?_
      refine go_iinc dX6_readNumber_59 rfl (Nat.le_of_ble_eq_true rfl) rfl (show _ = _ + 1 from rfl) ?_
      rw [a_k1]
      refine go_goto 7 dX6_readNumber_62 (by decide) ?_
      exact go_sub [(0, .ref p), (1, .int (nI m)), (2, .int (nI (dg + 1)))] ⟨rfl, rfl, rfl, trivial⟩ (ih (dg + 1) (cu + 1) _ r (by omega) (by omega) (by have := cur_lt (t := t) (ln := ln) (cu := cu) (by omega); omega) (by rw [hr]; unfold rdN; rw [if_pos z]))
    refine go_iload_n dX6_readNumber_7 rfl ?_
    refine go_iload_n dX6_readNumber_8 rfl ?_
    refine go_icmp_ge_f 65 dX6_readNumber_9 (by decide) (n_nle (by omega) (by omega)) ?_
    refine go_aload_n dX6_readNumber_12 rfl ?_
    refine go_virt1 dX6_readNumber_13 (c_cur l hp ht hl (s := (cu, v, x)) hcu) v_X6_29_5 rfl (scW_ob hp) rfl (Nat.le_of_ble_eq_true rfl) (Nat.le_of_ble_eq_true rfl) (Nat.le_of_ble_eq_true rfl) ?_
    refine go_bipush 48 dX6_readNumber_16 (by decide) ?_
    refine go_icmp_lt 65 dX6_readNumber_18 (by decide) (fun q18 => ?_) (fun q18 => ?_)
    · exact KE' (fun z => absurd (nI_le (a := 48) z.1 (by omega)) (Int32.not_le.mpr q18))
    · refine go_aload_n dX6_readNumber_21 rfl ?_
      refine go_virt1 dX6_readNumber_22 (c_cur l hp ht hl (s := (cu, v, x)) hcu) v_X6_29_5 rfl (scW_ob hp) rfl (Nat.le_of_ble_eq_true rfl) (Nat.le_of_ble_eq_true rfl) (Nat.le_of_ble_eq_true rfl) ?_
      refine go_bipush 57 dX6_readNumber_25 (by decide) ?_
      refine go_icmp_gt 65 dX6_readNumber_27 (by decide) (fun q27 => ?_) (fun q27 => ?_)
      · exact KE' (fun z => absurd (nI_le (b := 57) z.2 (by decide)) (Int32.not_le.mpr q27))
      · have z1 := n_ge2 (b := 48) q18 (by decide)
        have z2 : curN t ln cu ≤ 57 := by
          rcases Nat.lt_or_ge 57 (curN t ln cu) with z | z
          · exact absurd (nI_lt (a := 57) z (by omega)) q27
          · exact z
        exact KD ⟨z1, z2⟩
theorem c_rdN (l : Launch) {w : MW} {p : Nat} {t : Nat → Nat} {ln : Nat} {s : PS} (hp : p + 1 < w.1) (ht : ∀ i, t i < 128) (hl : ln ≤ 120) (hs : s.1 ≤ ln) {m : Nat} (hm : m ≤ 3) : Ct l (.code yX6_readNumber cX6_readNumber 3 (some .boolean)) yX6_readNumber 1 0 0 [.ref p, .int (nI m)] (scW w p t ln s) (.inl (some (.int (bI (decide (s.1 < (rdN t ln m s.1 0).1)))))) (scW w p t ln ((rdN t ln m s.1 0).1, (rdN t ln m s.1 0).2, s.2.2)) := by
  refine ct_of (by decide +kernel) (Nat.le_of_ble_eq_true rfl) ?_
  refine go_aload_n dX6_readNumber_0 rfl ?_
  refine go_iconst 0 dX6_readNumber_1 (by decide) ?_
  refine go_putfield dX6_readNumber_2 p_X6_57_5 (scW_ob hp) (by decide) (fun _ => ⟨rfl, rfl⟩) (fun _ z => nomatch z) ?_
  refine go_w _ (scW_up t ln (s.1, 0, s.2.2)) ?_
  refine go_iconst 0 dX6_readNumber_5 (by decide) ?_
  refine go_istore_n dX6_readNumber_6 (Nat.le_of_ble_eq_true rfl) rfl ?_
  exact go_sub [(0, .ref p), (1, .int (nI m)), (2, .int (nI 0))] ⟨rfl, rfl, rfl, trivial⟩ (c_rdN_7 l hp ht hl hm m 0 s.1 0 _ (by omega) (by omega) hs rfl)
theorem c_rdHand (l : Launch) {w : MW} {p : Nat} {t : Nat → Nat} {ln : Nat} {s : PS} (hp : p + 1 < w.1) (ht : ∀ i, t i < 128) (hl : ln ≤ 120) (hs : s.1 ≤ ln) : Ct l (.code yX6_readHandle cX6_readHandle 2 (some .boolean)) yX6_readHandle 2 0 0 [.ref p] (scW w p t ln s) (.inl (some (.int (bI (rdHand t ln s).1)))) (scW w p t ln (rdHand t ln s).2) := by
  refine ct_of (by decide +kernel) (Nat.le_of_ble_eq_true rfl) ?_
  refine go_aload_n dX6_readHandle_0 rfl ?_
  refine go_iconst 2 dX6_readHandle_1 (by decide) ?_
  refine go_virt1 dX6_readHandle_2 (c_rdN l hp ht hl hs (m := 2) (by decide)) v_X6_53_5 rfl (scW_ob hp) rfl (Nat.le_of_ble_eq_true rfl) (Nat.le_of_ble_eq_true rfl) (Nat.le_of_ble_eq_true rfl) ?_
  refine go_istore_n dX6_readHandle_5 (Nat.le_of_ble_eq_true rfl) rfl ?_
  refine go_aload_n dX6_readHandle_6 rfl ?_
  refine go_aload_n dX6_readHandle_7 rfl ?_
  refine go_getfield dX6_readHandle_8 f_X6_57_5 (scW_ob hp) rfl ?_
  refine go_putfield dX6_readHandle_11 p_X6_63_5 (scW_ob hp) (by decide) (fun _ => ⟨rfl, rfl⟩) (fun _ z => nomatch z) ?_
  refine go_w _ (scW_up t ln ((rdN t ln 2 s.1 0).1, (rdN t ln 2 s.1 0).2, s.2.2.1, nI (rdN t ln 2 s.1 0).2, s.2.2.2.2)) ?_
  refine go_iload_n dX6_readHandle_14 rfl ?_
  exact go_ireturn dX6_readHandle_15 rfl (nar_b _)
theorem c_rdKey (l : Launch) {w : MW} {p : Nat} {t : Nat → Nat} {ln : Nat} {s : PS} (hp : p + 1 < w.1) (ht : ∀ i, t i < 128) (hl : ln ≤ 120) (hs : s.1 ≤ ln) : Ct l (.code yX6_readKey cX6_readKey 3 (some .boolean)) yX6_readKey 2 0 0 [.ref p] (scW w p t ln s) (.inl (some (.int (bI (rdKey t ln s).1)))) (scW w p t ln (rdKey t ln s).2) := by
  refine ct_of (by decide +kernel) (Nat.le_of_ble_eq_true rfl) ?_
  by_cases e : curN t ln s.1 = 45
  · have e1 : rdSign t ln 45 s = (true, s.1 + 1, s.2) := if_pos e
    have e2 : sgn1 t ln s = s.1 + 1 := if_pos e
    have hs1 : s.1 + 1 ≤ ln := by
      have := cur_lt (t := t) (ln := ln) (cu := s.1) (by rw [e]; decide)
      omega
    unfold rdKey
    rw [if_pos e, e2]
    refine go_aload_n dX6_readKey_0 rfl ?_
    refine go_bipush 45 dX6_readKey_1 (by decide) ?_
    refine go_virt1 dX6_readKey_3 (c_rdSign l hp ht hl hs (c := 45) (by decide)) v_X6_43_5 rfl (scW_ob hp) rfl (Nat.le_of_ble_eq_true rfl) (Nat.le_of_ble_eq_true rfl) (Nat.le_of_ble_eq_true rfl) ?_
    rw [e1]
    refine go_istore_n dX6_readKey_6 (Nat.le_of_ble_eq_true rfl) rfl ?_
    refine go_aload_n dX6_readKey_7 rfl ?_
    refine go_iconst 3 dX6_readKey_8 (by decide) ?_
    refine go_virt1 dX6_readKey_9 (c_rdN l hp ht hl (s := (s.1 + 1, s.2)) hs1 (m := 3) (by decide)) v_X6_53_5 rfl (scW_ob hp) rfl (Nat.le_of_ble_eq_true rfl) (Nat.le_of_ble_eq_true rfl) (Nat.le_of_ble_eq_true rfl) ?_
    refine go_istore_n dX6_readKey_12 (Nat.le_of_ble_eq_true rfl) rfl ?_
    refine go_aload_n dX6_readKey_13 rfl ?_
    refine go_iload_n dX6_readKey_14 rfl ?_
    refine go_if_eq_f 26 dX6_readKey_15 (by decide) (by decide) ?_
    refine go_aload_n dX6_readKey_18 rfl ?_
    refine go_getfield dX6_readKey_19 f_X6_57_5 (scW_ob hp) rfl ?_
    refine go_ineg dX6_readKey_22 ?_
    refine go_goto 30 dX6_readKey_23 (by decide) ?_
    
    refine go_putfield dX6_readKey_30 p_X6_60_5 (scW_ob hp) (by decide) (fun _ => ⟨rfl, rfl⟩) (fun _ z => nomatch z) ?_
    refine go_w _ (scW_up t ln ((rdN t ln 3 (s.1 + 1) 0).1, (rdN t ln 3 (s.1 + 1) 0).2, s.2.2.1, s.2.2.2.1, -nI (rdN t ln 3 (s.1 + 1) 0).2)) ?_
    refine go_iload_n dX6_readKey_33 rfl ?_
    exact go_ireturn dX6_readKey_34 rfl (nar_b _)
  · have e1 : rdSign t ln 45 s = (false, s) := if_neg e
    have e2 : sgn1 t ln s = s.1 := if_neg e
    unfold rdKey
    rw [if_neg e, e2]
    refine go_aload_n dX6_readKey_0 rfl ?_
    refine go_bipush 45 dX6_readKey_1 (by decide) ?_
    refine go_virt1 dX6_readKey_3 (c_rdSign l hp ht hl hs (c := 45) (by decide)) v_X6_43_5 rfl (scW_ob hp) rfl (Nat.le_of_ble_eq_true rfl) (Nat.le_of_ble_eq_true rfl) (Nat.le_of_ble_eq_true rfl) ?_
    rw [e1]
    refine go_istore_n dX6_readKey_6 (Nat.le_of_ble_eq_true rfl) rfl ?_
    refine go_aload_n dX6_readKey_7 rfl ?_
    refine go_iconst 3 dX6_readKey_8 (by decide) ?_
    refine go_virt1 dX6_readKey_9 (c_rdN l hp ht hl (s := s) hs (m := 3) (by decide)) v_X6_53_5 rfl (scW_ob hp) rfl (Nat.le_of_ble_eq_true rfl) (Nat.le_of_ble_eq_true rfl) (Nat.le_of_ble_eq_true rfl) ?_
    refine go_istore_n dX6_readKey_12 (Nat.le_of_ble_eq_true rfl) rfl ?_
    refine go_aload_n dX6_readKey_13 rfl ?_
    refine go_iload_n dX6_readKey_14 rfl ?_
    refine go_if_eq_t 26 dX6_readKey_15 (by decide) (rfl) ?_
    refine go_aload_n dX6_readKey_26 rfl ?_
    refine go_getfield dX6_readKey_27 f_X6_57_5 (scW_ob hp) rfl ?_
    
    refine go_putfield dX6_readKey_30 p_X6_60_5 (scW_ob hp) (by decide) (fun _ => ⟨rfl, rfl⟩) (fun _ z => nomatch z) ?_
    refine go_w _ (scW_up t ln ((rdN t ln 3 s.1 0).1, (rdN t ln 3 s.1 0).2, s.2.2.1, s.2.2.2.1, nI (rdN t ln 3 s.1 0).2)) ?_
    refine go_iload_n dX6_readKey_33 rfl ?_
    exact go_ireturn dX6_readKey_34 rfl (nar_b _)
