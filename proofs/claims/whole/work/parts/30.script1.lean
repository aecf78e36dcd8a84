theorem nar_b (b : Bool) : narrow .boolean (.int (bI b)) = .int (bI b) := by cases b <;> decide
theorem c_cur (l : Launch) {w : MW} {p : Nat} {t : Nat → Nat} {ln : Nat} {s : PS} (hp : p + 1 < w.1) (ht : ∀ i, t i < 128) (hl : ln ≤ 120) (hs : s.1 ≤ ln) : Ct l (.code yX6_current cX6_current 1 (some .char)) yX6_current 0 0 0 [.ref p] (scW w p t ln s) (.inl (some (.int (nI (curN t ln s.1))))) (scW w p t ln s) := by
  refine ct_of (by decide +kernel) (Nat.le_of_ble_eq_true rfl) ?_
  refine go_aload_n dX6_current_0 rfl ?_
  refine go_getfield dX6_current_1 f_X6_19_5 (scW_ob hp) rfl ?_
  refine go_if_lt_f 30 dX6_current_4 (by decide) (nI_pos (by omega)) ?_
  refine go_aload_n dX6_current_7 rfl ?_
  refine go_getfield dX6_current_8 f_X6_19_5 (scW_ob hp) rfl ?_
  refine go_aload_n dX6_current_11 rfl ?_
  refine go_getfield dX6_current_12 f_X6_15_5 (scW_ob hp) rfl ?_
  refine go_icmp_ge 30 dX6_current_15 (by decide) (fun q15 => ?_) (fun q15 => ?_)
  · have z := n_le' q15 (by omega) (by omega)
    have e9 : curN t ln s.1 = 0 := by unfold curN; rw [if_neg (by omega)]
    
    refine go_iconst 0 dX6_current_30 (by decide) ?_
    refine go_top (.int (nI (curN t ln s.1))) (by rw [e9]; rfl) ?_
    exact go_ireturn dX6_current_31 rfl (nar_char (cur_128 ht))
  · have z := n_lt' q15 (by omega)
    have e9 : curN t ln s.1 = t s.1 := by unfold curN; rw [if_pos z]
    refine go_aload_n dX6_current_18 rfl ?_
    refine go_getfield dX6_current_19 f_X6_9_5 (scW_ob hp) rfl ?_
    refine go_aload_n dX6_current_22 rfl ?_
    refine go_getfield dX6_current_23 f_X6_19_5 (scW_ob hp) rfl ?_
    refine go_caload s.1 dX6_current_26 (scW_ar hp) rfl (by omega) (by decide) ?_
    rw [← e9]
    refine go_goto 31 dX6_current_27 (by decide) ?_
    exact go_ireturn dX6_current_31 rfl (nar_char (cur_128 ht))
theorem c_rdSign (l : Launch) {w : MW} {p : Nat} {t : Nat → Nat} {ln : Nat} {s : PS} (hp : p + 1 < w.1) (ht : ∀ i, t i < 128) (hl : ln ≤ 120) (hs : s.1 ≤ ln) {c : Nat} (hc : c < 128) : Ct l (.code yX6_readSign cX6_readSign 2 (some .boolean)) yX6_readSign 1 0 0 [.ref p, .int (nI c)] (scW w p t ln s) (.inl (some (.int (bI (rdSign t ln c s).1)))) (scW w p t ln (rdSign t ln c s).2) := by
  refine ct_of (by decide +kernel) (Nat.le_of_ble_eq_true rfl) ?_
  refine go_aload_n dX6_readSign_0 rfl ?_
  refine go_virt1 dX6_readSign_1 (c_cur l hp ht hl hs) v_X6_29_5 rfl (scW_ob hp) rfl (Nat.le_of_ble_eq_true rfl) (Nat.le_of_ble_eq_true rfl) (Nat.le_of_ble_eq_true rfl) ?_
  refine go_iload_n dX6_readSign_4 rfl ?_
  refine go_icmp_eq 10 dX6_readSign_5 (by decide) (fun q5 => ?_) (fun q5 => ?_)
  · have e : curN t ln s.1 = c := (nI_eq (by have := cur_128 (ln := ln) (cu := s.1) ht; omega) (by omega)).mp q5
    rw [show rdSign t ln c s = (true, s.1 + 1, s.2) from if_pos e]
    refine go_aload_n dX6_readSign_10 rfl ?_
    refine go_dup dX6_readSign_11 rfl ?_
    refine go_getfield dX6_readSign_12 f_X6_19_5 (scW_ob hp) rfl ?_
    refine go_iconst 1 dX6_readSign_15 (by decide) ?_
    refine go_iadd dX6_readSign_16 ?_
    rw [a_k1]
    refine go_putfield dX6_readSign_17 p_X6_19_5 (scW_ob hp) (Nat.le_of_ble_eq_true rfl) (fun _ => ⟨rfl, rfl⟩) (fun _ z => nomatch z) ?_
    refine go_w _ (scW_up t ln (s.1 + 1, s.2)) ?_
    refine go_iconst 1 dX6_readSign_20 (by decide) ?_
    exact go_ireturn dX6_readSign_21 rfl (nar_b true)
  · rw [show rdSign t ln c s = (false, s) from if_neg (fun e => q5 (by rw [e]))]
    refine go_iconst 0 dX6_readSign_8 (by decide) ?_
    exact go_ireturn dX6_readSign_9 rfl (nar_b false)
theorem c_rdN_7 (l : Launch) {w : MW} {p : Nat} {t : Nat → Nat} {ln : Nat} {x : Int32 × Int32 × Int32} (hp : p + 1 < w.1) (ht : ∀ i, t i < 128) (hl : ln ≤ 120) {m c0 : Nat} (hm : m ≤ 3) : ∀ (u dg cu v : Nat) (r : Nat × Nat), u + dg = m → cu = c0 + dg → cu ≤ ln → r = rdN t ln u cu v → Go l yX6_readNumber cX6_readNumber 3 (some .boolean) [] none (mm_Z (mm_eq (.inl (some (.int (bI (decide (c0 < r.1)))))) (scW w p t ln (r.1, r.2, x)))) 1 0 0 7 [(0, .ref p), (1, .int (nI m)), (2, .int (nI dg))] [] (scW w p t ln (cu, v, x)) := by
  intro u
  induction u with
  | zero =>
    intro dg cu v r hd hc hcu hr
    have KE : Go l yX6_readNumber cX6_readNumber 3 (some .boolean) [] none (mm_Z (mm_eq (.inl (some (.int (bI (decide (c0 < r.1)))))) (scW w p t ln (r.1, r.2, x)))) 1 0 0 65 [(0, .ref p), (1, .int (nI m)), (2, .int (nI dg))] [] (scW w p t ln (cu, v, x)) := by
      unfold rdN at hr
      subst hr
      refine go_iload_n dX6_readNumber_65 rfl ?_
      refine go_if_le 73 dX6_readNumber_66 (by decide) (fun q66 => ?_) (fun q66 => ?_)
      · have z := n_le' (b := 0) q66 (by omega) (by decide)
        rw [decide_eq_false (by omega)]
        refine go_iconst 0 dX6_readNumber_73 (by decide) ?_
        exact go_ireturn dX6_readNumber_74 rfl (by decide)
      · have z := n_lt' (a := 0) q66 (by decide)
        rw [decide_eq_true (by omega)]
        refine go_iconst 1 dX6_readNumber_69 (by decide) ?_
        refine go_goto 74 dX6_readNumber_70 (by decide) ?_
        exact go_ireturn dX6_readNumber_74 rfl (by decide)
    refine go_iload_n dX6_readNumber_7 rfl ?_
    refine go_iload_n dX6_readNumber_8 rfl ?_
    refine go_icmp_ge_t 65 dX6_readNumber_9 (by decide) (nI_le (by omega) (by omega)) ?_
    exact KE
  | succ u ih =>
    intro dg cu v r hd hc hcu hr
    have c128 := cur_128 (ln := ln) (cu := cu) ht
    have KE' : ¬ (48 ≤ curN t ln cu ∧ curN t ln cu ≤ 57) → Go l yX6_readNumber cX6_readNumber 3 (some .boolean) [] none (mm_Z (mm_eq (.inl (some (.int (bI (decide (c0 < r.1)))))) (scW w p t ln (r.1, r.2, x)))) 1 0 0 65 [(0, .ref p), (1, .int (nI m)), (2, .int (nI dg))] [] (scW w p t ln (cu, v, x)) := by
      intro z
      unfold rdN at hr
      rw [if_neg z] at hr
      subst hr
      refine go_iload_n dX6_readNumber_65 rfl ?_
      refine go_if_le 73 dX6_readNumber_66 (by decide) (fun q66 => ?_) (fun q66 => ?_)
      · have z := n_le' (b := 0) q66 (by omega) (by decide)
        rw [decide_eq_false (by omega)]
        refine go_iconst 0 dX6_readNumber_73 (by decide) ?_
        exact go_ireturn dX6_readNumber_74 rfl (by decide)
      · have z := n_lt' (a := 0) q66 (by decide)
        rw [decide_eq_true (by omega)]
        refine go_iconst 1 dX6_readNumber_69 (by decide) ?_
        refine go_goto 74 dX6_readNumber_70 (by decide) ?_
        exact go_ireturn dX6_readNumber_74 rfl (by decide)
    have KD : (48 ≤ curN t ln cu ∧ curN t ln cu ≤ 57) → Go l yX6_readNumber cX6_readNumber 3 (some .boolean) [] none (mm_Z (mm_eq (.inl (some (.int (bI (decide (c0 < r.1)))))) (scW w p t ln (r.1, r.2, x)))) 1 0 0 30 [(0, .ref p), (1, .int (nI m)), (2, .int (nI dg))] [] (scW w p t ln (cu, v, x)) := by
      intro z
      refine go_aload_n dX6_readNumber_30 rfl ?_
      refine go_bipush 10 dX6_readNumber_31 (by decide) ?_
      refine go_aload_n dX6_readNumber_33 rfl ?_
      refine go_getfield dX6_readNumber_34 f_X6_57_5 (scW_ob hp) rfl ?_
      refine go_imul dX6_readNumber_37 ?_
      refine go_aload_n dX6_readNumber_38 rfl ?_
      refine go_virt1 dX6_readNumber_39 (c_cur l hp ht hl (s := (cu, v, x)) hcu) v_X6_29_5 rfl (scW_ob hp) rfl (Nat.le_of_ble_eq_true rfl) (Nat.le_of_ble_eq_true rfl) (Nat.le_of_ble_eq_true rfl) ?_
      refine go_bipush 48 dX6_readNumber_42 (by decide) ?_
      refine go_isub dX6_readNumber_44 ?_
      refine go_iadd dX6_readNumber_45 ?_
      rw [show 10 * nI v + (nI (curN t ln cu) - 48) = nI (10 * v + (curN t ln cu - 48)) from by rw [show nI (curN t ln cu) - 48 = nI (curN t ln cu - 48) from pk_sub (b := 48) z.1, show 10 * nI v = nI (10 * v) from pk_mul 10 v, nI_add]]
      refine go_putfield dX6_readNumber_46 p_X6_57_5 (scW_ob hp) (Nat.le_of_ble_eq_true rfl) (fun _ => ⟨rfl, rfl⟩) (fun _ z => nomatch z) ?_
      refine go_w _ (scW_up t ln (cu, 10 * v + (curN t ln cu - 48), x)) ?_
      refine go_aload_n dX6_readNumber_49 rfl ?_
      refine go_dup dX6_readNumber_50 rfl ?_
      refine go_getfield dX6_readNumber_51 f_X6_19_5 (scW_ob hp) rfl ?_
      refine go_iconst 1 dX6_readNumber_54 (by decide) ?_
      refine go_iadd dX6_readNumber_55 ?_
      rw [a_k1]
      refine go_putfield dX6_readNumber_56 p_X6_19_5 (scW_ob hp) (Nat.le_of_ble_eq_true rfl) (fun _ => ⟨rfl, rfl⟩) (fun _ z => nomatch z) ?_
      refine go_w _ (scW_up t ln (cu + 1, 10 * v + (curN t ln cu - 48), x)) ?_
      refine go_iinc dX6_readNumber_59 rfl (Nat.le_of_ble_eq_true rfl) rfl (show _ = _ + 1 from rfl) ?_
      rw [a_k1]
      refine go_goto 7 dX6_readNumber_62 (by decide) ?_
      exact go_sub [(0, .ref p), (1, .int (nI m)), (2, .int (nI (dg + 1)))] ⟨rfl, rfl, rfl, trivial⟩ (ih (dg + 1) (cu + 1) _ r (by omega) (by omega) (by have := cur_lt (t := t) (ln := ln) (cu := cu) (by omega); omega) (hr.trans (rdN_y z)))
    refine go_iload_n dX6_readNumber_7 rfl ?_
    refine go_iload_n dX6_readNumber_8 rfl ?_
    refine go_icmp_ge_f 65 dX6_readNumber_9 (by decide) (n_nle (by omega) (by omega)) ?_
    refine go_aload_n dX6_readNumber_12 rfl ?_
    refine go_virt1 dX6_readNumber_13 (c_cur l hp ht hl (s := (cu, v, x)) hcu) v_X6_29_5 rfl (scW_ob hp) rfl (Nat.le_of_ble_eq_true rfl) (Nat.le_of_ble_eq_true rfl) (Nat.le_of_ble_eq_true rfl) ?_
    refine go_bipush 48 dX6_readNumber_16 (by decide) ?_
    refine go_icmp_lt 65 dX6_readNumber_18 (by decide) (fun q18 => ?_) (fun q18 => ?_)
    · exact KE' (fun z => absurd (nI_le (a := 48) z.1 (by omega)) (Int32.not_le.mpr q18))
    · refine go_aload_n dX6_readNumber_21 rfl ?_
      refine go_virt1 dX6_readNumber_22 (c_cur l hp ht hl (s := (cu, v, x)) hcu) v_X6_29_5 rfl (scW_ob hp) rfl (Nat.le_of_ble_eq_true rfl) (Nat.le_of_ble_eq_true rfl) (Nat.le_of_ble_eq_true rfl) ?_
      refine go_bipush 57 dX6_readNumber_25 (by decide) ?_
      refine go_icmp_gt 65 dX6_readNumber_27 (by decide) (fun q27 => ?_) (fun q27 => ?_)
      · exact KE' (fun z => absurd (nI_le (b := 57) z.2 (by decide)) (Int32.not_le.mpr q27))
      · have z1 := n_ge2 (b := 48) q18 (by decide)
        have z2 : curN t ln cu ≤ 57 := by
          rcases Nat.lt_or_ge 57 (curN t ln cu) with z | z
          · exact absurd (nI_lt (a := 57) z (by omega)) q27
          · exact z
        exact KD ⟨z1, z2⟩
theorem c_rdN (l : Launch) {w : MW} {p : Nat} {t : Nat → Nat} {ln : Nat} {s : PS} (hp : p + 1 < w.1) (ht : ∀ i, t i < 128) (hl : ln ≤ 120) (hs : s.1 ≤ ln) {m : Nat} (hm : m ≤ 3) : Ct l (.code yX6_readNumber cX6_readNumber 3 (some .boolean)) yX6_readNumber 1 0 0 [.ref p, .int (nI m)] (scW w p t ln s) (.inl (some (.int (bI (decide (s.1 < (rdN t ln m s.1 0).1)))))) (scW w p t ln ((rdN t ln m s.1 0).1, (rdN t ln m s.1 0).2, s.2.2)) := by
  refine ct_of (by decide +kernel) (Nat.le_of_ble_eq_true rfl) ?_
  refine go_aload_n dX6_readNumber_0 rfl ?_
  refine go_iconst 0 dX6_readNumber_1 (by decide) ?_
  refine go_putfield dX6_readNumber_2 p_X6_57_5 (scW_ob hp) (Nat.le_of_ble_eq_true rfl) (fun _ => ⟨rfl, rfl⟩) (fun _ z => nomatch z) ?_
  refine go_w _ (scW_up t ln (s.1, 0, s.2.2)) ?_
  refine go_iconst 0 dX6_readNumber_5 (by decide) ?_
  refine go_istore_n dX6_readNumber_6 (Nat.le_of_ble_eq_true rfl) rfl ?_
  exact go_sub [(0, .ref p), (1, .int (nI m)), (2, .int (nI 0))] ⟨rfl, rfl, rfl, trivial⟩ (c_rdN_7 l hp ht hl hm m 0 s.1 0 _ (by omega) (by omega) hs rfl)
theorem c_rdHand (l : Launch) {w : MW} {p : Nat} {t : Nat → Nat} {ln : Nat} {s : PS} (hp : p + 1 < w.1) (ht : ∀ i, t i < 128) (hl : ln ≤ 120) (hs : s.1 ≤ ln) : Ct l (.code yX6_readHandle cX6_readHandle 2 (some .boolean)) yX6_readHandle 2 0 0 [.ref p] (scW w p t ln s) (.inl (some (.int (bI (rdHand t ln s).1)))) (scW w p t ln (rdHand t ln s).2) := by
  refine ct_of (by decide +kernel) (Nat.le_of_ble_eq_true rfl) ?_
  refine go_aload_n dX6_readHandle_0 rfl ?_
  refine go_iconst 2 dX6_readHandle_1 (by decide) ?_
  refine go_virt1 dX6_readHandle_2 (c_rdN l hp ht hl hs (m := 2) (by decide)) v_X6_53_5 rfl (scW_ob hp) rfl (Nat.le_of_ble_eq_true rfl) (Nat.le_of_ble_eq_true rfl) (Nat.le_of_ble_eq_true rfl) ?_
  refine go_istore_n dX6_readHandle_5 (Nat.le_of_ble_eq_true rfl) rfl ?_
  refine go_aload_n dX6_readHandle_6 rfl ?_
  refine go_aload_n dX6_readHandle_7 rfl ?_
  refine go_getfield dX6_readHandle_8 f_X6_57_5 (scW_ob hp) rfl ?_
  refine go_putfield dX6_readHandle_11 p_X6_63_5 (scW_ob hp) (Nat.le_of_ble_eq_true rfl) (fun _ => ⟨rfl, rfl⟩) (fun _ z => nomatch z) ?_
  refine go_w _ (scW_up t ln ((rdN t ln 2 s.1 0).1, (rdN t ln 2 s.1 0).2, s.2.2.1, nI (rdN t ln 2 s.1 0).2, s.2.2.2.2)) ?_
  refine go_iload_n dX6_readHandle_14 rfl ?_
  exact go_ireturn dX6_readHandle_15 rfl (nar_b _)
theorem c_rdKey (l : Launch) {w : MW} {p : Nat} {t : Nat → Nat} {ln : Nat} {s : PS} (hp : p + 1 < w.1) (ht : ∀ i, t i < 128) (hl : ln ≤ 120) (hs : s.1 ≤ ln) : Ct l (.code yX6_readKey cX6_readKey 3 (some .boolean)) yX6_readKey 2 0 0 [.ref p] (scW w p t ln s) (.inl (some (.int (bI (rdKey t ln s).1)))) (scW w p t ln (rdKey t ln s).2) := by
  refine ct_of (by decide +kernel) (Nat.le_of_ble_eq_true rfl) ?_
  by_cases e : curN t ln s.1 = 45
  · have e1 : rdSign t ln 45 s = (true, s.1 + 1, s.2) := if_pos e
    have e2 : sgn1 t ln s = s.1 + 1 := if_pos e
    have hs1 : s.1 + 1 ≤ ln := by
      have := cur_lt (t := t) (ln := ln) (cu := s.1) (by rw [e]; decide)
      omega
    unfold rdKey
    rw [if_pos e, e2]
    refine go_aload_n dX6_readKey_0 rfl ?_
    refine go_bipush 45 dX6_readKey_1 (by decide) ?_
    refine go_virt1 dX6_readKey_3 (c_rdSign l hp ht hl hs (c := 45) (by decide)) v_X6_43_5 rfl (scW_ob hp) rfl (Nat.le_of_ble_eq_true rfl) (Nat.le_of_ble_eq_true rfl) (Nat.le_of_ble_eq_true rfl) ?_
    rw [e1]
    refine go_istore_n dX6_readKey_6 (Nat.le_of_ble_eq_true rfl) rfl ?_
    refine go_aload_n dX6_readKey_7 rfl ?_
    refine go_iconst 3 dX6_readKey_8 (by decide) ?_
    refine go_virt1 dX6_readKey_9 (c_rdN l hp ht hl (s := (s.1 + 1, s.2)) hs1 (m := 3) (by decide)) v_X6_53_5 rfl (scW_ob hp) rfl (Nat.le_of_ble_eq_true rfl) (Nat.le_of_ble_eq_true rfl) (Nat.le_of_ble_eq_true rfl) ?_
    refine go_istore_n dX6_readKey_12 (Nat.le_of_ble_eq_true rfl) rfl ?_
    refine go_aload_n dX6_readKey_13 rfl ?_
    refine go_iload_n dX6_readKey_14 rfl ?_
    refine go_if_eq_f 26 dX6_readKey_15 (by decide) (by show ¬ bI true = 0; decide) ?_
    refine go_aload_n dX6_readKey_18 rfl ?_
    refine go_getfield dX6_readKey_19 f_X6_57_5 (scW_ob hp) rfl ?_
    refine go_ineg dX6_readKey_22 ?_
    refine go_goto 30 dX6_readKey_23 (by decide) ?_
    
    refine go_putfield dX6_readKey_30 p_X6_60_5 (scW_ob hp) (Nat.le_of_ble_eq_true rfl) (fun _ => ⟨rfl, rfl⟩) (fun _ z => nomatch z) ?_
    refine go_w _ (scW_up t ln ((rdN t ln 3 (s.1 + 1) 0).1, (rdN t ln 3 (s.1 + 1) 0).2, s.2.2.1, s.2.2.2.1, -nI (rdN t ln 3 (s.1 + 1) 0).2)) ?_
    refine go_iload_n dX6_readKey_33 rfl ?_
    exact go_ireturn dX6_readKey_34 rfl (nar_b _)
  · have e1 : rdSign t ln 45 s = (false, s) := if_neg e
    have e2 : sgn1 t ln s = s.1 := if_neg e
    unfold rdKey
    rw [if_neg e, e2]
    refine go_aload_n dX6_readKey_0 rfl ?_
    refine go_bipush 45 dX6_readKey_1 (by decide) ?_
    refine go_virt1 dX6_readKey_3 (c_rdSign l hp ht hl hs (c := 45) (by decide)) v_X6_43_5 rfl (scW_ob hp) rfl (Nat.le_of_ble_eq_true rfl) (Nat.le_of_ble_eq_true rfl) (Nat.le_of_ble_eq_true rfl) ?_
    rw [e1]
    refine go_istore_n dX6_readKey_6 (Nat.le_of_ble_eq_true rfl) rfl ?_
    refine go_aload_n dX6_readKey_7 rfl ?_
    refine go_iconst 3 dX6_readKey_8 (by decide) ?_
    refine go_virt1 dX6_readKey_9 (c_rdN l hp ht hl (s := s) hs (m := 3) (by decide)) v_X6_53_5 rfl (scW_ob hp) rfl (Nat.le_of_ble_eq_true rfl) (Nat.le_of_ble_eq_true rfl) (Nat.le_of_ble_eq_true rfl) ?_
    refine go_istore_n dX6_readKey_12 (Nat.le_of_ble_eq_true rfl) rfl ?_
    refine go_aload_n dX6_readKey_13 rfl ?_
    refine go_iload_n dX6_readKey_14 rfl ?_
    refine go_if_eq_t 26 dX6_readKey_15 (by decide) (rfl) ?_
    refine go_aload_n dX6_readKey_26 rfl ?_
    refine go_getfield dX6_readKey_27 f_X6_57_5 (scW_ob hp) rfl ?_
    
    refine go_putfield dX6_readKey_30 p_X6_60_5 (scW_ob hp) (Nat.le_of_ble_eq_true rfl) (fun _ => ⟨rfl, rfl⟩) (fun _ z => nomatch z) ?_
    refine go_w _ (scW_up t ln ((rdN t ln 3 s.1 0).1, (rdN t ln 3 s.1 0).2, s.2.2.1, s.2.2.2.1, nI (rdN t ln 3 s.1 0).2)) ?_
    refine go_iload_n dX6_readKey_33 rfl ?_
    exact go_ireturn dX6_readKey_34 rfl (nar_b _)
theorem c_rewind (l : Launch) {w : MW} {p : Nat} {t : Nat → Nat} {ln : Nat} {s : PS} (hp : p + 1 < w.1) : Ct l (.code yX6_rewind cX6_rewind 1 none) yX6_rewind 0 0 0 [.ref p] (scW w p t ln s) (.inl none) (scW w p t ln (0, s.2)) := by
  refine ct_of (by decide +kernel) (Nat.le_of_ble_eq_true rfl) ?_
  refine go_aload_n dX6_rewind_0 rfl ?_
  refine go_iconst 0 dX6_rewind_1 (by decide) ?_
  refine go_putfield dX6_rewind_2 p_X6_19_5 (scW_ob hp) (Nat.le_of_ble_eq_true rfl) (fun _ => ⟨rfl, rfl⟩) (fun _ z => nomatch z) ?_
  refine go_w _ (scW_up t ln (0, s.2)) ?_
  exact go_return dX6_rewind_5 rfl
theorem c_append (l : Launch) {w : MW} {p : Nat} {t : Nat → Nat} {ln : Nat} {s : PS} (hp : p + 1 < w.1) (hl : ln < 120) {k : Nat} (hk : k < 128) : Ct l (.code yX6_append cX6_append 2 none) yX6_append 0 0 0 [.ref p, .int (nI k)] (scW w p t ln s) (.inl none) (scW w p (updN t ln k) (ln + 1) s) := by
  refine ct_of (by decide +kernel) (Nat.le_of_ble_eq_true rfl) ?_
  refine go_aload_n dX6_append_0 rfl ?_
  refine go_getfield dX6_append_1 f_X6_15_5 (scW_ob hp) rfl ?_
  refine go_aload_n dX6_append_4 rfl ?_
  refine go_getfield dX6_append_5 f_X6_9_5 (scW_ob hp) rfl ?_
  refine go_alen 2 (fun _ => rfl) dX6_append_8 (scW_ar hp) ?_
  refine go_icmp_ge_f 32 dX6_append_9 (by decide) (n_nle (by omega) (by omega)) ?_
  refine go_aload_n dX6_append_12 rfl ?_
  refine go_getfield dX6_append_13 f_X6_9_5 (scW_ob hp) rfl ?_
  refine go_aload_n dX6_append_16 rfl ?_
  refine go_getfield dX6_append_17 f_X6_15_5 (scW_ob hp) rfl ?_
  refine go_iload_n dX6_append_20 rfl ?_
  refine go_castore ln dX6_append_21 (scW_ar hp) rfl hl (by decide) ?_
  refine go_w _ ((congrArg (fun z => mm_up (scW w p t ln s) (p + 1) (.inl (.char, 120, .inl z))) (upd_char hk)).trans (scW_upA (updN t ln k))) ?_
  refine go_aload_n dX6_append_22 rfl ?_
  refine go_dup dX6_append_23 rfl ?_
  refine go_getfield dX6_append_24 f_X6_15_5 (scW_ob hp) rfl ?_
  refine go_iconst 1 dX6_append_27 (by decide) ?_
  refine go_iadd dX6_append_28 ?_
  rw [a_k1]
  refine go_putfield dX6_append_29 p_X6_15_5 (scW_ob hp) (Nat.le_of_ble_eq_true rfl) (fun _ => ⟨rfl, rfl⟩) (fun _ z => nomatch z) ?_
  refine go_w _ (scW_up (updN t ln k) (ln + 1) s) ?_
  exact go_return dX6_append_32 rfl
theorem c_cmdOf (l : Launch) {w : MW} {c : Nat} (hc : c < 128) : Ct l (.code yX6_commandOf cX6_commandOf 1 (some .int)) yX6_commandOf 0 0 0 [.int (nI c)] w (.inl (some (.int (cmdOf c)))) w := by
  refine ct_of (by decide +kernel) (Nat.le_of_ble_eq_true rfl) ?_
  by_cases h : 98 ≤ c ∧ c ≤ 114
  · rcases (show c = 98 ∨ c = 99 ∨ c = 100 ∨ c = 101 ∨ c = 102 ∨ c = 103 ∨ c = 104 ∨ c = 105 ∨ c = 106 ∨ c = 107 ∨ c = 108 ∨ c = 109 ∨ c = 110 ∨ c = 111 ∨ c = 112 ∨ c = 113 ∨ c = 114 by omega) with rfl | rfl | rfl | rfl | rfl | rfl | rfl | rfl | rfl | rfl | rfl | rfl | rfl | rfl | rfl | rfl | rfl
    · skip
      refine go_iload_n dX6_commandOf_0 rfl ?_
      refine go_tblIn 94 dX6_commandOf_1 (by decide) (by decide) rfl (by decide) ?_
      refine go_iconst 4 dX6_commandOf_94 (by decide) ?_
      exact go_ireturn dX6_commandOf_95 rfl rfl
    · skip
      refine go_iload_n dX6_commandOf_0 rfl ?_
      refine go_tblIn 92 dX6_commandOf_1 (by decide) (by decide) rfl (by decide) ?_
      refine go_iconst 5 dX6_commandOf_92 (by decide) ?_
      exact go_ireturn dX6_commandOf_93 rfl rfl
    · skip
      refine go_iload_n dX6_commandOf_0 rfl ?_
      refine go_tblIn 96 dX6_commandOf_1 (by decide) (by decide) rfl (by decide) ?_
      refine go_iconst (-1) dX6_commandOf_96 (by decide) ?_
      exact go_ireturn dX6_commandOf_97 rfl rfl
    · skip
      refine go_iload_n dX6_commandOf_0 rfl ?_
      refine go_tblIn 96 dX6_commandOf_1 (by decide) (by decide) rfl (by decide) ?_
      refine go_iconst (-1) dX6_commandOf_96 (by decide) ?_
      exact go_ireturn dX6_commandOf_97 rfl rfl
    · skip
      refine go_iload_n dX6_commandOf_0 rfl ?_
      refine go_tblIn 96 dX6_commandOf_1 (by decide) (by decide) rfl (by decide) ?_
      refine go_iconst (-1) dX6_commandOf_96 (by decide) ?_
      exact go_ireturn dX6_commandOf_97 rfl rfl
    · skip
      refine go_iload_n dX6_commandOf_0 rfl ?_
      refine go_tblIn 88 dX6_commandOf_1 (by decide) (by decide) rfl (by decide) ?_
      refine go_iconst 2 dX6_commandOf_88 (by decide) ?_
      exact go_ireturn dX6_commandOf_89 rfl rfl
    · skip
      refine go_iload_n dX6_commandOf_0 rfl ?_
      refine go_tblIn 96 dX6_commandOf_1 (by decide) (by decide) rfl (by decide) ?_
      refine go_iconst (-1) dX6_commandOf_96 (by decide) ?_
      exact go_ireturn dX6_commandOf_97 rfl rfl
    · skip
      refine go_iload_n dX6_commandOf_0 rfl ?_
      refine go_tblIn 84 dX6_commandOf_1 (by decide) (by decide) rfl (by decide) ?_
      refine go_iconst 0 dX6_commandOf_84 (by decide) ?_
      exact go_ireturn dX6_commandOf_85 rfl rfl
    · skip
      refine go_iload_n dX6_commandOf_0 rfl ?_
      refine go_tblIn 96 dX6_commandOf_1 (by decide) (by decide) rfl (by decide) ?_
      refine go_iconst (-1) dX6_commandOf_96 (by decide) ?_
      exact go_ireturn dX6_commandOf_97 rfl rfl
    · skip
      refine go_iload_n dX6_commandOf_0 rfl ?_
      refine go_tblIn 96 dX6_commandOf_1 (by decide) (by decide) rfl (by decide) ?_
      refine go_iconst (-1) dX6_commandOf_96 (by decide) ?_
      exact go_ireturn dX6_commandOf_97 rfl rfl
    · skip
      refine go_iload_n dX6_commandOf_0 rfl ?_
      refine go_tblIn 86 dX6_commandOf_1 (by decide) (by decide) rfl (by decide) ?_
      refine go_iconst 1 dX6_commandOf_86 (by decide) ?_
      exact go_ireturn dX6_commandOf_87 rfl rfl
    · skip
      refine go_iload_n dX6_commandOf_0 rfl ?_
      refine go_tblIn 96 dX6_commandOf_1 (by decide) (by decide) rfl (by decide) ?_
      refine go_iconst (-1) dX6_commandOf_96 (by decide) ?_
      exact go_ireturn dX6_commandOf_97 rfl rfl
    · skip
      refine go_iload_n dX6_commandOf_0 rfl ?_
      refine go_tblIn 96 dX6_commandOf_1 (by decide) (by decide) rfl (by decide) ?_
      refine go_iconst (-1) dX6_commandOf_96 (by decide) ?_
      exact go_ireturn dX6_commandOf_97 rfl rfl
    · skip
      refine go_iload_n dX6_commandOf_0 rfl ?_
      refine go_tblIn 96 dX6_commandOf_1 (by decide) (by decide) rfl (by decide) ?_
      refine go_iconst (-1) dX6_commandOf_96 (by decide) ?_
      exact go_ireturn dX6_commandOf_97 rfl rfl
    · skip
      refine go_iload_n dX6_commandOf_0 rfl ?_
      refine go_tblIn 96 dX6_commandOf_1 (by decide) (by decide) rfl (by decide) ?_
      refine go_iconst (-1) dX6_commandOf_96 (by decide) ?_
      exact go_ireturn dX6_commandOf_97 rfl rfl
    · skip
      refine go_iload_n dX6_commandOf_0 rfl ?_
      refine go_tblIn 96 dX6_commandOf_1 (by decide) (by decide) rfl (by decide) ?_
      refine go_iconst (-1) dX6_commandOf_96 (by decide) ?_
      exact go_ireturn dX6_commandOf_97 rfl rfl
    · skip
      refine go_iload_n dX6_commandOf_0 rfl ?_
      refine go_tblIn 90 dX6_commandOf_1 (by decide) (by decide) rfl (by decide) ?_
      refine go_iconst 3 dX6_commandOf_90 (by decide) ?_
      exact go_ireturn dX6_commandOf_91 rfl rfl
  · rw [show cmdOf c = -1 from by simp only [cmdOf]; repeat (rw [if_neg (by omega)])]
    refine go_iload_n dX6_commandOf_0 rfl ?_
    refine go_tblOut 96 dX6_commandOf_1 (by rw [nI_toInt (by omega)]; omega) (by decide) ?_
    refine go_iconst (-1) dX6_commandOf_96 (by decide) ?_
    exact go_ireturn dX6_commandOf_97 rfl rfl
theorem c_rdArgs (l : Launch) {w : MW} {p : Nat} {t : Nat → Nat} {ln : Nat} {s : PS} (hp : p + 1 < w.1) (ht : ∀ i, t i < 128) (hl : ln ≤ 120) (hs : s.1 ≤ ln) (hc : s.2.2.1 = 0 ∨ s.2.2.1 = 1 ∨ s.2.2.1 = 2 ∨ s.2.2.1 = 3 ∨ s.2.2.1 = 4 ∨ s.2.2.1 = 5) : Ct l (.code yX6_readArguments cX6_readArguments 1 (some .boolean)) yX6_readArguments 3 0 0 [.ref p] (scW w p t ln s) (.inl (some (.int (bI (rdArgs t ln s).1)))) (scW w p t ln (rdArgs t ln s).2) := by
  refine ct_of (by decide +kernel) (Nat.le_of_ble_eq_true rfl) ?_
  obtain ⟨cu, v, cm, x⟩ := s
  rcases hc with e | e | e | e | e | e
  · skip
    cases (show cm = 0 from e)
    rw [show rdArgs t ln (cu, v, 0, x) = rdKey t ln (cu, v, 0, x) from rfl]
    refine go_aload_n dX6_readArguments_0 rfl ?_
    refine go_getfield dX6_readArguments_1 f_X6_37_5 (scW_ob hp) rfl ?_
    refine go_lookup (off := 36) 40 dX6_readArguments_4 (by decide) (show Op.lookupswitch.offset _ 75 ((0 : Int32)).toInt = 36 by decide) (by decide) ?_
    refine go_aload_n dX6_readArguments_40 rfl ?_
    refine go_virt1 dX6_readArguments_41 (c_rdKey l hp ht hl (s := (cu, v, 0, x)) hs) v_X6_47_5 rfl (scW_ob hp) rfl (Nat.le_of_ble_eq_true rfl) (Nat.le_of_ble_eq_true rfl) (Nat.le_of_ble_eq_true rfl) ?_
    exact go_ireturn dX6_readArguments_44 rfl (nar_b _)
  · skip
    cases (show cm = 1 from e)
    rw [show rdArgs t ln (cu, v, 1, x) = (true, (cu, v, 1, x)) from rfl]
    refine go_aload_n dX6_readArguments_0 rfl ?_
    refine go_getfield dX6_readArguments_1 f_X6_37_5 (scW_ob hp) rfl ?_
    refine go_lookup (off := 75) 79 dX6_readArguments_4 (by decide) (show Op.lookupswitch.offset _ 75 ((1 : Int32)).toInt = 75 by decide) (by decide) ?_
    refine go_iconst 1 dX6_readArguments_79 (by decide) ?_
    exact go_ireturn dX6_readArguments_80 rfl (nar_b true)
  · skip
    cases (show cm = 2 from e)
    rw [show rdArgs t ln (cu, v, 2, x) = (true, (cu, v, 2, x)) from rfl]
    refine go_aload_n dX6_readArguments_0 rfl ?_
    refine go_getfield dX6_readArguments_1 f_X6_37_5 (scW_ob hp) rfl ?_
    refine go_lookup (off := 75) 79 dX6_readArguments_4 (by decide) (show Op.lookupswitch.offset _ 75 ((2 : Int32)).toInt = 75 by decide) (by decide) ?_
    refine go_iconst 1 dX6_readArguments_79 (by decide) ?_
    exact go_ireturn dX6_readArguments_80 rfl (nar_b true)
  · skip
    cases (show cm = 3 from e)
    rw [show rdArgs t ln (cu, v, 3, x) = rdHand t ln (cu, v, 3, x) from rfl]
    refine go_aload_n dX6_readArguments_0 rfl ?_
    refine go_getfield dX6_readArguments_1 f_X6_37_5 (scW_ob hp) rfl ?_
    refine go_lookup (off := 41) 45 dX6_readArguments_4 (by decide) (show Op.lookupswitch.offset _ 75 ((3 : Int32)).toInt = 41 by decide) (by decide) ?_
    refine go_aload_n dX6_readArguments_45 rfl ?_
    refine go_virt1 dX6_readArguments_46 (c_rdHand l hp ht hl (s := (cu, v, 3, x)) hs) v_X6_50_5 rfl (scW_ob hp) rfl (Nat.le_of_ble_eq_true rfl) (Nat.le_of_ble_eq_true rfl) (Nat.le_of_ble_eq_true rfl) ?_
    exact go_ireturn dX6_readArguments_49 rfl (nar_b _)
  · skip
    cases (show cm = 4 from e)
    rw [show rdArgs t ln (cu, v, 4, x) = (true, (cu, v, 4, x)) from rfl]
    refine go_aload_n dX6_readArguments_0 rfl ?_
    refine go_getfield dX6_readArguments_1 f_X6_37_5 (scW_ob hp) rfl ?_
    refine go_lookup (off := 75) 79 dX6_readArguments_4 (by decide) (show Op.lookupswitch.offset _ 75 ((4 : Int32)).toInt = 75 by decide) (by decide) ?_
    refine go_iconst 1 dX6_readArguments_79 (by decide) ?_
    exact go_ireturn dX6_readArguments_80 rfl (nar_b true)
  · skip
    cases (show cm = 5 from e)
    have e5 : rdArgs t ln (cu, v, 5, x) = (if (rdHand t ln (cu, v, 5, x)).1 then (if (rdSign t ln 44 (rdHand t ln (cu, v, 5, x)).2).1 then (rdKey t ln (rdSign t ln 44 (rdHand t ln (cu, v, 5, x)).2).2) else (false, (rdSign t ln 44 (rdHand t ln (cu, v, 5, x)).2).2)) else (false, (rdHand t ln (cu, v, 5, x)).2)) := rfl
    have h1 := rdHand_le (t := t) (s := (cu, v, 5, x)) hs
    have h2 := rdSign_le (t := t) (c := 44) (by decide) h1
    refine go_aload_n dX6_readArguments_0 rfl ?_
    refine go_getfield dX6_readArguments_1 f_X6_37_5 (scW_ob hp) rfl ?_
    refine go_lookup (off := 46) 50 dX6_readArguments_4 (by decide) (show Op.lookupswitch.offset _ 75 ((5 : Int32)).toInt = 46 by decide) (by decide) ?_
    refine go_aload_n dX6_readArguments_50 rfl ?_
    refine go_virt1 dX6_readArguments_51 (c_rdHand l hp ht hl (s := (cu, v, 5, x)) hs) v_X6_50_5 rfl (scW_ob hp) rfl (Nat.le_of_ble_eq_true rfl) (Nat.le_of_ble_eq_true rfl) (Nat.le_of_ble_eq_true rfl) ?_
    refine go_if_eq 77 dX6_readArguments_54 (by decide) (fun q54 => ?_) (fun q54 => ?_)
    · rw [e5, if_neg (bI_ff q54)]
      refine go_iconst 0 dX6_readArguments_77 (by decide) ?_
      exact go_ireturn dX6_readArguments_78 rfl (by first | exact nar_b true | exact nar_b false)
    · refine go_aload_n dX6_readArguments_57 rfl ?_
      refine go_bipush 44 dX6_readArguments_58 (by decide) ?_
      refine go_virt1 dX6_readArguments_60 (c_rdSign l hp ht hl (s := (rdHand t ln (cu, v, 5, x)).2) h1 (c := 44) (by decide)) v_X6_43_5 rfl (scW_ob hp) rfl (Nat.le_of_ble_eq_true rfl) (Nat.le_of_ble_eq_true rfl) (Nat.le_of_ble_eq_true rfl) ?_
      refine go_if_eq 77 dX6_readArguments_63 (by decide) (fun q63 => ?_) (fun q63 => ?_)
      · rw [e5, if_pos (bI_ne.mp q54), if_neg (bI_ff q63)]
        refine go_iconst 0 dX6_readArguments_77 (by decide) ?_
        exact go_ireturn dX6_readArguments_78 rfl (by first | exact nar_b true | exact nar_b false)
      · refine go_aload_n dX6_readArguments_66 rfl ?_
        refine go_virt1 dX6_readArguments_67 (c_rdKey l hp ht hl (s := (rdSign t ln 44 (rdHand t ln (cu, v, 5, x)).2).2) h2) v_X6_47_5 rfl (scW_ob hp) rfl (Nat.le_of_ble_eq_true rfl) (Nat.le_of_ble_eq_true rfl) (Nat.le_of_ble_eq_true rfl) ?_
        refine go_if_eq 77 dX6_readArguments_70 (by decide) (fun q70 => ?_) (fun q70 => ?_)
        · rw [e5, if_pos (bI_ne.mp q54), if_pos (bI_ne.mp q63), bI_eq.mp q70]
          refine go_iconst 0 dX6_readArguments_77 (by decide) ?_
          exact go_ireturn dX6_readArguments_78 rfl (by first | exact nar_b true | exact nar_b false)
        · rw [e5, if_pos (bI_ne.mp q54), if_pos (bI_ne.mp q63), bI_ne.mp q70]
          refine go_iconst 1 dX6_readArguments_73 (by decide) ?_
          refine go_goto 78 dX6_readArguments_74 (by decide) ?_
          exact go_ireturn dX6_readArguments_78 rfl (by first | exact nar_b true | exact nar_b false)
theorem c_rdCmd (l : Launch) {w : MW} {p : Nat} {t : Nat → Nat} {ln : Nat} {s : PS} (hp : p + 1 < w.1) (ht : ∀ i, t i < 128) (hl : ln ≤ 120) (hs : s.1 ≤ ln) : Ct l (.code yX6_readCommand cX6_readCommand 1 (some .boolean)) yX6_readCommand 4 0 0 [.ref p] (scW w p t ln s) (.inl (some (.int (bI (rdCmd t ln s).1)))) (scW w p t ln (rdCmd t ln s).2) := by
  refine ct_of (by decide +kernel) (Nat.le_of_ble_eq_true rfl) ?_
  by_cases e : cmdOf (curN t ln s.1) = -1
  · rw [show rdCmd t ln s = (false, s.1, s.2.1, -1, s.2.2.2) from if_pos e]
    refine go_aload_n dX6_readCommand_0 rfl ?_
    refine go_aload_n dX6_readCommand_1 rfl ?_
    refine go_virt1 dX6_readCommand_2 (c_cur l hp ht hl hs) v_X6_29_5 rfl (scW_ob hp) rfl (Nat.le_of_ble_eq_true rfl) (Nat.le_of_ble_eq_true rfl) (Nat.le_of_ble_eq_true rfl) ?_
    refine go_stat1 dX6_readCommand_5 (c_cmdOf l (cur_128 ht)) s_X6_33 kc_X6_commandOf rfl rfl (Nat.le_of_ble_eq_true rfl) (Nat.le_of_ble_eq_true rfl) (Nat.le_of_ble_eq_true rfl) ?_
    refine go_putfield dX6_readCommand_8 p_X6_37_5 (scW_ob hp) (Nat.le_of_ble_eq_true rfl) (fun _ => ⟨rfl, rfl⟩) (fun _ z => nomatch z) ?_
    refine go_w _ (scW_up t ln (s.1, s.2.1, cmdOf (curN t ln s.1), s.2.2.2)) ?_
    refine go_aload_n dX6_readCommand_11 rfl ?_
    refine go_getfield dX6_readCommand_12 f_X6_37_5 (scW_ob hp) rfl ?_
    refine go_iconst (-1) dX6_readCommand_15 (by decide) ?_
    refine go_icmp_ne_f 21 dX6_readCommand_16 (by decide) (e) ?_
    rw [e]
    refine go_iconst 0 dX6_readCommand_19 (by decide) ?_
    exact go_ireturn dX6_readCommand_20 rfl (nar_b false)
  · have hs1 : s.1 + 1 ≤ ln := cur_lt (t := t) (ln := ln) (cu := s.1) (fun z => e (by rw [z]; exact cmdOf_0))
    have e5 : rdCmd t ln s = (if (rdArgs t ln (s.1 + 1, s.2.1, cmdOf (curN t ln s.1), s.2.2.2)).1 then rdSign t ln 59 (rdArgs t ln (s.1 + 1, s.2.1, cmdOf (curN t ln s.1), s.2.2.2)).2 else (false, (rdArgs t ln (s.1 + 1, s.2.1, cmdOf (curN t ln s.1), s.2.2.2)).2)) := if_neg e
    refine go_aload_n dX6_readCommand_0 rfl ?_
    refine go_aload_n dX6_readCommand_1 rfl ?_
    refine go_virt1 dX6_readCommand_2 (c_cur l hp ht hl hs) v_X6_29_5 rfl (scW_ob hp) rfl (Nat.le_of_ble_eq_true rfl) (Nat.le_of_ble_eq_true rfl) (Nat.le_of_ble_eq_true rfl) ?_
    refine go_stat1 dX6_readCommand_5 (c_cmdOf l (cur_128 ht)) s_X6_33 kc_X6_commandOf rfl rfl (Nat.le_of_ble_eq_true rfl) (Nat.le_of_ble_eq_true rfl) (Nat.le_of_ble_eq_true rfl) ?_
    refine go_putfield dX6_readCommand_8 p_X6_37_5 (scW_ob hp) (Nat.le_of_ble_eq_true rfl) (fun _ => ⟨rfl, rfl⟩) (fun _ z => nomatch z) ?_
    refine go_w _ (scW_up t ln (s.1, s.2.1, cmdOf (curN t ln s.1), s.2.2.2)) ?_
    refine go_aload_n dX6_readCommand_11 rfl ?_
    refine go_getfield dX6_readCommand_12 f_X6_37_5 (scW_ob hp) rfl ?_
    refine go_iconst (-1) dX6_readCommand_15 (by decide) ?_
    refine go_icmp_ne_t 21 dX6_readCommand_16 (by decide) (e) ?_
    refine go_aload_n dX6_readCommand_21 rfl ?_
    refine go_dup dX6_readCommand_22 rfl ?_
    refine go_getfield dX6_readCommand_23 f_X6_19_5 (scW_ob hp) rfl ?_
    refine go_iconst 1 dX6_readCommand_26 (by decide) ?_
    refine go_iadd dX6_readCommand_27 ?_
    rw [a_k1]
    refine go_putfield dX6_readCommand_28 p_X6_19_5 (scW_ob hp) (Nat.le_of_ble_eq_true rfl) (fun _ => ⟨rfl, rfl⟩) (fun _ z => nomatch z) ?_
    refine go_w _ (scW_up t ln (s.1 + 1, s.2.1, cmdOf (curN t ln s.1), s.2.2.2)) ?_
    refine go_aload_n dX6_readCommand_31 rfl ?_
    refine go_virt1 dX6_readCommand_32 (c_rdArgs l hp ht hl (s := (s.1 + 1, s.2.1, cmdOf (curN t ln s.1), s.2.2.2)) hs1 (cmdOf_c e)) v_X6_40_5 rfl (scW_ob hp) rfl (Nat.le_of_ble_eq_true rfl) (Nat.le_of_ble_eq_true rfl) (Nat.le_of_ble_eq_true rfl) ?_
    refine go_if_eq 51 dX6_readCommand_35 (by decide) (fun q35 => ?_) (fun q35 => ?_)
    · rw [e5, if_neg (bI_ff q35)]
      refine go_iconst 0 dX6_readCommand_51 (by decide) ?_
      exact go_ireturn dX6_readCommand_52 rfl (by first | exact nar_b true | exact nar_b false)
    · refine go_aload_n dX6_readCommand_38 rfl ?_
      refine go_bipush 59 dX6_readCommand_39 (by decide) ?_
      refine go_virt1 dX6_readCommand_41 (c_rdSign l hp ht hl (s := (rdArgs t ln (s.1 + 1, s.2.1, cmdOf (curN t ln s.1), s.2.2.2)).2) (rdArgs_le hs1) (c := 59) (by decide)) v_X6_43_5 rfl (scW_ob hp) rfl (Nat.le_of_ble_eq_true rfl) (Nat.le_of_ble_eq_true rfl) (Nat.le_of_ble_eq_true rfl) ?_
      refine go_if_eq 51 dX6_readCommand_44 (by decide) (fun q44 => ?_) (fun q44 => ?_)
      · rw [e5, if_pos (bI_ne.mp q35), show rdSign t ln 59 (rdArgs t ln (s.1 + 1, s.2.1, cmdOf (curN t ln s.1), s.2.2.2)).2 = (false, (rdSign t ln 59 (rdArgs t ln (s.1 + 1, s.2.1, cmdOf (curN t ln s.1), s.2.2.2)).2).2) from Prod.ext (bI_eq.mp q44) rfl]
        refine go_iconst 0 dX6_readCommand_51 (by decide) ?_
        exact go_ireturn dX6_readCommand_52 rfl (by first | exact nar_b true | exact nar_b false)
      · rw [e5, if_pos (bI_ne.mp q35), show rdSign t ln 59 (rdArgs t ln (s.1 + 1, s.2.1, cmdOf (curN t ln s.1), s.2.2.2)).2 = (true, (rdSign t ln 59 (rdArgs t ln (s.1 + 1, s.2.1, cmdOf (curN t ln s.1), s.2.2.2)).2).2) from Prod.ext (bI_ne.mp q44) rfl]
        refine go_iconst 1 dX6_readCommand_47 (by decide) ?_
        refine go_goto 52 dX6_readCommand_48 (by decide) ?_
        exact go_ireturn dX6_readCommand_52 rfl (by first | exact nar_b true | exact nar_b false)
theorem c_flt_6 (l : Launch) {w : MW} {p : Nat} {t : Nat → Nat} {ln : Nat} (hp : p + 1 < w.1) (ht : ∀ i, t i < 128) (hl : ln ≤ 120) : ∀ (u k : Nat) (s : PS), u + k = 120 → s.1 ≤ ln → Go l yX6_firstFault cX6_firstFault 2 (some .int) [] none (mm_Z (mm_eq (.inl (some (.int (fltS t ln u s).1))) (scW w p t ln (fltS t ln u s).2))) 5 0 0 6 [(0, .ref p), (1, .int (nI k))] [] (scW w p t ln s) := by
  intro u
  induction u with
  | zero =>
    intro k s hk hs
    rw [show fltS t ln 0 s = (-1, s) from rfl]
    refine go_iload_n dX6_firstFault_6 rfl ?_
    refine go_bipush 120 dX6_firstFault_7 (by decide) ?_
    refine go_icmp_ge_t 41 dX6_firstFault_9 (by decide) (nI_le (a := 120) (by omega) (by omega)) ?_
    refine go_iconst (-1) dX6_firstFault_41 (by decide) ?_
    exact go_ireturn dX6_firstFault_42 rfl rfl
  | succ u ih =>
    intro k s hk hs
    refine go_iload_n dX6_firstFault_6 rfl ?_
    refine go_bipush 120 dX6_firstFault_7 (by decide) ?_
    refine go_icmp_ge_f 41 dX6_firstFault_9 (by decide) (n_nle (a := 120) (by omega) (by decide)) ?_
    refine go_aload_n dX6_firstFault_12 rfl ?_
    refine go_getfield dX6_firstFault_13 f_X6_19_5 (scW_ob hp) rfl ?_
    refine go_aload_n dX6_firstFault_16 rfl ?_
    refine go_getfield dX6_firstFault_17 f_X6_15_5 (scW_ob hp) rfl ?_
    refine go_icmp_ge 41 dX6_firstFault_20 (by decide) (fun q20 => ?_) (fun q20 => ?_)
    · have z := n_le' q20 (by omega) (by omega)
      rw [show fltS t ln (u + 1) s = (-1, s) from if_neg (by omega)]
      refine go_iconst (-1) dX6_firstFault_41 (by decide) ?_
      exact go_ireturn dX6_firstFault_42 rfl rfl
    · have z := n_lt' q20 (by omega)
      have e5 : fltS t ln (u + 1) s = (if (rdCmd t ln s).1 then fltS t ln u (rdCmd t ln s).2 else (nI (rdCmd t ln s).2.1, (rdCmd t ln s).2)) := if_pos z
      refine go_aload_n dX6_firstFault_23 rfl ?_
      refine go_virt1 dX6_firstFault_24 (c_rdCmd l hp ht hl hs) v_X6_25_5 rfl (scW_ob hp) rfl (Nat.le_of_ble_eq_true rfl) (Nat.le_of_ble_eq_true rfl) (Nat.le_of_ble_eq_true rfl) ?_
      refine go_if_ne 35 dX6_firstFault_27 (by decide) (fun q27 => ?_) (fun q27 => ?_)
      · rw [e5, if_pos (bI_ne.mp q27)]
        refine go_iinc dX6_firstFault_35 rfl (Nat.le_of_ble_eq_true rfl) rfl (show _ = _ + 1 from rfl) ?_
        rw [a_k1]
        refine go_goto 6 dX6_firstFault_38 (by decide) ?_
        exact go_sub [(0, .ref p), (1, .int (nI (k + 1)))] ⟨rfl, rfl, trivial⟩ (ih (k + 1) (rdCmd t ln s).2 (by omega) (rdCmd_le hs))
      · rw [e5, if_neg (bI_ff q27)]
        refine go_aload_n dX6_firstFault_30 rfl ?_
        refine go_getfield dX6_firstFault_31 f_X6_19_5 (scW_ob hp) rfl ?_
        exact go_ireturn dX6_firstFault_34 rfl rfl
theorem c_flt (l : Launch) {w : MW} {p : Nat} {t : Nat → Nat} {ln : Nat} {s : PS} (hp : p + 1 < w.1) (ht : ∀ i, t i < 128) (hl : ln ≤ 120) : Ct l (.code yX6_firstFault cX6_firstFault 2 (some .int)) yX6_firstFault 5 0 0 [.ref p] (scW w p t ln s) (.inl (some (.int (fltS t ln 120 (0, s.2)).1))) (scW w p t ln (fltS t ln 120 (0, s.2)).2) := by
  refine ct_of (by decide +kernel) (Nat.le_of_ble_eq_true rfl) ?_
  refine go_aload_n dX6_firstFault_0 rfl ?_
  refine go_virt0 dX6_firstFault_1 (c_rewind l hp) v_X6_22_5 rfl (scW_ob hp) rfl (Nat.le_of_ble_eq_true rfl) (Nat.le_of_ble_eq_true rfl) (Nat.le_of_ble_eq_true rfl) ?_
  refine go_iconst 0 dX6_firstFault_4 (by decide) ?_
  refine go_istore_n dX6_firstFault_5 (Nat.le_of_ble_eq_true rfl) rfl ?_
  exact go_sub [(0, .ref p), (1, .int (nI 0))] ⟨rfl, rfl, trivial⟩ (c_flt_6 l hp ht hl 120 0 (0, s.2) rfl (Nat.zero_le _))
