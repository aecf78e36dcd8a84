theorem m_isKey (l : Launch) {w : MW} {x : Int32} : Ct l (.code yX8_isKey cX8_isKey 1 (some .boolean)) yX8_isKey 1 0 0 [.int x] w (.inl (some (.int (bI (isKeyB x))))) w := by
  refine ct_of (by decide +kernel) (Nat.le_of_ble_eq_true rfl) ?_
  refine go_iload_n dX8_isKey_0 rfl ?_
  refine go_sipush (-999) dX8_isKey_1 (by decide) ?_
  refine go_sipush 999 dX8_isKey_4 (by decide) ?_
  refine go_stat1 dX8_isKey_7 (m_within l) s_X8_33 kc_X8_within rfl rfl (Nat.le_of_ble_eq_true rfl) (Nat.le_of_ble_eq_true rfl) (Nat.le_of_ble_eq_true rfl) ?_
  exact go_ireturn dX8_isKey_10 rfl (nar_b _)
theorem m_canDo (l : Launch) {w : MW} {p : Nat} {A P K T : Nat → Int32} {z : XS} (hp : p + 4 < w.1) {k n : Nat} {x : Int32} (hk : k < 5) (hn : n ≤ 30) (h180 : A 180 = nI n) : Ct l (.code yX8_canDo cX8_canDo 3 (some .boolean)) yX8_canDo 2 0 0 [.ref p, .int (nI k), .int x] (mdW w p A P K T z) (.inl (some (.int (bI (canA k x n A))))) (mdW w p A P K T z) := by
  refine ct_of (by decide +kernel) (Nat.le_of_ble_eq_true rfl) ?_
  rcases (show k = 0 ∨ k = 1 ∨ k = 2 ∨ k = 3 ∨ k = 4 by omega) with rfl | rfl | rfl | rfl | rfl
  · skip
    refine go_iload_n dX8_canDo_0 rfl ?_
    refine go_if_ne_f 26 dX8_canDo_1 (by decide) (rfl) ?_
    refine go_iload_n dX8_canDo_4 rfl ?_
    refine go_stat1 dX8_canDo_5 (m_isKey l) s_X8_138 kc_X8_isKey rfl rfl (Nat.le_of_ble_eq_true rfl) (Nat.le_of_ble_eq_true rfl) (Nat.le_of_ble_eq_true rfl) ?_
    refine go_if_eq 24 dX8_canDo_8 (by decide) (fun q8 => ?_) (fun q8 => ?_)
    · rw [show canA 0 x n A = false from by unfold canA; rw [if_pos rfl, bI_eq.mp q8]; rfl]
      refine go_iconst 0 dX8_canDo_24 (by decide) ?_
      exact go_ireturn dX8_canDo_25 rfl (by first | exact nar_b true | exact nar_b false | exact nar_b _)
    · refine go_aload_n dX8_canDo_11 rfl ?_
      refine go_virt1 dX8_canDo_12 (m_many l hp) v_X8_95_7 rfl (mdW_ob hp) rfl (Nat.le_of_ble_eq_true rfl) (Nat.le_of_ble_eq_true rfl) (Nat.le_of_ble_eq_true rfl) ?_
      rw [h180]
      refine go_bipush 30 dX8_canDo_15 (by decide) ?_
      refine go_icmp_ge 24 dX8_canDo_17 (by decide) (fun q17 => ?_) (fun q17 => ?_)
      · rw [show canA 0 x n A = false from by unfold canA; rw [if_pos rfl, decide_eq_false (show ¬ n < 30 from by have := n_le' (a := 30) q17 (by decide) (by omega); omega), Bool.and_false]]
        refine go_iconst 0 dX8_canDo_24 (by decide) ?_
        exact go_ireturn dX8_canDo_25 rfl (by first | exact nar_b true | exact nar_b false | exact nar_b _)
      · rw [show canA 0 x n A = true from by unfold canA; rw [if_pos rfl, bI_ne.mp q8, decide_eq_true (n_lt' (b := 30) q17 (by omega))]; rfl]
        refine go_iconst 1 dX8_canDo_20 (by decide) ?_
        refine go_goto 25 dX8_canDo_21 (by decide) ?_
        exact go_ireturn dX8_canDo_25 rfl (by first | exact nar_b true | exact nar_b false | exact nar_b _)
  · skip
    refine go_iload_n dX8_canDo_0 rfl ?_
    refine go_if_ne_t 26 dX8_canDo_1 (by decide) (by decide) ?_
    refine go_iload_n dX8_canDo_26 rfl ?_
    refine go_iconst 3 dX8_canDo_27 (by decide) ?_
    refine go_icmp_ne_t 39 dX8_canDo_28 (by decide) (by decide) ?_
    refine go_iload_n dX8_canDo_39 rfl ?_
    refine go_iconst 4 dX8_canDo_40 (by decide) ?_
    refine go_icmp_eq_f 51 dX8_canDo_41 (by decide) (by decide) ?_
    refine go_aload_n dX8_canDo_44 rfl ?_
    refine go_virt1 dX8_canDo_45 (m_many l hp) v_X8_95_7 rfl (mdW_ob hp) rfl (Nat.le_of_ble_eq_true rfl) (Nat.le_of_ble_eq_true rfl) (Nat.le_of_ble_eq_true rfl) ?_
    rw [h180]
    refine go_if_le 55 dX8_canDo_48 (by decide) (fun q48 => ?_) (fun q48 => ?_)
    · rw [show canA 1 x n A = false from by unfold canA; rw [if_neg (by decide), if_neg (by decide), decide_eq_false (show ¬ 1 = 4 from by decide), decide_eq_false (show ¬ 0 < n from fun z => n_le0 z (by omega) q48)]; rfl]
      refine go_iconst 0 dX8_canDo_55 (by decide) ?_
      exact go_ireturn dX8_canDo_56 rfl (by first | exact nar_b true | exact nar_b false | exact nar_b _)
    · rw [show canA 1 x n A = true from by unfold canA; rw [if_neg (by decide), if_neg (by decide), decide_eq_true (Nat.pos_of_ne_zero (fun z => q48 (by rw [z]; decide))), Bool.or_true]]
      refine go_iconst 1 dX8_canDo_51 (by decide) ?_
      refine go_goto 56 dX8_canDo_52 (by decide) ?_
      exact go_ireturn dX8_canDo_56 rfl (by first | exact nar_b true | exact nar_b false | exact nar_b _)
  · skip
    refine go_iload_n dX8_canDo_0 rfl ?_
    refine go_if_ne_t 26 dX8_canDo_1 (by decide) (by decide) ?_
    refine go_iload_n dX8_canDo_26 rfl ?_
    refine go_iconst 3 dX8_canDo_27 (by decide) ?_
    refine go_icmp_ne_t 39 dX8_canDo_28 (by decide) (by decide) ?_
    refine go_iload_n dX8_canDo_39 rfl ?_
    refine go_iconst 4 dX8_canDo_40 (by decide) ?_
    refine go_icmp_eq_f 51 dX8_canDo_41 (by decide) (by decide) ?_
    refine go_aload_n dX8_canDo_44 rfl ?_
    refine go_virt1 dX8_canDo_45 (m_many l hp) v_X8_95_7 rfl (mdW_ob hp) rfl (Nat.le_of_ble_eq_true rfl) (Nat.le_of_ble_eq_true rfl) (Nat.le_of_ble_eq_true rfl) ?_
    rw [h180]
    refine go_if_le 55 dX8_canDo_48 (by decide) (fun q48 => ?_) (fun q48 => ?_)
    · rw [show canA 2 x n A = false from by unfold canA; rw [if_neg (by decide), if_neg (by decide), decide_eq_false (show ¬ 2 = 4 from by decide), decide_eq_false (show ¬ 0 < n from fun z => n_le0 z (by omega) q48)]; rfl]
      refine go_iconst 0 dX8_canDo_55 (by decide) ?_
      exact go_ireturn dX8_canDo_56 rfl (by first | exact nar_b true | exact nar_b false | exact nar_b _)
    · rw [show canA 2 x n A = true from by unfold canA; rw [if_neg (by decide), if_neg (by decide), decide_eq_true (Nat.pos_of_ne_zero (fun z => q48 (by rw [z]; decide))), Bool.or_true]]
      refine go_iconst 1 dX8_canDo_51 (by decide) ?_
      refine go_goto 56 dX8_canDo_52 (by decide) ?_
      exact go_ireturn dX8_canDo_56 rfl (by first | exact nar_b true | exact nar_b false | exact nar_b _)
  · skip
    rw [show canA 3 x n A = itB A x from by unfold canA; rw [if_neg (by decide), if_pos rfl]]
    refine go_iload_n dX8_canDo_0 rfl ?_
    refine go_if_ne_t 26 dX8_canDo_1 (by decide) (by decide) ?_
    refine go_iload_n dX8_canDo_26 rfl ?_
    refine go_iconst 3 dX8_canDo_27 (by decide) ?_
    refine go_icmp_ne_f 39 dX8_canDo_28 (by decide) (rfl) ?_
    refine go_aload_n dX8_canDo_31 rfl ?_
    refine go_iload_n dX8_canDo_32 rfl ?_
    refine go_virt1 dX8_canDo_33 (m_isItem l hp) v_X8_49_7 rfl (mdW_ob hp) rfl (Nat.le_of_ble_eq_true rfl) (Nat.le_of_ble_eq_true rfl) (Nat.le_of_ble_eq_true rfl) ?_
    refine go_goto 56 dX8_canDo_36 (by decide) ?_
    exact go_ireturn dX8_canDo_56 rfl (by first | exact nar_b true | exact nar_b false | exact nar_b _)
  · skip
    rw [show canA 4 x n A = true from by unfold canA; rw [if_neg (by decide), if_neg (by decide)]; rfl]
    refine go_iload_n dX8_canDo_0 rfl ?_
    refine go_if_ne_t 26 dX8_canDo_1 (by decide) (by decide) ?_
    refine go_iload_n dX8_canDo_26 rfl ?_
    refine go_iconst 3 dX8_canDo_27 (by decide) ?_
    refine go_icmp_ne_t 39 dX8_canDo_28 (by decide) (by decide) ?_
    refine go_iload_n dX8_canDo_39 rfl ?_
    refine go_iconst 4 dX8_canDo_40 (by decide) ?_
    refine go_icmp_eq_t 51 dX8_canDo_41 (by decide) (rfl) ?_
    refine go_iconst 1 dX8_canDo_51 (by decide) ?_
    refine go_goto 56 dX8_canDo_52 (by decide) ?_
    exact go_ireturn dX8_canDo_56 rfl (by first | exact nar_b true | exact nar_b false | exact nar_b _)

theorem m_does (l : Launch) {w : MW} {p : Nat} {A P K T : Nat → Int32} {z : XS} (hp : p + 4 < w.1) {k n : Nat} {x q : Int32} (hk : k < 5) (hW : mWF 7 A n) (hc : canA k x n A = true) : Ct l (.code yX8_does cX8_does 5 none) yX8_does 8 0 0 [.ref p, .int (nI k), .int x, .int q] (mdW w p A P K T z) (.inl none) (mdW w p (doA q k x n A) P K T z) := by
  refine ct_of (by decide +kernel) (Nat.le_of_ble_eq_true rfl) ?_
  have hn := hW.2.2.1
  have h180 := hW.2.1
  rcases (show k = 0 ∨ k = 1 ∨ k = 2 ∨ k = 3 ∨ k = 4 by omega) with rfl | rfl | rfl | rfl | rfl
  · skip
    rw [doA, if_pos rfl]
    have hc0 : n < 30 := by
      unfold canA at hc
      rw [if_pos rfl] at hc
      exact of_decide_eq_true (Bool.and_eq_true_iff.mp hc).2
    have hfr := frA_lt hW.2.2.2.2.1 hc0
    refine go_iload_n dX8_does_0 rfl ?_
    refine go_if_ne_f 15 dX8_does_1 (by decide) (rfl) ?_
    refine go_aload_n dX8_does_4 rfl ?_
    refine go_iload_n dX8_does_5 rfl ?_
    refine go_iload_n dX8_does_6 rfl ?_
    refine go_virt1 dX8_does_7 (m_inserts l hp (q := q) hc0 hW.1 h180 hfr) v_X8_144_7 rfl (mdW_ob hp) rfl (Nat.le_of_ble_eq_true rfl) (Nat.le_of_ble_eq_true rfl) (Nat.le_of_ble_eq_true rfl) ?_
    refine go_istore dX8_does_10 (Nat.le_of_ble_eq_true rfl) rfl ?_
    refine go_goto 67 dX8_does_12 (by decide) ?_
    exact go_return dX8_does_67 rfl
  · skip
    rw [doA, if_neg (by decide), if_pos rfl]
    have h1 : 1 ≤ n := by
      unfold canA at hc
      rw [if_neg (by decide), if_neg (by decide)] at hc
      have := of_decide_eq_true (p := 0 < n) (by simpa using hc)
      omega
    obtain ⟨j, hj, ej, ht⟩ := lsA_tk hW (k := 0) (by decide) (mskB_7 (by decide)) h1
    rw [ej, nI_clamp (by omega)]
    refine go_iload_n dX8_does_0 rfl ?_
    refine go_if_ne_t 15 dX8_does_1 (by decide) (by decide) ?_
    refine go_iload_n dX8_does_15 rfl ?_
    refine go_iconst 1 dX8_does_16 (by decide) ?_
    refine go_icmp_ne_f 33 dX8_does_17 (by decide) (rfl) ?_
    refine go_aload_n dX8_does_20 rfl ?_
    refine go_aload_n dX8_does_21 rfl ?_
    refine go_iconst 0 dX8_does_22 (by decide) ?_
    refine go_virt1 dX8_does_23 (m_leastOf l hp (k := 0) (by decide) hn h180) v_X8_147_7 rfl (mdW_ob hp) rfl (Nat.le_of_ble_eq_true rfl) (Nat.le_of_ble_eq_true rfl) (Nat.le_of_ble_eq_true rfl) ?_
    rw [ej]
    refine go_iload_n dX8_does_26 rfl ?_
    refine go_virt0 dX8_does_27 (m_goes l hp (q := q) h1 hn hj h180 hW.1 (mWF_hf (mWF_any hW) hj ht)) v_X8_150_7 rfl (mdW_ob hp) rfl (Nat.le_of_ble_eq_true rfl) (Nat.le_of_ble_eq_true rfl) (Nat.le_of_ble_eq_true rfl) ?_
    refine go_goto 67 dX8_does_30 (by decide) ?_
    exact go_return dX8_does_67 rfl
  · skip
    rw [doA, if_neg (by decide), if_neg (by decide), if_pos rfl]
    have h1 : 1 ≤ n := by
      unfold canA at hc
      rw [if_neg (by decide), if_neg (by decide)] at hc
      have := of_decide_eq_true (p := 0 < n) (by simpa using hc)
      omega
    obtain ⟨j, hj, ej, ht⟩ := grA_tk hW (mskB_7 (by decide)) h1
    rw [ej, nI_clamp (by omega)]
    refine go_iload_n dX8_does_0 rfl ?_
    refine go_if_ne_t 15 dX8_does_1 (by decide) (by decide) ?_
    refine go_iload_n dX8_does_15 rfl ?_
    refine go_iconst 1 dX8_does_16 (by decide) ?_
    refine go_icmp_ne_t 33 dX8_does_17 (by decide) (by decide) ?_
    refine go_iload_n dX8_does_33 rfl ?_
    refine go_iconst 2 dX8_does_34 (by decide) ?_
    refine go_icmp_ne_f 48 dX8_does_35 (by decide) (rfl) ?_
    refine go_aload_n dX8_does_38 rfl ?_
    refine go_iload_n dX8_does_39 rfl ?_
    refine go_virt1 dX8_does_40 (m_takesG l hp (q := q) h1 hn hj h180 hW.1 ej (mWF_hf (mWF_any hW) hj ht)) v_X8_156_7 rfl (mdW_ob hp) rfl (Nat.le_of_ble_eq_true rfl) (Nat.le_of_ble_eq_true rfl) (Nat.le_of_ble_eq_true rfl) ?_
    refine go_istore dX8_does_43 (Nat.le_of_ble_eq_true rfl) rfl ?_
    refine go_goto 67 dX8_does_45 (by decide) ?_
    exact go_return dX8_does_67 rfl
  · skip
    rw [doA, if_neg (by decide), if_neg (by decide), if_neg (by decide), if_pos rfl]
    obtain ⟨j, hj, ej, ht⟩ := itB_iff.mp (show itB A x = true from by
      unfold canA at hc
      rw [if_neg (by decide), if_pos rfl] at hc
      exact hc)
    subst ej
    rw [nI_clamp (by omega)]
    have h1 : 1 ≤ n := by
      obtain ⟨i, hi, _⟩ := ((hW.2.2.2.2.2.2 0 (by decide) (mskB_7 (by decide))).2 j hj).mp ht
      omega
    refine go_iload_n dX8_does_0 rfl ?_
    refine go_if_ne_t 15 dX8_does_1 (by decide) (by decide) ?_
    refine go_iload_n dX8_does_15 rfl ?_
    refine go_iconst 1 dX8_does_16 (by decide) ?_
    refine go_icmp_ne_t 33 dX8_does_17 (by decide) (by decide) ?_
    refine go_iload_n dX8_does_33 rfl ?_
    refine go_iconst 2 dX8_does_34 (by decide) ?_
    refine go_icmp_ne_t 48 dX8_does_35 (by decide) (by decide) ?_
    refine go_iload_n dX8_does_48 rfl ?_
    refine go_iconst 3 dX8_does_49 (by decide) ?_
    refine go_icmp_ne_f 62 dX8_does_50 (by decide) (rfl) ?_
    refine go_aload_n dX8_does_53 rfl ?_
    refine go_iload_n dX8_does_54 rfl ?_
    refine go_iload_n dX8_does_55 rfl ?_
    refine go_virt0 dX8_does_56 (m_goes l hp (q := q) h1 hn hj h180 hW.1 (mWF_hf (mWF_any hW) hj ht)) v_X8_150_7 rfl (mdW_ob hp) rfl (Nat.le_of_ble_eq_true rfl) (Nat.le_of_ble_eq_true rfl) (Nat.le_of_ble_eq_true rfl) ?_
    refine go_goto 67 dX8_does_59 (by decide) ?_
    exact go_return dX8_does_67 rfl
  · skip
    rw [doA, if_neg (by decide), if_neg (by decide), if_neg (by decide), if_neg (by decide)]
    refine go_iload_n dX8_does_0 rfl ?_
    refine go_if_ne_t 15 dX8_does_1 (by decide) (by decide) ?_
    refine go_iload_n dX8_does_15 rfl ?_
    refine go_iconst 1 dX8_does_16 (by decide) ?_
    refine go_icmp_ne_t 33 dX8_does_17 (by decide) (by decide) ?_
    refine go_iload_n dX8_does_33 rfl ?_
    refine go_iconst 2 dX8_does_34 (by decide) ?_
    refine go_icmp_ne_t 48 dX8_does_35 (by decide) (by decide) ?_
    refine go_iload_n dX8_does_48 rfl ?_
    refine go_iconst 3 dX8_does_49 (by decide) ?_
    refine go_icmp_ne_t 62 dX8_does_50 (by decide) (by decide) ?_
    refine go_aload_n dX8_does_62 rfl ?_
    refine go_iload_n dX8_does_63 rfl ?_
    refine go_virt0 dX8_does_64 (m_builds l hp (q := q) hn h180 hW.1) v_X8_165_7 rfl (mdW_ob hp) rfl (Nat.le_of_ble_eq_true rfl) (Nat.le_of_ble_eq_true rfl) (Nat.le_of_ble_eq_true rfl) ?_
    exact go_return dX8_does_67 rfl

theorem m_isDone (l : Launch) {w : MW} {p : Nat} {A P K T : Nat → Int32} {z : XS} (hp : p + 4 < w.1) {c n : Nat} {a b : Int32} (hW : mWF 7 A n) (hc : c = 105 ∨ c = 108 ∨ c = 103 ∨ c = 98 ∨ c = 114 ∨ c = 99) : Ct l (.code yX8_isDone cX8_isDone 5 (some .boolean)) yX8_isDone 9 0 0 [.ref p, .int (nI c), .int a, .int b] (mdW w p A P K T z) (.inl (some (.int (bI (canA (whatOf c) a n A))))) (mdW w p (stA c a b n A) P K T z) := by
  refine ct_of (by decide +kernel) (Nat.le_of_ble_eq_true rfl) ?_
  rcases hc with rfl | rfl | rfl | rfl | rfl | rfl
  · skip
    refine go_iload_n dX8_isDone_0 rfl ?_
    refine go_bipush 105 dX8_isDone_1 (by decide) ?_
    refine go_icmp_ne_f 10 dX8_isDone_3 (by decide) (rfl) ?_
    refine go_iconst 0 dX8_isDone_6 (by decide) ?_
    refine go_goto 41 dX8_isDone_7 (by decide) ?_
    refine go_istore dX8_isDone_41 (Nat.le_of_ble_eq_true rfl) rfl ?_
    refine go_aload_n dX8_isDone_43 rfl ?_
    refine go_iload dX8_isDone_44 rfl ?_
    refine go_iload_n dX8_isDone_46 rfl ?_
    refine go_virt1 dX8_isDone_47 (m_canDo l hp (k := 0) (by decide) hW.2.2.1 hW.2.1) v_X8_203_7 rfl (mdW_ob hp) rfl (Nat.le_of_ble_eq_true rfl) (Nat.le_of_ble_eq_true rfl) (Nat.le_of_ble_eq_true rfl) ?_
    refine go_if_ne 55 dX8_isDone_50 (by decide) (fun q50 => ?_) (fun q50 => ?_)
    · have ec : canA 0 a n A = true := bI_ne.mp q50
      rw [show stA 105 a b n A = doA 7 0 a n A from by unfold stA; rw [show whatOf 105 = 0 from by decide, if_pos ec, if_neg (by decide)], show canA (whatOf 105) a n A = true from by rw [show whatOf 105 = 0 from by decide]; exact ec]
      refine go_iload_n dX8_isDone_55 rfl ?_
      refine go_bipush 99 dX8_isDone_56 (by decide) ?_
      refine go_icmp_ne_t 70 dX8_isDone_58 (by decide) (by decide) ?_
      refine go_aload_n dX8_isDone_70 rfl ?_
      refine go_iload dX8_isDone_71 rfl ?_
      refine go_iload_n dX8_isDone_73 rfl ?_
      refine go_bipush 7 dX8_isDone_74 (by decide) ?_
      refine go_virt0 dX8_isDone_76 (m_does l hp (k := 0) (q := 7) (by decide) hW ec) v_X8_209_7 rfl (mdW_ob hp) rfl (Nat.le_of_ble_eq_true rfl) (Nat.le_of_ble_eq_true rfl) (Nat.le_of_ble_eq_true rfl) ?_
      refine go_iconst 1 dX8_isDone_79 (by decide) ?_
      exact go_ireturn dX8_isDone_80 rfl (by first | exact nar_b true | exact nar_b false | exact nar_b _)
    · have ec : canA 0 a n A = false := bI_eq.mp q50
      rw [show stA 105 a b n A = A from by unfold stA; rw [show whatOf 105 = 0 from by decide, if_neg (by rw [ec]; decide)], show canA (whatOf 105) a n A = false from by rw [show whatOf 105 = 0 from by decide]; exact ec]
      refine go_iconst 0 dX8_isDone_53 (by decide) ?_
      exact go_ireturn dX8_isDone_54 rfl (by first | exact nar_b true | exact nar_b false | exact nar_b _)
  · skip
    refine go_iload_n dX8_isDone_0 rfl ?_
    refine go_bipush 105 dX8_isDone_1 (by decide) ?_
    refine go_icmp_ne_t 10 dX8_isDone_3 (by decide) (by decide) ?_
    refine go_iload_n dX8_isDone_10 rfl ?_
    refine go_bipush 108 dX8_isDone_11 (by decide) ?_
    refine go_icmp_ne_f 20 dX8_isDone_13 (by decide) (rfl) ?_
    refine go_iconst 1 dX8_isDone_16 (by decide) ?_
    refine go_goto 41 dX8_isDone_17 (by decide) ?_
    refine go_istore dX8_isDone_41 (Nat.le_of_ble_eq_true rfl) rfl ?_
    refine go_aload_n dX8_isDone_43 rfl ?_
    refine go_iload dX8_isDone_44 rfl ?_
    refine go_iload_n dX8_isDone_46 rfl ?_
    refine go_virt1 dX8_isDone_47 (m_canDo l hp (k := 1) (by decide) hW.2.2.1 hW.2.1) v_X8_203_7 rfl (mdW_ob hp) rfl (Nat.le_of_ble_eq_true rfl) (Nat.le_of_ble_eq_true rfl) (Nat.le_of_ble_eq_true rfl) ?_
    refine go_if_ne 55 dX8_isDone_50 (by decide) (fun q50 => ?_) (fun q50 => ?_)
    · have ec : canA 1 a n A = true := bI_ne.mp q50
      rw [show stA 108 a b n A = doA 7 1 a n A from by unfold stA; rw [show whatOf 108 = 1 from by decide, if_pos ec, if_neg (by decide)], show canA (whatOf 108) a n A = true from by rw [show whatOf 108 = 1 from by decide]; exact ec]
      refine go_iload_n dX8_isDone_55 rfl ?_
      refine go_bipush 99 dX8_isDone_56 (by decide) ?_
      refine go_icmp_ne_t 70 dX8_isDone_58 (by decide) (by decide) ?_
      refine go_aload_n dX8_isDone_70 rfl ?_
      refine go_iload dX8_isDone_71 rfl ?_
      refine go_iload_n dX8_isDone_73 rfl ?_
      refine go_bipush 7 dX8_isDone_74 (by decide) ?_
      refine go_virt0 dX8_isDone_76 (m_does l hp (k := 1) (q := 7) (by decide) hW ec) v_X8_209_7 rfl (mdW_ob hp) rfl (Nat.le_of_ble_eq_true rfl) (Nat.le_of_ble_eq_true rfl) (Nat.le_of_ble_eq_true rfl) ?_
      refine go_iconst 1 dX8_isDone_79 (by decide) ?_
      exact go_ireturn dX8_isDone_80 rfl (by first | exact nar_b true | exact nar_b false | exact nar_b _)
    · have ec : canA 1 a n A = false := bI_eq.mp q50
      rw [show stA 108 a b n A = A from by unfold stA; rw [show whatOf 108 = 1 from by decide, if_neg (by rw [ec]; decide)], show canA (whatOf 108) a n A = false from by rw [show whatOf 108 = 1 from by decide]; exact ec]
      refine go_iconst 0 dX8_isDone_53 (by decide) ?_
      exact go_ireturn dX8_isDone_54 rfl (by first | exact nar_b true | exact nar_b false | exact nar_b _)
  · skip
    refine go_iload_n dX8_isDone_0 rfl ?_
    refine go_bipush 105 dX8_isDone_1 (by decide) ?_
    refine go_icmp_ne_t 10 dX8_isDone_3 (by decide) (by decide) ?_
    refine go_iload_n dX8_isDone_10 rfl ?_
    refine go_bipush 108 dX8_isDone_11 (by decide) ?_
    refine go_icmp_ne_t 20 dX8_isDone_13 (by decide) (by decide) ?_
    refine go_iload_n dX8_isDone_20 rfl ?_
    refine go_bipush 103 dX8_isDone_21 (by decide) ?_
    refine go_icmp_ne_f 30 dX8_isDone_23 (by decide) (rfl) ?_
    refine go_iconst 2 dX8_isDone_26 (by decide) ?_
    refine go_goto 41 dX8_isDone_27 (by decide) ?_
    refine go_istore dX8_isDone_41 (Nat.le_of_ble_eq_true rfl) rfl ?_
    refine go_aload_n dX8_isDone_43 rfl ?_
    refine go_iload dX8_isDone_44 rfl ?_
    refine go_iload_n dX8_isDone_46 rfl ?_
    refine go_virt1 dX8_isDone_47 (m_canDo l hp (k := 2) (by decide) hW.2.2.1 hW.2.1) v_X8_203_7 rfl (mdW_ob hp) rfl (Nat.le_of_ble_eq_true rfl) (Nat.le_of_ble_eq_true rfl) (Nat.le_of_ble_eq_true rfl) ?_
    refine go_if_ne 55 dX8_isDone_50 (by decide) (fun q50 => ?_) (fun q50 => ?_)
    · have ec : canA 2 a n A = true := bI_ne.mp q50
      rw [show stA 103 a b n A = doA 7 2 a n A from by unfold stA; rw [show whatOf 103 = 2 from by decide, if_pos ec, if_neg (by decide)], show canA (whatOf 103) a n A = true from by rw [show whatOf 103 = 2 from by decide]; exact ec]
      refine go_iload_n dX8_isDone_55 rfl ?_
      refine go_bipush 99 dX8_isDone_56 (by decide) ?_
      refine go_icmp_ne_t 70 dX8_isDone_58 (by decide) (by decide) ?_
      refine go_aload_n dX8_isDone_70 rfl ?_
      refine go_iload dX8_isDone_71 rfl ?_
      refine go_iload_n dX8_isDone_73 rfl ?_
      refine go_bipush 7 dX8_isDone_74 (by decide) ?_
      refine go_virt0 dX8_isDone_76 (m_does l hp (k := 2) (q := 7) (by decide) hW ec) v_X8_209_7 rfl (mdW_ob hp) rfl (Nat.le_of_ble_eq_true rfl) (Nat.le_of_ble_eq_true rfl) (Nat.le_of_ble_eq_true rfl) ?_
      refine go_iconst 1 dX8_isDone_79 (by decide) ?_
      exact go_ireturn dX8_isDone_80 rfl (by first | exact nar_b true | exact nar_b false | exact nar_b _)
    · have ec : canA 2 a n A = false := bI_eq.mp q50
      rw [show stA 103 a b n A = A from by unfold stA; rw [show whatOf 103 = 2 from by decide, if_neg (by rw [ec]; decide)], show canA (whatOf 103) a n A = false from by rw [show whatOf 103 = 2 from by decide]; exact ec]
      refine go_iconst 0 dX8_isDone_53 (by decide) ?_
      exact go_ireturn dX8_isDone_54 rfl (by first | exact nar_b true | exact nar_b false | exact nar_b _)
  · skip
    refine go_iload_n dX8_isDone_0 rfl ?_
    refine go_bipush 105 dX8_isDone_1 (by decide) ?_
    refine go_icmp_ne_t 10 dX8_isDone_3 (by decide) (by decide) ?_
    refine go_iload_n dX8_isDone_10 rfl ?_
    refine go_bipush 108 dX8_isDone_11 (by decide) ?_
    refine go_icmp_ne_t 20 dX8_isDone_13 (by decide) (by decide) ?_
    refine go_iload_n dX8_isDone_20 rfl ?_
    refine go_bipush 103 dX8_isDone_21 (by decide) ?_
    refine go_icmp_ne_t 30 dX8_isDone_23 (by decide) (by decide) ?_
    refine go_iload_n dX8_isDone_30 rfl ?_
    refine go_bipush 98 dX8_isDone_31 (by decide) ?_
    refine go_icmp_ne_f 40 dX8_isDone_33 (by decide) (rfl) ?_
    refine go_iconst 4 dX8_isDone_36 (by decide) ?_
    refine go_goto 41 dX8_isDone_37 (by decide) ?_
    refine go_istore dX8_isDone_41 (Nat.le_of_ble_eq_true rfl) rfl ?_
    refine go_aload_n dX8_isDone_43 rfl ?_
    refine go_iload dX8_isDone_44 rfl ?_
    refine go_iload_n dX8_isDone_46 rfl ?_
    refine go_virt1 dX8_isDone_47 (m_canDo l hp (k := 4) (by decide) hW.2.2.1 hW.2.1) v_X8_203_7 rfl (mdW_ob hp) rfl (Nat.le_of_ble_eq_true rfl) (Nat.le_of_ble_eq_true rfl) (Nat.le_of_ble_eq_true rfl) ?_
    refine go_if_ne 55 dX8_isDone_50 (by decide) (fun q50 => ?_) (fun q50 => ?_)
    · have ec : canA 4 a n A = true := bI_ne.mp q50
      rw [show stA 98 a b n A = doA 7 4 a n A from by unfold stA; rw [show whatOf 98 = 4 from by decide, if_pos ec, if_neg (by decide)], show canA (whatOf 98) a n A = true from by rw [show whatOf 98 = 4 from by decide]; exact ec]
      refine go_iload_n dX8_isDone_55 rfl ?_
      refine go_bipush 99 dX8_isDone_56 (by decide) ?_
      refine go_icmp_ne_t 70 dX8_isDone_58 (by decide) (by decide) ?_
      refine go_aload_n dX8_isDone_70 rfl ?_
      refine go_iload dX8_isDone_71 rfl ?_
      refine go_iload_n dX8_isDone_73 rfl ?_
      refine go_bipush 7 dX8_isDone_74 (by decide) ?_
      refine go_virt0 dX8_isDone_76 (m_does l hp (k := 4) (q := 7) (by decide) hW ec) v_X8_209_7 rfl (mdW_ob hp) rfl (Nat.le_of_ble_eq_true rfl) (Nat.le_of_ble_eq_true rfl) (Nat.le_of_ble_eq_true rfl) ?_
      refine go_iconst 1 dX8_isDone_79 (by decide) ?_
      exact go_ireturn dX8_isDone_80 rfl (by first | exact nar_b true | exact nar_b false | exact nar_b _)
    · have ec : canA 4 a n A = false := bI_eq.mp q50
      rw [show stA 98 a b n A = A from by unfold stA; rw [show whatOf 98 = 4 from by decide, if_neg (by rw [ec]; decide)], show canA (whatOf 98) a n A = false from by rw [show whatOf 98 = 4 from by decide]; exact ec]
      refine go_iconst 0 dX8_isDone_53 (by decide) ?_
      exact go_ireturn dX8_isDone_54 rfl (by first | exact nar_b true | exact nar_b false | exact nar_b _)
  · skip
    refine go_iload_n dX8_isDone_0 rfl ?_
    refine go_bipush 105 dX8_isDone_1 (by decide) ?_
    refine go_icmp_ne_t 10 dX8_isDone_3 (by decide) (by decide) ?_
    refine go_iload_n dX8_isDone_10 rfl ?_
    refine go_bipush 108 dX8_isDone_11 (by decide) ?_
    refine go_icmp_ne_t 20 dX8_isDone_13 (by decide) (by decide) ?_
    refine go_iload_n dX8_isDone_20 rfl ?_
    refine go_bipush 103 dX8_isDone_21 (by decide) ?_
    refine go_icmp_ne_t 30 dX8_isDone_23 (by decide) (by decide) ?_
    refine go_iload_n dX8_isDone_30 rfl ?_
    refine go_bipush 98 dX8_isDone_31 (by decide) ?_
    refine go_icmp_ne_t 40 dX8_isDone_33 (by decide) (by decide) ?_
    refine go_iconst 3 dX8_isDone_40 (by decide) ?_
    refine go_istore dX8_isDone_41 (Nat.le_of_ble_eq_true rfl) rfl ?_
    refine go_aload_n dX8_isDone_43 rfl ?_
    refine go_iload dX8_isDone_44 rfl ?_
    refine go_iload_n dX8_isDone_46 rfl ?_
    refine go_virt1 dX8_isDone_47 (m_canDo l hp (k := 3) (by decide) hW.2.2.1 hW.2.1) v_X8_203_7 rfl (mdW_ob hp) rfl (Nat.le_of_ble_eq_true rfl) (Nat.le_of_ble_eq_true rfl) (Nat.le_of_ble_eq_true rfl) ?_
    refine go_if_ne 55 dX8_isDone_50 (by decide) (fun q50 => ?_) (fun q50 => ?_)
    · have ec : canA 3 a n A = true := bI_ne.mp q50
      rw [show stA 114 a b n A = doA 7 3 a n A from by unfold stA; rw [show whatOf 114 = 3 from by decide, if_pos ec, if_neg (by decide)], show canA (whatOf 114) a n A = true from by rw [show whatOf 114 = 3 from by decide]; exact ec]
      refine go_iload_n dX8_isDone_55 rfl ?_
      refine go_bipush 99 dX8_isDone_56 (by decide) ?_
      refine go_icmp_ne_t 70 dX8_isDone_58 (by decide) (by decide) ?_
      refine go_aload_n dX8_isDone_70 rfl ?_
      refine go_iload dX8_isDone_71 rfl ?_
      refine go_iload_n dX8_isDone_73 rfl ?_
      refine go_bipush 7 dX8_isDone_74 (by decide) ?_
      refine go_virt0 dX8_isDone_76 (m_does l hp (k := 3) (q := 7) (by decide) hW ec) v_X8_209_7 rfl (mdW_ob hp) rfl (Nat.le_of_ble_eq_true rfl) (Nat.le_of_ble_eq_true rfl) (Nat.le_of_ble_eq_true rfl) ?_
      refine go_iconst 1 dX8_isDone_79 (by decide) ?_
      exact go_ireturn dX8_isDone_80 rfl (by first | exact nar_b true | exact nar_b false | exact nar_b _)
    · have ec : canA 3 a n A = false := bI_eq.mp q50
      rw [show stA 114 a b n A = A from by unfold stA; rw [show whatOf 114 = 3 from by decide, if_neg (by rw [ec]; decide)], show canA (whatOf 114) a n A = false from by rw [show whatOf 114 = 3 from by decide]; exact ec]
      refine go_iconst 0 dX8_isDone_53 (by decide) ?_
      exact go_ireturn dX8_isDone_54 rfl (by first | exact nar_b true | exact nar_b false | exact nar_b _)
  · skip
    refine go_iload_n dX8_isDone_0 rfl ?_
    refine go_bipush 105 dX8_isDone_1 (by decide) ?_
    refine go_icmp_ne_t 10 dX8_isDone_3 (by decide) (by decide) ?_
    refine go_iload_n dX8_isDone_10 rfl ?_
    refine go_bipush 108 dX8_isDone_11 (by decide) ?_
    refine go_icmp_ne_t 20 dX8_isDone_13 (by decide) (by decide) ?_
    refine go_iload_n dX8_isDone_20 rfl ?_
    refine go_bipush 103 dX8_isDone_21 (by decide) ?_
    refine go_icmp_ne_t 30 dX8_isDone_23 (by decide) (by decide) ?_
    refine go_iload_n dX8_isDone_30 rfl ?_
    refine go_bipush 98 dX8_isDone_31 (by decide) ?_
    refine go_icmp_ne_t 40 dX8_isDone_33 (by decide) (by decide) ?_
    refine go_iconst 3 dX8_isDone_40 (by decide) ?_
    refine go_istore dX8_isDone_41 (Nat.le_of_ble_eq_true rfl) rfl ?_
    refine go_aload_n dX8_isDone_43 rfl ?_
    refine go_iload dX8_isDone_44 rfl ?_
    refine go_iload_n dX8_isDone_46 rfl ?_
    refine go_virt1 dX8_isDone_47 (m_canDo l hp (k := 3) (by decide) hW.2.2.1 hW.2.1) v_X8_203_7 rfl (mdW_ob hp) rfl (Nat.le_of_ble_eq_true rfl) (Nat.le_of_ble_eq_true rfl) (Nat.le_of_ble_eq_true rfl) ?_
    refine go_if_ne 55 dX8_isDone_50 (by decide) (fun q50 => ?_) (fun q50 => ?_)
    · have ec : canA 3 a n A = true := bI_ne.mp q50
      rw [show stA 99 a b n A = chF n a b A from by unfold stA; rw [show whatOf 99 = 3 from by decide, if_pos ec, if_pos rfl], show canA (whatOf 99) a n A = true from by rw [show whatOf 99 = 3 from by decide]; exact ec]
      obtain ⟨j, hj, ej, ht⟩ := itB_iff.mp (show itB A a = true from by unfold canA at ec; rw [if_neg (by decide), if_pos rfl] at ec; exact ec)
      subst ej
      rw [chF, nI_clamp (by omega)]
      refine go_iload_n dX8_isDone_55 rfl ?_
      refine go_bipush 99 dX8_isDone_56 (by decide) ?_
      refine go_icmp_ne_f 70 dX8_isDone_58 (by decide) (rfl) ?_
      refine go_aload_n dX8_isDone_61 rfl ?_
      refine go_iload_n dX8_isDone_62 rfl ?_
      refine go_iload_n dX8_isDone_63 rfl ?_
      refine go_virt0 dX8_isDone_64 (m_changes l hp hW.2.2.1 hj hW.2.1 hW.1 (fun i hi => mWF_hf hW hj ht i hi (mskB_7 hi))) v_X8_159_7 rfl (mdW_ob hp) rfl (Nat.le_of_ble_eq_true rfl) (Nat.le_of_ble_eq_true rfl) (Nat.le_of_ble_eq_true rfl) ?_
      refine go_goto 79 dX8_isDone_67 (by decide) ?_
      refine go_iconst 1 dX8_isDone_79 (by decide) ?_
      exact go_ireturn dX8_isDone_80 rfl (by first | exact nar_b true | exact nar_b false | exact nar_b _)
    · have ec : canA 3 a n A = false := bI_eq.mp q50
      rw [show stA 99 a b n A = A from by unfold stA; rw [show whatOf 99 = 3 from by decide, if_neg (by rw [ec]; decide)], show canA (whatOf 99) a n A = false from by rw [show whatOf 99 = 3 from by decide]; exact ec]
      refine go_iconst 0 dX8_isDone_53 (by decide) ?_
      exact go_ireturn dX8_isDone_54 rfl (by first | exact nar_b true | exact nar_b false | exact nar_b _)

theorem mCmd_let {t : Nat → Nat} {ln c : Nat} (h : (mCmd t ln c).1.1 = true) : curN t ln c = 105 ∨ curN t ln c = 108 ∨ curN t ln c = 103 ∨ curN t ln c = 98 ∨ curN t ln c = 114 ∨ curN t ln c = 99 := by
  unfold mCmd at h
  by_cases e1 : curN t ln c = 105
  · exact Or.inl e1
  · by_cases e2 : curN t ln c = 114
    · omega
    · by_cases e3 : curN t ln c = 99
      · omega
      · by_cases e4 : curN t ln c = 108 ∨ curN t ln c = 103 ∨ curN t ln c = 98
        · omega
        · rw [if_neg e1, if_neg e2, if_neg e3, if_neg e4] at h
          exact absurd h (by unfold pTk; rw [if_neg (fun z => Bool.false_ne_true z.1)]; exact Bool.false_ne_true)
theorem m_rdT_15 (l : Launch) {w : MW} {p : Nat} {P K : Nat → Int32} {t : Nat → Nat} {a rf : Int32} {ln : Nat} {ha : Int64} (hp : p + 4 < w.1) (hl : ln ≤ 120) (ht : ∀ i, t i < 128) {PA : (Nat → Int32) → Prop} (hP : ∀ A, PA A → mWF 7 A (nA A)) (hS : ∀ A c, PA A → c < ln → (mCmd t ln c).1.1 = true → PA (stA (curN t ln c) (mCmd t ln c).2.1 (mCmd t ln c).2.2 (nA A) A)) : ∀ (u c : Nat) (A : Nat → Int32) (b : Nat), ln - c ≤ u → c ≤ ln → (mFlt t ln u c).1 = true → PA A → Go l yX8_reads cX8_reads 6 (some .int) [] none (mm_Z (mm_eq (.inl (some (.int (-1)))) (mdW w p (rnS t ln u c A b).1 P K (tI t) (a, rf, nI ln, nI (rnS t ln u c A b).2.2, (wrI true (rnS t ln u c A b).2.2), nI (rnS t ln u c A b).2.1, ha)))) 10 0 0 15 [(0, .ref p), (1, .int 1)] [] (mdW w p A P K (tI t) (a, rf, nI ln, nI c, (wrI true c), nI b, ha)) := by
  intro u
  induction u with
  | zero =>
    intro c A b hu hc hf hA
    rw [show rnS t ln 0 c A b = (A, b, c) from rfl]
    refine go_aload_n dX8_reads_15 rfl ?_
    refine go_getfield dX8_reads_16 f_X8_218_7 (mdW_ob hp) rfl ?_
    refine go_aload_n dX8_reads_19 rfl ?_
    refine go_getfield dX8_reads_20 f_X8_215_7 (mdW_ob hp) rfl ?_
    refine go_icmp_ge_t 204 dX8_reads_23 (by decide) (nI_le (a := ln) (b := c) (by omega) (by omega)) ?_
    refine go_aload_n dX8_reads_204 rfl ?_
    refine go_getfield dX8_reads_205 f_X8_221_7 (mdW_ob hp) rfl ?_
    exact go_ireturn dX8_reads_208 rfl rfl
  | succ u ih =>
    intro c A b hu hc hf hA
    by_cases e : c < ln
    · have hm := mCmd_le (t := t) e
      have eo : (mCmd t ln c).1.1 = true := by
        rw [mFlt, if_pos e] at hf
        cases h : (mCmd t ln c).1.1
        · rw [h, if_neg Bool.false_ne_true] at hf
          rw [h] at hf
          exact hf
        · rfl
      have hf2 : (mFlt t ln u (mCmd t ln c).1.2).1 = true := by
        rw [mFlt, if_pos e, if_pos eo] at hf
        exact hf
      have hW := hP A hA
      have hS1 := hS A c hA e eo
      refine go_aload_n dX8_reads_15 rfl ?_
      refine go_getfield dX8_reads_16 f_X8_218_7 (mdW_ob hp) rfl ?_
      refine go_aload_n dX8_reads_19 rfl ?_
      refine go_getfield dX8_reads_20 f_X8_215_7 (mdW_ob hp) rfl ?_
      refine go_icmp_ge_f 204 dX8_reads_23 (by decide) (n_nle (a := ln) (b := c) (by omega) (by omega)) ?_
      refine go_aload_n dX8_reads_26 rfl ?_
      refine go_getfield dX8_reads_27 f_X8_221_7 (mdW_ob hp) rfl ?_
      refine go_iconst (-1) dX8_reads_30 (by decide) ?_
      refine go_icmp_ne_f 204 dX8_reads_31 (by decide) (wrI_t (c := c)) ?_
      refine m_rd_34 l hp hl ht e ?_
      rw [eo]
      refine go_iload_n dX8_reads_171 rfl ?_
      refine go_if_eq_f 201 dX8_reads_172 (by decide) (by decide) ?_
      refine go_aload_n dX8_reads_175 rfl ?_
      refine go_dup dX8_reads_176 rfl ?_
      refine go_getfield dX8_reads_177 f_X8_229_7 (mdW_ob hp) rfl ?_
      refine go_aload_n dX8_reads_180 rfl ?_
      refine go_iload_n dX8_reads_181 rfl ?_
      refine go_iload dX8_reads_182 rfl ?_
      refine go_iload dX8_reads_184 rfl ?_
      refine go_virt1 dX8_reads_186 (m_isDone l hp hW (mCmd_let eo)) v_X8_239_7 rfl (mdW_ob hp) rfl (Nat.le_of_ble_eq_true rfl) (Nat.le_of_ble_eq_true rfl) (Nat.le_of_ble_eq_true rfl) ?_
      refine go_if_eq 196 dX8_reads_189 (by decide) (fun q189 => ?_) (fun q189 => ?_)
      · have ec : canA (whatOf (curN t ln c)) (mCmd t ln c).2.1 (nA A) A = false := bI_eq.mp q189
        rw [show rnS t ln (u + 1) c A b = rnS t ln u (mCmd t ln c).1.2 (stA (curN t ln c) (mCmd t ln c).2.1 (mCmd t ln c).2.2 (nA A) A) b from by rw [rnS, if_pos e, if_neg (by rw [ec]; decide)]]
        refine go_iconst 0 dX8_reads_196 (by decide) ?_
        refine go_iadd dX8_reads_197 ?_
        first | refine go_top (.int (nI b)) (congrArg Value.int (Int32.add_zero _)) ?_ | refine go_top (.int (nI (b + 1))) (congrArg Value.int (nI_1 b)) ?_
        refine go_putfield dX8_reads_198 p_X8_229_7 (mdW_ob hp) (Nat.le_of_ble_eq_true rfl) (fun _ => ⟨rfl, rfl⟩) (fun _ z => nomatch z) ?_
        first | refine go_w _ (mdW_uX (a, rf, nI ln, nI (mCmd t ln c).1.2, wrI true (mCmd t ln c).1.2, nI b, ha)) ?_ | refine go_w _ (mdW_uX (a, rf, nI ln, nI (mCmd t ln c).1.2, wrI true (mCmd t ln c).1.2, nI (b + 1), ha)) ?_
        refine go_goto 15 dX8_reads_201 (by decide) ?_
        exact go_sub [(0, .ref p), (1, .int 1)] ⟨rfl, rfl, trivial⟩ (ih (mCmd t ln c).1.2 _ _ (by have := hm.2.2 eo; omega) hm.1 hf2 hS1)
      · have ec : canA (whatOf (curN t ln c)) (mCmd t ln c).2.1 (nA A) A = true := bI_ne.mp q189
        rw [show rnS t ln (u + 1) c A b = rnS t ln u (mCmd t ln c).1.2 (stA (curN t ln c) (mCmd t ln c).2.1 (mCmd t ln c).2.2 (nA A) A) (b + 1) from by rw [rnS, if_pos e, if_pos ec]]
        refine go_iconst 1 dX8_reads_192 (by decide) ?_
        refine go_goto 197 dX8_reads_193 (by decide) ?_
        refine go_iadd dX8_reads_197 ?_
        first | refine go_top (.int (nI b)) (congrArg Value.int (Int32.add_zero _)) ?_ | refine go_top (.int (nI (b + 1))) (congrArg Value.int (nI_1 b)) ?_
        refine go_putfield dX8_reads_198 p_X8_229_7 (mdW_ob hp) (Nat.le_of_ble_eq_true rfl) (fun _ => ⟨rfl, rfl⟩) (fun _ z => nomatch z) ?_
        first | refine go_w _ (mdW_uX (a, rf, nI ln, nI (mCmd t ln c).1.2, wrI true (mCmd t ln c).1.2, nI b, ha)) ?_ | refine go_w _ (mdW_uX (a, rf, nI ln, nI (mCmd t ln c).1.2, wrI true (mCmd t ln c).1.2, nI (b + 1), ha)) ?_
        refine go_goto 15 dX8_reads_201 (by decide) ?_
        exact go_sub [(0, .ref p), (1, .int 1)] ⟨rfl, rfl, trivial⟩ (ih (mCmd t ln c).1.2 _ _ (by have := hm.2.2 eo; omega) hm.1 hf2 hS1)
    · rw [show rnS t ln (u + 1) c A b = (A, b, c) from by rw [rnS, if_neg e]]
      refine go_aload_n dX8_reads_15 rfl ?_
      refine go_getfield dX8_reads_16 f_X8_218_7 (mdW_ob hp) rfl ?_
      refine go_aload_n dX8_reads_19 rfl ?_
      refine go_getfield dX8_reads_20 f_X8_215_7 (mdW_ob hp) rfl ?_
      refine go_icmp_ge_t 204 dX8_reads_23 (by decide) (nI_le (a := ln) (b := c) (by omega) (by omega)) ?_
      refine go_aload_n dX8_reads_204 rfl ?_
      refine go_getfield dX8_reads_205 f_X8_221_7 (mdW_ob hp) rfl ?_
      exact go_ireturn dX8_reads_208 rfl rfl
theorem m_readsT (l : Launch) {w : MW} {p : Nat} {P K : Nat → Int32} {t : Nat → Nat} {a rf : Int32} {ln : Nat} {ha : Int64} (hp : p + 4 < w.1) (hl : ln ≤ 120) (ht : ∀ i, t i < 128) {A : Nat → Int32} {pl wr dn : Int32} {PA : (Nat → Int32) → Prop} (hP : ∀ A, PA A → mWF 7 A (nA A)) (hS : ∀ A c, PA A → c < ln → (mCmd t ln c).1.1 = true → PA (stA (curN t ln c) (mCmd t ln c).2.1 (mCmd t ln c).2.2 (nA A) A)) (hf : (mFlt t ln 120 0).1 = true) (hA : PA A) : Ct l (.code yX8_reads cX8_reads 6 (some .int)) yX8_reads 10 0 0 [.ref p, .int 1] (mdW w p A P K (tI t) (a, rf, nI ln, pl, wr, dn, ha)) (.inl (some (.int (-1)))) (mdW w p (rnS t ln 120 0 A 0).1 P K (tI t) (a, rf, nI ln, nI (rnS t ln 120 0 A 0).2.2, (wrI true (rnS t ln 120 0 A 0).2.2), nI (rnS t ln 120 0 A 0).2.1, ha)) := by
  refine ct_of (by decide +kernel) (Nat.le_of_ble_eq_true rfl) ?_
  refine go_aload_n dX8_reads_0 rfl ?_
  refine go_iconst 0 dX8_reads_1 (by decide) ?_
  refine go_putfield dX8_reads_2 p_X8_218_7 (mdW_ob hp) (Nat.le_of_ble_eq_true rfl) (fun _ => ⟨rfl, rfl⟩) (fun _ z => nomatch z) ?_
  refine go_w _ (mdW_uX (a, rf, nI ln, nI 0, wr, dn, ha)) ?_
  refine go_aload_n dX8_reads_5 rfl ?_
  refine go_iconst (-1) dX8_reads_6 (by decide) ?_
  refine go_putfield dX8_reads_7 p_X8_221_7 (mdW_ob hp) (Nat.le_of_ble_eq_true rfl) (fun _ => ⟨rfl, rfl⟩) (fun _ z => nomatch z) ?_
  refine go_w _ (mdW_uX (a, rf, nI ln, nI 0, wrI true 0, dn, ha)) ?_
  refine go_aload_n dX8_reads_10 rfl ?_
  refine go_iconst 0 dX8_reads_11 (by decide) ?_
  refine go_putfield dX8_reads_12 p_X8_229_7 (mdW_ob hp) (Nat.le_of_ble_eq_true rfl) (fun _ => ⟨rfl, rfl⟩) (fun _ z => nomatch z) ?_
  refine go_w _ (mdW_uX (a, rf, nI ln, nI 0, wrI true 0, nI 0, ha)) ?_
  exact go_sub [(0, .ref p), (1, .int 1)] ⟨rfl, rfl, trivial⟩ (m_rdT_15 l hp hl ht hP hS 120 0 A 0 (by omega) (Nat.zero_le _) hf hA)
