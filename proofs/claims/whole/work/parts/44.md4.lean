theorem downS_s {lt : QL} {low : Bool} {n u i : Nat} {s : QS} (h : 2 * i + 1 < n) {b p : Bool} (hb : decide (2 * i + 2 < n) = b) (hp : ld lt low (s.1 (2 * i + 2)) (s.1 (2 * i + 1)) = p) : downS lt low n (u + 1) i s = (if ld lt low (s.1 (chS b p i)) (s.1 i) = true then downS lt low n u (chS b p i) (sw s.1 (chS b p i) i, (if b = true then s.2 + 1 else s.2) + 1) else (s.1, (if b = true then s.2 + 1 else s.2) + 1)) := by
  subst hb
  subst hp
  rw [downS]
  exact if_pos h
theorem downS_n {lt : QL} {low : Bool} {n u i : Nat} {s : QS} (h : ¬ 2 * i + 1 < n) : downS lt low n u i s = s := by
  cases u with
  | zero => rfl
  | succ u =>
    rw [downS]
    exact if_neg h
theorem chS_lt2 {n k : Nat} {p : Bool} (h : 2 * k + 1 < n) : chS (decide (2 * k + 2 < n)) p k < n := by
  by_cases e : 2 * k + 2 < n
  · rw [decide_eq_true e]
    cases p
    · rw [chS_f rfl]; exact h
    · rw [chS_t rfl]; exact e
  · rw [decide_eq_false e, chS_0]; exact h
theorem downS_ok {lt : QL} {low : Bool} {n : Nat} (hn : n ≤ 30) (u i : Nat) (s : QS) (hr : rowOK s.1) : rowOK (downS lt low n u i s).1 := by
  induction u generalizing i s with
  | zero => exact hr
  | succ u ih =>
    by_cases h : 2 * i + 1 < n
    · rw [downS_s h rfl rfl]
      have hc := chS_lt2 (p := ld lt low (s.1 (2 * i + 2)) (s.1 (2 * i + 1))) h
      split
      · exact ih _ _ (rowOK_sw hr (by omega) (by omega))
      · exact hr
    · rw [downS_n h]
      exact hr
theorem upS_ok {lt : QL} {low : Bool} (u i : Nat) (s : QS) (hi : i < 30) (hr : rowOK s.1) : rowOK (upS lt low u i s).1 := by
  induction u generalizing i s with
  | zero => exact hr
  | succ u ih =>
    rw [upS]
    split
    · exact hr
    · split
      · exact ih _ _ (by omega) (rowOK_sw hr (by omega) (by omega))
      · exact hr
theorem riseS1_ok {lt : QL} {low : Bool} (u i : Nat) (s : QS) (hi : i < 30) (hr : rowOK s.1) : rowOK (riseS1 lt low u i s).1 := by
  induction u generalizing i s with
  | zero => exact hr
  | succ u ih =>
    rw [riseS1]
    split
    · exact hr
    · split
      · exact ih _ _ (by omega) (rowOK_sw hr (by omega) (by omega))
      · exact hr
theorem enterS1_ok {lt : QL} (i : Nat) (s : QS) (hi : i < 30) (hr : rowOK s.1) : rowOK (enterS1 lt i s).1 := by
  unfold enterS1
  split
  · exact hr
  · split
    · exact riseS1_ok _ _ _ (by omega) (rowOK_sw hr (by omega) (by omega))
    · exact riseS1_ok _ _ _ hi hr
theorem m_down_e (l : Launch) {w : MW} {p : Nat} {A P K T : Nat → Int32} {x : XS} (hp : p + 4 < w.1) {k : Nat} {r : QS} : Go l yX8_down cX8_down 7 none [] none (mm_Z (mm_eq (.inl none) (mdW w p (setL A k r) P K T x))) 3 0 0 6 [(0, .ref p), (5, .int 0)] [] (mdW w p (setL A k r) P K T x) := by
  refine go_iload dX8_down_6 rfl ?_
  refine go_if_eq_t 93 dX8_down_8 (by decide) (rfl) ?_
  exact go_return dX8_down_93 rfl
theorem m_down_6 (l : Launch) {w : MW} {p : Nat} {A P K T : Nat → Int32} {x : XS} (hp : p + 4 < w.1) {k n : Nat} (hk : k = 2 ∨ k = 3) (hn : n ≤ 30) : ∀ (u i : Nat) (s r : QS), 15 ≤ u + i → i < 100 → rowOK s.1 → r = downS (ltA A) (lowK k) n u i s → Go l yX8_down cX8_down 7 none [] none (mm_Z (mm_eq (.inl none) (mdW w p (setL A k r) P K T x))) 3 0 0 6 [(0, .ref p), (1, .int (nI k)), (3, .int (nI n)), (4, .int (nI i)), (5, .int 1)] [] (mdW w p (setL A k s) P K T x) := by
  intro u
  induction u with
  | zero =>
    intro i s r hu hi hr hrr
    rw [hrr, downS]
    refine go_iload dX8_down_6 rfl ?_
    refine go_if_eq_f 93 dX8_down_8 (by decide) (by decide) ?_
    refine go_iconst 2 dX8_down_11 (by decide) ?_
    refine go_iload dX8_down_12 rfl ?_
    refine go_imul dX8_down_14 ?_
    refine go_iconst 1 dX8_down_15 (by decide) ?_
    refine go_iadd dX8_down_16 ?_
    rw [a_2, a_k1]
    refine go_iload_n dX8_down_17 rfl ?_
    refine go_icmp_ge_t 93 dX8_down_18 (by decide) (nI_le (by omega) (by omega)) ?_
    exact go_return dX8_down_93 rfl
  | succ u ih =>
    intro i s r hu hi hr hrr
    by_cases h1 : 2 * i + 1 < n
    · skip
      have KK : ∀ (ch : Nat) (c1 : Int32), ch < n → i < ch → r = (if ld (ltA A) (lowK k) (s.1 ch) (s.1 i) = true then downS (ltA A) (lowK k) n u ch (sw s.1 ch i, c1 + 1) else (s.1, c1 + 1)) → Go l yX8_down cX8_down 7 none [] none (mm_Z (mm_eq (.inl none) (mdW w p (setL A k r) P K T x))) 3 0 0 61 [(0, .ref p), (1, .int (nI k)), (3, .int (nI n)), (4, .int (nI i)), (6, .int (nI ch))] [] (mdW w p (setL A k (s.1, c1)) P K T x) := by
        intro ch c1 hc hkc hE
        refine go_aload_n dX8_down_61 rfl ?_
        refine go_iload_n dX8_down_62 rfl ?_
        refine go_iload dX8_down_63 rfl ?_
        refine go_iload dX8_down_65 rfl ?_
        refine go_virt1 dX8_down_67 (m_isAhead l hp hk (s := (s.1, c1)) hr (a := ch) (b := i) (by omega) (by omega)) v_X8_92_7 rfl (mdW_ob hp) rfl (Nat.le_of_ble_eq_true rfl) (Nat.le_of_ble_eq_true rfl) (Nat.le_of_ble_eq_true rfl) ?_
        refine go_istore dX8_down_70 (Nat.le_of_ble_eq_true rfl) rfl ?_
        refine go_iload dX8_down_72 rfl ?_
        refine go_if_eq 90 dX8_down_74 (by decide) (fun q74 => ?_) (fun q74 => ?_)
        · rw [hE, if_neg (bI_ff q74)]
          refine go_goto 6 dX8_down_90 (by decide) ?_
          exact go_sub [(0, .ref p), (5, .int 0)] ⟨rfl, congrArg (fun z => some (Value.int z)) q74, trivial⟩ (m_down_e l hp)
        · refine go_aload_n dX8_down_77 rfl ?_
          refine go_iload_n dX8_down_78 rfl ?_
          refine go_iload dX8_down_79 rfl ?_
          refine go_iload dX8_down_81 rfl ?_
          refine go_virt0 dX8_down_83 (m_exch l hp (k := k) (s := (s.1, c1 + 1)) (by omega) (a := ch) (b := i) (by omega) (by omega)) v_X8_55_7 rfl (mdW_ob hp) rfl (Nat.le_of_ble_eq_true rfl) (Nat.le_of_ble_eq_true rfl) (Nat.le_of_ble_eq_true rfl) ?_
          refine go_iload dX8_down_86 rfl ?_
          refine go_istore dX8_down_88 (Nat.le_of_ble_eq_true rfl) rfl ?_
          refine go_goto 6 dX8_down_90 (by decide) ?_
          exact go_sub [(0, .ref p), (1, .int (nI k)), (3, .int (nI n)), (4, .int (nI ch)), (5, .int 1)] ⟨rfl, rfl, rfl, rfl, congrArg (fun z => some (Value.int z)) (bI_1 q74), trivial⟩ (ih ch (sw s.1 ch i, c1 + 1) r (by omega) (by omega) (rowOK_sw hr (by omega) (by omega)) (by rw [hE, if_pos (bI_ne.mp q74)]))
      refine go_iload dX8_down_6 rfl ?_
      refine go_if_eq_f 93 dX8_down_8 (by decide) (by decide) ?_
      refine go_iconst 2 dX8_down_11 (by decide) ?_
      refine go_iload dX8_down_12 rfl ?_
      refine go_imul dX8_down_14 ?_
      refine go_iconst 1 dX8_down_15 (by decide) ?_
      refine go_iadd dX8_down_16 ?_
      rw [a_2, a_k1]
      refine go_iload_n dX8_down_17 rfl ?_
      refine go_icmp_ge_f 93 dX8_down_18 (by decide) (n_nle h1 (by omega)) ?_
      refine go_iconst 2 dX8_down_21 (by decide) ?_
      refine go_iload dX8_down_22 rfl ?_
      refine go_imul dX8_down_24 ?_
      refine go_iconst 1 dX8_down_25 (by decide) ?_
      refine go_iadd dX8_down_26 ?_
      rw [a_2, a_k1]
      refine go_istore dX8_down_27 (Nat.le_of_ble_eq_true rfl) rfl ?_
      refine go_iload dX8_down_29 rfl ?_
      refine go_iload dX8_down_31 rfl ?_
      refine go_iconst 1 dX8_down_33 (by decide) ?_
      refine go_iadd dX8_down_34 ?_
      rw [a_k1]
      refine go_iload_n dX8_down_35 rfl ?_
      refine go_icmp_ge 57 dX8_down_36 (by decide) (fun q36 => ?_) (fun q36 => ?_)
      · have z := n_le' q36 (by omega) (by omega)
        refine go_iconst 0 dX8_down_57 (by decide) ?_
        refine go_iadd dX8_down_58 ?_
        first | rw [a_k1] | rw [Int32.add_zero]
        refine go_istore dX8_down_59 (Nat.le_of_ble_eq_true rfl) rfl ?_
        exact go_sub [(0, .ref p), (1, .int (nI k)), (3, .int (nI n)), (4, .int (nI i)), (6, .int (nI (2 * i + 1)))] ⟨rfl, rfl, rfl, rfl, rfl, trivial⟩ (KK (2 * i + 1) s.2 (by omega) (by omega) (hrr.trans (downS_s h1 (b := false) (p := _) (decide_eq_false (by omega)) rfl)))
      · have z := n_lt' q36 (by omega)
        refine go_aload_n dX8_down_39 rfl ?_
        refine go_iload_n dX8_down_40 rfl ?_
        refine go_iload dX8_down_41 rfl ?_
        refine go_iconst 1 dX8_down_43 (by decide) ?_
        refine go_iadd dX8_down_44 ?_
        rw [a_k1]
        refine go_iload dX8_down_45 rfl ?_
        refine go_virt1 dX8_down_47 (m_isAhead l hp hk hr (a := 2 * i + 2) (b := 2 * i + 1) (by omega) (by omega)) v_X8_92_7 rfl (mdW_ob hp) rfl (Nat.le_of_ble_eq_true rfl) (Nat.le_of_ble_eq_true rfl) (Nat.le_of_ble_eq_true rfl) ?_
        refine go_if_eq 57 dX8_down_50 (by decide) (fun q50 => ?_) (fun q50 => ?_)
        · have M1 := trivial
          refine go_iconst 0 dX8_down_57 (by decide) ?_
          refine go_iadd dX8_down_58 ?_
          first | rw [a_k1] | rw [Int32.add_zero]
          refine go_istore dX8_down_59 (Nat.le_of_ble_eq_true rfl) rfl ?_
          exact go_sub [(0, .ref p), (1, .int (nI k)), (3, .int (nI n)), (4, .int (nI i)), (6, .int (nI (2 * i + 1)))] ⟨rfl, rfl, rfl, rfl, rfl, trivial⟩ (KK (2 * i + 1) (s.2 + 1) (by omega) (by omega) (hrr.trans (downS_s h1 (b := true) (p := false) (decide_eq_true (by omega)) (bI_eq.mp q50))))
        · have M2 := trivial
          refine go_iconst 1 dX8_down_53 (by decide) ?_
          refine go_goto 58 dX8_down_54 (by decide) ?_
          refine go_iadd dX8_down_58 ?_
          first | rw [a_k1] | rw [Int32.add_zero]
          refine go_istore dX8_down_59 (Nat.le_of_ble_eq_true rfl) rfl ?_
          exact go_sub [(0, .ref p), (1, .int (nI k)), (3, .int (nI n)), (4, .int (nI i)), (6, .int (nI (2 * i + 2)))] ⟨rfl, rfl, rfl, rfl, rfl, trivial⟩ (KK (2 * i + 2) (s.2 + 1) (by omega) (by omega) (hrr.trans (downS_s h1 (b := true) (p := true) (decide_eq_true (by omega)) (bI_ne.mp q50))))
    · rw [hrr, downS_n h1]
      refine go_iload dX8_down_6 rfl ?_
      refine go_if_eq_f 93 dX8_down_8 (by decide) (by decide) ?_
      refine go_iconst 2 dX8_down_11 (by decide) ?_
      refine go_iload dX8_down_12 rfl ?_
      refine go_imul dX8_down_14 ?_
      refine go_iconst 1 dX8_down_15 (by decide) ?_
      refine go_iadd dX8_down_16 ?_
      rw [a_2, a_k1]
      refine go_iload_n dX8_down_17 rfl ?_
      refine go_icmp_ge_t 93 dX8_down_18 (by decide) (nI_le (by omega) (by omega)) ?_
      exact go_return dX8_down_93 rfl
theorem m_down (l : Launch) {w : MW} {p : Nat} {A P K T : Nat → Int32} {x : XS} (hp : p + 4 < w.1) {k n : Nat} (hk : k = 2 ∨ k = 3) {s : QS} (hr : rowOK s.1) {i : Nat} (hi : i < 100) (hn : n ≤ 30) : Ct l (.code yX8_down cX8_down 7 none) yX8_down 3 0 0 [.ref p, .int (nI k), .int (nI i), .int (nI n)] (mdW w p (setL A k s) P K T x) (.inl none) (mdW w p (setL A k (downS (ltA A) (lowK k) n 30 i s)) P K T x) := by
  refine ct_of (by decide +kernel) (Nat.le_of_ble_eq_true rfl) ?_
  refine go_iload_n dX8_down_0 rfl ?_
  refine go_istore dX8_down_1 (Nat.le_of_ble_eq_true rfl) rfl ?_
  refine go_iconst 1 dX8_down_3 (by decide) ?_
  refine go_istore dX8_down_4 (Nat.le_of_ble_eq_true rfl) rfl ?_
  exact go_sub [(0, .ref p), (1, .int (nI k)), (3, .int (nI n)), (4, .int (nI i)), (5, .int 1)] ⟨rfl, rfl, rfl, rfl, rfl, trivial⟩ (m_down_6 l hp hk hn 30 i s _ (by omega) hi hr rfl)
theorem m_sinks_e (l : Launch) {w : MW} {p : Nat} {A P K T : Nat → Int32} {x : XS} (hp : p + 4 < w.1) {r : QS} : Go l yX8_sinks cX8_sinks 9 none [] none (mm_Z (mm_eq (.inl none) (mdW w p (setL A 1 r) P K T x))) 3 0 0 5 [(0, .ref p), (4, .int 0)] [] (mdW w p (setL A 1 r) P K T x) := by
  refine go_iload dX8_sinks_5 rfl ?_
  refine go_if_eq_t 177 dX8_sinks_7 (by decide) (rfl) ?_
  exact go_return dX8_sinks_177 rfl
theorem m_fb_35 (l : Launch) {w : MW} {p : Nat} {A P K T : Nat → Int32} {x : XS} (hp : p + 4 < w.1) {n : Nat} (hn : n ≤ 30) {low : Bool} {f : Nat → Int32} (hr : rowOK f) {i : Nat} (hi : i < 100) {r : QS} {y : Nat × Int32} (KK : Go l yX8_sinks cX8_sinks 9 none [] none (mm_Z (mm_eq (.inl none) (mdW w p (setL A 1 r) P K T x))) 3 0 0 95 [(0, .ref p), (2, .int (nI n)), (3, .int (nI i)), (5, .int (bI low)), (6, .int (nI y.1))] [] (mdW w p (setL A 1 (f, y.2)) P K T x)) : ∀ (u m : Nat) (v : Nat × Int32), u + m = 6 → 1 ≤ m → v.1 < n → y = fbS (ltA A) low n f i u m v → Go l yX8_sinks cX8_sinks 9 none [] none (mm_Z (mm_eq (.inl none) (mdW w p (setL A 1 r) P K T x))) 3 0 0 35 [(0, .ref p), (2, .int (nI n)), (3, .int (nI i)), (5, .int (bI low)), (6, .int (nI v.1)), (7, .int (nI m))] [] (mdW w p (setL A 1 (f, v.2)) P K T x) := by
  intro u
  induction u with
  | zero =>
    intro m v hu hm hx hr2
    rw [fbS] at hr2
    subst hr2
    refine go_iload dX8_sinks_35 rfl ?_
    refine go_bipush 6 dX8_sinks_37 (by decide) ?_
    refine go_icmp_ge_t 95 dX8_sinks_39 (by decide) (nI_le (a := 6) (by omega) (by omega)) ?_
    exact go_sub [(0, .ref p), (2, .int (nI n)), (3, .int (nI i)), (5, .int (bI low)), (6, .int (nI y.1))] ⟨rfl, rfl, rfl, rfl, rfl, trivial⟩ KK
  | succ u ih =>
    intro m v hu hm hx hr2
    refine go_iload dX8_sinks_35 rfl ?_
    refine go_bipush 6 dX8_sinks_37 (by decide) ?_
    refine go_icmp_ge_f 95 dX8_sinks_39 (by decide) (n_nle (a := 6) (by omega) (by decide)) ?_
    refine go_iload dX8_sinks_42 rfl ?_
    refine go_iconst 1 dX8_sinks_44 (by decide) ?_
    refine go_icmp_ne 56 dX8_sinks_45 (by decide) (fun q45 => ?_) (fun q45 => ?_)
    · have z : m ≠ 1 := fun e => q45 (by rw [e]; rfl)
      have ec : cand i m = 4 * i + 1 + m := if_neg z
      refine go_iconst 4 dX8_sinks_56 (by decide) ?_
      refine go_iload_n dX8_sinks_57 rfl ?_
      refine go_imul dX8_sinks_58 ?_
      refine go_iconst 1 dX8_sinks_59 (by decide) ?_
      refine go_iadd dX8_sinks_60 ?_
      refine go_iload dX8_sinks_61 rfl ?_
      refine go_iadd dX8_sinks_63 ?_
      rw [show (4 : Int32) * nI i = nI (4 * i) from pk_mul 4 i, a_k1, nI_add, ← ec]
      refine go_istore dX8_sinks_64 (Nat.le_of_ble_eq_true rfl) rfl ?_
      refine go_iload dX8_sinks_66 rfl ?_
      refine go_iload_n dX8_sinks_68 rfl ?_
      refine go_icmp_ge 89 dX8_sinks_69 (by decide) (fun q69 => ?_) (fun q69 => ?_)
      · have w9 := n_le' q69 (by omega) (by omega)
        refine go_iinc dX8_sinks_89 rfl (Nat.le_of_ble_eq_true rfl) rfl (show _ = _ + 1 from rfl) ?_
        rw [a_k1]
        refine go_goto 35 dX8_sinks_92 (by decide) ?_
        exact go_sub [(0, .ref p), (2, .int (nI n)), (3, .int (nI i)), (5, .int (bI low)), (6, .int (nI (v).1)), (7, .int (nI (m + 1)))] ⟨rfl, rfl, rfl, rfl, rfl, rfl, trivial⟩ (ih (m + 1) (v) (by omega) (by omega) hx (by rw [hr2, fbS, if_neg (by omega)]))
      · have w9 := n_lt' q69 (by omega)
        refine go_aload_n dX8_sinks_72 rfl ?_
        refine go_iload dX8_sinks_73 rfl ?_
        refine go_iload dX8_sinks_75 rfl ?_
        refine go_iload dX8_sinks_77 rfl ?_
        refine go_virt1 dX8_sinks_79 (m_leads l hp (s := (f, v.2)) hr (low := low) (a := cand i m) (b := v.1) (by omega) (by omega)) v_X8_85_7 rfl (mdW_ob hp) rfl (Nat.le_of_ble_eq_true rfl) (Nat.le_of_ble_eq_true rfl) (Nat.le_of_ble_eq_true rfl) ?_
        refine go_if_eq 89 dX8_sinks_82 (by decide) (fun q82 => ?_) (fun q82 => ?_)
        · have M1 := trivial
          refine go_iinc dX8_sinks_89 rfl (Nat.le_of_ble_eq_true rfl) rfl (show _ = _ + 1 from rfl) ?_
          rw [a_k1]
          refine go_goto 35 dX8_sinks_92 (by decide) ?_
          exact go_sub [(0, .ref p), (2, .int (nI n)), (3, .int (nI i)), (5, .int (bI low)), (6, .int (nI ((v.1, v.2 + 1)).1)), (7, .int (nI (m + 1)))] ⟨rfl, rfl, rfl, rfl, rfl, rfl, trivial⟩ (ih (m + 1) ((v.1, v.2 + 1)) (by omega) (by omega) hx (by rw [hr2, fbS, if_pos w9, if_neg (bI_ff q82)]))
        · have M2 := trivial
          refine go_iload dX8_sinks_85 rfl ?_
          refine go_istore dX8_sinks_87 (Nat.le_of_ble_eq_true rfl) rfl ?_
          refine go_iinc dX8_sinks_89 rfl (Nat.le_of_ble_eq_true rfl) rfl (show _ = _ + 1 from rfl) ?_
          rw [a_k1]
          refine go_goto 35 dX8_sinks_92 (by decide) ?_
          exact go_sub [(0, .ref p), (2, .int (nI n)), (3, .int (nI i)), (5, .int (bI low)), (6, .int (nI ((cand i m, v.2 + 1)).1)), (7, .int (nI (m + 1)))] ⟨rfl, rfl, rfl, rfl, rfl, rfl, trivial⟩ (ih (m + 1) ((cand i m, v.2 + 1)) (by omega) (by omega) w9 (by rw [hr2, fbS, if_pos w9, if_pos (bI_ne.mp q82)]))
    · have z : m = 1 := (nI_eq (a := m) (b := 1) (by omega) (by decide)).mp q45
      have ec : cand i m = 2 * i + 2 := if_pos z
      refine go_iconst 2 dX8_sinks_48 (by decide) ?_
      refine go_iload_n dX8_sinks_49 rfl ?_
      refine go_imul dX8_sinks_50 ?_
      refine go_iconst 2 dX8_sinks_51 (by decide) ?_
      refine go_iadd dX8_sinks_52 ?_
      rw [a_2, a_k2, ← ec]
      refine go_goto 64 dX8_sinks_53 (by decide) ?_
      refine go_istore dX8_sinks_64 (Nat.le_of_ble_eq_true rfl) rfl ?_
      refine go_iload dX8_sinks_66 rfl ?_
      refine go_iload_n dX8_sinks_68 rfl ?_
      refine go_icmp_ge 89 dX8_sinks_69 (by decide) (fun q69 => ?_) (fun q69 => ?_)
      · have w9 := n_le' q69 (by omega) (by omega)
        refine go_iinc dX8_sinks_89 rfl (Nat.le_of_ble_eq_true rfl) rfl (show _ = _ + 1 from rfl) ?_
        rw [a_k1]
        refine go_goto 35 dX8_sinks_92 (by decide) ?_
        exact go_sub [(0, .ref p), (2, .int (nI n)), (3, .int (nI i)), (5, .int (bI low)), (6, .int (nI (v).1)), (7, .int (nI (m + 1)))] ⟨rfl, rfl, rfl, rfl, rfl, rfl, trivial⟩ (ih (m + 1) (v) (by omega) (by omega) hx (by rw [hr2, fbS, if_neg (by omega)]))
      · have w9 := n_lt' q69 (by omega)
        refine go_aload_n dX8_sinks_72 rfl ?_
        refine go_iload dX8_sinks_73 rfl ?_
        refine go_iload dX8_sinks_75 rfl ?_
        refine go_iload dX8_sinks_77 rfl ?_
        refine go_virt1 dX8_sinks_79 (m_leads l hp (s := (f, v.2)) hr (low := low) (a := cand i m) (b := v.1) (by omega) (by omega)) v_X8_85_7 rfl (mdW_ob hp) rfl (Nat.le_of_ble_eq_true rfl) (Nat.le_of_ble_eq_true rfl) (Nat.le_of_ble_eq_true rfl) ?_
        refine go_if_eq 89 dX8_sinks_82 (by decide) (fun q82 => ?_) (fun q82 => ?_)
        · have M1 := trivial
          refine go_iinc dX8_sinks_89 rfl (Nat.le_of_ble_eq_true rfl) rfl (show _ = _ + 1 from rfl) ?_
          rw [a_k1]
          refine go_goto 35 dX8_sinks_92 (by decide) ?_
          exact go_sub [(0, .ref p), (2, .int (nI n)), (3, .int (nI i)), (5, .int (bI low)), (6, .int (nI ((v.1, v.2 + 1)).1)), (7, .int (nI (m + 1)))] ⟨rfl, rfl, rfl, rfl, rfl, rfl, trivial⟩ (ih (m + 1) ((v.1, v.2 + 1)) (by omega) (by omega) hx (by rw [hr2, fbS, if_pos w9, if_neg (bI_ff q82)]))
        · have M2 := trivial
          refine go_iload dX8_sinks_85 rfl ?_
          refine go_istore dX8_sinks_87 (Nat.le_of_ble_eq_true rfl) rfl ?_
          refine go_iinc dX8_sinks_89 rfl (Nat.le_of_ble_eq_true rfl) rfl (show _ = _ + 1 from rfl) ?_
          rw [a_k1]
          refine go_goto 35 dX8_sinks_92 (by decide) ?_
          exact go_sub [(0, .ref p), (2, .int (nI n)), (3, .int (nI i)), (5, .int (bI low)), (6, .int (nI ((cand i m, v.2 + 1)).1)), (7, .int (nI (m + 1)))] ⟨rfl, rfl, rfl, rfl, rfl, rfl, trivial⟩ (ih (m + 1) ((cand i m, v.2 + 1)) (by omega) (by omega) w9 (by rw [hr2, fbS, if_pos w9, if_pos (bI_ne.mp q82)]))
theorem fbS_in {lt : QL} {low : Bool} {n : Nat} {f : Nat → Int32} {i : Nat} (u m : Nat) (s : Nat × Int32) (h : s.1 ≤ 2 * i + 2 ∨ 4 * i + 3 ≤ s.1) (hm : 1 ≤ m) : (fbS lt low n f i u m s).1 ≤ 2 * i + 2 ∨ 4 * i + 3 ≤ (fbS lt low n f i u m s).1 := by
  induction u generalizing m s with
  | zero => exact h
  | succ u ih =>
    unfold fbS
    have hc : cand i m ≤ 2 * i + 2 ∨ 4 * i + 3 ≤ cand i m := by unfold cand; split <;> omega
    split
    · split
      · exact ih (m + 1) _ hc (by omega)
      · exact ih (m + 1) _ h (by omega)
    · exact ih (m + 1) _ h (by omega)
theorem sinkS1_n {lt : QL} {low : Bool} {n u i : Nat} {s : QS} (h : ¬ 2 * i + 1 < n) : sinkS1 lt low n u i s = s := by
  cases u with
  | zero => rfl
  | succ u =>
    rw [sinkS1]
    exact if_neg h
theorem m_sinks_5 (l : Launch) {w : MW} {p : Nat} {A P K T : Nat → Int32} {x : XS} (hp : p + 4 < w.1) {n : Nat} (hn : n ≤ 30) {low : Bool} : ∀ (u i : Nat) (s r : QS), 15 ≤ u + i → i < 100 → lowB i = low → rowOK s.1 → r = sinkS1 (ltA A) low n u i s → Go l yX8_sinks cX8_sinks 9 none [] none (mm_Z (mm_eq (.inl none) (mdW w p (setL A 1 r) P K T x))) 3 0 0 5 [(0, .ref p), (2, .int (nI n)), (3, .int (nI i)), (4, .int 1)] [] (mdW w p (setL A 1 s) P K T x) := by
  intro u
  induction u with
  | zero =>
    intro i s r hu hi hlow hr hrr
    rw [hrr, sinkS1]
    refine go_iload dX8_sinks_5 rfl ?_
    refine go_if_eq_f 177 dX8_sinks_7 (by decide) (by decide) ?_
    refine go_iconst 2 dX8_sinks_10 (by decide) ?_
    refine go_iload_n dX8_sinks_11 rfl ?_
    refine go_imul dX8_sinks_12 ?_
    refine go_iconst 1 dX8_sinks_13 (by decide) ?_
    refine go_iadd dX8_sinks_14 ?_
    rw [a_2, a_k1]
    refine go_iload_n dX8_sinks_15 rfl ?_
    refine go_icmp_ge_t 177 dX8_sinks_16 (by decide) (nI_le (by omega) (by omega)) ?_
    exact go_return dX8_sinks_177 rfl
  | succ u ih =>
    intro i s r hu hi hlow hr hrr
    by_cases h1 : 2 * i + 1 < n
    · have hb1 := fbS_lt (lt := ltA A) (low := low) (n := n) (f := s.1) (i := i) 5 1 (2 * i + 1, s.2) h1 (by show 2 * i + 1 ≠ 0; omega) (by decide)
      have hb2 := fbS_bd (lt := ltA A) (low := low) (n := n) (f := s.1) (i := i) 5 1 (2 * i + 1, s.2) (by show 2 * i + 1 ≤ 2 * i + 1 ∧ 2 * i + 1 ≤ 4 * i + 6; omega) (by decide) (by decide)
      have KK : ∀ (b : Nat) (c1 : Int32), b < n → 2 * i + 1 ≤ b → b ≤ 4 * i + 6 → (b ≤ 2 * i + 2 ∨ 4 * i + 3 ≤ b) → r = (if ld (ltA A) low (s.1 b) (s.1 i) = true then (if (b - 1) / 2 = i then (sw s.1 b i, c1 + 1) else if ld (ltA A) low (sw s.1 b i ((b - 1) / 2)) (sw s.1 b i b) = true then sinkS1 (ltA A) low n u b (sw (sw s.1 b i) ((b - 1) / 2) b, c1 + 1 + 1) else sinkS1 (ltA A) low n u b (sw s.1 b i, c1 + 1 + 1)) else (s.1, c1 + 1)) → Go l yX8_sinks cX8_sinks 9 none [] none (mm_Z (mm_eq (.inl none) (mdW w p (setL A 1 r) P K T x))) 3 0 0 95 [(0, .ref p), (2, .int (nI n)), (3, .int (nI i)), (5, .int (bI low)), (6, .int (nI b))] [] (mdW w p (setL A 1 (s.1, c1)) P K T x) := by
        intro b c1 hb hb3 hb4 hb5 hE
        have hr2 : rowOK (sw s.1 b i) := rowOK_sw hr (by omega) (by omega)
        refine go_aload_n dX8_sinks_95 rfl ?_
        refine go_iload dX8_sinks_96 rfl ?_
        refine go_iload dX8_sinks_98 rfl ?_
        refine go_iload_n dX8_sinks_100 rfl ?_
        refine go_virt1 dX8_sinks_101 (m_leads l hp (s := (s.1, c1)) hr (low := low) (a := b) (b := i) (by omega) (by omega)) v_X8_85_7 rfl (mdW_ob hp) rfl (Nat.le_of_ble_eq_true rfl) (Nat.le_of_ble_eq_true rfl) (Nat.le_of_ble_eq_true rfl) ?_
        refine go_istore dX8_sinks_104 (Nat.le_of_ble_eq_true rfl) rfl ?_
        refine go_iload dX8_sinks_106 rfl ?_
        refine go_if_eq 136 dX8_sinks_108 (by decide) (fun q108 => ?_) (fun q108 => ?_)
        · refine go_iload dX8_sinks_136 rfl ?_
          refine go_if_eq_t 174 dX8_sinks_138 (by decide) q108 ?_
          refine go_goto 5 dX8_sinks_174 (by decide) ?_
          rw [hE, if_neg (bI_ff q108)]
          exact go_sub [(0, .ref p), (4, .int 0)] ⟨rfl, congrArg (fun z => some (Value.int z)) q108, trivial⟩ (m_sinks_e l hp)
        · refine go_aload_n dX8_sinks_111 rfl ?_
          refine go_iconst 1 dX8_sinks_112 (by decide) ?_
          refine go_iload dX8_sinks_113 rfl ?_
          refine go_iload_n dX8_sinks_115 rfl ?_
          refine go_virt0 dX8_sinks_116 (m_exch l hp (k := 1) (s := (s.1, c1 + 1)) (by omega) (a := b) (b := i) (by omega) (by omega)) v_X8_55_7 rfl (mdW_ob hp) rfl (Nat.le_of_ble_eq_true rfl) (Nat.le_of_ble_eq_true rfl) (Nat.le_of_ble_eq_true rfl) ?_
          refine go_iload dX8_sinks_119 rfl ?_
          refine go_iconst 2 dX8_sinks_121 (by decide) ?_
          refine go_iload_n dX8_sinks_122 rfl ?_
          refine go_imul dX8_sinks_123 ?_
          refine go_iconst 2 dX8_sinks_124 (by decide) ?_
          refine go_iadd dX8_sinks_125 ?_
          rw [a_2, a_k2]
          refine go_icmp_le 133 dX8_sinks_126 (by decide) (fun q126 => ?_) (fun q126 => ?_)
          · have z := n_le' q126 (by omega) (by omega)
            rw [hE, if_pos (bI_ne.mp q108), if_pos (by omega)]
            refine go_iconst 0 dX8_sinks_133 (by decide) ?_
            refine go_istore dX8_sinks_134 (Nat.le_of_ble_eq_true rfl) rfl ?_
            refine go_iload dX8_sinks_136 rfl ?_
            refine go_if_eq_t 174 dX8_sinks_138 (by decide) rfl ?_
            refine go_goto 5 dX8_sinks_174 (by decide) ?_
            exact go_sub [(0, .ref p), (4, .int 0)] ⟨rfl, rfl, trivial⟩ (m_sinks_e l hp)
          · have z := n_lt' q126 (by omega)
            have hlb : lowB b = low := ((lowB_g (i := b) (by omega)).symm.trans (by rw [show (b - 3) / 4 = i by omega])).trans hlow
            refine go_iconst 1 dX8_sinks_129 (by decide) ?_
            refine go_goto 134 dX8_sinks_130 (by decide) ?_
            refine go_istore dX8_sinks_134 (Nat.le_of_ble_eq_true rfl) rfl ?_
            refine go_iload dX8_sinks_136 rfl ?_
            refine go_if_eq_f 174 dX8_sinks_138 (by decide) (by decide) ?_
            refine go_iload dX8_sinks_141 rfl ?_
            refine go_iconst 1 dX8_sinks_143 (by decide) ?_
            refine go_isub dX8_sinks_144 ?_
            refine go_iconst 2 dX8_sinks_145 (by decide) ?_
            refine go_idiv dX8_sinks_146 (by decide) ?_
            rw [a_par (k := b) (by omega) (by omega)]
            refine go_istore dX8_sinks_147 (Nat.le_of_ble_eq_true rfl) rfl ?_
            refine go_aload_n dX8_sinks_149 rfl ?_
            refine go_iload dX8_sinks_150 rfl ?_
            refine go_iload dX8_sinks_152 rfl ?_
            refine go_iload dX8_sinks_154 rfl ?_
            refine go_virt1 dX8_sinks_156 (m_leads l hp (s := ((sw s.1 b i), c1 + 1)) hr2 (low := low) (a := (b - 1) / 2) (b := b) (by omega) (by omega)) v_X8_85_7 rfl (mdW_ob hp) rfl (Nat.le_of_ble_eq_true rfl) (Nat.le_of_ble_eq_true rfl) (Nat.le_of_ble_eq_true rfl) ?_
            refine go_if_eq 171 dX8_sinks_159 (by decide) (fun q159 => ?_) (fun q159 => ?_)
            · have M1 := trivial
              refine go_iload dX8_sinks_171 rfl ?_
              refine go_istore_n dX8_sinks_173 (Nat.le_of_ble_eq_true rfl) rfl ?_
              refine go_goto 5 dX8_sinks_174 (by decide) ?_
              exact go_sub [(0, .ref p), (2, .int (nI n)), (3, .int (nI b)), (4, .int 1)] ⟨rfl, rfl, rfl, rfl, trivial⟩ (ih b ((sw s.1 b i), c1 + 1 + 1) r (by omega) (by omega) hlb hr2 (by rw [hE, if_pos (bI_ne.mp q108), if_neg (by omega), if_neg (bI_ff q159)]))
            · have M2 := trivial
              refine go_aload_n dX8_sinks_162 rfl ?_
              refine go_iconst 1 dX8_sinks_163 (by decide) ?_
              refine go_iload dX8_sinks_164 rfl ?_
              refine go_iload dX8_sinks_166 rfl ?_
              refine go_virt0 dX8_sinks_168 (m_exch l hp (k := 1) (s := ((sw s.1 b i), c1 + 1 + 1)) (by omega) (a := (b - 1) / 2) (b := b) (by omega) (by omega)) v_X8_55_7 rfl (mdW_ob hp) rfl (Nat.le_of_ble_eq_true rfl) (Nat.le_of_ble_eq_true rfl) (Nat.le_of_ble_eq_true rfl) ?_
              refine go_iload dX8_sinks_171 rfl ?_
              refine go_istore_n dX8_sinks_173 (Nat.le_of_ble_eq_true rfl) rfl ?_
              refine go_goto 5 dX8_sinks_174 (by decide) ?_
              exact go_sub [(0, .ref p), (2, .int (nI n)), (3, .int (nI b)), (4, .int 1)] ⟨rfl, rfl, rfl, rfl, trivial⟩ (ih b (sw (sw s.1 b i) ((b - 1) / 2) b, c1 + 1 + 1) r (by omega) (by omega) hlb (rowOK_sw hr2 (by omega) (by omega)) (by rw [hE, if_pos (bI_ne.mp q108), if_neg (by omega), if_pos (bI_ne.mp q159)]))
      refine go_iload dX8_sinks_5 rfl ?_
      refine go_if_eq_f 177 dX8_sinks_7 (by decide) (by decide) ?_
      refine go_iconst 2 dX8_sinks_10 (by decide) ?_
      refine go_iload_n dX8_sinks_11 rfl ?_
      refine go_imul dX8_sinks_12 ?_
      refine go_iconst 1 dX8_sinks_13 (by decide) ?_
      refine go_iadd dX8_sinks_14 ?_
      rw [a_2, a_k1]
      refine go_iload_n dX8_sinks_15 rfl ?_
      refine go_icmp_ge_f 177 dX8_sinks_16 (by decide) (n_nle h1 (by omega)) ?_
      refine go_iload_n dX8_sinks_19 rfl ?_
      refine go_stat1 dX8_sinks_20 (m_isLow l (by omega)) s_X8_82 kc_X8_isLow rfl rfl (Nat.le_of_ble_eq_true rfl) (Nat.le_of_ble_eq_true rfl) (Nat.le_of_ble_eq_true rfl) ?_
      rw [hlow]
      refine go_istore dX8_sinks_23 (Nat.le_of_ble_eq_true rfl) rfl ?_
      refine go_iconst 2 dX8_sinks_25 (by decide) ?_
      refine go_iload_n dX8_sinks_26 rfl ?_
      refine go_imul dX8_sinks_27 ?_
      refine go_iconst 1 dX8_sinks_28 (by decide) ?_
      refine go_iadd dX8_sinks_29 ?_
      rw [a_2, a_k1]
      refine go_istore dX8_sinks_30 (Nat.le_of_ble_eq_true rfl) rfl ?_
      refine go_iconst 1 dX8_sinks_32 (by decide) ?_
      refine go_istore dX8_sinks_33 (Nat.le_of_ble_eq_true rfl) rfl ?_
      exact go_sub [(0, .ref p), (2, .int (nI n)), (3, .int (nI i)), (5, .int (bI low)), (6, .int (nI (2 * i + 1))), (7, .int (nI 1))] ⟨rfl, rfl, rfl, rfl, rfl, rfl, trivial⟩ (m_fb_35 l hp hn hr hi (KK (fbS (ltA A) low n s.1 i 5 1 (2 * i + 1, s.2)).1 (fbS (ltA A) low n s.1 i 5 1 (2 * i + 1, s.2)).2 hb1.1 hb2.1 hb2.2 (fbS_in 5 1 _ (Or.inl (by show 2 * i + 1 ≤ 2 * i + 2; omega)) (by decide)) (hrr.trans (by rw [sinkS1]; exact if_pos h1))) 5 1 (2 * i + 1, s.2) rfl (by decide) h1 rfl)
    · rw [hrr, sinkS1_n h1]
      refine go_iload dX8_sinks_5 rfl ?_
      refine go_if_eq_f 177 dX8_sinks_7 (by decide) (by decide) ?_
      refine go_iconst 2 dX8_sinks_10 (by decide) ?_
      refine go_iload_n dX8_sinks_11 rfl ?_
      refine go_imul dX8_sinks_12 ?_
      refine go_iconst 1 dX8_sinks_13 (by decide) ?_
      refine go_iadd dX8_sinks_14 ?_
      rw [a_2, a_k1]
      refine go_iload_n dX8_sinks_15 rfl ?_
      refine go_icmp_ge_t 177 dX8_sinks_16 (by decide) (nI_le (by omega) (by omega)) ?_
      exact go_return dX8_sinks_177 rfl
theorem m_sinks (l : Launch) {w : MW} {p : Nat} {A P K T : Nat → Int32} {x : XS} (hp : p + 4 < w.1) {n : Nat} {s : QS} (hr : rowOK s.1) {i : Nat} (hi : i < 100) (hn : n ≤ 30) : Ct l (.code yX8_sinks cX8_sinks 9 none) yX8_sinks 3 0 0 [.ref p, .int (nI i), .int (nI n)] (mdW w p (setL A 1 s) P K T x) (.inl none) (mdW w p (setL A 1 (sinkS1 (ltA A) (lowB i) n 30 i s)) P K T x) := by
  refine ct_of (by decide +kernel) (Nat.le_of_ble_eq_true rfl) ?_
  refine go_iload_n dX8_sinks_0 rfl ?_
  refine go_istore_n dX8_sinks_1 (Nat.le_of_ble_eq_true rfl) rfl ?_
  refine go_iconst 1 dX8_sinks_2 (by decide) ?_
  refine go_istore dX8_sinks_3 (Nat.le_of_ble_eq_true rfl) rfl ?_
  exact go_sub [(0, .ref p), (2, .int (nI n)), (3, .int (nI i)), (4, .int 1)] ⟨rfl, rfl, rfl, rfl, trivial⟩ (m_sinks_5 l hp hn 30 i s _ (by omega) hi rfl hr rfl)
