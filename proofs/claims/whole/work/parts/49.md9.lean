theorem a_bI2 (b : Nat) (c d : Bool) : nI b + (bI c + bI d) = nI (b + bN c + bN d) := by rw [← Int32.add_assoc, a_bI, a_bI]
theorem cpyF_s0 {f g : Nat → Int32} {d k : Nat} : upd (cpyF f g 0 d k) (d + k) (f k) = cpyF f g 0 d (k + 1) := by
  have h := cpyF_s (f := f) (g := g) (c := 0) (d := d) (k := k)
  rw [Nat.zero_add] at h
  exact h
theorem cpyF_sd {f g : Nat → Int32} {c k : Nat} : upd (cpyF f g c 0 k) k (f (c + k)) = cpyF f g c 0 (k + 1) := by
  have h := cpyF_s (f := f) (g := g) (c := c) (d := 0) (k := k)
  rw [Nat.zero_add] at h
  exact h
theorem cpyF_00 {f g : Nat → Int32} {k : Nat} : upd (cpyF f g 0 0 k) k (f k) = cpyF f g 0 0 (k + 1) := by
  have h := cpyF_s0 (f := f) (g := g) (d := 0) (k := k)
  rw [Nat.zero_add] at h
  exact h
def gI (i : Nat) : Int32 := if i = 0 then -1 else nI ((i - 1) / 2)
theorem gI_p {i : Nat} (h : ¬ i = 0) : gI i = nI ((i - 1) / 2) := if_neg h
theorem gI_z {i : Nat} (h : i = 0) : gI i = -1 := if_pos h
def abA (f : Nat → Int32) : Nat → Nat → Int32 → Int32
  | 0, _, a => a
  | u + 1, i, a => if i = 0 then a else abA f u ((i - 1) / 2) (a ||| (1 <<< (f ((i - 1) / 2) &&& 31)))
def svP (A P : Nat → Int32) (sv : Nat) : Nat → Int32 := if sv = 5 then cpyF A (cpyF P P 184 0 736) 0 (184 * 4) 184 else cpyF A P 0 (184 * sv) 184
theorem m_refd (l : Launch) {w : MW} {p : Nat} {A P K T : Nat → Int32} (hp : p + 4 < w.1) {a b r : Int32} {y : Int32 × Int32 × Int32 × Int32 × Int64} : Ct l (.code yX8_refused cX8_refused 2 (some .boolean)) yX8_refused 0 0 0 [.ref p, .int r] (mdW w p A P K T (a, b, y)) (.inl (some (.int (bI (decide (0 < r)))))) (mdW w p A P K T (a, r, y)) := m_refused l hp (x := (a, b, y))
theorem m_wrong (l : Launch) {w : MW} {p : Nat} {A P K T : Nat → Int32} {x : XS} (hp : p + 4 < w.1) {k a b : Nat} (hk : k < 4) (ha : a < 30) (hb : b < 30) (hA : mI A) : Ct l (.code yX8_wrong cX8_wrong 4 (some .int)) yX8_wrong 1 0 0 [.ref p, .int (nI k), .int (nI a), .int (nI b)] (mdW w p A P K T x) (.inl (some (.int (bI (ltA A ((getL A k).1 a) ((getL A k).1 b)))))) (mdW w p A P K T x) := by
  refine ct_of (by decide +kernel) (Nat.le_of_ble_eq_true rfl) ?_
  refine go_aload_n dX8_wrong_0 rfl ?_
  refine go_aload_n dX8_wrong_1 rfl ?_
  refine go_iload_n dX8_wrong_2 rfl ?_
  refine go_iload_n dX8_wrong_3 rfl ?_
  refine go_virt1 dX8_wrong_4 (m_item l hp hk ha) v_X8_37_7 rfl (mdW_ob hp) rfl (Nat.le_of_ble_eq_true rfl) (Nat.le_of_ble_eq_true rfl) (Nat.le_of_ble_eq_true rfl) ?_
  refine go_aload_n dX8_wrong_7 rfl ?_
  refine go_iload_n dX8_wrong_8 rfl ?_
  refine go_iload_n dX8_wrong_9 rfl ?_
  refine go_virt1 dX8_wrong_10 (m_item l hp hk hb) v_X8_37_7 rfl (mdW_ob hp) rfl (Nat.le_of_ble_eq_true rfl) (Nat.le_of_ble_eq_true rfl) (Nat.le_of_ble_eq_true rfl) ?_
  refine go_virt1 dX8_wrong_13 (m_isLess l hp (hA k hk a ha) (hA k hk b hb)) v_X8_41_7 rfl (mdW_ob hp) rfl (Nat.le_of_ble_eq_true rfl) (Nat.le_of_ble_eq_true rfl) (Nat.le_of_ble_eq_true rfl) ?_
  refine go_if_eq 23 dX8_wrong_16 (by decide) (fun q16 => ?_) (fun q16 => ?_)
  · rw [show ltA A ((getL A k).1 a) ((getL A k).1 b) = false from bI_eq.mp q16]
    refine go_iconst 0 dX8_wrong_23 (by decide) ?_
    exact go_ireturn dX8_wrong_24 rfl rfl
  · rw [show ltA A ((getL A k).1 a) ((getL A k).1 b) = true from bI_ne.mp q16]
    refine go_iconst 1 dX8_wrong_19 (by decide) ?_
    refine go_goto 24 dX8_wrong_20 (by decide) ?_
    exact go_ireturn dX8_wrong_24 rfl rfl
theorem m_wn_9 (l : Launch) {w : MW} {p : Nat} {A P K T : Nat → Int32} {x : XS} (hp : p + 4 < w.1) {n : Nat} (hn : n ≤ 30) (hA : mI A) : ∀ (u k b : Nat), u + k = (n + 1) / 2 → b = brk0 (ltA A) n (getL A 0).1 k → Go l yX8_wrongNodes cX8_wrongNodes 5 (some .int) [] none (mm_Z (mm_eq (.inl (some (.int (nI (brk0 (ltA A) n (getL A 0).1 ((n + 1) / 2)))))) (mdW w p A P K T x))) 2 0 0 9 [(0, .ref p), (1, .int (nI n)), (2, .int (nI b)), (3, .int (nI k))] [] (mdW w p A P K T x) := by
  intro u
  induction u with
  | zero =>
    intro k b hu hb
    rw [show (n + 1) / 2 = k by omega, ← hb]
    refine go_iconst 2 dX8_wrongNodes_9 (by decide) ?_
    refine go_iload_n dX8_wrongNodes_10 rfl ?_
    refine go_imul dX8_wrongNodes_11 ?_
    rw [a_2]
    refine go_iload_n dX8_wrongNodes_12 rfl ?_
    refine go_icmp_ge_t 99 dX8_wrongNodes_13 (by decide) (nI_le (by omega) (by omega)) ?_
    refine go_iload_n dX8_wrongNodes_99 rfl ?_
    exact go_ireturn dX8_wrongNodes_100 rfl rfl
  | succ u ih =>
    intro k b hu hb
    rcases Nat.eq_zero_or_pos k with hk0 | hk
    · have e91 : nI (b + brkA (ltA A) n (getL A 0).1 k) + 0 = nI (b + brkA (ltA A) n (getL A 0).1 k + brkB (ltA A) (getL A 0).1 k + brkC (ltA A) n (getL A 0).1 k) := by rw [brkB, if_pos hk0, brkC, if_pos hk0]; exact Int32.add_zero _
      refine go_iconst 2 dX8_wrongNodes_9 (by decide) ?_
      refine go_iload_n dX8_wrongNodes_10 rfl ?_
      refine go_imul dX8_wrongNodes_11 ?_
      rw [a_2]
      refine go_iload_n dX8_wrongNodes_12 rfl ?_
      refine go_icmp_ge_f 99 dX8_wrongNodes_13 (by decide) (n_nle (by omega) (by omega)) ?_
      refine go_iload_n dX8_wrongNodes_16 rfl ?_
      refine go_iconst 1 dX8_wrongNodes_17 (by decide) ?_
      refine go_isub dX8_wrongNodes_18 ?_
      refine go_iconst 2 dX8_wrongNodes_19 (by decide) ?_
      refine go_idiv dX8_wrongNodes_20 (by decide) ?_
      refine go_istore dX8_wrongNodes_21 (Nat.le_of_ble_eq_true rfl) rfl ?_
      refine go_iload_n dX8_wrongNodes_23 rfl ?_
      refine go_iconst 2 dX8_wrongNodes_24 (by decide) ?_
      refine go_iload_n dX8_wrongNodes_25 rfl ?_
      refine go_imul dX8_wrongNodes_26 ?_
      rw [a_2]
      refine go_iconst 1 dX8_wrongNodes_27 (by decide) ?_
      refine go_iadd dX8_wrongNodes_28 ?_
      rw [a_k1]
      refine go_iload_n dX8_wrongNodes_29 rfl ?_
      refine go_icmp_ge 49 dX8_wrongNodes_30 (by decide) (fun q30 => ?_) (fun q30 => ?_)
      · have e30 : ¬ 2 * k + 1 < n := by have := n_le' q30 (by omega) (by omega); omega
        have e50 : nI b + 0 = nI (b + brkA (ltA A) n (getL A 0).1 k) := by rw [brkA, topN_0 e30, ltA_irr]; exact Int32.add_zero _
        refine go_iconst 0 dX8_wrongNodes_49 (by decide) ?_
        refine go_iadd dX8_wrongNodes_50 ?_
        refine go_top (.int (nI (b + brkA (ltA A) n (getL A 0).1 k))) (congrArg Value.int e50) ?_
        refine go_istore_n dX8_wrongNodes_51 (Nat.le_of_ble_eq_true rfl) rfl ?_
        refine go_iload_n dX8_wrongNodes_52 rfl ?_
        refine go_iload_n dX8_wrongNodes_53 rfl ?_
        refine go_if_le_t 90 dX8_wrongNodes_54 (by decide) (by rw [hk0]; decide) ?_
        refine go_iconst 0 dX8_wrongNodes_90 (by decide) ?_
        refine go_iadd dX8_wrongNodes_91 ?_
        refine go_top (.int (nI (b + brkA (ltA A) n (getL A 0).1 k + brkB (ltA A) (getL A 0).1 k + brkC (ltA A) n (getL A 0).1 k))) (congrArg Value.int e91) ?_
        refine go_istore_n dX8_wrongNodes_92 (Nat.le_of_ble_eq_true rfl) rfl ?_
        refine go_iinc dX8_wrongNodes_93 rfl (Nat.le_of_ble_eq_true rfl) rfl (show _ = _ + 1 from rfl) ?_
        rw [a_k1]
        refine go_goto 9 dX8_wrongNodes_96 (by decide) ?_
        exact go_sub [(0, .ref p), (1, .int (nI n)), (2, .int (nI (b + brkA (ltA A) n (getL A 0).1 k + brkB (ltA A) (getL A 0).1 k + brkC (ltA A) n (getL A 0).1 k))), (3, .int (nI (k + 1)))] ⟨rfl, rfl, rfl, rfl, trivial⟩ (ih (k + 1) (b + brkA (ltA A) n (getL A 0).1 k + brkB (ltA A) (getL A 0).1 k + brkC (ltA A) n (getL A 0).1 k) (by omega) (by rw [hb, brk0]))
      · have e30 : 2 * k + 1 < n := n_lt' q30 (by omega)
        have e50 : nI b + bI (ltA A ((getL A 0).1 (2 * k + 1)) ((getL A 0).1 (2 * k))) = nI (b + brkA (ltA A) n (getL A 0).1 k) := by rw [brkA, topN_1 e30]; exact a_bI _ _
        refine go_aload_n dX8_wrongNodes_33 rfl ?_
        refine go_iconst 0 dX8_wrongNodes_34 (by decide) ?_
        refine go_iconst 2 dX8_wrongNodes_35 (by decide) ?_
        refine go_iload_n dX8_wrongNodes_36 rfl ?_
        refine go_imul dX8_wrongNodes_37 ?_
        rw [a_2]
        refine go_iconst 1 dX8_wrongNodes_38 (by decide) ?_
        refine go_iadd dX8_wrongNodes_39 ?_
        rw [a_k1]
        refine go_iconst 2 dX8_wrongNodes_40 (by decide) ?_
        refine go_iload_n dX8_wrongNodes_41 rfl ?_
        refine go_imul dX8_wrongNodes_42 ?_
        rw [a_2]
        refine go_virt1 dX8_wrongNodes_43 (m_wrong l hp (k := 0) (by decide) (a := 2 * k + 1) (b := 2 * k) (by omega) (by omega) hA) v_X8_187_7 rfl (mdW_ob hp) rfl (Nat.le_of_ble_eq_true rfl) (Nat.le_of_ble_eq_true rfl) (Nat.le_of_ble_eq_true rfl) ?_
        refine go_goto 50 dX8_wrongNodes_46 (by decide) ?_
        refine go_iadd dX8_wrongNodes_50 ?_
        refine go_top (.int (nI (b + brkA (ltA A) n (getL A 0).1 k))) (congrArg Value.int e50) ?_
        refine go_istore_n dX8_wrongNodes_51 (Nat.le_of_ble_eq_true rfl) rfl ?_
        refine go_iload_n dX8_wrongNodes_52 rfl ?_
        refine go_iload_n dX8_wrongNodes_53 rfl ?_
        refine go_if_le_t 90 dX8_wrongNodes_54 (by decide) (by rw [hk0]; decide) ?_
        refine go_iconst 0 dX8_wrongNodes_90 (by decide) ?_
        refine go_iadd dX8_wrongNodes_91 ?_
        refine go_top (.int (nI (b + brkA (ltA A) n (getL A 0).1 k + brkB (ltA A) (getL A 0).1 k + brkC (ltA A) n (getL A 0).1 k))) (congrArg Value.int e91) ?_
        refine go_istore_n dX8_wrongNodes_92 (Nat.le_of_ble_eq_true rfl) rfl ?_
        refine go_iinc dX8_wrongNodes_93 rfl (Nat.le_of_ble_eq_true rfl) rfl (show _ = _ + 1 from rfl) ?_
        rw [a_k1]
        refine go_goto 9 dX8_wrongNodes_96 (by decide) ?_
        exact go_sub [(0, .ref p), (1, .int (nI n)), (2, .int (nI (b + brkA (ltA A) n (getL A 0).1 k + brkB (ltA A) (getL A 0).1 k + brkC (ltA A) n (getL A 0).1 k))), (3, .int (nI (k + 1)))] ⟨rfl, rfl, rfl, rfl, trivial⟩ (ih (k + 1) (b + brkA (ltA A) n (getL A 0).1 k + brkB (ltA A) (getL A 0).1 k + brkC (ltA A) n (getL A 0).1 k) (by omega) (by rw [hb, brk0]))
    · have e91 : nI (b + brkA (ltA A) n (getL A 0).1 k) + (bI (ltA A ((getL A 0).1 (2 * k)) ((getL A 0).1 (2 * ((k - 1) / 2)))) + bI (ltA A ((getL A 0).1 (2 * ((k - 1) / 2) + 1)) ((getL A 0).1 (topN n k)))) = nI (b + brkA (ltA A) n (getL A 0).1 k + brkB (ltA A) (getL A 0).1 k + brkC (ltA A) n (getL A 0).1 k) := by rw [brkB, if_neg (by omega), brkC, if_neg (by omega)]; exact a_bI2 _ _ _
      refine go_iconst 2 dX8_wrongNodes_9 (by decide) ?_
      refine go_iload_n dX8_wrongNodes_10 rfl ?_
      refine go_imul dX8_wrongNodes_11 ?_
      rw [a_2]
      refine go_iload_n dX8_wrongNodes_12 rfl ?_
      refine go_icmp_ge_f 99 dX8_wrongNodes_13 (by decide) (n_nle (by omega) (by omega)) ?_
      refine go_iload_n dX8_wrongNodes_16 rfl ?_
      refine go_iconst 1 dX8_wrongNodes_17 (by decide) ?_
      refine go_isub dX8_wrongNodes_18 ?_
      refine go_iconst 2 dX8_wrongNodes_19 (by decide) ?_
      refine go_idiv dX8_wrongNodes_20 (by decide) ?_
      rw [a_par hk (by omega)]
      refine go_istore dX8_wrongNodes_21 (Nat.le_of_ble_eq_true rfl) rfl ?_
      refine go_iload_n dX8_wrongNodes_23 rfl ?_
      refine go_iconst 2 dX8_wrongNodes_24 (by decide) ?_
      refine go_iload_n dX8_wrongNodes_25 rfl ?_
      refine go_imul dX8_wrongNodes_26 ?_
      rw [a_2]
      refine go_iconst 1 dX8_wrongNodes_27 (by decide) ?_
      refine go_iadd dX8_wrongNodes_28 ?_
      rw [a_k1]
      refine go_iload_n dX8_wrongNodes_29 rfl ?_
      refine go_icmp_ge 49 dX8_wrongNodes_30 (by decide) (fun q30 => ?_) (fun q30 => ?_)
      · have e30 : ¬ 2 * k + 1 < n := by have := n_le' q30 (by omega) (by omega); omega
        have e50 : nI b + 0 = nI (b + brkA (ltA A) n (getL A 0).1 k) := by rw [brkA, topN_0 e30, ltA_irr]; exact Int32.add_zero _
        refine go_iconst 0 dX8_wrongNodes_49 (by decide) ?_
        refine go_iadd dX8_wrongNodes_50 ?_
        refine go_top (.int (nI (b + brkA (ltA A) n (getL A 0).1 k))) (congrArg Value.int e50) ?_
        refine go_istore_n dX8_wrongNodes_51 (Nat.le_of_ble_eq_true rfl) rfl ?_
        refine go_iload_n dX8_wrongNodes_52 rfl ?_
        refine go_iload_n dX8_wrongNodes_53 rfl ?_
        refine go_if_le_f 90 dX8_wrongNodes_54 (by decide) (n_le0 hk (by omega)) ?_
        refine go_aload_n dX8_wrongNodes_57 rfl ?_
        refine go_iconst 0 dX8_wrongNodes_58 (by decide) ?_
        refine go_iconst 2 dX8_wrongNodes_59 (by decide) ?_
        refine go_iload_n dX8_wrongNodes_60 rfl ?_
        refine go_imul dX8_wrongNodes_61 ?_
        rw [a_2]
        refine go_iconst 2 dX8_wrongNodes_62 (by decide) ?_
        refine go_iload dX8_wrongNodes_63 rfl ?_
        refine go_imul dX8_wrongNodes_65 ?_
        rw [a_2]
        refine go_virt1 dX8_wrongNodes_66 (m_wrong l hp (k := 0) (by decide) (a := 2 * k) (b := 2 * ((k - 1) / 2)) (by omega) (by omega) hA) v_X8_187_7 rfl (mdW_ob hp) rfl (Nat.le_of_ble_eq_true rfl) (Nat.le_of_ble_eq_true rfl) (Nat.le_of_ble_eq_true rfl) ?_
        refine go_aload_n dX8_wrongNodes_69 rfl ?_
        refine go_iconst 0 dX8_wrongNodes_70 (by decide) ?_
        refine go_iconst 2 dX8_wrongNodes_71 (by decide) ?_
        refine go_iload dX8_wrongNodes_72 rfl ?_
        refine go_imul dX8_wrongNodes_74 ?_
        rw [a_2]
        refine go_iconst 1 dX8_wrongNodes_75 (by decide) ?_
        refine go_iadd dX8_wrongNodes_76 ?_
        rw [a_k1]
        refine go_aload_n dX8_wrongNodes_77 rfl ?_
        refine go_iload_n dX8_wrongNodes_78 rfl ?_
        refine go_iload_n dX8_wrongNodes_79 rfl ?_
        refine go_virt1 dX8_wrongNodes_80 (m_topOf l hp (k := k) (by omega) hn) v_X8_62_7 rfl (mdW_ob hp) rfl (Nat.le_of_ble_eq_true rfl) (Nat.le_of_ble_eq_true rfl) (Nat.le_of_ble_eq_true rfl) ?_
        refine go_virt1 dX8_wrongNodes_83 (m_wrong l hp (k := 0) (by decide) (a := 2 * ((k - 1) / 2) + 1) (b := topN n k) (by omega) (by have := topN_lt (n := n) (k := k) (by omega); omega) hA) v_X8_187_7 rfl (mdW_ob hp) rfl (Nat.le_of_ble_eq_true rfl) (Nat.le_of_ble_eq_true rfl) (Nat.le_of_ble_eq_true rfl) ?_
        refine go_iadd dX8_wrongNodes_86 ?_
        refine go_goto 91 dX8_wrongNodes_87 (by decide) ?_
        refine go_iadd dX8_wrongNodes_91 ?_
        refine go_top (.int (nI (b + brkA (ltA A) n (getL A 0).1 k + brkB (ltA A) (getL A 0).1 k + brkC (ltA A) n (getL A 0).1 k))) (congrArg Value.int e91) ?_
        refine go_istore_n dX8_wrongNodes_92 (Nat.le_of_ble_eq_true rfl) rfl ?_
        refine go_iinc dX8_wrongNodes_93 rfl (Nat.le_of_ble_eq_true rfl) rfl (show _ = _ + 1 from rfl) ?_
        rw [a_k1]
        refine go_goto 9 dX8_wrongNodes_96 (by decide) ?_
        exact go_sub [(0, .ref p), (1, .int (nI n)), (2, .int (nI (b + brkA (ltA A) n (getL A 0).1 k + brkB (ltA A) (getL A 0).1 k + brkC (ltA A) n (getL A 0).1 k))), (3, .int (nI (k + 1)))] ⟨rfl, rfl, rfl, rfl, trivial⟩ (ih (k + 1) (b + brkA (ltA A) n (getL A 0).1 k + brkB (ltA A) (getL A 0).1 k + brkC (ltA A) n (getL A 0).1 k) (by omega) (by rw [hb, brk0]))
      · have e30 : 2 * k + 1 < n := n_lt' q30 (by omega)
        have e50 : nI b + bI (ltA A ((getL A 0).1 (2 * k + 1)) ((getL A 0).1 (2 * k))) = nI (b + brkA (ltA A) n (getL A 0).1 k) := by rw [brkA, topN_1 e30]; exact a_bI _ _
        refine go_aload_n dX8_wrongNodes_33 rfl ?_
        refine go_iconst 0 dX8_wrongNodes_34 (by decide) ?_
        refine go_iconst 2 dX8_wrongNodes_35 (by decide) ?_
        refine go_iload_n dX8_wrongNodes_36 rfl ?_
        refine go_imul dX8_wrongNodes_37 ?_
        rw [a_2]
        refine go_iconst 1 dX8_wrongNodes_38 (by decide) ?_
        refine go_iadd dX8_wrongNodes_39 ?_
        rw [a_k1]
        refine go_iconst 2 dX8_wrongNodes_40 (by decide) ?_
        refine go_iload_n dX8_wrongNodes_41 rfl ?_
        refine go_imul dX8_wrongNodes_42 ?_
        rw [a_2]
        refine go_virt1 dX8_wrongNodes_43 (m_wrong l hp (k := 0) (by decide) (a := 2 * k + 1) (b := 2 * k) (by omega) (by omega) hA) v_X8_187_7 rfl (mdW_ob hp) rfl (Nat.le_of_ble_eq_true rfl) (Nat.le_of_ble_eq_true rfl) (Nat.le_of_ble_eq_true rfl) ?_
        refine go_goto 50 dX8_wrongNodes_46 (by decide) ?_
        refine go_iadd dX8_wrongNodes_50 ?_
        refine go_top (.int (nI (b + brkA (ltA A) n (getL A 0).1 k))) (congrArg Value.int e50) ?_
        refine go_istore_n dX8_wrongNodes_51 (Nat.le_of_ble_eq_true rfl) rfl ?_
        refine go_iload_n dX8_wrongNodes_52 rfl ?_
        refine go_iload_n dX8_wrongNodes_53 rfl ?_
        refine go_if_le_f 90 dX8_wrongNodes_54 (by decide) (n_le0 hk (by omega)) ?_
        refine go_aload_n dX8_wrongNodes_57 rfl ?_
        refine go_iconst 0 dX8_wrongNodes_58 (by decide) ?_
        refine go_iconst 2 dX8_wrongNodes_59 (by decide) ?_
        refine go_iload_n dX8_wrongNodes_60 rfl ?_
        refine go_imul dX8_wrongNodes_61 ?_
        rw [a_2]
        refine go_iconst 2 dX8_wrongNodes_62 (by decide) ?_
        refine go_iload dX8_wrongNodes_63 rfl ?_
        refine go_imul dX8_wrongNodes_65 ?_
        rw [a_2]
        refine go_virt1 dX8_wrongNodes_66 (m_wrong l hp (k := 0) (by decide) (a := 2 * k) (b := 2 * ((k - 1) / 2)) (by omega) (by omega) hA) v_X8_187_7 rfl (mdW_ob hp) rfl (Nat.le_of_ble_eq_true rfl) (Nat.le_of_ble_eq_true rfl) (Nat.le_of_ble_eq_true rfl) ?_
        refine go_aload_n dX8_wrongNodes_69 rfl ?_
        refine go_iconst 0 dX8_wrongNodes_70 (by decide) ?_
        refine go_iconst 2 dX8_wrongNodes_71 (by decide) ?_
        refine go_iload dX8_wrongNodes_72 rfl ?_
        refine go_imul dX8_wrongNodes_74 ?_
        rw [a_2]
        refine go_iconst 1 dX8_wrongNodes_75 (by decide) ?_
        refine go_iadd dX8_wrongNodes_76 ?_
        rw [a_k1]
        refine go_aload_n dX8_wrongNodes_77 rfl ?_
        refine go_iload_n dX8_wrongNodes_78 rfl ?_
        refine go_iload_n dX8_wrongNodes_79 rfl ?_
        refine go_virt1 dX8_wrongNodes_80 (m_topOf l hp (k := k) (by omega) hn) v_X8_62_7 rfl (mdW_ob hp) rfl (Nat.le_of_ble_eq_true rfl) (Nat.le_of_ble_eq_true rfl) (Nat.le_of_ble_eq_true rfl) ?_
        refine go_virt1 dX8_wrongNodes_83 (m_wrong l hp (k := 0) (by decide) (a := 2 * ((k - 1) / 2) + 1) (b := topN n k) (by omega) (by have := topN_lt (n := n) (k := k) (by omega); omega) hA) v_X8_187_7 rfl (mdW_ob hp) rfl (Nat.le_of_ble_eq_true rfl) (Nat.le_of_ble_eq_true rfl) (Nat.le_of_ble_eq_true rfl) ?_
        refine go_iadd dX8_wrongNodes_86 ?_
        refine go_goto 91 dX8_wrongNodes_87 (by decide) ?_
        refine go_iadd dX8_wrongNodes_91 ?_
        refine go_top (.int (nI (b + brkA (ltA A) n (getL A 0).1 k + brkB (ltA A) (getL A 0).1 k + brkC (ltA A) n (getL A 0).1 k))) (congrArg Value.int e91) ?_
        refine go_istore_n dX8_wrongNodes_92 (Nat.le_of_ble_eq_true rfl) rfl ?_
        refine go_iinc dX8_wrongNodes_93 rfl (Nat.le_of_ble_eq_true rfl) rfl (show _ = _ + 1 from rfl) ?_
        rw [a_k1]
        refine go_goto 9 dX8_wrongNodes_96 (by decide) ?_
        exact go_sub [(0, .ref p), (1, .int (nI n)), (2, .int (nI (b + brkA (ltA A) n (getL A 0).1 k + brkB (ltA A) (getL A 0).1 k + brkC (ltA A) n (getL A 0).1 k))), (3, .int (nI (k + 1)))] ⟨rfl, rfl, rfl, rfl, trivial⟩ (ih (k + 1) (b + brkA (ltA A) n (getL A 0).1 k + brkB (ltA A) (getL A 0).1 k + brkC (ltA A) n (getL A 0).1 k) (by omega) (by rw [hb, brk0]))
theorem m_wrongNodes (l : Launch) {w : MW} {p : Nat} {A P K T : Nat → Int32} {x : XS} (hp : p + 4 < w.1) {n : Nat} (hn : n ≤ 30) (hA : mI A) (h180 : A 180 = nI n) : Ct l (.code yX8_wrongNodes cX8_wrongNodes 5 (some .int)) yX8_wrongNodes 2 0 0 [.ref p] (mdW w p A P K T x) (.inl (some (.int (nI (brk0 (ltA A) n (getL A 0).1 ((n + 1) / 2)))))) (mdW w p A P K T x) := by
  refine ct_of (by decide +kernel) (Nat.le_of_ble_eq_true rfl) ?_
  refine go_aload_n dX8_wrongNodes_0 rfl ?_
  refine go_virt1 dX8_wrongNodes_1 (m_many l hp) v_X8_95_7 rfl (mdW_ob hp) rfl (Nat.le_of_ble_eq_true rfl) (Nat.le_of_ble_eq_true rfl) (Nat.le_of_ble_eq_true rfl) ?_
  rw [h180]
  refine go_istore_n dX8_wrongNodes_4 (Nat.le_of_ble_eq_true rfl) rfl ?_
  refine go_iconst 0 dX8_wrongNodes_5 (by decide) ?_
  refine go_istore_n dX8_wrongNodes_6 (Nat.le_of_ble_eq_true rfl) rfl ?_
  refine go_iconst 0 dX8_wrongNodes_7 (by decide) ?_
  refine go_istore_n dX8_wrongNodes_8 (Nat.le_of_ble_eq_true rfl) rfl ?_
  exact go_sub [(0, .ref p), (1, .int (nI n)), (2, .int (nI 0)), (3, .int (nI 0))] ⟨rfl, rfl, rfl, rfl, trivial⟩ (m_wn_9 l hp hn hA ((n + 1) / 2) 0 0 rfl rfl)
theorem m_wl_18 (l : Launch) {w : MW} {p : Nat} {A P K T : Nat → Int32} {x : XS} (hp : p + 4 < w.1) {Z : MZ} {j : Nat} (hj : j < 30) (hA : mI A) {r : Nat} (KK : Go l yX8_wrongLevels cX8_wrongLevels 4 (some .int) [] none Z 2 0 0 66 [(0, .ref p), (1, .int (nI r)), (2, .int (nI j))] [] (mdW w p A P K T x)) : ∀ (u i b : Nat), i ≤ u → i < 30 → r = b + brkU (ltA A) (getL A 1).1 j u i → Go l yX8_wrongLevels cX8_wrongLevels 4 (some .int) [] none Z 2 0 0 18 [(0, .ref p), (1, .int (nI b)), (2, .int (nI j)), (3, .int (gI i))] [] (mdW w p A P K T x) := by
  intro u
  induction u with
  | zero =>
    intro i b hu hi hr
    rw [gI_z (show i = 0 by omega)]
    rw [brkU, Nat.add_zero] at hr
    subst hr
    refine go_iload_n dX8_wrongLevels_18 rfl ?_
    refine go_if_lt_t 66 dX8_wrongLevels_19 (by decide) (by decide) ?_
    exact go_sub [(0, .ref p), (1, .int (nI r)), (2, .int (nI j))] ⟨rfl, rfl, rfl, trivial⟩ KK
  | succ u ih =>
    intro i b hu hi hr
    by_cases e0 : i = 0
    · rw [gI_z e0]
      rw [brkU, if_pos e0, Nat.add_zero] at hr
      subst hr
      refine go_iload_n dX8_wrongLevels_18 rfl ?_
      refine go_if_lt_t 66 dX8_wrongLevels_19 (by decide) (by decide) ?_
      exact go_sub [(0, .ref p), (1, .int (nI r)), (2, .int (nI j))] ⟨rfl, rfl, rfl, trivial⟩ KK
    · rw [gI_p e0]
      refine go_iload_n dX8_wrongLevels_18 rfl ?_
      refine go_if_lt_f 66 dX8_wrongLevels_19 (by decide) (nI_pos (by omega)) ?_
      refine go_iload_n dX8_wrongLevels_22 rfl ?_
      refine go_iload_n dX8_wrongLevels_23 rfl ?_
      refine go_stat1 dX8_wrongLevels_24 (m_isLow l (q := ((i - 1) / 2)) (by omega)) s_X8_82 kc_X8_isLow rfl rfl (Nat.le_of_ble_eq_true rfl) (Nat.le_of_ble_eq_true rfl) (Nat.le_of_ble_eq_true rfl) ?_
      refine go_if_eq 40 dX8_wrongLevels_27 (by decide) (fun q27 => ?_) (fun q27 => ?_)
      · have e47 : nI b + bI (ltA A ((getL A 1).1 ((i - 1) / 2)) ((getL A 1).1 j)) = nI (b + bN (ld (ltA A) (lowB ((i - 1) / 2)) ((getL A 1).1 j) ((getL A 1).1 ((i - 1) / 2)))) := by rw [bI_eq.mp q27]; exact a_bI _ _
        refine go_aload_n dX8_wrongLevels_40 rfl ?_
        refine go_iconst 1 dX8_wrongLevels_41 (by decide) ?_
        refine go_iload_n dX8_wrongLevels_42 rfl ?_
        refine go_iload_n dX8_wrongLevels_43 rfl ?_
        refine go_virt1 dX8_wrongLevels_44 (m_wrong l hp (k := 1) (by decide) (a := ((i - 1) / 2)) (b := j) (by omega) hj hA) v_X8_187_7 rfl (mdW_ob hp) rfl (Nat.le_of_ble_eq_true rfl) (Nat.le_of_ble_eq_true rfl) (Nat.le_of_ble_eq_true rfl) ?_
        refine go_iadd dX8_wrongLevels_47 ?_
        refine go_top (.int (nI (b + bN (ld (ltA A) (lowB ((i - 1) / 2)) ((getL A 1).1 j) ((getL A 1).1 ((i - 1) / 2)))))) (congrArg Value.int e47) ?_
        refine go_istore_n dX8_wrongLevels_48 (Nat.le_of_ble_eq_true rfl) rfl ?_
        refine go_iload_n dX8_wrongLevels_49 rfl ?_
        refine go_if_ne 57 dX8_wrongLevels_50 (by decide) (fun q50 => ?_) (fun q50 => ?_)
        · have ez : ¬ ((i - 1) / 2) = 0 := fun z => q50 (by rw [z]; rfl)
          have eg : (nI ((i - 1) / 2) - 1) / 2 = gI ((i - 1) / 2) := by rw [gI_p ez]; exact a_par (by omega) (by omega)
          refine go_iload_n dX8_wrongLevels_57 rfl ?_
          refine go_iconst 1 dX8_wrongLevels_58 (by decide) ?_
          refine go_isub dX8_wrongLevels_59 ?_
          refine go_iconst 2 dX8_wrongLevels_60 (by decide) ?_
          refine go_idiv dX8_wrongLevels_61 (by decide) ?_
          refine go_istore_n dX8_wrongLevels_62 (Nat.le_of_ble_eq_true rfl) rfl ?_
          refine go_goto 18 dX8_wrongLevels_63 (by decide) ?_
          exact go_sub [(0, .ref p), (1, .int (nI (b + bN (ld (ltA A) (lowB ((i - 1) / 2)) ((getL A 1).1 j) ((getL A 1).1 ((i - 1) / 2)))))), (2, .int (nI j)), (3, .int (gI ((i - 1) / 2)))] ⟨rfl, rfl, rfl, congrArg (fun z => some (Value.int z)) eg, trivial⟩ (ih ((i - 1) / 2) (b + bN (ld (ltA A) (lowB ((i - 1) / 2)) ((getL A 1).1 j) ((getL A 1).1 ((i - 1) / 2)))) (by omega) (by omega) (by rw [hr, brkU, if_neg e0]; exact (Nat.add_assoc _ _ _).symm))
        · have eg : (-1 : Int32) = gI ((i - 1) / 2) := (gI_z (nI_z (by omega) q50)).symm
          refine go_iconst (-1) dX8_wrongLevels_53 (by decide) ?_
          refine go_goto 62 dX8_wrongLevels_54 (by decide) ?_
          refine go_istore_n dX8_wrongLevels_62 (Nat.le_of_ble_eq_true rfl) rfl ?_
          refine go_goto 18 dX8_wrongLevels_63 (by decide) ?_
          exact go_sub [(0, .ref p), (1, .int (nI (b + bN (ld (ltA A) (lowB ((i - 1) / 2)) ((getL A 1).1 j) ((getL A 1).1 ((i - 1) / 2)))))), (2, .int (nI j)), (3, .int (gI ((i - 1) / 2)))] ⟨rfl, rfl, rfl, congrArg (fun z => some (Value.int z)) eg, trivial⟩ (ih ((i - 1) / 2) (b + bN (ld (ltA A) (lowB ((i - 1) / 2)) ((getL A 1).1 j) ((getL A 1).1 ((i - 1) / 2)))) (by omega) (by omega) (by rw [hr, brkU, if_neg e0]; exact (Nat.add_assoc _ _ _).symm))
      · have e47 : nI b + bI (ltA A ((getL A 1).1 j) ((getL A 1).1 ((i - 1) / 2))) = nI (b + bN (ld (ltA A) (lowB ((i - 1) / 2)) ((getL A 1).1 j) ((getL A 1).1 ((i - 1) / 2)))) := by rw [bI_ne.mp q27]; exact a_bI _ _
        refine go_aload_n dX8_wrongLevels_30 rfl ?_
        refine go_iconst 1 dX8_wrongLevels_31 (by decide) ?_
        refine go_iload_n dX8_wrongLevels_32 rfl ?_
        refine go_iload_n dX8_wrongLevels_33 rfl ?_
        refine go_virt1 dX8_wrongLevels_34 (m_wrong l hp (k := 1) (by decide) (a := j) (b := ((i - 1) / 2)) hj (by omega) hA) v_X8_187_7 rfl (mdW_ob hp) rfl (Nat.le_of_ble_eq_true rfl) (Nat.le_of_ble_eq_true rfl) (Nat.le_of_ble_eq_true rfl) ?_
        refine go_goto 47 dX8_wrongLevels_37 (by decide) ?_
        refine go_iadd dX8_wrongLevels_47 ?_
        refine go_top (.int (nI (b + bN (ld (ltA A) (lowB ((i - 1) / 2)) ((getL A 1).1 j) ((getL A 1).1 ((i - 1) / 2)))))) (congrArg Value.int e47) ?_
        refine go_istore_n dX8_wrongLevels_48 (Nat.le_of_ble_eq_true rfl) rfl ?_
        refine go_iload_n dX8_wrongLevels_49 rfl ?_
        refine go_if_ne 57 dX8_wrongLevels_50 (by decide) (fun q50 => ?_) (fun q50 => ?_)
        · have ez : ¬ ((i - 1) / 2) = 0 := fun z => q50 (by rw [z]; rfl)
          have eg : (nI ((i - 1) / 2) - 1) / 2 = gI ((i - 1) / 2) := by rw [gI_p ez]; exact a_par (by omega) (by omega)
          refine go_iload_n dX8_wrongLevels_57 rfl ?_
          refine go_iconst 1 dX8_wrongLevels_58 (by decide) ?_
          refine go_isub dX8_wrongLevels_59 ?_
          refine go_iconst 2 dX8_wrongLevels_60 (by decide) ?_
          refine go_idiv dX8_wrongLevels_61 (by decide) ?_
          refine go_istore_n dX8_wrongLevels_62 (Nat.le_of_ble_eq_true rfl) rfl ?_
          refine go_goto 18 dX8_wrongLevels_63 (by decide) ?_
          exact go_sub [(0, .ref p), (1, .int (nI (b + bN (ld (ltA A) (lowB ((i - 1) / 2)) ((getL A 1).1 j) ((getL A 1).1 ((i - 1) / 2)))))), (2, .int (nI j)), (3, .int (gI ((i - 1) / 2)))] ⟨rfl, rfl, rfl, congrArg (fun z => some (Value.int z)) eg, trivial⟩ (ih ((i - 1) / 2) (b + bN (ld (ltA A) (lowB ((i - 1) / 2)) ((getL A 1).1 j) ((getL A 1).1 ((i - 1) / 2)))) (by omega) (by omega) (by rw [hr, brkU, if_neg e0]; exact (Nat.add_assoc _ _ _).symm))
        · have eg : (-1 : Int32) = gI ((i - 1) / 2) := (gI_z (nI_z (by omega) q50)).symm
          refine go_iconst (-1) dX8_wrongLevels_53 (by decide) ?_
          refine go_goto 62 dX8_wrongLevels_54 (by decide) ?_
          refine go_istore_n dX8_wrongLevels_62 (Nat.le_of_ble_eq_true rfl) rfl ?_
          refine go_goto 18 dX8_wrongLevels_63 (by decide) ?_
          exact go_sub [(0, .ref p), (1, .int (nI (b + bN (ld (ltA A) (lowB ((i - 1) / 2)) ((getL A 1).1 j) ((getL A 1).1 ((i - 1) / 2)))))), (2, .int (nI j)), (3, .int (gI ((i - 1) / 2)))] ⟨rfl, rfl, rfl, congrArg (fun z => some (Value.int z)) eg, trivial⟩ (ih ((i - 1) / 2) (b + bN (ld (ltA A) (lowB ((i - 1) / 2)) ((getL A 1).1 j) ((getL A 1).1 ((i - 1) / 2)))) (by omega) (by omega) (by rw [hr, brkU, if_neg e0]; exact (Nat.add_assoc _ _ _).symm))
theorem m_wl_4 (l : Launch) {w : MW} {p : Nat} {A P K T : Nat → Int32} {x : XS} (hp : p + 4 < w.1) {n : Nat} (hn : n ≤ 30) (hA : mI A) (h180 : A 180 = nI n) : ∀ (u j b : Nat), 1 ≤ j → u + j = max 1 n → b = brk1 (ltA A) (getL A 1).1 j → Go l yX8_wrongLevels cX8_wrongLevels 4 (some .int) [] none (mm_Z (mm_eq (.inl (some (.int (nI (brk1 (ltA A) (getL A 1).1 n))))) (mdW w p A P K T x))) 2 0 0 4 [(0, .ref p), (1, .int (nI b)), (2, .int (nI j))] [] (mdW w p A P K T x) := by
  intro u
  induction u with
  | zero =>
    intro j b h1 hu hb
    rw [← brk1_max, show max 1 n = j by omega, ← hb]
    refine go_iload_n dX8_wrongLevels_4 rfl ?_
    refine go_aload_n dX8_wrongLevels_5 rfl ?_
    refine go_virt1 dX8_wrongLevels_6 (m_many l hp) v_X8_95_7 rfl (mdW_ob hp) rfl (Nat.le_of_ble_eq_true rfl) (Nat.le_of_ble_eq_true rfl) (Nat.le_of_ble_eq_true rfl) ?_
    rw [h180]
    refine go_icmp_ge_t 72 dX8_wrongLevels_9 (by decide) (nI_le (by omega) (by omega)) ?_
    refine go_iload_n dX8_wrongLevels_72 rfl ?_
    exact go_ireturn dX8_wrongLevels_73 rfl rfl
  | succ u ih =>
    intro j b h1 hu hb
    have KK : Go l yX8_wrongLevels cX8_wrongLevels 4 (some .int) [] none (mm_Z (mm_eq (.inl (some (.int (nI (brk1 (ltA A) (getL A 1).1 n))))) (mdW w p A P K T x))) 2 0 0 66 [(0, .ref p), (1, .int (nI (b + brkU (ltA A) (getL A 1).1 j 30 j))), (2, .int (nI j))] [] (mdW w p A P K T x) := by
      refine go_iinc dX8_wrongLevels_66 rfl (Nat.le_of_ble_eq_true rfl) rfl (show _ = _ + 1 from rfl) ?_
      rw [a_k1]
      refine go_goto 4 dX8_wrongLevels_69 (by decide) ?_
      exact go_sub [(0, .ref p), (1, .int (nI (b + brkU (ltA A) (getL A 1).1 j 30 j))), (2, .int (nI (j + 1)))] ⟨rfl, rfl, rfl, trivial⟩ (ih (j + 1) (b + brkU (ltA A) (getL A 1).1 j 30 j) (by omega) (by omega) (by rw [hb, brk1]))
    refine go_iload_n dX8_wrongLevels_4 rfl ?_
    refine go_aload_n dX8_wrongLevels_5 rfl ?_
    refine go_virt1 dX8_wrongLevels_6 (m_many l hp) v_X8_95_7 rfl (mdW_ob hp) rfl (Nat.le_of_ble_eq_true rfl) (Nat.le_of_ble_eq_true rfl) (Nat.le_of_ble_eq_true rfl) ?_
    rw [h180]
    refine go_icmp_ge_f 72 dX8_wrongLevels_9 (by decide) (n_nle (by omega) (by omega)) ?_
    refine go_iload_n dX8_wrongLevels_12 rfl ?_
    refine go_iconst 1 dX8_wrongLevels_13 (by decide) ?_
    refine go_isub dX8_wrongLevels_14 ?_
    refine go_iconst 2 dX8_wrongLevels_15 (by decide) ?_
    refine go_idiv dX8_wrongLevels_16 (by decide) ?_
    refine go_istore_n dX8_wrongLevels_17 (Nat.le_of_ble_eq_true rfl) rfl ?_
    exact go_sub [(0, .ref p), (1, .int (nI b)), (2, .int (nI j)), (3, .int (gI j))] ⟨rfl, rfl, rfl, congrArg (fun z => some (Value.int z)) (by rw [gI_p (by omega)]; exact a_par (by omega) (by omega)), trivial⟩ (m_wl_18 l hp (by omega) hA KK 30 j b (by omega) (by omega) rfl)
theorem m_wrongLevels (l : Launch) {w : MW} {p : Nat} {A P K T : Nat → Int32} {x : XS} (hp : p + 4 < w.1) {n : Nat} (hn : n ≤ 30) (hA : mI A) (h180 : A 180 = nI n) : Ct l (.code yX8_wrongLevels cX8_wrongLevels 4 (some .int)) yX8_wrongLevels 2 0 0 [.ref p] (mdW w p A P K T x) (.inl (some (.int (nI (brk1 (ltA A) (getL A 1).1 n))))) (mdW w p A P K T x) := by
  refine ct_of (by decide +kernel) (Nat.le_of_ble_eq_true rfl) ?_
  refine go_iconst 0 dX8_wrongLevels_0 (by decide) ?_
  refine go_istore_n dX8_wrongLevels_1 (Nat.le_of_ble_eq_true rfl) rfl ?_
  refine go_iconst 1 dX8_wrongLevels_2 (by decide) ?_
  refine go_istore_n dX8_wrongLevels_3 (Nat.le_of_ble_eq_true rfl) rfl ?_
  exact go_sub [(0, .ref p), (1, .int (nI 0)), (2, .int (nI 1))] ⟨rfl, rfl, rfl, trivial⟩ (m_wl_4 l hp hn hA h180 (max 1 n - 1) 1 0 (by omega) (by omega) rfl)
theorem m_wi_2 (l : Launch) {w : MW} {p : Nat} {A P K T : Nat → Int32} {x : XS} (hp : p + 4 < w.1) {n : Nat} (hn : n ≤ 30) (hA : mI A) (h180 : A 180 = nI n) : ∀ (u i b : Nat), 1 ≤ i → u + i = max 1 n → b = brk2 (ltA A) true (getL A 2).1 i → Go l yX8_wrongIn cX8_wrongIn 4 (some .int) [] none (mm_Z (mm_eq (.inl (some (.int (nI (brk2 (ltA A) true (getL A 2).1 n))))) (mdW w p A P K T x))) 3 0 0 25 [(0, .ref p), (1, .int (nI 2)), (2, .int (nI b)), (3, .int (nI i))] [] (mdW w p A P K T x) := by
  intro u
  induction u with
  | zero =>
    intro i b h1 hu hb
    rw [← brk2_max, show max 1 n = i by omega, ← hb]
    refine go_iload_n dX8_wrongIn_25 rfl ?_
    refine go_aload_n dX8_wrongIn_26 rfl ?_
    refine go_virt1 dX8_wrongIn_27 (m_many l hp) v_X8_95_7 rfl (mdW_ob hp) rfl (Nat.le_of_ble_eq_true rfl) (Nat.le_of_ble_eq_true rfl) (Nat.le_of_ble_eq_true rfl) ?_
    rw [h180]
    refine go_icmp_ge_t 72 dX8_wrongIn_30 (by decide) (nI_le (by omega) (by omega)) ?_
    refine go_iload_n dX8_wrongIn_72 rfl ?_
    exact go_ireturn dX8_wrongIn_73 rfl rfl
  | succ u ih =>
    intro i b h1 hu hb
    refine go_iload_n dX8_wrongIn_25 rfl ?_
    refine go_aload_n dX8_wrongIn_26 rfl ?_
    refine go_virt1 dX8_wrongIn_27 (m_many l hp) v_X8_95_7 rfl (mdW_ob hp) rfl (Nat.le_of_ble_eq_true rfl) (Nat.le_of_ble_eq_true rfl) (Nat.le_of_ble_eq_true rfl) ?_
    rw [h180]
    refine go_icmp_ge_f 72 dX8_wrongIn_30 (by decide) (n_nle (by omega) (by omega)) ?_
    refine go_iload_n dX8_wrongIn_33 rfl ?_
    refine go_iload_n dX8_wrongIn_34 rfl ?_
    refine go_iconst 2 dX8_wrongIn_35 (by decide) ?_
    refine go_icmp_ne_f 53 dX8_wrongIn_36 (by decide) (rfl) ?_
    refine go_aload_n dX8_wrongIn_39 rfl ?_
    refine go_iconst 2 dX8_wrongIn_40 (by decide) ?_
    refine go_iload_n dX8_wrongIn_41 rfl ?_
    refine go_iload_n dX8_wrongIn_42 rfl ?_
    refine go_iconst 1 dX8_wrongIn_43 (by decide) ?_
    refine go_isub dX8_wrongIn_44 ?_
    refine go_iconst 2 dX8_wrongIn_45 (by decide) ?_
    refine go_idiv dX8_wrongIn_46 (by decide) ?_
    rw [a_par (by omega) (by omega)]
    refine go_virt1 dX8_wrongIn_47 (m_wrong l hp (k := 2) (by decide) (a := i) (b := (i - 1) / 2) (by omega) (by omega) hA) v_X8_187_7 rfl (mdW_ob hp) rfl (Nat.le_of_ble_eq_true rfl) (Nat.le_of_ble_eq_true rfl) (Nat.le_of_ble_eq_true rfl) ?_
    refine go_goto 64 dX8_wrongIn_50 (by decide) ?_
    refine go_iadd dX8_wrongIn_64 ?_
    rw [a_bI]
    refine go_istore_n dX8_wrongIn_65 (Nat.le_of_ble_eq_true rfl) rfl ?_
    refine go_iinc dX8_wrongIn_66 rfl (Nat.le_of_ble_eq_true rfl) rfl (show _ = _ + 1 from rfl) ?_
    rw [a_k1]
    refine go_goto 25 dX8_wrongIn_69 (by decide) ?_
    exact go_sub [(0, .ref p), (1, .int (nI 2)), (2, .int (nI (b + bN (ltA A ((getL A 2).1 i) ((getL A 2).1 ((i - 1) / 2)))))), (3, .int (nI (i + 1)))] ⟨rfl, rfl, rfl, rfl, trivial⟩ (ih (i + 1) (b + bN (ltA A ((getL A 2).1 i) ((getL A 2).1 ((i - 1) / 2)))) (by omega) (by omega) (by rw [hb, brk2, if_neg (by omega)]; rfl))
theorem m_wi_3 (l : Launch) {w : MW} {p : Nat} {A P K T : Nat → Int32} {x : XS} (hp : p + 4 < w.1) {n : Nat} (hn : n ≤ 30) (hA : mI A) (h180 : A 180 = nI n) : ∀ (u i b : Nat), 1 ≤ i → u + i = max 1 n → b = brk2 (ltA A) false (getL A 3).1 i → Go l yX8_wrongIn cX8_wrongIn 4 (some .int) [] none (mm_Z (mm_eq (.inl (some (.int (nI (brk2 (ltA A) false (getL A 3).1 n))))) (mdW w p A P K T x))) 3 0 0 25 [(0, .ref p), (1, .int (nI 3)), (2, .int (nI b)), (3, .int (nI i))] [] (mdW w p A P K T x) := by
  intro u
  induction u with
  | zero =>
    intro i b h1 hu hb
    rw [← brk2_max, show max 1 n = i by omega, ← hb]
    refine go_iload_n dX8_wrongIn_25 rfl ?_
    refine go_aload_n dX8_wrongIn_26 rfl ?_
    refine go_virt1 dX8_wrongIn_27 (m_many l hp) v_X8_95_7 rfl (mdW_ob hp) rfl (Nat.le_of_ble_eq_true rfl) (Nat.le_of_ble_eq_true rfl) (Nat.le_of_ble_eq_true rfl) ?_
    rw [h180]
    refine go_icmp_ge_t 72 dX8_wrongIn_30 (by decide) (nI_le (by omega) (by omega)) ?_
    refine go_iload_n dX8_wrongIn_72 rfl ?_
    exact go_ireturn dX8_wrongIn_73 rfl rfl
  | succ u ih =>
    intro i b h1 hu hb
    refine go_iload_n dX8_wrongIn_25 rfl ?_
    refine go_aload_n dX8_wrongIn_26 rfl ?_
    refine go_virt1 dX8_wrongIn_27 (m_many l hp) v_X8_95_7 rfl (mdW_ob hp) rfl (Nat.le_of_ble_eq_true rfl) (Nat.le_of_ble_eq_true rfl) (Nat.le_of_ble_eq_true rfl) ?_
    rw [h180]
    refine go_icmp_ge_f 72 dX8_wrongIn_30 (by decide) (n_nle (by omega) (by omega)) ?_
    refine go_iload_n dX8_wrongIn_33 rfl ?_
    refine go_iload_n dX8_wrongIn_34 rfl ?_
    refine go_iconst 2 dX8_wrongIn_35 (by decide) ?_
    refine go_icmp_ne_t 53 dX8_wrongIn_36 (by decide) (by decide) ?_
    refine go_aload_n dX8_wrongIn_53 rfl ?_
    refine go_iconst 3 dX8_wrongIn_54 (by decide) ?_
    refine go_iload_n dX8_wrongIn_55 rfl ?_
    refine go_iconst 1 dX8_wrongIn_56 (by decide) ?_
    refine go_isub dX8_wrongIn_57 ?_
    refine go_iconst 2 dX8_wrongIn_58 (by decide) ?_
    refine go_idiv dX8_wrongIn_59 (by decide) ?_
    rw [a_par (by omega) (by omega)]
    refine go_iload_n dX8_wrongIn_60 rfl ?_
    refine go_virt1 dX8_wrongIn_61 (m_wrong l hp (k := 3) (by decide) (a := (i - 1) / 2) (b := i) (by omega) (by omega) hA) v_X8_187_7 rfl (mdW_ob hp) rfl (Nat.le_of_ble_eq_true rfl) (Nat.le_of_ble_eq_true rfl) (Nat.le_of_ble_eq_true rfl) ?_
    refine go_iadd dX8_wrongIn_64 ?_
    rw [a_bI]
    refine go_istore_n dX8_wrongIn_65 (Nat.le_of_ble_eq_true rfl) rfl ?_
    refine go_iinc dX8_wrongIn_66 rfl (Nat.le_of_ble_eq_true rfl) rfl (show _ = _ + 1 from rfl) ?_
    rw [a_k1]
    refine go_goto 25 dX8_wrongIn_69 (by decide) ?_
    exact go_sub [(0, .ref p), (1, .int (nI 3)), (2, .int (nI (b + bN (ltA A ((getL A 3).1 ((i - 1) / 2)) ((getL A 3).1 i))))), (3, .int (nI (i + 1)))] ⟨rfl, rfl, rfl, rfl, trivial⟩ (ih (i + 1) (b + bN (ltA A ((getL A 3).1 ((i - 1) / 2)) ((getL A 3).1 i))) (by omega) (by omega) (by rw [hb, brk2, if_neg (by omega)]; rfl))
theorem m_wrongIn (l : Launch) {w : MW} {p : Nat} {A P K T : Nat → Int32} {x : XS} (hp : p + 4 < w.1) {k n : Nat} (hk : k < 4) (hn : n ≤ 30) (hA : mI A) (h180 : A 180 = nI n) : Ct l (.code yX8_wrongIn cX8_wrongIn 4 (some .int)) yX8_wrongIn 3 0 0 [.ref p, .int (nI k)] (mdW w p A P K T x) (.inl (some (.int (nI (brkK (ltA A) k n (getL A k).1))))) (mdW w p A P K T x) := by
  refine ct_of (by decide +kernel) (Nat.le_of_ble_eq_true rfl) ?_
  rcases (show k = 0 ∨ k = 1 ∨ k = 2 ∨ k = 3 by omega) with rfl | rfl | rfl | rfl
  · rw [brkK_0]
    refine go_iload_n dX8_wrongIn_0 rfl ?_
    refine go_iconst 2 dX8_wrongIn_1 (by decide) ?_
    refine go_icmp_ge_f 21 dX8_wrongIn_2 (by decide) (by decide) ?_
    refine go_iload_n dX8_wrongIn_5 rfl ?_
    refine go_if_ne_f 16 dX8_wrongIn_6 (by decide) (rfl) ?_
    refine go_aload_n dX8_wrongIn_9 rfl ?_
    refine go_virt1 dX8_wrongIn_10 (m_wrongNodes l hp hn hA h180) v_X8_190_7 rfl (mdW_ob hp) rfl (Nat.le_of_ble_eq_true rfl) (Nat.le_of_ble_eq_true rfl) (Nat.le_of_ble_eq_true rfl) ?_
    refine go_goto 20 dX8_wrongIn_13 (by decide) ?_
    exact go_ireturn dX8_wrongIn_20 rfl rfl
  · rw [brkK_1]
    refine go_iload_n dX8_wrongIn_0 rfl ?_
    refine go_iconst 2 dX8_wrongIn_1 (by decide) ?_
    refine go_icmp_ge_f 21 dX8_wrongIn_2 (by decide) (by decide) ?_
    refine go_iload_n dX8_wrongIn_5 rfl ?_
    refine go_if_ne_t 16 dX8_wrongIn_6 (by decide) (by decide) ?_
    refine go_aload_n dX8_wrongIn_16 rfl ?_
    refine go_virt1 dX8_wrongIn_17 (m_wrongLevels l hp hn hA h180) v_X8_193_7 rfl (mdW_ob hp) rfl (Nat.le_of_ble_eq_true rfl) (Nat.le_of_ble_eq_true rfl) (Nat.le_of_ble_eq_true rfl) ?_
    exact go_ireturn dX8_wrongIn_20 rfl rfl
  · rw [brkK_2]
    refine go_iload_n dX8_wrongIn_0 rfl ?_
    refine go_iconst 2 dX8_wrongIn_1 (by decide) ?_
    refine go_icmp_ge_t 21 dX8_wrongIn_2 (by decide) (by decide) ?_
    refine go_iconst 0 dX8_wrongIn_21 (by decide) ?_
    refine go_istore_n dX8_wrongIn_22 (Nat.le_of_ble_eq_true rfl) rfl ?_
    refine go_iconst 1 dX8_wrongIn_23 (by decide) ?_
    refine go_istore_n dX8_wrongIn_24 (Nat.le_of_ble_eq_true rfl) rfl ?_
    exact go_sub [(0, .ref p), (1, .int (nI 2)), (2, .int (nI 0)), (3, .int (nI 1))] ⟨rfl, rfl, rfl, rfl, trivial⟩ (m_wi_2 l hp hn hA h180 (max 1 n - 1) 1 0 (by omega) (by omega) rfl)
  · rw [brkK_3]
    refine go_iload_n dX8_wrongIn_0 rfl ?_
    refine go_iconst 2 dX8_wrongIn_1 (by decide) ?_
    refine go_icmp_ge_t 21 dX8_wrongIn_2 (by decide) (by decide) ?_
    refine go_iconst 0 dX8_wrongIn_21 (by decide) ?_
    refine go_istore_n dX8_wrongIn_22 (Nat.le_of_ble_eq_true rfl) rfl ?_
    refine go_iconst 1 dX8_wrongIn_23 (by decide) ?_
    refine go_istore_n dX8_wrongIn_24 (Nat.le_of_ble_eq_true rfl) rfl ?_
    exact go_sub [(0, .ref p), (1, .int (nI 3)), (2, .int (nI 0)), (3, .int (nI 1))] ⟨rfl, rfl, rfl, rfl, trivial⟩ (m_wi_3 l hp hn hA h180 (max 1 n - 1) 1 0 (by omega) (by omega) rfl)

theorem m_abv_10 (l : Launch) {w : MW} {p : Nat} {A P K T : Nat → Int32} {x : XS} (hp : p + 4 < w.1) {k : Nat} (hk : k < 4) : ∀ (u i : Nat) (a r : Int32), i ≤ u → i < 30 → r = abA (getL A k).1 u i a → Go l yX8_above cX8_above 5 (some .int) [] none (mm_Z (mm_eq (.inl (some (.int r))) (mdW w p A P K T x))) 2 0 0 10 [(0, .ref p), (1, .int (nI k)), (3, .int a), (4, .int (nI i))] [] (mdW w p A P K T x) := by
  intro u
  induction u with
  | zero =>
    intro i a r hu hi hr
    rw [hr, abA]
    refine go_iload dX8_above_10 rfl ?_
    refine go_if_le_t 38 dX8_above_12 (by decide) (by rw [show i = 0 by omega]; decide) ?_
    refine go_iload_n dX8_above_38 rfl ?_
    exact go_ireturn dX8_above_39 rfl rfl
  | succ u ih =>
    intro i a r hu hi hr
    by_cases e0 : i = 0
    · rw [hr, abA, if_pos e0]
      refine go_iload dX8_above_10 rfl ?_
      refine go_if_le_t 38 dX8_above_12 (by decide) (by rw [e0]; decide) ?_
      refine go_iload_n dX8_above_38 rfl ?_
      exact go_ireturn dX8_above_39 rfl rfl
    · skip
      refine go_iload dX8_above_10 rfl ?_
      refine go_if_le_f 38 dX8_above_12 (by decide) (n_le0 (by omega) (by omega)) ?_
      refine go_iload dX8_above_15 rfl ?_
      refine go_iconst 1 dX8_above_17 (by decide) ?_
      refine go_isub dX8_above_18 ?_
      refine go_iconst 2 dX8_above_19 (by decide) ?_
      refine go_idiv dX8_above_20 (by decide) ?_
      rw [a_par (by omega) (by omega)]
      refine go_istore dX8_above_21 (Nat.le_of_ble_eq_true rfl) rfl ?_
      refine go_iload_n dX8_above_23 rfl ?_
      refine go_iconst 1 dX8_above_24 (by decide) ?_
      refine go_aload_n dX8_above_25 rfl ?_
      refine go_iload_n dX8_above_26 rfl ?_
      refine go_iload dX8_above_27 rfl ?_
      refine go_virt1 dX8_above_29 (m_item l hp hk (i := (i - 1) / 2) (by omega)) v_X8_37_7 rfl (mdW_ob hp) rfl (Nat.le_of_ble_eq_true rfl) (Nat.le_of_ble_eq_true rfl) (Nat.le_of_ble_eq_true rfl) ?_
      refine go_ishl dX8_above_32 ?_
      refine go_ior dX8_above_33 ?_
      refine go_istore_n dX8_above_34 (Nat.le_of_ble_eq_true rfl) rfl ?_
      refine go_goto 10 dX8_above_35 (by decide) ?_
      exact go_sub [(0, .ref p), (1, .int (nI k)), (3, .int (a ||| (1 <<< ((getL A k).1 ((i - 1) / 2) &&& 31)))), (4, .int (nI ((i - 1) / 2)))] ⟨rfl, rfl, rfl, rfl, trivial⟩ (ih ((i - 1) / 2) (a ||| (1 <<< ((getL A k).1 ((i - 1) / 2) &&& 31))) r (by omega) (by omega) (by rw [hr, abA, if_neg e0]))
theorem m_above (l : Launch) {w : MW} {p : Nat} {A P K T : Nat → Int32} {x : XS} (hp : p + 4 < w.1) {k n : Nat} (hk : k < 4) {h : Int32} (hn : n ≤ 30) (hf : fndH (getL A k).1 n h < n) : Ct l (.code yX8_above cX8_above 5 (some .int)) yX8_above 2 0 0 [.ref p, .int (nI k), .int h] (mdW w p A P K T x) (.inl (some (.int (abA (getL A k).1 30 (fndH (getL A k).1 n h) 0)))) (mdW w p A P K T x) := by
  refine ct_of (by decide +kernel) (Nat.le_of_ble_eq_true rfl) ?_
  refine go_iconst 0 dX8_above_0 (by decide) ?_
  refine go_istore_n dX8_above_1 (Nat.le_of_ble_eq_true rfl) rfl ?_
  refine go_aload_n dX8_above_2 rfl ?_
  refine go_iload_n dX8_above_3 rfl ?_
  refine go_iload_n dX8_above_4 rfl ?_
  refine go_virt1 dX8_above_5 (ct_w (m_placeOf l hp hk (s := getL A k) hn hf) (by rw [getL_set hk]) (by rw [getL_set hk]) rfl) v_X8_117_7 rfl (mdW_ob hp) rfl (Nat.le_of_ble_eq_true rfl) (Nat.le_of_ble_eq_true rfl) (Nat.le_of_ble_eq_true rfl) ?_
  refine go_istore dX8_above_8 (Nat.le_of_ble_eq_true rfl) rfl ?_
  exact go_sub [(0, .ref p), (1, .int (nI k)), (3, .int 0), (4, .int (nI (fndH (getL A k).1 n h)))] ⟨rfl, rfl, rfl, rfl, trivial⟩ (m_abv_10 l hp hk 30 (fndH (getL A k).1 n h) 0 _ (by omega) (by omega) rfl)
theorem m_sav_51 (l : Launch) {w : MW} {p : Nat} {A P K T : Nat → Int32} {y : Int32 × Int32 × Int32 × Int32 × Int32 × Int64} (hp : p + 4 < w.1) {sv : Nat} (hs : sv ≤ 4) : ∀ (u k : Nat), u + k = 184 → Go l yX8_saves cX8_saves 2 none [] none (mm_Z (mm_eq (.inl none) (mdW w p A (cpyF A P 0 (184 * sv) 184) K T (nI (sv + 1), y)))) 0 0 0 51 [(0, .ref p), (1, .int (nI k))] [] (mdW w p A (cpyF A P 0 (184 * sv) k) K T (nI sv, y)) := by
  intro u
  induction u with
  | zero =>
    intro k hu
    have ek : k = 184 := by omega
    subst ek
    refine go_iload_n dX8_saves_51 rfl ?_
    refine go_sipush 184 dX8_saves_52 (by decide) ?_
    refine go_icmp_ge_t 85 dX8_saves_55 (by decide) (by decide) ?_
    refine go_aload_n dX8_saves_85 rfl ?_
    refine go_dup dX8_saves_86 rfl ?_
    refine go_getfield dX8_saves_87 f_X8_26_7 (mdW_ob hp) rfl ?_
    refine go_iconst 1 dX8_saves_90 (by decide) ?_
    refine go_iadd dX8_saves_91 ?_
    refine go_top (.int (nI (sv + 1))) (congrArg Value.int (nI_1 sv)) ?_
    refine go_putfield dX8_saves_92 p_X8_26_7 (mdW_ob hp) (Nat.le_of_ble_eq_true rfl) (fun _ => ⟨rfl, rfl⟩) (fun _ z => nomatch z) ?_
    refine go_w _ (mdW_uX (nI (sv + 1), y)) ?_
    exact go_return dX8_saves_95 rfl
  | succ u ih =>
    intro k hu
    refine go_iload_n dX8_saves_51 rfl ?_
    refine go_sipush 184 dX8_saves_52 (by decide) ?_
    refine go_icmp_ge_f 85 dX8_saves_55 (by decide) (n_nle (a := 184) (by omega) (by decide)) ?_
    refine go_aload_n dX8_saves_58 rfl ?_
    refine go_getfield dX8_saves_59 f_X8_13_7 (mdW_ob hp) rfl ?_
    refine go_sipush 184 dX8_saves_62 (by decide) ?_
    refine go_aload_n dX8_saves_65 rfl ?_
    refine go_getfield dX8_saves_66 f_X8_26_7 (mdW_ob hp) rfl ?_
    refine go_imul dX8_saves_69 ?_
    refine go_top (.int (nI (184 * sv))) (congrArg Value.int (pk_mul 184 sv)) ?_
    refine go_iload_n dX8_saves_70 rfl ?_
    refine go_iadd dX8_saves_71 ?_
    refine go_top (.int (nI (184 * sv + k))) (congrArg Value.int (nI_add (184 * sv) k)) ?_
    refine go_aload_n dX8_saves_72 rfl ?_
    refine go_getfield dX8_saves_73 f_X8_7_7 (mdW_ob hp) rfl ?_
    refine go_iload_n dX8_saves_76 rfl ?_
    refine go_iaload (k) dX8_saves_77 (mdW_A hp) rfl (by omega) (by decide) ?_
    refine go_iastore (184 * sv + k) dX8_saves_78 (mdW_P hp) rfl (by omega) (by decide) ?_
    refine go_w _ ((mdW_uP _).trans (by rw [cpyF_s0])) ?_
    refine go_iinc dX8_saves_79 rfl (Nat.le_of_ble_eq_true rfl) rfl (show _ = _ + 1 from rfl) ?_
    rw [a_k1]
    refine go_goto 51 dX8_saves_82 (by decide) ?_
    exact go_sub [(0, .ref p), (1, .int (nI (k + 1)))] ⟨rfl, rfl, trivial⟩ (ih (k + 1) (by omega))
theorem m_sav_10 (l : Launch) {w : MW} {p : Nat} {A P K T : Nat → Int32} {y : Int32 × Int32 × Int32 × Int32 × Int32 × Int64} (hp : p + 4 < w.1) : ∀ (u k : Nat), u + k = 736 → Go l yX8_saves cX8_saves 2 none [] none (mm_Z (mm_eq (.inl none) (mdW w p A (cpyF A (cpyF P P 184 0 736) 0 (184 * 4) 184) K T (nI 5, y)))) 0 0 0 10 [(0, .ref p), (1, .int (nI k))] [] (mdW w p A (cpyF P P 184 0 k) K T (nI 5, y)) := by
  intro u
  induction u with
  | zero =>
    intro k hu
    have ek : k = 736 := by omega
    subst ek
    refine go_iload_n dX8_saves_10 rfl ?_
    refine go_sipush 736 dX8_saves_11 (by decide) ?_
    refine go_icmp_ge_t 39 dX8_saves_14 (by decide) (by decide) ?_
    refine go_aload_n dX8_saves_39 rfl ?_
    refine go_dup dX8_saves_40 rfl ?_
    refine go_getfield dX8_saves_41 f_X8_26_7 (mdW_ob hp) rfl ?_
    refine go_iconst 1 dX8_saves_44 (by decide) ?_
    refine go_isub dX8_saves_45 ?_
    refine go_top (.int (nI 4)) (congrArg Value.int (show nI 5 - 1 = nI 4 from by decide)) ?_
    refine go_putfield dX8_saves_46 p_X8_26_7 (mdW_ob hp) (Nat.le_of_ble_eq_true rfl) (fun _ => ⟨rfl, rfl⟩) (fun _ z => nomatch z) ?_
    refine go_w _ (mdW_uX (nI 4, y)) ?_
    refine go_iconst 0 dX8_saves_49 (by decide) ?_
    refine go_istore_n dX8_saves_50 (Nat.le_of_ble_eq_true rfl) rfl ?_
    exact go_sub [(0, .ref p), (1, .int (nI 0))] ⟨rfl, rfl, trivial⟩ (go_w (mdW w p A (cpyF A (cpyF P P 184 0 736) 0 (184 * 4) 0) K T (nI 4, y)) (by rw [cpyF_0]) (m_sav_51 l hp (sv := 4) (by decide) 184 0 rfl))
  | succ u ih =>
    intro k hu
    refine go_iload_n dX8_saves_10 rfl ?_
    refine go_sipush 736 dX8_saves_11 (by decide) ?_
    refine go_icmp_ge_f 39 dX8_saves_14 (by decide) (n_nle (a := 736) (by omega) (by decide)) ?_
    refine go_aload_n dX8_saves_17 rfl ?_
    refine go_getfield dX8_saves_18 f_X8_13_7 (mdW_ob hp) rfl ?_
    refine go_iload_n dX8_saves_21 rfl ?_
    refine go_aload_n dX8_saves_22 rfl ?_
    refine go_getfield dX8_saves_23 f_X8_13_7 (mdW_ob hp) rfl ?_
    refine go_iload_n dX8_saves_26 rfl ?_
    refine go_sipush 184 dX8_saves_27 (by decide) ?_
    refine go_iadd dX8_saves_30 ?_
    rw [show nI k + (184 : Int32) = nI (k + 184) from nI_add k 184]
    refine go_iaload (k + 184) dX8_saves_31 (mdW_P hp) rfl (by omega) (by decide) ?_
    rw [cpyF_o (by omega), Nat.add_comm k 184]
    refine go_iastore k dX8_saves_32 (mdW_P hp) rfl (by omega) (by decide) ?_
    refine go_w _ ((mdW_uP _).trans (by rw [cpyF_sd])) ?_
    refine go_iinc dX8_saves_33 rfl (Nat.le_of_ble_eq_true rfl) rfl (show _ = _ + 1 from rfl) ?_
    rw [a_k1]
    refine go_goto 10 dX8_saves_36 (by decide) ?_
    exact go_sub [(0, .ref p), (1, .int (nI (k + 1)))] ⟨rfl, rfl, trivial⟩ (ih (k + 1) (by omega))
theorem m_saves (l : Launch) {w : MW} {p : Nat} {A P K T : Nat → Int32} {y : Int32 × Int32 × Int32 × Int32 × Int32 × Int64} (hp : p + 4 < w.1) {sv : Nat} (hs : sv ≤ 5) : Ct l (.code yX8_saves cX8_saves 2 none) yX8_saves 0 0 0 [.ref p] (mdW w p A P K T (nI sv, y)) (.inl none) (mdW w p A (svP A P sv) K T (nI (min (sv + 1) 5), y)) := by
  refine ct_of (by decide +kernel) (Nat.le_of_ble_eq_true rfl) ?_
  by_cases e : sv = 5
  · subst e
    rw [svP, if_pos rfl]
    refine go_aload_n dX8_saves_0 rfl ?_
    refine go_getfield dX8_saves_1 f_X8_26_7 (mdW_ob hp) rfl ?_
    refine go_iconst 5 dX8_saves_4 (by decide) ?_
    refine go_icmp_ne_f 49 dX8_saves_5 (by decide) (rfl) ?_
    refine go_iconst 0 dX8_saves_8 (by decide) ?_
    refine go_istore_n dX8_saves_9 (Nat.le_of_ble_eq_true rfl) rfl ?_
    exact go_sub [(0, .ref p), (1, .int (nI 0))] ⟨rfl, rfl, trivial⟩ (go_w (mdW w p A (cpyF P P 184 0 0) K T (nI 5, y)) (by rw [cpyF_0]) (m_sav_10 l hp 736 0 rfl))
  · rw [svP, if_neg e, show min (sv + 1) 5 = sv + 1 by omega]
    refine go_aload_n dX8_saves_0 rfl ?_
    refine go_getfield dX8_saves_1 f_X8_26_7 (mdW_ob hp) rfl ?_
    refine go_iconst 5 dX8_saves_4 (by decide) ?_
    refine go_icmp_ne_t 49 dX8_saves_5 (by decide) (n_ne (b := 5) e (by omega) (by decide)) ?_
    refine go_iconst 0 dX8_saves_49 (by decide) ?_
    refine go_istore_n dX8_saves_50 (Nat.le_of_ble_eq_true rfl) rfl ?_
    exact go_sub [(0, .ref p), (1, .int (nI 0))] ⟨rfl, rfl, trivial⟩ (go_w (mdW w p A (cpyF A P 0 (184 * sv) 0) K T (nI sv, y)) (by rw [cpyF_0]) (m_sav_51 l hp (sv := sv) (by omega) 184 0 rfl))
theorem m_keeps_2 (l : Launch) {w : MW} {p : Nat} {A P K T : Nat → Int32} {x : XS} (hp : p + 4 < w.1) : ∀ (u k : Nat), u + k = 184 → Go l yX8_keeps cX8_keeps 2 none [] none (mm_Z (mm_eq (.inl none) (mdW w p A P (cpyF A K 0 0 184) T x))) 0 0 0 2 [(0, .ref p), (1, .int (nI k))] [] (mdW w p A P (cpyF A K 0 0 k) T x) := by
  intro u
  induction u with
  | zero =>
    intro k hu
    have ek : k = 184 := by omega
    subst ek
    refine go_iload_n dX8_keeps_2 rfl ?_
    refine go_sipush 184 dX8_keeps_3 (by decide) ?_
    refine go_icmp_ge_t 27 dX8_keeps_6 (by decide) (by decide) ?_
    exact go_return dX8_keeps_27 rfl
  | succ u ih =>
    intro k hu
    refine go_iload_n dX8_keeps_2 rfl ?_
    refine go_sipush 184 dX8_keeps_3 (by decide) ?_
    refine go_icmp_ge_f 27 dX8_keeps_6 (by decide) (n_nle (a := 184) (by omega) (by decide)) ?_
    refine go_aload_n dX8_keeps_9 rfl ?_
    refine go_getfield dX8_keeps_10 f_X8_16_7 (mdW_ob hp) rfl ?_
    refine go_iload_n dX8_keeps_13 rfl ?_
    refine go_aload_n dX8_keeps_14 rfl ?_
    refine go_getfield dX8_keeps_15 f_X8_7_7 (mdW_ob hp) rfl ?_
    refine go_iload_n dX8_keeps_18 rfl ?_
    refine go_iaload (k) dX8_keeps_19 (mdW_A hp) rfl (by omega) (by decide) ?_
    refine go_iastore k dX8_keeps_20 (mdW_K hp) rfl (by omega) (by decide) ?_
    refine go_w _ ((mdW_uK _).trans (by rw [cpyF_00])) ?_
    refine go_iinc dX8_keeps_21 rfl (Nat.le_of_ble_eq_true rfl) rfl (show _ = _ + 1 from rfl) ?_
    rw [a_k1]
    refine go_goto 2 dX8_keeps_24 (by decide) ?_
    exact go_sub [(0, .ref p), (1, .int (nI (k + 1)))] ⟨rfl, rfl, trivial⟩ (ih (k + 1) (by omega))
theorem m_keeps (l : Launch) {w : MW} {p : Nat} {A P K T : Nat → Int32} {x : XS} (hp : p + 4 < w.1) : Ct l (.code yX8_keeps cX8_keeps 2 none) yX8_keeps 0 0 0 [.ref p] (mdW w p A P K T x) (.inl none) (mdW w p A P (cpyF A K 0 0 184) T x) := by
  refine ct_of (by decide +kernel) (Nat.le_of_ble_eq_true rfl) ?_
  refine go_iconst 0 dX8_keeps_0 (by decide) ?_
  refine go_istore_n dX8_keeps_1 (Nat.le_of_ble_eq_true rfl) rfl ?_
  exact go_sub [(0, .ref p), (1, .int (nI 0))] ⟨rfl, rfl, trivial⟩ (go_w (mdW w p A P (cpyF A K 0 0 0) T x) (by rw [cpyF_0]) (m_keeps_2 l hp 184 0 rfl))
theorem m_returns_2 (l : Launch) {w : MW} {p : Nat} {A P K T : Nat → Int32} {x : XS} (hp : p + 4 < w.1) : ∀ (u k : Nat), u + k = 184 → Go l yX8_returns cX8_returns 2 none [] none (mm_Z (mm_eq (.inl none) (mdW w p (cpyF K A 0 0 184) P K T x))) 0 0 0 2 [(0, .ref p), (1, .int (nI k))] [] (mdW w p (cpyF K A 0 0 k) P K T x) := by
  intro u
  induction u with
  | zero =>
    intro k hu
    have ek : k = 184 := by omega
    subst ek
    refine go_iload_n dX8_returns_2 rfl ?_
    refine go_sipush 184 dX8_returns_3 (by decide) ?_
    refine go_icmp_ge_t 27 dX8_returns_6 (by decide) (by decide) ?_
    exact go_return dX8_returns_27 rfl
  | succ u ih =>
    intro k hu
    refine go_iload_n dX8_returns_2 rfl ?_
    refine go_sipush 184 dX8_returns_3 (by decide) ?_
    refine go_icmp_ge_f 27 dX8_returns_6 (by decide) (n_nle (a := 184) (by omega) (by decide)) ?_
    refine go_aload_n dX8_returns_9 rfl ?_
    refine go_getfield dX8_returns_10 f_X8_7_7 (mdW_ob hp) rfl ?_
    refine go_iload_n dX8_returns_13 rfl ?_
    refine go_aload_n dX8_returns_14 rfl ?_
    refine go_getfield dX8_returns_15 f_X8_16_7 (mdW_ob hp) rfl ?_
    refine go_iload_n dX8_returns_18 rfl ?_
    refine go_iaload (k) dX8_returns_19 (mdW_K hp) rfl (by omega) (by decide) ?_
    refine go_iastore k dX8_returns_20 (mdW_A hp) rfl (by omega) (by decide) ?_
    refine go_w _ ((mdW_uA _).trans (by rw [cpyF_00])) ?_
    refine go_iinc dX8_returns_21 rfl (Nat.le_of_ble_eq_true rfl) rfl (show _ = _ + 1 from rfl) ?_
    rw [a_k1]
    refine go_goto 2 dX8_returns_24 (by decide) ?_
    exact go_sub [(0, .ref p), (1, .int (nI (k + 1)))] ⟨rfl, rfl, trivial⟩ (ih (k + 1) (by omega))
theorem m_returns (l : Launch) {w : MW} {p : Nat} {A P K T : Nat → Int32} {x : XS} (hp : p + 4 < w.1) : Ct l (.code yX8_returns cX8_returns 2 none) yX8_returns 0 0 0 [.ref p] (mdW w p A P K T x) (.inl none) (mdW w p (cpyF K A 0 0 184) P K T x) := by
  refine ct_of (by decide +kernel) (Nat.le_of_ble_eq_true rfl) ?_
  refine go_iconst 0 dX8_returns_0 (by decide) ?_
  refine go_istore_n dX8_returns_1 (Nat.le_of_ble_eq_true rfl) rfl ?_
  exact go_sub [(0, .ref p), (1, .int (nI 0))] ⟨rfl, rfl, trivial⟩ (go_w (mdW w p (cpyF K A 0 0 0) P K T x) (by rw [cpyF_0]) (m_returns_2 l hp 184 0 rfl))
