def lcg (x : Int64) : Int64 := 1103515245 * x + 12345 - (1103515245 * x + 12345) / 2147483648 * 2147483648
def lcgK (x : Int64) : Int32 := (x / 65536 - x / 65536 / 200 * 200).toInt32 - 100
def putQ (ky : Int32) (Q : QU) : QU := mapU (opPut ky (nI (freeN Q))) Q 4
def fillS : Nat → Int64 → QU → QU
  | 0, _, Q => Q
  | u + 1, x, Q => fillS u (lcg x) (putQ (lcgK (lcg x)) Q)
theorem putQ_n {ky : Int32} {Q : QU} {k : Nat} (hk : k < 4) : (putQ ky Q k).1 = (Q k).1 + 1 := by
  simp only [putQ, mapU, if_pos hk, opPut]
def takU (k : Nat) (U : QU) : QU := takeOf (lstV U k) k U
def sortU (k : Nat) : Nat → QU → QU
  | 0, U => U
  | u + 1, U => sortU k u (takU k U)
def takOK (k : Nat) (U : QU) : Prop := (∀ j, j < 4 → (U j).1 ≤ 30) ∧ (∀ j, j < 4 → j = k → fndN (U j).2.1 (U j).1 (lstV U k) < (U j).1) ∧ (k = 2 → fndN (U 3).2.1 (U 3).1 (lstV U k) < (U 3).1)
def sortOK (k : Nat) : Nat → QU → Prop
  | 0, _ => True
  | u + 1, U => takOK k U ∧ sortOK k u (takU k U)
def runS (t : Nat → Nat) (ln : Nat) : Nat → QU → PS → Nat → Nat × QU × PS
  | 0, Q, s, b => (b, Q, s)
  | u + 1, Q, s, b => if (rdCmd t ln s).1 = true then runS t ln u (crySt Q (rdCmd t ln s).2.2.2.1.toNatClampNeg (rdCmd t ln s).2.2.2.2.1 (rdCmd t ln s).2.2.2.2.2) (rdCmd t ln s).2 (if posB Q (rdCmd t ln s).2.2.2.1.toNatClampNeg (rdCmd t ln s).2.2.2.2.1 (rdCmd t ln s).2.2.2.2.2 = true then b + 1 else b) else (b, Q, (rdCmd t ln s).2)
def kyS (Q : QU) : Nat → Nat → Int64 → Int64
  | 0, _, h => h
  | u + 1, i, h => kyS Q u (i + 1) (if hasB Q (nI i) = true then 31 * h + (keyV Q (nI i)).toInt64 else h)
def roS (f : Nat → Int32) : Nat → Nat → Int64 → Int64
  | 0, _, h => h
  | u + 1, i, h => roS f u (i + 1) (31 * h + (hs (f i)).toInt64)
def laS (Q : QU) : Nat → Nat → Int64 → Int64
  | 0, _, h => h
  | u + 1, k, h => laS Q u (k + 1) (31 * roS (Q k).2.1 (Q 0).1 0 h + (nI (brkV Q k)).toInt64)
def cnS (Q : QU) : Nat → Nat → Int64 → Int64
  | 0, _, h => h
  | u + 1, k, h => cnS Q u (k + 1) (31 * h + (cntV Q k).toInt64)
def sumT (Q : QU) (ln kp : Nat) : Int64 := 31 * (31 * cnS Q 3 0 (laS Q 4 0 (kyS Q 30 0 (31 * (576631 + (nI (Q 0).1).toInt64) + (setS (Q 0).2.1 (Q 0).1 0 0).toInt64))) + (nI ln).toInt64) + (nI kp).toInt64
theorem nI_m1 (u : Nat) : nI (u + 1) + -1 = nI u := by rw [← nI_pred u]; exact (Int32.sub_eq_add_neg _ _).symm
theorem c_fill_66 (l : Launch) {w : MW} {U : QU} {H : HS} {t : Nat → Nat} {ln : Nat} {s : PS} (hw : 74 ≤ w.1) {P : QU → Prop} (hP : ∀ Q, P Q → qI Q) (hS : ∀ (x : Int64) Q, P Q → (Q 0).1 < 30 → P (putQ (lcgK x) Q)) {c : Nat} {z : Int32} (hc : c ≤ 30) : ∀ (u i : Nat) (x : Int64) (Q : QU), u + i = c → P Q → (Q 0).1 + u ≤ 30 → Go l yX7_fill cX7_fill 6 (some .int) [] none (mm_Z (mm_eq (.inl (some (.int (nI (fillS u x Q 0).1)))) (tqW w (fillS u x Q) U H t ln s))) 6 0 0 66 [(0, .ref 0), (1, .int (nI c)), (2, .int z), (3, .long x), (5, .int (nI i))] [] (tqW w Q U H t ln s) := by
  intro u
  induction u with
  | zero =>
    intro i x Q hi pq hn
    rw [fillS]
    refine go_iload dX7_fill_66 rfl ?_
    refine go_iload_n dX7_fill_68 rfl ?_
    refine go_icmp_ge_t 113 dX7_fill_69 (by decide) (nI_le (by omega) (by omega)) ?_
    refine go_aload_n dX7_fill_113 rfl ?_
    refine go_getfield dX7_fill_114 f_X7_10_6 (tq_ob hw) rfl ?_
    refine go_virt1 dX7_fill_117 (tq_1 (c_itemCount l (by show 1 + 8 < w.1; omega))) v_X7_37_4 rfl (tq_ob1 hw) rfl (Nat.le_of_ble_eq_true rfl) (Nat.le_of_ble_eq_true rfl) (Nat.le_of_ble_eq_true rfl) ?_
    exact go_ireturn dX7_fill_120 rfl rfl
  | succ u ih =>
    intro i x Q hi pq hn
    rw [fillS]
    refine go_iload dX7_fill_66 rfl ?_
    refine go_iload_n dX7_fill_68 rfl ?_
    refine go_icmp_ge_f 113 dX7_fill_69 (by decide) (n_nle (by omega) (by omega)) ?_
    refine go_ldc2 dX7_fill_72 kd_X7_101 ?_
    refine go_lload_n dX7_fill_75 rfl ?_
    refine go_lmul dX7_fill_76 ?_
    refine go_ldc2 dX7_fill_77 kd_X7_103 ?_
    refine go_ladd dX7_fill_80 ?_
    refine go_ldc2 dX7_fill_81 kd_X7_105 ?_
    refine go_lrem dX7_fill_84 (by decide) ?_
    refine go_lstore_n dX7_fill_85 (Nat.le_of_ble_eq_true rfl) rfl rfl ?_
    refine go_aload_n dX7_fill_86 rfl ?_
    refine go_getfield dX7_fill_87 f_X7_10_6 (tq_ob hw) rfl ?_
    refine go_lload_n dX7_fill_90 rfl ?_
    refine go_ldc2 dX7_fill_91 kd_X7_107 ?_
    refine go_ldiv dX7_fill_94 (by decide) ?_
    refine go_ldc2 dX7_fill_95 kd_X7_109 ?_
    refine go_lrem dX7_fill_98 (by decide) ?_
    refine go_l2i dX7_fill_99 ?_
    refine go_bipush 100 dX7_fill_100 (by decide) ?_
    refine go_isub dX7_fill_102 ?_
    refine go_virt1 dX7_fill_103 (tq_1 (c_qputIn l (by show 1 + 8 < w.1; omega) (fun k z => by rw [(hP Q pq).1 k z]; omega))) v_X7_52_4 rfl (tq_ob1 hw) rfl (Nat.le_of_ble_eq_true rfl) (Nat.le_of_ble_eq_true rfl) (Nat.le_of_ble_eq_true rfl) ?_
    refine go_pop dX7_fill_106 rfl ?_
    refine go_iinc dX7_fill_107 rfl (Nat.le_of_ble_eq_true rfl) rfl (show _ = _ + 1 from rfl) ?_
    rw [a_k1]
    refine go_goto 66 dX7_fill_110 (by decide) ?_
    exact go_sub [(0, .ref 0), (1, .int (nI c)), (2, .int z), (3, .long (lcg x)), (5, .int (nI (i + 1)))] ⟨rfl, rfl, rfl, rfl, rfl, trivial⟩ (ih (i + 1) (lcg x) (putQ (lcgK (lcg x)) Q) (by omega) (hS _ _ pq (by omega)) (by rw [putQ_n (by decide)]; omega))
theorem c_fill_y (l : Launch) {w : MW} {Q U : QU} {H : HS} {t : Nat → Nat} {ln : Nat} {s : PS} (hw : 74 ≤ w.1) (hI : qI Q) (hx : H.2.1 < 5) (hk : H.2.2 ≤ 5) {P : QU → Prop} (hP : ∀ Q, P Q → qI Q) (hS : ∀ (x : Int64) Q, P Q → (Q 0).1 < 30 → P (putQ (lcgK x) Q)) (pq : P Q) {c : Nat} (h1 : 1 ≤ c) (h2 : c ≤ 30) (h3 : (Q 0).1 + c ≤ 30) {z : Int32} (hz : 0 ≤ z) : Ct l (.code yX7_fill cX7_fill 6 (some .int)) yX7_fill 6 0 0 [.ref 0, .int (nI c), .int z] (tqW w Q U H t ln s) (.inl (some (.int (nI (fillS c z.toInt64 Q 0).1)))) (tqW w (fillS c z.toInt64 Q) U (keepH Q H) t ln s) := by
  refine ct_of (by decide +kernel) (Nat.le_of_ble_eq_true rfl) ?_
  refine go_iload_n dX7_fill_0 rfl ?_
  refine go_iconst 1 dX7_fill_1 (by decide) ?_
  refine go_icmp_lt_f 15 dX7_fill_2 (by decide) (nI_nlt (b := 1) h1 (by omega)) ?_
  refine go_iload_n dX7_fill_5 rfl ?_
  refine go_bipush 30 dX7_fill_6 (by decide) ?_
  refine go_icmp_gt_f 15 dX7_fill_8 (by decide) (nI_nlt (a := 30) h2 (by decide)) ?_
  refine go_iload_n dX7_fill_11 rfl ?_
  refine go_if_ge_t 25 dX7_fill_12 (by decide) (hz) ?_
  refine go_iload_n dX7_fill_25 rfl ?_
  refine go_bipush 30 dX7_fill_26 (by decide) ?_
  refine go_aload_n dX7_fill_28 rfl ?_
  refine go_getfield dX7_fill_29 f_X7_10_6 (tq_ob hw) rfl ?_
  refine go_virt1 dX7_fill_32 (tq_1 (c_itemCount l (by show 1 + 8 < w.1; omega))) v_X7_37_4 rfl (tq_ob1 hw) rfl (Nat.le_of_ble_eq_true rfl) (Nat.le_of_ble_eq_true rfl) (Nat.le_of_ble_eq_true rfl) ?_
  refine go_isub dX7_fill_35 ?_
  rw [show 30 - nI (Q 0).1 = nI (30 - (Q 0).1) from pk_sub (a := 30) (by omega)]
  refine go_icmp_le_t 49 dX7_fill_36 (by decide) (nI_le (by omega) (by omega)) ?_
  refine go_aload_n dX7_fill_49 rfl ?_
  refine go_getfield dX7_fill_50 f_X7_22_6 (tq_ob hw) rfl ?_
  refine go_aload_n dX7_fill_53 rfl ?_
  refine go_getfield dX7_fill_54 f_X7_10_6 (tq_ob hw) rfl ?_
  refine go_virt0 dX7_fill_57 (c_keep l hw hx hk) v_X7_48_1 rfl (tq_obh hw) rfl (Nat.le_of_ble_eq_true rfl) (Nat.le_of_ble_eq_true rfl) (Nat.le_of_ble_eq_true rfl) ?_
  refine go_iload_n dX7_fill_60 rfl ?_
  refine go_i2l dX7_fill_61 ?_
  refine go_lstore_n dX7_fill_62 (Nat.le_of_ble_eq_true rfl) rfl rfl ?_
  refine go_iconst 0 dX7_fill_63 (by decide) ?_
  refine go_istore dX7_fill_64 (Nat.le_of_ble_eq_true rfl) rfl ?_
  exact go_sub [(0, .ref 0), (1, .int (nI c)), (2, .int z), (3, .long z.toInt64), (5, .int (nI 0))] ⟨rfl, rfl, rfl, rfl, rfl, trivial⟩ (c_fill_66 l hw hP hS h2 c 0 z.toInt64 Q (by omega) pq h3)
theorem c_fill_n1 (l : Launch) {w : MW} {Q U : QU} {H : HS} {t : Nat → Nat} {ln : Nat} {s : PS} (hw : 74 ≤ w.1) {x z : Int32} (h : x < 1 ∨ 30 < x ∨ z < 0) : Ct l (.code yX7_fill cX7_fill 6 (some .int)) yX7_fill 6 1 6 [.ref 0, .int x, .int z] (tqW w Q U H t ln s) (.inr "java/lang/IllegalArgumentException") (tqW w Q U H t ln s) := by
  refine ct_of (by decide +kernel) (Nat.le_of_ble_eq_true rfl) ?_
  by_cases h0 : x < 1
  · skip
    refine go_iload_n dX7_fill_0 rfl ?_
    refine go_iconst 1 dX7_fill_1 (by decide) ?_
    refine go_icmp_lt_t 15 dX7_fill_2 (by decide) (h0) ?_
    exact go_throw (bc := 0) (bs := 0) t_X7_96 dX7_fill_15 dX7_fill_18 dX7_fill_19 dX7_fill_21 dX7_fill_24 (Nat.le_of_ble_eq_true rfl)
  · by_cases h9 : 30 < x
    · skip
      refine go_iload_n dX7_fill_0 rfl ?_
      refine go_iconst 1 dX7_fill_1 (by decide) ?_
      refine go_icmp_lt_f 15 dX7_fill_2 (by decide) (h0) ?_
      refine go_iload_n dX7_fill_5 rfl ?_
      refine go_bipush 30 dX7_fill_6 (by decide) ?_
      refine go_icmp_gt_t 15 dX7_fill_8 (by decide) (h9) ?_
      exact go_throw (bc := 0) (bs := 0) t_X7_96 dX7_fill_15 dX7_fill_18 dX7_fill_19 dX7_fill_21 dX7_fill_24 (Nat.le_of_ble_eq_true rfl)
    · skip
      refine go_iload_n dX7_fill_0 rfl ?_
      refine go_iconst 1 dX7_fill_1 (by decide) ?_
      refine go_icmp_lt_f 15 dX7_fill_2 (by decide) (h0) ?_
      refine go_iload_n dX7_fill_5 rfl ?_
      refine go_bipush 30 dX7_fill_6 (by decide) ?_
      refine go_icmp_gt_f 15 dX7_fill_8 (by decide) (h9) ?_
      refine go_iload_n dX7_fill_11 rfl ?_
      refine go_if_ge_f 25 dX7_fill_12 (by decide) (Int32.not_le.mpr ((h.resolve_left h0).resolve_left h9)) ?_
      exact go_throw (bc := 0) (bs := 0) t_X7_96 dX7_fill_15 dX7_fill_18 dX7_fill_19 dX7_fill_21 dX7_fill_24 (Nat.le_of_ble_eq_true rfl)
theorem c_fill_n2 (l : Launch) {w : MW} {Q U : QU} {H : HS} {t : Nat → Nat} {ln : Nat} {s : PS} (hw : 74 ≤ w.1) (hn : (Q 0).1 ≤ 30) {c : Nat} (h1 : 1 ≤ c) (h2 : c ≤ 30) (h3 : 30 < (Q 0).1 + c) {z : Int32} (hz : 0 ≤ z) : Ct l (.code yX7_fill cX7_fill 6 (some .int)) yX7_fill 6 1 6 [.ref 0, .int (nI c), .int z] (tqW w Q U H t ln s) (.inr "java/lang/IllegalStateException") (tqW w Q U H t ln s) := by
  refine ct_of (by decide +kernel) (Nat.le_of_ble_eq_true rfl) ?_
  refine go_iload_n dX7_fill_0 rfl ?_
  refine go_iconst 1 dX7_fill_1 (by decide) ?_
  refine go_icmp_lt_f 15 dX7_fill_2 (by decide) (nI_nlt (b := 1) h1 (by omega)) ?_
  refine go_iload_n dX7_fill_5 rfl ?_
  refine go_bipush 30 dX7_fill_6 (by decide) ?_
  refine go_icmp_gt_f 15 dX7_fill_8 (by decide) (nI_nlt (a := 30) h2 (by decide)) ?_
  refine go_iload_n dX7_fill_11 rfl ?_
  refine go_if_ge_t 25 dX7_fill_12 (by decide) (hz) ?_
  refine go_iload_n dX7_fill_25 rfl ?_
  refine go_bipush 30 dX7_fill_26 (by decide) ?_
  refine go_aload_n dX7_fill_28 rfl ?_
  refine go_getfield dX7_fill_29 f_X7_10_6 (tq_ob hw) rfl ?_
  refine go_virt1 dX7_fill_32 (tq_1 (c_itemCount l (by show 1 + 8 < w.1; omega))) v_X7_37_4 rfl (tq_ob1 hw) rfl (Nat.le_of_ble_eq_true rfl) (Nat.le_of_ble_eq_true rfl) (Nat.le_of_ble_eq_true rfl) ?_
  refine go_isub dX7_fill_35 ?_
  rw [show 30 - nI (Q 0).1 = nI (30 - (Q 0).1) from pk_sub (a := 30) (by omega)]
  refine go_icmp_le_f 49 dX7_fill_36 (by decide) (n_nle (by omega) (by omega)) ?_
  exact go_throw (bc := 0) (bs := 0) t_X7_99 dX7_fill_39 dX7_fill_42 dX7_fill_43 dX7_fill_45 dX7_fill_48 (Nat.le_of_ble_eq_true rfl)
theorem c_sort_23 (l : Launch) {w : MW} {Q : QU} {H : HS} {t : Nat → Nat} {ln : Nat} {s : PS} (hw : 74 ≤ w.1) {k : Nat} (h : k < 3) : ∀ (u : Nat) (U : QU), u ≤ 30 → sortOK k u U → Go l yX7_sortingNeeds cX7_sortingNeeds 3 (some .int) [] none (mm_Z (mm_eq (.inl (some (.int (cntV (sortU k u U) k - cntV Q k)))) (tqW w Q (sortU k u U) H t ln s))) 7 0 0 23 [(0, .ref 0), (1, .int (nI k)), (2, .int (nI u))] [] (tqW w Q U H t ln s) := by
  intro u
  induction u with
  | zero =>
    intro U hu hs
    rw [sortU]
    refine go_iload_n dX7_sortingNeeds_23 rfl ?_
    refine go_if_le_t 49 dX7_sortingNeeds_24 (by decide) (Int32.le_refl _) ?_
    refine go_aload_n dX7_sortingNeeds_49 rfl ?_
    refine go_getfield dX7_sortingNeeds_50 f_X7_16_6 (tq_ob hw) rfl ?_
    refine go_iload_n dX7_sortingNeeds_53 rfl ?_
    refine go_virt1 dX7_sortingNeeds_54 (tq_10 (c_countedIn l (by show 10 + 8 < w.1; omega) h)) v_X7_170_4 rfl (tq_ob10 hw) rfl (Nat.le_of_ble_eq_true rfl) (Nat.le_of_ble_eq_true rfl) (Nat.le_of_ble_eq_true rfl) ?_
    refine go_aload_n dX7_sortingNeeds_57 rfl ?_
    refine go_getfield dX7_sortingNeeds_58 f_X7_10_6 (tq_ob hw) rfl ?_
    refine go_iload_n dX7_sortingNeeds_61 rfl ?_
    refine go_virt1 dX7_sortingNeeds_62 (tq_1 (c_countedIn l (by show 1 + 8 < w.1; omega) h)) v_X7_170_4 rfl (tq_ob1 hw) rfl (Nat.le_of_ble_eq_true rfl) (Nat.le_of_ble_eq_true rfl) (Nat.le_of_ble_eq_true rfl) ?_
    refine go_isub dX7_sortingNeeds_65 ?_
    exact go_ireturn dX7_sortingNeeds_66 rfl rfl
  | succ u ih =>
    intro U hu hs
    rw [sortU]
    refine go_iload_n dX7_sortingNeeds_23 rfl ?_
    refine go_if_le_f 49 dX7_sortingNeeds_24 (by decide) (nI_nle (by omega) (by omega)) ?_
    refine go_aload_n dX7_sortingNeeds_27 rfl ?_
    refine go_getfield dX7_sortingNeeds_28 f_X7_16_6 (tq_ob hw) rfl ?_
    refine go_iload_n dX7_sortingNeeds_31 rfl ?_
    refine go_aload_n dX7_sortingNeeds_32 rfl ?_
    refine go_getfield dX7_sortingNeeds_33 f_X7_16_6 (tq_ob hw) rfl ?_
    refine go_iload_n dX7_sortingNeeds_36 rfl ?_
    refine go_virt1 dX7_sortingNeeds_37 (tq_10 (c_leastOf l (by show 10 + 8 < w.1; omega) (k := k) (by omega) (hs.1.1 k (by omega)))) v_X7_59_4 rfl (tq_ob10 hw) rfl (Nat.le_of_ble_eq_true rfl) (Nat.le_of_ble_eq_true rfl) (Nat.le_of_ble_eq_true rfl) ?_
    refine go_virt0 dX7_sortingNeeds_40 (tq_10 (c_takeOutOf l (by show 10 + 8 < w.1; omega) h hs.1.1 hs.1.2.1 hs.1.2.2)) v_X7_181_4 rfl (tq_ob10 hw) rfl (Nat.le_of_ble_eq_true rfl) (Nat.le_of_ble_eq_true rfl) (Nat.le_of_ble_eq_true rfl) ?_
    refine go_iinc dX7_sortingNeeds_43 rfl (Nat.le_of_ble_eq_true rfl) rfl (show _ = _ + (-1) from rfl) ?_
    refine go_goto 23 dX7_sortingNeeds_46 (by decide) ?_
    exact go_sub [(0, .ref 0), (1, .int (nI k)), (2, .int (nI u))] ⟨rfl, rfl, congrArg (fun z => some (Value.int z)) (nI_m1 u), trivial⟩ (ih (takU k U) (by omega) hs.2)
theorem c_sort_y (l : Launch) {w : MW} {Q U : QU} {H : HS} {t : Nat → Nat} {ln : Nat} {s : PS} (hw : 74 ≤ w.1) {k : Nat} (h : k < 3) (hn : (Q 0).1 ≤ 30) (hs : sortOK k (Q 0).1 (cpU Q U)) : Ct l (.code yX7_sortingNeeds cX7_sortingNeeds 3 (some .int)) yX7_sortingNeeds 7 0 0 [.ref 0, .int (nI k)] (tqW w Q U H t ln s) (.inl (some (.int (cntV (sortU k (Q 0).1 (cpU Q U)) k - cntV Q k)))) (tqW w Q (sortU k (Q 0).1 (cpU Q U)) H t ln s) := by
  refine ct_of (by decide +kernel) (Nat.le_of_ble_eq_true rfl) ?_
  refine go_iload_n dX7_sortingNeeds_0 rfl ?_
  refine go_stat0 dX7_sortingNeeds_1 (c_reqQueue_y l h) s_X7_111 kc_X7_requireQueue rfl rfl (Nat.le_of_ble_eq_true rfl) (Nat.le_of_ble_eq_true rfl) (Nat.le_of_ble_eq_true rfl) ?_
  refine go_aload_n dX7_sortingNeeds_4 rfl ?_
  refine go_getfield dX7_sortingNeeds_5 f_X7_16_6 (tq_ob hw) rfl ?_
  refine go_aload_n dX7_sortingNeeds_8 rfl ?_
  refine go_getfield dX7_sortingNeeds_9 f_X7_10_6 (tq_ob hw) rfl ?_
  refine go_virt0 dX7_sortingNeeds_12 (tq_cp10 (c_qcopyFrom l (p := 1) (q := 10) (P := Q) (Q := U) (by show 1 + 8 < w.1; omega) (by show 10 + 8 < w.1; omega) (Or.inl (by omega)))) v_X7_178_4 rfl (tq_ob10 hw) rfl (Nat.le_of_ble_eq_true rfl) (Nat.le_of_ble_eq_true rfl) (Nat.le_of_ble_eq_true rfl) ?_
  refine go_aload_n dX7_sortingNeeds_15 rfl ?_
  refine go_getfield dX7_sortingNeeds_16 f_X7_10_6 (tq_ob hw) rfl ?_
  refine go_virt1 dX7_sortingNeeds_19 (tq_1 (c_itemCount l (by show 1 + 8 < w.1; omega))) v_X7_37_4 rfl (tq_ob1 hw) rfl (Nat.le_of_ble_eq_true rfl) (Nat.le_of_ble_eq_true rfl) (Nat.le_of_ble_eq_true rfl) ?_
  refine go_istore_n dX7_sortingNeeds_22 (Nat.le_of_ble_eq_true rfl) rfl ?_
  exact go_sub [(0, .ref 0), (1, .int (nI k)), (2, .int (nI (Q 0).1))] ⟨rfl, rfl, rfl, trivial⟩ (c_sort_23 l hw h (Q 0).1 (cpU Q U) hn hs)
theorem c_sort_n (l : Launch) {w : MW} {Q U : QU} {H : HS} {t : Nat → Nat} {ln : Nat} {s : PS} (hw : 74 ≤ w.1) {x : Int32} (h : x < 0 ∨ 3 ≤ x) : Ct l (.code yX7_sortingNeeds cX7_sortingNeeds 3 (some .int)) yX7_sortingNeeds 7 1 6 [.ref 0, .int x] (tqW w Q U H t ln s) (.inr "java/lang/IllegalArgumentException") (tqW w Q U H t ln s) := by
  refine ct_of (by decide +kernel) (Nat.le_of_ble_eq_true rfl) ?_
  refine go_iload_n dX7_sortingNeeds_0 rfl ?_
  exact go_thrS (bc := 0) (bs := 0) dX7_sortingNeeds_1 (c_reqQueue_n l h) s_X7_111 kc_X7_requireQueue rfl rfl (Nat.le_of_ble_eq_true rfl) (Nat.le_of_ble_eq_true rfl) (Nat.le_of_ble_eq_true rfl)
theorem rdCmd_c {t : Nat → Nat} {ln : Nat} {s : PS} (h : (rdCmd t ln s).1 = true) : (rdCmd t ln s).2.2.2.1 = cmdOf (curN t ln s.1) ∧ ¬ cmdOf (curN t ln s.1) = -1 := by
  have hN : ∀ (s : PS), (rdKey t ln s).2.2.2.1 = s.2.2.1 := fun s => rfl
  have hH : ∀ (s : PS), (rdHand t ln s).2.2.2.1 = s.2.2.1 := fun s => rfl
  have hG : ∀ (c : Nat) (s : PS), (rdSign t ln c s).2.2.2.1 = s.2.2.1 := by
    intro c s
    unfold rdSign
    split <;> rfl
  have hA : ∀ (s : PS), (rdArgs t ln s).2.2.2.1 = s.2.2.1 := by
    intro s
    unfold rdArgs
    split
    · exact hN s
    · split
      · exact hH s
      · split
        · split
          · split
            · rw [hN, hG, hH]
            · show (rdSign t ln 44 (rdHand t ln s).2).2.2.2.1 = _
              rw [hG, hH]
          · exact hH s
        · rfl
  by_cases e : cmdOf (curN t ln s.1) = -1
  · rw [show rdCmd t ln s = (false, s.1, s.2.1, -1, s.2.2.2) from if_pos e] at h
    cases h
  · refine ⟨?_, e⟩
    unfold rdCmd
    rw [if_neg e]
    split
    · rw [hG, hA]
    · show (rdArgs t ln _).2.2.2.1 = _
      rw [hA]
theorem rdCmd_k {t : Nat → Nat} {ln : Nat} {s : PS} (h : (rdCmd t ln s).1 = true) : ∃ k : Nat, k < 6 ∧ (rdCmd t ln s).2.2.2.1 = nI k := by
  rcases cmdOf_c (rdCmd_c h).2 with e | e | e | e | e | e
  · exact ⟨0, by decide, by rw [(rdCmd_c h).1, e]; rfl⟩
  · exact ⟨1, by decide, by rw [(rdCmd_c h).1, e]; rfl⟩
  · exact ⟨2, by decide, by rw [(rdCmd_c h).1, e]; rfl⟩
  · exact ⟨3, by decide, by rw [(rdCmd_c h).1, e]; rfl⟩
  · exact ⟨4, by decide, by rw [(rdCmd_c h).1, e]; rfl⟩
  · exact ⟨5, by decide, by rw [(rdCmd_c h).1, e]; rfl⟩
theorem rdCmd_lt {t : Nat → Nat} {ln : Nat} {s : PS} (h : (rdCmd t ln s).1 = true) : (rdCmd t ln s).2.2.2.1.toNatClampNeg < 6 := by
  obtain ⟨k, hk, e⟩ := rdCmd_k h
  rw [e, nI_clamp (by omega)]
  exact hk
theorem rdCmd_nI {t : Nat → Nat} {ln : Nat} {s : PS} (h : (rdCmd t ln s).1 = true) : (rdCmd t ln s).2.2.2.1 = nI (rdCmd t ln s).2.2.2.1.toNatClampNeg := by
  obtain ⟨k, hk, e⟩ := rdCmd_k h
  rw [e, nI_clamp (by omega)]
theorem c_run_43 (l : Launch) {w : MW} {U : QU} {H : HS} {t : Nat → Nat} {ln : Nat} (hw : 74 ≤ w.1) (ht : ∀ i, t i < 128) (hl : ln ≤ 120) {P : QU → Prop} (hP : ∀ Q, P Q → qI Q) (hS : ∀ Q cmd hd ky, P Q → P (crySt Q cmd hd ky)) : ∀ (u i : Nat) (Q : QU) (s : PS) (b : Nat), u + i = 120 → P Q → s.1 ≤ ln → Go l yX7_run cX7_run 3 (some .int) [] none (mm_Z (mm_eq (.inl (some (.int (nI (runS t ln u Q s b).1)))) (tqW w (runS t ln u Q s b).2.1 U H t ln (runS t ln u Q s b).2.2))) 7 0 0 43 [(0, .ref 0), (1, .int (nI b)), (2, .int (nI i))] [] (tqW w Q U H t ln s) := by
  intro u
  induction u with
  | zero =>
    intro i Q s b hi pq hs
    rw [runS]
    refine go_iload_n dX7_run_43 rfl ?_
    refine go_bipush 120 dX7_run_44 (by decide) ?_
    refine go_icmp_ge_t 99 dX7_run_46 (by decide) (nI_le (a := 120) (by omega) (by omega)) ?_
    refine go_iload_n dX7_run_99 rfl ?_
    exact go_ireturn dX7_run_100 rfl rfl
  | succ u ih =>
    intro i Q s b hi pq hs
    refine go_iload_n dX7_run_43 rfl ?_
    refine go_bipush 120 dX7_run_44 (by decide) ?_
    refine go_icmp_ge_f 99 dX7_run_46 (by decide) (n_nle (a := 120) (by omega) (by decide)) ?_
    refine go_aload_n dX7_run_49 rfl ?_
    refine go_getfield dX7_run_50 f_X7_29_6 (tq_ob hw) rfl ?_
    refine go_virt1 dX7_run_53 (tq_s (c_rdCmd l (by show 66 + 1 < w.1; omega) ht hl hs)) v_X7_204_5 rfl (tq_obs hw) rfl (Nat.le_of_ble_eq_true rfl) (Nat.le_of_ble_eq_true rfl) (Nat.le_of_ble_eq_true rfl) ?_
    refine go_if_eq 99 dX7_run_56 (by decide) (fun q56 => ?_) (fun q56 => ?_)
    · rw [show runS t ln (u + 1) Q s b = (b, Q, (rdCmd t ln s).2) from by rw [runS, if_neg (bI_ff q56)]]
      refine go_iload_n dX7_run_99 rfl ?_
      exact go_ireturn dX7_run_100 rfl rfl
    · rw [runS, if_pos (bI_ne.mp q56)]
      refine go_aload_n dX7_run_59 rfl ?_
      refine go_getfield dX7_run_60 f_X7_10_6 (tq_ob hw) rfl ?_
      refine go_aload_n dX7_run_63 rfl ?_
      refine go_getfield dX7_run_64 f_X7_29_6 (tq_ob hw) rfl ?_
      refine go_getfield dX7_run_67 f_X7_208_5 (tq_obs hw) rfl ?_
      refine go_top (.int (nI (rdCmd t ln s).2.2.2.1.toNatClampNeg)) (congrArg Value.int (rdCmd_nI (bI_ne.mp q56))) ?_
      refine go_aload_n dX7_run_70 rfl ?_
      refine go_getfield dX7_run_71 f_X7_29_6 (tq_ob hw) rfl ?_
      refine go_getfield dX7_run_74 f_X7_211_5 (tq_obs hw) rfl ?_
      refine go_aload_n dX7_run_77 rfl ?_
      refine go_getfield dX7_run_78 f_X7_29_6 (tq_ob hw) rfl ?_
      refine go_getfield dX7_run_81 f_X7_214_5 (tq_obs hw) rfl ?_
      refine go_virt1 dX7_run_84 (tq_1 (c_carryOut l (by show 1 + 8 < w.1; omega) (hP Q pq) (cmd := (rdCmd t ln s).2.2.2.1.toNatClampNeg) (rdCmd_lt (bI_ne.mp q56)))) v_X7_62_4 rfl (tq_ob1 hw) rfl (Nat.le_of_ble_eq_true rfl) (Nat.le_of_ble_eq_true rfl) (Nat.le_of_ble_eq_true rfl) ?_
      refine go_if_eq 93 dX7_run_87 (by decide) (fun q87 => ?_) (fun q87 => ?_)
      · rw [if_neg (bI_ff q87)]
        refine go_iinc dX7_run_93 rfl (Nat.le_of_ble_eq_true rfl) rfl (show _ = _ + 1 from rfl) ?_
        rw [a_k1]
        refine go_goto 43 dX7_run_96 (by decide) ?_
        exact go_sub [(0, .ref 0), (1, .int (nI b)), (2, .int (nI (i + 1)))] ⟨rfl, rfl, rfl, trivial⟩ (ih (i + 1) _ _ b (by omega) (hS _ _ _ _ pq) (rdCmd_le hs))
      · rw [if_pos (bI_ne.mp q87)]
        refine go_iinc dX7_run_90 rfl (Nat.le_of_ble_eq_true rfl) rfl (show _ = _ + 1 from rfl) ?_
        rw [a_k1]
        refine go_iinc dX7_run_93 rfl (Nat.le_of_ble_eq_true rfl) rfl (show _ = _ + 1 from rfl) ?_
        rw [a_k1]
        refine go_goto 43 dX7_run_96 (by decide) ?_
        exact go_sub [(0, .ref 0), (1, .int (nI (b + 1))), (2, .int (nI (i + 1)))] ⟨rfl, rfl, rfl, trivial⟩ (ih (i + 1) _ _ (b + 1) (by omega) (hS _ _ _ _ pq) (rdCmd_le hs))
theorem c_run_y (l : Launch) {w : MW} {Q U : QU} {H : HS} {t : Nat → Nat} {ln : Nat} {s : PS} (hw : 74 ≤ w.1) (ht : ∀ i, t i < 128) (hl : ln ≤ 120) (hx : H.2.1 < 5) (hk : H.2.2 ≤ 5) {P : QU → Prop} (hP : ∀ Q, P Q → qI Q) (hS : ∀ Q cmd hd ky, P Q → P (crySt Q cmd hd ky)) (pq : P Q) (hf : (fltS t ln 120 (0, s.2)).1 = -1) : Ct l (.code yX7_run cX7_run 3 (some .int)) yX7_run 7 0 0 [.ref 0] (tqW w Q U H t ln s) (.inl (some (.int (nI (runS t ln 120 Q (0, (fltS t ln 120 (0, s.2)).2.2) 0).1)))) (tqW w (runS t ln 120 Q (0, (fltS t ln 120 (0, s.2)).2.2) 0).2.1 U (keepH Q H) t ln (runS t ln 120 Q (0, (fltS t ln 120 (0, s.2)).2.2) 0).2.2) := by
  refine ct_of (by decide +kernel) (Nat.le_of_ble_eq_true rfl) ?_
  refine go_aload_n dX7_run_0 rfl ?_
  refine go_getfield dX7_run_1 f_X7_29_6 (tq_ob hw) rfl ?_
  refine go_virt1 dX7_run_4 (tq_s (c_flt l (by show 66 + 1 < w.1; omega) ht hl)) v_X7_196_5 rfl (tq_obs hw) rfl (Nat.le_of_ble_eq_true rfl) (Nat.le_of_ble_eq_true rfl) (Nat.le_of_ble_eq_true rfl) ?_
  refine go_iconst (-1) dX7_run_7 (by decide) ?_
  refine go_icmp_eq_t 21 dX7_run_8 (by decide) (hf) ?_
  refine go_aload_n dX7_run_21 rfl ?_
  refine go_getfield dX7_run_22 f_X7_22_6 (tq_ob hw) rfl ?_
  refine go_aload_n dX7_run_25 rfl ?_
  refine go_getfield dX7_run_26 f_X7_10_6 (tq_ob hw) rfl ?_
  refine go_virt0 dX7_run_29 (c_keep l hw hx hk) v_X7_48_1 rfl (tq_obh hw) rfl (Nat.le_of_ble_eq_true rfl) (Nat.le_of_ble_eq_true rfl) (Nat.le_of_ble_eq_true rfl) ?_
  refine go_aload_n dX7_run_32 rfl ?_
  refine go_getfield dX7_run_33 f_X7_29_6 (tq_ob hw) rfl ?_
  refine go_virt0 dX7_run_36 (tq_s (c_rewind l (by show 66 + 1 < w.1; omega))) v_X7_201_5 rfl (tq_obs hw) rfl (Nat.le_of_ble_eq_true rfl) (Nat.le_of_ble_eq_true rfl) (Nat.le_of_ble_eq_true rfl) ?_
  refine go_iconst 0 dX7_run_39 (by decide) ?_
  refine go_istore_n dX7_run_40 (Nat.le_of_ble_eq_true rfl) rfl ?_
  refine go_iconst 0 dX7_run_41 (by decide) ?_
  refine go_istore_n dX7_run_42 (Nat.le_of_ble_eq_true rfl) rfl ?_
  exact go_sub [(0, .ref 0), (1, .int (nI 0)), (2, .int (nI 0))] ⟨rfl, rfl, rfl, trivial⟩ (c_run_43 l hw ht hl hP hS 120 0 Q (0, (fltS t ln 120 (0, s.2)).2.2) 0 rfl pq (Nat.zero_le _))
theorem c_run_n (l : Launch) {w : MW} {Q U : QU} {H : HS} {t : Nat → Nat} {ln : Nat} {s : PS} (hw : 74 ≤ w.1) (ht : ∀ i, t i < 128) (hl : ln ≤ 120) (hf : ¬ (fltS t ln 120 (0, s.2)).1 = -1) : Ct l (.code yX7_run cX7_run 3 (some .int)) yX7_run 7 1 6 [.ref 0] (tqW w Q U H t ln s) (.inr "java/lang/IllegalArgumentException") (tqW w Q U H t ln (fltS t ln 120 (0, s.2)).2) := by
  refine ct_of (by decide +kernel) (Nat.le_of_ble_eq_true rfl) ?_
  refine go_aload_n dX7_run_0 rfl ?_
  refine go_getfield dX7_run_1 f_X7_29_6 (tq_ob hw) rfl ?_
  refine go_virt1 dX7_run_4 (tq_s (c_flt l (by show 66 + 1 < w.1; omega) ht hl)) v_X7_196_5 rfl (tq_obs hw) rfl (Nat.le_of_ble_eq_true rfl) (Nat.le_of_ble_eq_true rfl) (Nat.le_of_ble_eq_true rfl) ?_
  refine go_iconst (-1) dX7_run_7 (by decide) ?_
  refine go_icmp_eq_f 21 dX7_run_8 (by decide) (hf) ?_
  exact go_throw (bc := 0) (bs := 0) t_X7_199 dX7_run_11 dX7_run_14 dX7_run_15 dX7_run_17 dX7_run_20 (Nat.le_of_ble_eq_true rfl)
theorem c_sum_172 (l : Launch) {w : MW} {Q U : QU} {H : HS} {t : Nat → Nat} {ln : Nat} {s : PS} (hw : 74 ≤ w.1) (hI : qI Q) {r : Int64} {h : Int64} (hr : r = 31 * (31 * h + (nI ln).toInt64) + (nI H.2.2).toInt64) : Go l yX7_checksum cX7_checksum 5 (some .long) [] none (mm_Z (mm_eq (.inl (some (.long r))) (tqW w Q U H t ln s))) 4 0 0 172 [(0, .ref 0), (1, .long h)] [] (tqW w Q U H t ln s) := by
  rw [hr]
  refine go_ldc2 dX7_checksum_172 kd_X7_227 ?_
  refine go_lload_n dX7_checksum_175 rfl ?_
  refine go_lmul dX7_checksum_176 ?_
  refine go_aload_n dX7_checksum_177 rfl ?_
  refine go_getfield dX7_checksum_178 f_X7_29_6 (tq_ob hw) rfl ?_
  refine go_getfield dX7_checksum_181 f_X7_186_5 (tq_obs hw) rfl ?_
  refine go_i2l dX7_checksum_184 ?_
  refine go_ladd dX7_checksum_185 ?_
  refine go_lstore_n dX7_checksum_186 (Nat.le_of_ble_eq_true rfl) rfl rfl ?_
  refine go_ldc2 dX7_checksum_187 kd_X7_227 ?_
  refine go_lload_n dX7_checksum_190 rfl ?_
  refine go_lmul dX7_checksum_191 ?_
  refine go_aload_n dX7_checksum_192 rfl ?_
  refine go_getfield dX7_checksum_193 f_X7_22_6 (tq_ob hw) rfl ?_
  refine go_getfield dX7_checksum_196 f_X7_217_1 (tq_obh hw) rfl ?_
  refine go_i2l dX7_checksum_199 ?_
  refine go_ladd dX7_checksum_200 ?_
  exact go_lreturn dX7_checksum_201 rfl
theorem c_sum_145 (l : Launch) {w : MW} {Q U : QU} {H : HS} {t : Nat → Nat} {ln : Nat} {s : PS} (hw : 74 ≤ w.1) (hI : qI Q) {r : Int64} : ∀ (u i : Nat) (h : Int64), u + i = 3 → r = 31 * (31 * cnS Q u i h + (nI ln).toInt64) + (nI H.2.2).toInt64 → Go l yX7_checksum cX7_checksum 5 (some .long) [] none (mm_Z (mm_eq (.inl (some (.long r))) (tqW w Q U H t ln s))) 4 0 0 145 [(0, .ref 0), (1, .long h), (3, .int (nI i))] [] (tqW w Q U H t ln s) := by
  intro u
  induction u with
  | zero =>
    intro i h hi hr
    refine go_iload_n dX7_checksum_145 rfl ?_
    refine go_iconst 3 dX7_checksum_146 (by decide) ?_
    refine go_icmp_ge_t 172 dX7_checksum_147 (by decide) (nI_le (a := 3) (by omega) (by omega)) ?_
    exact go_sub [(0, .ref 0), (1, .long h)] ⟨rfl, rfl, trivial⟩ (c_sum_172 l hw hI hr)
  | succ u ih =>
    intro i h hi hr
    refine go_iload_n dX7_checksum_145 rfl ?_
    refine go_iconst 3 dX7_checksum_146 (by decide) ?_
    refine go_icmp_ge_f 172 dX7_checksum_147 (by decide) (n_nle (a := 3) (by omega) (by decide)) ?_
    refine go_ldc2 dX7_checksum_150 kd_X7_227 ?_
    refine go_lload_n dX7_checksum_153 rfl ?_
    refine go_lmul dX7_checksum_154 ?_
    refine go_aload_n dX7_checksum_155 rfl ?_
    refine go_getfield dX7_checksum_156 f_X7_10_6 (tq_ob hw) rfl ?_
    refine go_iload_n dX7_checksum_159 rfl ?_
    refine go_virt1 dX7_checksum_160 (tq_1 (c_countedIn l (by show 1 + 8 < w.1; omega) (k := i) (by omega))) v_X7_170_4 rfl (tq_ob1 hw) rfl (Nat.le_of_ble_eq_true rfl) (Nat.le_of_ble_eq_true rfl) (Nat.le_of_ble_eq_true rfl) ?_
    refine go_i2l dX7_checksum_163 ?_
    refine go_ladd dX7_checksum_164 ?_
    refine go_lstore_n dX7_checksum_165 (Nat.le_of_ble_eq_true rfl) rfl rfl ?_
    refine go_iinc dX7_checksum_166 rfl (Nat.le_of_ble_eq_true rfl) rfl (show _ = _ + 1 from rfl) ?_
    rw [a_k1]
    refine go_goto 145 dX7_checksum_169 (by decide) ?_
    exact go_sub [(0, .ref 0), (1, .long (31 * h + (cntV Q i).toInt64)), (3, .int (nI (i + 1)))] ⟨rfl, rfl, rfl, trivial⟩ (ih (i + 1) _ (by omega) (by rw [hr, cnS]))
theorem c_sum_79 (l : Launch) {w : MW} {Q U : QU} {H : HS} {t : Nat → Nat} {ln : Nat} {s : PS} (hw : 74 ≤ w.1) (hI : qI Q) {r : Int64} {k : Nat} (hk : k < 4) (K : ∀ h : Int64, r = 31 * (31 * cnS Q 3 0 (laS Q (3 - k) (k + 1) h) + (nI ln).toInt64) + (nI H.2.2).toInt64 → Go l yX7_checksum cX7_checksum 5 (some .long) [] none (mm_Z (mm_eq (.inl (some (.long r))) (tqW w Q U H t ln s))) 4 0 0 71 [(0, .ref 0), (1, .long h), (3, .int (nI (k + 1)))] [] (tqW w Q U H t ln s)) : ∀ (u i : Nat) (h : Int64), u + i = (Q 0).1 → r = 31 * (31 * cnS Q 3 0 (laS Q (3 - k) (k + 1) (31 * roS (Q k).2.1 u i h + (nI (brkV Q k)).toInt64)) + (nI ln).toInt64) + (nI H.2.2).toInt64 → Go l yX7_checksum cX7_checksum 5 (some .long) [] none (mm_Z (mm_eq (.inl (some (.long r))) (tqW w Q U H t ln s))) 4 0 0 79 [(0, .ref 0), (1, .long h), (3, .int (nI k)), (4, .int (nI i))] [] (tqW w Q U H t ln s) := by
  intro u
  have hk0 := hI.1 k hk
  have hn0 := hI.2.1
  induction u with
  | zero =>
    intro i h hi hr
    rw [roS] at hr
    refine go_iload dX7_checksum_79 rfl ?_
    refine go_aload_n dX7_checksum_81 rfl ?_
    refine go_getfield dX7_checksum_82 f_X7_10_6 (tq_ob hw) rfl ?_
    refine go_virt1 dX7_checksum_85 (tq_1 (c_itemCount l (by show 1 + 8 < w.1; omega))) v_X7_37_4 rfl (tq_ob1 hw) rfl (Nat.le_of_ble_eq_true rfl) (Nat.le_of_ble_eq_true rfl) (Nat.le_of_ble_eq_true rfl) ?_
    refine go_icmp_ge_t 118 dX7_checksum_88 (by decide) (nI_le (by omega) (by omega)) ?_
    refine go_ldc2 dX7_checksum_118 kd_X7_227 ?_
    refine go_lload_n dX7_checksum_121 rfl ?_
    refine go_lmul dX7_checksum_122 ?_
    refine go_aload_n dX7_checksum_123 rfl ?_
    refine go_getfield dX7_checksum_124 f_X7_10_6 (tq_ob hw) rfl ?_
    refine go_iload_n dX7_checksum_127 rfl ?_
    refine go_virt1 dX7_checksum_128 (tq_1 (c_layout l (by show 1 + 8 < w.1; omega) (k := k) hk)) v_X7_124_4 rfl (tq_ob1 hw) rfl (Nat.le_of_ble_eq_true rfl) (Nat.le_of_ble_eq_true rfl) (Nat.le_of_ble_eq_true rfl) ?_
    refine go_brk hw (fun k z => by rw [hI.1 k z]; exact hI.2.1) hk rfl dX7_checksum_131 rfl (Nat.le_of_ble_eq_true rfl) (Nat.le_of_ble_eq_true rfl) ?_
    refine go_i2l dX7_checksum_134 ?_
    refine go_ladd dX7_checksum_135 ?_
    refine go_lstore_n dX7_checksum_136 (Nat.le_of_ble_eq_true rfl) rfl rfl ?_
    refine go_iinc dX7_checksum_137 rfl (Nat.le_of_ble_eq_true rfl) rfl (show _ = _ + 1 from rfl) ?_
    rw [a_k1]
    refine go_goto 71 dX7_checksum_140 (by decide) ?_
    exact go_sub [(0, .ref 0), (1, .long (31 * h + (nI (brkV Q k)).toInt64)), (3, .int (nI (k + 1)))] ⟨rfl, rfl, rfl, trivial⟩ (K _ hr)
  | succ u ih =>
    intro i h hi hr
    rw [roS] at hr
    refine go_iload dX7_checksum_79 rfl ?_
    refine go_aload_n dX7_checksum_81 rfl ?_
    refine go_getfield dX7_checksum_82 f_X7_10_6 (tq_ob hw) rfl ?_
    refine go_virt1 dX7_checksum_85 (tq_1 (c_itemCount l (by show 1 + 8 < w.1; omega))) v_X7_37_4 rfl (tq_ob1 hw) rfl (Nat.le_of_ble_eq_true rfl) (Nat.le_of_ble_eq_true rfl) (Nat.le_of_ble_eq_true rfl) ?_
    refine go_icmp_ge_f 118 dX7_checksum_88 (by decide) (n_nle (by omega) (by omega)) ?_
    refine go_ldc2 dX7_checksum_91 kd_X7_227 ?_
    refine go_lload_n dX7_checksum_94 rfl ?_
    refine go_lmul dX7_checksum_95 ?_
    refine go_aload_n dX7_checksum_96 rfl ?_
    refine go_getfield dX7_checksum_97 f_X7_10_6 (tq_ob hw) rfl ?_
    refine go_iload_n dX7_checksum_100 rfl ?_
    refine go_virt1 dX7_checksum_101 (tq_1 (c_layout l (by show 1 + 8 < w.1; omega) (k := k) hk)) v_X7_124_4 rfl (tq_ob1 hw) rfl (Nat.le_of_ble_eq_true rfl) (Nat.le_of_ble_eq_true rfl) (Nat.le_of_ble_eq_true rfl) ?_
    refine go_iload dX7_checksum_104 rfl ?_
    refine go_virt1 dX7_checksum_106 (tq_1 (cq_handleAt1 l (by show 1 + 8 < w.1; omega) hk (by omega) rfl (j := i) (by omega))) (v_X7_128 kci_ok) rfl (tq_obk hw hk (by omega) rfl) rfl (Nat.le_of_ble_eq_true rfl) (Nat.le_of_ble_eq_true rfl) (Nat.le_of_ble_eq_true rfl) ?_
    refine go_i2l dX7_checksum_109 ?_
    refine go_ladd dX7_checksum_110 ?_
    refine go_lstore_n dX7_checksum_111 (Nat.le_of_ble_eq_true rfl) rfl rfl ?_
    refine go_iinc dX7_checksum_112 rfl (Nat.le_of_ble_eq_true rfl) rfl (show _ = _ + 1 from rfl) ?_
    rw [a_k1]
    refine go_goto 79 dX7_checksum_115 (by decide) ?_
    exact go_sub [(0, .ref 0), (1, .long (31 * h + (hs ((Q k).2.1 i)).toInt64)), (3, .int (nI k)), (4, .int (nI (i + 1)))] ⟨rfl, rfl, rfl, rfl, trivial⟩ (ih (i + 1) _ (by omega) hr)
theorem c_sum_71 (l : Launch) {w : MW} {Q U : QU} {H : HS} {t : Nat → Nat} {ln : Nat} {s : PS} (hw : 74 ≤ w.1) (hI : qI Q) {r : Int64} : ∀ (u k : Nat) (h : Int64), u + k = 4 → r = 31 * (31 * cnS Q 3 0 (laS Q u k h) + (nI ln).toInt64) + (nI H.2.2).toInt64 → Go l yX7_checksum cX7_checksum 5 (some .long) [] none (mm_Z (mm_eq (.inl (some (.long r))) (tqW w Q U H t ln s))) 4 0 0 71 [(0, .ref 0), (1, .long h), (3, .int (nI k))] [] (tqW w Q U H t ln s) := by
  intro u
  induction u with
  | zero =>
    intro k h hi hr
    rw [laS] at hr
    refine go_iload_n dX7_checksum_71 rfl ?_
    refine go_iconst 4 dX7_checksum_72 (by decide) ?_
    refine go_icmp_ge_t 143 dX7_checksum_73 (by decide) (nI_le (a := 4) (by omega) (by omega)) ?_
    refine go_iconst 0 dX7_checksum_143 (by decide) ?_
    refine go_istore_n dX7_checksum_144 (Nat.le_of_ble_eq_true rfl) rfl ?_
    exact go_sub [(0, .ref 0), (1, .long (h)), (3, .int (nI (0)))] ⟨rfl, rfl, rfl, trivial⟩ (c_sum_145 l hw hI 3 0 h rfl hr)
  | succ u ih =>
    intro k h hi hr
    rw [laS] at hr
    refine go_iload_n dX7_checksum_71 rfl ?_
    refine go_iconst 4 dX7_checksum_72 (by decide) ?_
    refine go_icmp_ge_f 143 dX7_checksum_73 (by decide) (n_nle (a := 4) (by omega) (by decide)) ?_
    refine go_iconst 0 dX7_checksum_76 (by decide) ?_
    refine go_istore dX7_checksum_77 (Nat.le_of_ble_eq_true rfl) rfl ?_
    exact go_sub [(0, .ref 0), (1, .long h), (3, .int (nI k)), (4, .int (nI 0))] ⟨rfl, rfl, rfl, rfl, trivial⟩ (c_sum_79 l hw hI (k := k) (by omega) (fun h2 z => ih (k + 1) h2 (by omega) (by rw [z, show 3 - k = u by omega])) (Q 0).1 0 h rfl (by rw [hr, show 3 - k = u by omega]))
theorem c_sum_30 (l : Launch) {w : MW} {Q U : QU} {H : HS} {t : Nat → Nat} {ln : Nat} {s : PS} (hw : 74 ≤ w.1) (hI : qI Q) {r : Int64} : ∀ (u i : Nat) (h : Int64), u + i = 30 → r = 31 * (31 * cnS Q 3 0 (laS Q 4 0 (kyS Q u i h)) + (nI ln).toInt64) + (nI H.2.2).toInt64 → Go l yX7_checksum cX7_checksum 5 (some .long) [] none (mm_Z (mm_eq (.inl (some (.long r))) (tqW w Q U H t ln s))) 4 0 0 30 [(0, .ref 0), (1, .long h), (3, .int (nI i))] [] (tqW w Q U H t ln s) := by
  intro u
  induction u with
  | zero =>
    intro i h hi hr
    rw [kyS] at hr
    refine go_iload_n dX7_checksum_30 rfl ?_
    refine go_bipush 30 dX7_checksum_31 (by decide) ?_
    refine go_icmp_ge_t 69 dX7_checksum_33 (by decide) (nI_le (a := 30) (by omega) (by omega)) ?_
    refine go_iconst 0 dX7_checksum_69 (by decide) ?_
    refine go_istore_n dX7_checksum_70 (Nat.le_of_ble_eq_true rfl) rfl ?_
    exact go_sub [(0, .ref 0), (1, .long (h)), (3, .int (nI (0)))] ⟨rfl, rfl, rfl, trivial⟩ (c_sum_71 l hw hI 4 0 h rfl hr)
  | succ u ih =>
    intro i h hi hr
    rw [kyS] at hr
    refine go_iload_n dX7_checksum_30 rfl ?_
    refine go_bipush 30 dX7_checksum_31 (by decide) ?_
    refine go_icmp_ge_f 69 dX7_checksum_33 (by decide) (n_nle (a := 30) (by omega) (by decide)) ?_
    refine go_aload_n dX7_checksum_36 rfl ?_
    refine go_getfield dX7_checksum_37 f_X7_10_6 (tq_ob hw) rfl ?_
    refine go_iload_n dX7_checksum_40 rfl ?_
    refine go_virt1 dX7_checksum_41 (tq_1 (c_has l (by show 1 + 8 < w.1; omega) hI.2.1)) v_X7_114_4 rfl (tq_ob1 hw) rfl (Nat.le_of_ble_eq_true rfl) (Nat.le_of_ble_eq_true rfl) (Nat.le_of_ble_eq_true rfl) ?_
    refine go_if_eq 63 dX7_checksum_44 (by decide) (fun q44 => ?_) (fun q44 => ?_)
    · rw [if_neg (bI_ff q44)] at hr
      refine go_iinc dX7_checksum_63 rfl (Nat.le_of_ble_eq_true rfl) rfl (show _ = _ + 1 from rfl) ?_
      rw [a_k1]
      refine go_goto 30 dX7_checksum_66 (by decide) ?_
      exact go_sub [(0, .ref 0), (1, .long (h)), (3, .int (nI (i + 1)))] ⟨rfl, rfl, rfl, trivial⟩ (ih (i + 1) _ (by omega) hr)
    · rw [if_pos (bI_ne.mp q44)] at hr
      refine go_ldc2 dX7_checksum_47 kd_X7_227 ?_
      refine go_lload_n dX7_checksum_50 rfl ?_
      refine go_lmul dX7_checksum_51 ?_
      refine go_aload_n dX7_checksum_52 rfl ?_
      refine go_getfield dX7_checksum_53 f_X7_10_6 (tq_ob hw) rfl ?_
      refine go_iload_n dX7_checksum_56 rfl ?_
      refine go_virt1 dX7_checksum_57 (tq_1 (c_keyOf l (by show 1 + 8 < w.1; omega) hI.2.1 (of_decide_eq_true (bI_ne.mp q44)))) v_X7_72_4 rfl (tq_ob1 hw) rfl (Nat.le_of_ble_eq_true rfl) (Nat.le_of_ble_eq_true rfl) (Nat.le_of_ble_eq_true rfl) ?_
      refine go_i2l dX7_checksum_60 ?_
      refine go_ladd dX7_checksum_61 ?_
      refine go_lstore_n dX7_checksum_62 (Nat.le_of_ble_eq_true rfl) rfl rfl ?_
      refine go_iinc dX7_checksum_63 rfl (Nat.le_of_ble_eq_true rfl) rfl (show _ = _ + 1 from rfl) ?_
      rw [a_k1]
      refine go_goto 30 dX7_checksum_66 (by decide) ?_
      exact go_sub [(0, .ref 0), (1, .long (31 * h + (keyV Q (nI i)).toInt64)), (3, .int (nI (i + 1)))] ⟨rfl, rfl, rfl, trivial⟩ (ih (i + 1) _ (by omega) hr)
theorem c_sum (l : Launch) {w : MW} {Q U : QU} {H : HS} {t : Nat → Nat} {ln : Nat} {s : PS} (hw : 74 ≤ w.1) (hI : qI Q) : Ct l (.code yX7_checksum cX7_checksum 5 (some .long)) yX7_checksum 4 0 0 [.ref 0] (tqW w Q U H t ln s) (.inl (some (.long (sumT Q ln H.2.2)))) (tqW w Q U H t ln s) := by
  refine ct_of (by decide +kernel) (Nat.le_of_ble_eq_true rfl) ?_
  refine go_ldc2 dX7_checksum_0 kd_X7_225 ?_
  refine go_aload_n dX7_checksum_3 rfl ?_
  refine go_getfield dX7_checksum_4 f_X7_10_6 (tq_ob hw) rfl ?_
  refine go_virt1 dX7_checksum_7 (tq_1 (c_itemCount l (by show 1 + 8 < w.1; omega))) v_X7_37_4 rfl (tq_ob1 hw) rfl (Nat.le_of_ble_eq_true rfl) (Nat.le_of_ble_eq_true rfl) (Nat.le_of_ble_eq_true rfl) ?_
  refine go_i2l dX7_checksum_10 ?_
  refine go_ladd dX7_checksum_11 ?_
  refine go_lstore_n dX7_checksum_12 (Nat.le_of_ble_eq_true rfl) rfl rfl ?_
  refine go_ldc2 dX7_checksum_13 kd_X7_227 ?_
  refine go_lload_n dX7_checksum_16 rfl ?_
  refine go_lmul dX7_checksum_17 ?_
  refine go_aload_n dX7_checksum_18 rfl ?_
  refine go_getfield dX7_checksum_19 f_X7_10_6 (tq_ob hw) rfl ?_
  refine go_virt1 dX7_checksum_22 (tq_1 (c_handleSet l (by show 1 + 8 < w.1; omega) hI.2.1)) v_X7_91_4 rfl (tq_ob1 hw) rfl (Nat.le_of_ble_eq_true rfl) (Nat.le_of_ble_eq_true rfl) (Nat.le_of_ble_eq_true rfl) ?_
  refine go_i2l dX7_checksum_25 ?_
  refine go_ladd dX7_checksum_26 ?_
  refine go_lstore_n dX7_checksum_27 (Nat.le_of_ble_eq_true rfl) rfl rfl ?_
  refine go_iconst 0 dX7_checksum_28 (by decide) ?_
  refine go_istore_n dX7_checksum_29 (Nat.le_of_ble_eq_true rfl) rfl ?_
  exact go_sub [(0, .ref 0), (1, .long (31 * (576631 + (nI (Q 0).1).toInt64) + (setS (Q 0).2.1 (Q 0).1 0 0).toInt64)), (3, .int (nI 0))] ⟨rfl, rfl, rfl, trivial⟩ (c_sum_30 l hw hI 30 0 _ rfl rfl)
