def lyS (A : Nat → Int32) : Nat → Nat → Nat → (Nat → Int32) → (Nat → Int32)
  | 0, _, _, f => f
  | u + 1, h, c, f => if itB A (nI h) = true then lyS A u (h + 1) (c + 1) (upd f c (nI h)) else lyS A u (h + 1) c f
def bldL (lt : QL) (k n : Nat) : Nat → QS → QS
  | 0, s => s
  | m + 1, s => bldL lt k n m (bldK lt k n m s)
def cK (k n : Nat) : Nat := if k = 0 then (n + 1) / 2 else n
def blA (n k : Nat) (A : Nat → Int32) : Nat → Int32 := setL A k (bldL (ltA A) k n (cK k n) (lyS A 30 0 0 (getL A k).1, (getL A k).2))
theorem itB_set {A : Nat → Int32} {k h : Nat} {s : QS} (hh : h < 30) : itB (setL A k s) (nI h) = itB A (nI h) := by
  unfold itB
  rw [nI_clamp (by omega), setL_lo (by omega)]
theorem lyS_ok {A : Nat → Int32} (u h c : Nat) (f : Nat → Int32) (hu : u + h = 30) (hr : rowOK f) : rowOK (lyS A u h c f) := by
  induction u generalizing h c f with
  | zero => exact hr
  | succ u ih =>
    rw [lyS]
    split
    · exact ih _ _ _ (by omega) (rowOK_upd hr ⟨h, by omega, rfl⟩)
    · exact ih _ _ _ (by omega) hr
theorem bldL_ok {lt : QL} {k n : Nat} (hn : n ≤ 30) (m : Nat) (s : QS) (hr : rowOK s.1) : rowOK (bldL lt k n m s).1 := by
  induction m generalizing s with
  | zero => exact hr
  | succ m ih => exact ih _ (bldK_ok hn hr)
theorem mI_blA {A : Nat → Int32} {n k : Nat} (hk : k < 4) (hn : n ≤ 30) (h : mI A) : mI (blA n k A) := mI_set hk h (bldL_ok hn _ _ (lyS_ok 30 0 0 _ rfl (h k hk)))
theorem blA_n {A : Nat → Int32} {n k : Nat} (hk : k < 4) : blA n k A 180 = A 180 := setL_n hk
theorem i_m1 (a : Int32) : a + -1 = a - 1 := (Int32.sub_eq_add_neg _ _).symm
theorem m_laysAll_4 (l : Launch) {w : MW} {p : Nat} {A P K T : Nat → Int32} {x : XS} (hp : p + 4 < w.1) {k : Nat} (hk : k < 4) {z : Int32} : ∀ (u h c : Nat) (f : Nat → Int32), u + h = 30 → c ≤ h → Go l yX8_laysAll cX8_laysAll 4 none [] none (mm_Z (mm_eq (.inl none) (mdW w p (setL A k (lyS A u h c f, z)) P K T x))) 2 0 0 4 [(0, .ref p), (1, .int (nI k)), (2, .int (nI c)), (3, .int (nI h))] [] (mdW w p (setL A k (f, z)) P K T x) := by
  intro u
  induction u with
  | zero =>
    intro h c f hu hc
    rw [lyS]
    refine go_iload_n dX8_laysAll_4 rfl ?_
    refine go_bipush 30 dX8_laysAll_5 (by decide) ?_
    refine go_icmp_ge_t 34 dX8_laysAll_7 (by decide) (nI_le (a := 30) (by omega) (by omega)) ?_
    exact go_return dX8_laysAll_34 rfl
  | succ u ih =>
    intro h c f hu hc
    refine go_iload_n dX8_laysAll_4 rfl ?_
    refine go_bipush 30 dX8_laysAll_5 (by decide) ?_
    refine go_icmp_ge_f 34 dX8_laysAll_7 (by decide) (n_nle (a := 30) (by omega) (by decide)) ?_
    refine go_aload_n dX8_laysAll_10 rfl ?_
    refine go_iload_n dX8_laysAll_11 rfl ?_
    refine go_virt1 dX8_laysAll_12 (m_isItem l hp) v_X8_49_7 rfl (mdW_ob hp) rfl (Nat.le_of_ble_eq_true rfl) (Nat.le_of_ble_eq_true rfl) (Nat.le_of_ble_eq_true rfl) ?_
    rw [itB_set (by omega)]
    refine go_if_eq 28 dX8_laysAll_15 (by decide) (fun q15 => ?_) (fun q15 => ?_)
    · rw [lyS, if_neg (bI_ff q15)]
      have M1 := trivial
      refine go_iinc dX8_laysAll_28 rfl (Nat.le_of_ble_eq_true rfl) rfl (show _ = _ + 1 from rfl) ?_
      rw [a_k1]
      refine go_goto 4 dX8_laysAll_31 (by decide) ?_
      exact go_sub [(0, .ref p), (1, .int (nI k)), (2, .int (nI c)), (3, .int (nI (h + 1)))] ⟨rfl, rfl, rfl, rfl, trivial⟩ (ih (h + 1) c f (by omega) (by omega))
    · rw [lyS, if_pos (bI_ne.mp q15)]
      have M2 := trivial
      refine go_aload_n dX8_laysAll_18 rfl ?_
      refine go_iload_n dX8_laysAll_19 rfl ?_
      refine go_iload_n dX8_laysAll_20 rfl ?_
      refine go_iload_n dX8_laysAll_21 rfl ?_
      refine go_virt0 dX8_laysAll_22 (m_lays l hp hk (i := c) (by omega)) v_X8_45_7 rfl (mdW_ob hp) rfl (Nat.le_of_ble_eq_true rfl) (Nat.le_of_ble_eq_true rfl) (Nat.le_of_ble_eq_true rfl) ?_
      rw [setL_uR hk (by omega)]
      refine go_iinc dX8_laysAll_25 rfl (Nat.le_of_ble_eq_true rfl) rfl (show _ = _ + 1 from rfl) ?_
      rw [a_k1]
      refine go_iinc dX8_laysAll_28 rfl (Nat.le_of_ble_eq_true rfl) rfl (show _ = _ + 1 from rfl) ?_
      rw [a_k1]
      refine go_goto 4 dX8_laysAll_31 (by decide) ?_
      exact go_sub [(0, .ref p), (1, .int (nI k)), (2, .int (nI (c + 1))), (3, .int (nI (h + 1)))] ⟨rfl, rfl, rfl, rfl, trivial⟩ (ih (h + 1) (c + 1) (upd f c (nI h)) (by omega) (by omega))
theorem m_laysAll (l : Launch) {w : MW} {p : Nat} {A P K T : Nat → Int32} {x : XS} (hp : p + 4 < w.1) {k : Nat} (hk : k < 4) {f : Nat → Int32} {z : Int32} : Ct l (.code yX8_laysAll cX8_laysAll 4 none) yX8_laysAll 2 0 0 [.ref p, .int (nI k)] (mdW w p (setL A k (f, z)) P K T x) (.inl none) (mdW w p (setL A k (lyS A 30 0 0 f, z)) P K T x) := by
  refine ct_of (by decide +kernel) (Nat.le_of_ble_eq_true rfl) ?_
  refine go_iconst 0 dX8_laysAll_0 (by decide) ?_
  refine go_istore_n dX8_laysAll_1 (Nat.le_of_ble_eq_true rfl) rfl ?_
  refine go_iconst 0 dX8_laysAll_2 (by decide) ?_
  refine go_istore_n dX8_laysAll_3 (Nat.le_of_ble_eq_true rfl) rfl ?_
  exact go_sub [(0, .ref p), (1, .int (nI k)), (2, .int (nI 0)), (3, .int (nI 0))] ⟨rfl, rfl, rfl, rfl, trivial⟩ (m_laysAll_4 l hp hk 30 0 0 f rfl (by decide))
theorem m_bld_52 (l : Launch) {w : MW} {p : Nat} {A P K T : Nat → Int32} {x : XS} (hp : p + 4 < w.1) {Z : MZ} {k n : Nat} (hk : k < 4) {q : Int32} (h1 : 1 ≤ n) (hn : n ≤ 30) {r : QS} (KK : Go l yX8_builds cX8_builds 5 none [] none Z 5 0 0 75 [(0, .ref p), (1, .int q), (2, .int (nI n)), (3, .int (nI k))] [] (mdW w p (setL A k r) P K T x)) : ∀ (c : Nat) (s : QS), c ≤ 30 → rowOK s.1 → r = bldL (ltA A) k n c s → Go l yX8_builds cX8_builds 5 none [] none Z 5 0 0 52 [(0, .ref p), (1, .int q), (2, .int (nI n)), (3, .int (nI k)), (4, .int (nI c - 1))] [] (mdW w p (setL A k s) P K T x) := by
  intro c
  induction c with
  | zero =>
    intro s hc hr hrr
    rw [bldL] at hrr
    subst hrr
    refine go_iload dX8_builds_52 rfl ?_
    refine go_if_lt_t 75 dX8_builds_54 (by decide) (by decide) ?_
    exact go_sub [(0, .ref p), (1, .int q), (2, .int (nI n)), (3, .int (nI k))] ⟨rfl, rfl, rfl, rfl, trivial⟩ KK
  | succ c ih =>
    intro s hc hr hrr
    rw [nI_pred]
    refine go_iload dX8_builds_52 rfl ?_
    refine go_if_lt_f 75 dX8_builds_54 (by decide) (nI_pos (by omega)) ?_
    refine go_iload_n dX8_builds_57 rfl ?_
    refine go_if_le_f 75 dX8_builds_58 (by decide) (nI_nle (by omega) (by omega)) ?_
    refine go_aload_n dX8_builds_61 rfl ?_
    refine go_iload_n dX8_builds_62 rfl ?_
    refine go_iload dX8_builds_63 rfl ?_
    refine go_iload_n dX8_builds_65 rfl ?_
    refine go_virt0 dX8_builds_66 (m_buildsAt l hp hk hr (m := c) (by omega) hn) v_X8_130_7 rfl (mdW_ob hp) rfl (Nat.le_of_ble_eq_true rfl) (Nat.le_of_ble_eq_true rfl) (Nat.le_of_ble_eq_true rfl) ?_
    refine go_iinc dX8_builds_69 rfl (Nat.le_of_ble_eq_true rfl) rfl (show _ = _ + (-1) from rfl) ?_
    rw [i_m1]
    refine go_goto 52 dX8_builds_72 (by decide) ?_
    exact go_sub [(0, .ref p), (1, .int q), (2, .int (nI n)), (3, .int (nI k)), (4, .int (nI c - 1))] ⟨rfl, rfl, rfl, rfl, rfl, trivial⟩ (ih (bldK (ltA A) k n c s) (by omega) (bldK_ok hn hr) (hrr.trans (by rw [bldL])))
theorem m_blds_4 (l : Launch) {w : MW} {p : Nat} {A P K T : Nat → Int32} {x : XS} (hp : p + 4 < w.1) {n : Nat} (hn : n ≤ 30) {q : Int32} {R : Nat → Int32} (hR : R = A) : Go l yX8_builds cX8_builds 5 none [] none (mm_Z (mm_eq (.inl none) (mdW w p R P K T x))) 5 0 0 7 [(0, .ref p), (1, .int q), (2, .int (nI n)), (3, .int (nI 4))] [] (mdW w p A P K T x) := by
  subst hR
  refine go_iload_n dX8_builds_7 rfl ?_
  refine go_iconst 4 dX8_builds_8 (by decide) ?_
  refine go_icmp_ge_t 81 dX8_builds_9 (by decide) (Int32.le_refl _) ?_
  exact go_return dX8_builds_81 rfl
theorem m_blds_3 (l : Launch) {w : MW} {p : Nat} {A P K T : Nat → Int32} {x : XS} (hp : p + 4 < w.1) {n : Nat} (hn : n ≤ 30) {q : Int32} {R : Nat → Int32} (hA : mI A) (hR : R = fldA (blA n) q 1 3 A) : Go l yX8_builds cX8_builds 5 none [] none (mm_Z (mm_eq (.inl none) (mdW w p R P K T x))) 5 0 0 7 [(0, .ref p), (1, .int q), (2, .int (nI n)), (3, .int (nI 3))] [] (mdW w p A P K T x) := by
  have KK : mskB q 3 = true → Go l yX8_builds cX8_builds 5 none [] none (mm_Z (mm_eq (.inl none) (mdW w p R P K T x))) 5 0 0 75 [(0, .ref p), (1, .int q), (2, .int (nI n)), (3, .int (nI 3))] [] (mdW w p (setL A 3 (bldL (ltA A) 3 n (n) (lyS A 30 0 0 (getL A 3).1, (getL A 3).2))) P K T x) := by
    intro mk
    rw [show setL A 3 (bldL (ltA A) 3 n (n) (lyS A 30 0 0 (getL A 3).1, (getL A 3).2)) = blA n 3 A from by unfold blA cK; rw [if_neg (by decide)]]
    refine go_iinc dX8_builds_75 rfl (Nat.le_of_ble_eq_true rfl) rfl (show _ = _ + 1 from rfl) ?_
    refine go_goto 7 dX8_builds_78 (by decide) ?_
    exact go_sub [(0, .ref p), (1, .int q), (2, .int (nI n)), (3, .int (nI 4))] ⟨rfl, rfl, rfl, rfl, trivial⟩ (m_blds_4 l hp (A := blA n 3 A) hn (by rw [hR, fldA, if_pos mk]; rfl))
  by_cases e0 : n = 0
  · subst e0
    have e9 : bldL (ltA A) 3 0 (0) (lyS A 30 0 0 (getL A 3).1, (getL A 3).2) = (lyS A 30 0 0 (getL A 3).1, (getL A 3).2) := by rw [bldL]
    rw [e9] at KK
    refine go_iload_n dX8_builds_7 rfl ?_
    refine go_iconst 4 dX8_builds_8 (by decide) ?_
    refine go_icmp_ge_f 81 dX8_builds_9 (by decide) (by decide) ?_
    refine go_iload_n dX8_builds_12 rfl ?_
    refine go_iload_n dX8_builds_13 rfl ?_
    refine go_iconst 2 dX8_builds_14 (by decide) ?_
    refine go_icmp_ge_t 22 dX8_builds_15 (by decide) (by decide) ?_
    refine go_iconst 2 dX8_builds_22 (by decide) ?_
    refine go_ishr dX8_builds_23 ?_
    refine go_iconst 2 dX8_builds_24 (by decide) ?_
    refine go_irem dX8_builds_25 (by decide) ?_
    refine go_iconst 1 dX8_builds_26 (by decide) ?_
    refine go_icmp_ne 75 dX8_builds_27 (by decide) (fun q27 => ?_) (fun q27 => ?_)
    · rw [fldA, if_neg (show ¬ mskB q 3 = true from fun z => q27 (of_decide_eq_true z))] at hR
      refine go_iinc dX8_builds_75 rfl (Nat.le_of_ble_eq_true rfl) rfl (show _ = _ + 1 from rfl) ?_
      refine go_goto 7 dX8_builds_78 (by decide) ?_
      exact go_sub [(0, .ref p), (1, .int q), (2, .int (nI 0)), (3, .int (nI 4))] ⟨rfl, rfl, rfl, rfl, trivial⟩ (m_blds_4 l hp hn hR)
    · have mk : mskB q 3 = true := decide_eq_true q27
      refine go_aload_n dX8_builds_30 rfl ?_
      refine go_iload_n dX8_builds_31 rfl ?_
      refine go_virt0 dX8_builds_32 (ct_w (m_laysAll l hp (k := 3) (by decide) (f := (getL A 3).1) (z := (getL A 3).2)) (by rw [show ((getL A 3).1, (getL A 3).2) = getL A 3 from rfl, getL_set (by decide)]) rfl rfl) v_X8_127_7 rfl (mdW_ob hp) rfl (Nat.le_of_ble_eq_true rfl) (Nat.le_of_ble_eq_true rfl) (Nat.le_of_ble_eq_true rfl) ?_
      refine go_iload_n dX8_builds_35 rfl ?_
      refine go_if_ne_t 47 dX8_builds_36 (by decide) (by decide) ?_
      refine go_iload_n dX8_builds_47 rfl ?_
      refine go_iconst 1 dX8_builds_48 (by decide) ?_
      refine go_isub dX8_builds_49 ?_
      refine go_istore dX8_builds_50 (Nat.le_of_ble_eq_true rfl) rfl ?_
      refine go_iload dX8_builds_52 rfl ?_
      refine go_if_lt_t 75 dX8_builds_54 (by decide) (by decide) ?_
      exact go_sub [(0, .ref p), (1, .int q), (2, .int (nI 0)), (3, .int (nI 3))] ⟨rfl, rfl, rfl, rfl, trivial⟩ (KK mk)
  · skip
    refine go_iload_n dX8_builds_7 rfl ?_
    refine go_iconst 4 dX8_builds_8 (by decide) ?_
    refine go_icmp_ge_f 81 dX8_builds_9 (by decide) (by decide) ?_
    refine go_iload_n dX8_builds_12 rfl ?_
    refine go_iload_n dX8_builds_13 rfl ?_
    refine go_iconst 2 dX8_builds_14 (by decide) ?_
    refine go_icmp_ge_t 22 dX8_builds_15 (by decide) (by decide) ?_
    refine go_iconst 2 dX8_builds_22 (by decide) ?_
    refine go_ishr dX8_builds_23 ?_
    refine go_iconst 2 dX8_builds_24 (by decide) ?_
    refine go_irem dX8_builds_25 (by decide) ?_
    refine go_iconst 1 dX8_builds_26 (by decide) ?_
    refine go_icmp_ne 75 dX8_builds_27 (by decide) (fun q27 => ?_) (fun q27 => ?_)
    · rw [fldA, if_neg (show ¬ mskB q 3 = true from fun z => q27 (of_decide_eq_true z))] at hR
      refine go_iinc dX8_builds_75 rfl (Nat.le_of_ble_eq_true rfl) rfl (show _ = _ + 1 from rfl) ?_
      refine go_goto 7 dX8_builds_78 (by decide) ?_
      exact go_sub [(0, .ref p), (1, .int q), (2, .int (nI n)), (3, .int (nI 4))] ⟨rfl, rfl, rfl, rfl, trivial⟩ (m_blds_4 l hp hn hR)
    · have mk : mskB q 3 = true := decide_eq_true q27
      refine go_aload_n dX8_builds_30 rfl ?_
      refine go_iload_n dX8_builds_31 rfl ?_
      refine go_virt0 dX8_builds_32 (ct_w (m_laysAll l hp (k := 3) (by decide) (f := (getL A 3).1) (z := (getL A 3).2)) (by rw [show ((getL A 3).1, (getL A 3).2) = getL A 3 from rfl, getL_set (by decide)]) rfl rfl) v_X8_127_7 rfl (mdW_ob hp) rfl (Nat.le_of_ble_eq_true rfl) (Nat.le_of_ble_eq_true rfl) (Nat.le_of_ble_eq_true rfl) ?_
      refine go_iload_n dX8_builds_35 rfl ?_
      refine go_if_ne_t 47 dX8_builds_36 (by decide) (by decide) ?_
      refine go_iload_n dX8_builds_47 rfl ?_
      refine go_iconst 1 dX8_builds_48 (by decide) ?_
      refine go_isub dX8_builds_49 ?_
      refine go_istore dX8_builds_50 (Nat.le_of_ble_eq_true rfl) rfl ?_
      exact go_sub [(0, .ref p), (1, .int q), (2, .int (nI n)), (3, .int (nI 3)), (4, .int (nI (n) - 1))] ⟨rfl, rfl, rfl, rfl, congrArg (fun z => some (Value.int z)) (rfl), trivial⟩ (m_bld_52 l hp (k := 3) (by decide) (by omega) hn (KK mk) (n) (lyS A 30 0 0 (getL A 3).1, (getL A 3).2) (by omega) (lyS_ok 30 0 0 _ rfl (hA 3 (by decide))) rfl)
theorem m_blds_2 (l : Launch) {w : MW} {p : Nat} {A P K T : Nat → Int32} {x : XS} (hp : p + 4 < w.1) {n : Nat} (hn : n ≤ 30) {q : Int32} {R : Nat → Int32} (hA : mI A) (hR : R = fldA (blA n) q 2 2 A) : Go l yX8_builds cX8_builds 5 none [] none (mm_Z (mm_eq (.inl none) (mdW w p R P K T x))) 5 0 0 7 [(0, .ref p), (1, .int q), (2, .int (nI n)), (3, .int (nI 2))] [] (mdW w p A P K T x) := by
  have KK : mskB q 2 = true → Go l yX8_builds cX8_builds 5 none [] none (mm_Z (mm_eq (.inl none) (mdW w p R P K T x))) 5 0 0 75 [(0, .ref p), (1, .int q), (2, .int (nI n)), (3, .int (nI 2))] [] (mdW w p (setL A 2 (bldL (ltA A) 2 n (n) (lyS A 30 0 0 (getL A 2).1, (getL A 2).2))) P K T x) := by
    intro mk
    rw [show setL A 2 (bldL (ltA A) 2 n (n) (lyS A 30 0 0 (getL A 2).1, (getL A 2).2)) = blA n 2 A from by unfold blA cK; rw [if_neg (by decide)]]
    refine go_iinc dX8_builds_75 rfl (Nat.le_of_ble_eq_true rfl) rfl (show _ = _ + 1 from rfl) ?_
    refine go_goto 7 dX8_builds_78 (by decide) ?_
    exact go_sub [(0, .ref p), (1, .int q), (2, .int (nI n)), (3, .int (nI 3))] ⟨rfl, rfl, rfl, rfl, trivial⟩ (m_blds_3 l hp (A := blA n 2 A) hn (mI_blA (by decide) hn hA) (by rw [hR, fldA, if_pos mk]))
  by_cases e0 : n = 0
  · subst e0
    have e9 : bldL (ltA A) 2 0 (0) (lyS A 30 0 0 (getL A 2).1, (getL A 2).2) = (lyS A 30 0 0 (getL A 2).1, (getL A 2).2) := by rw [bldL]
    rw [e9] at KK
    refine go_iload_n dX8_builds_7 rfl ?_
    refine go_iconst 4 dX8_builds_8 (by decide) ?_
    refine go_icmp_ge_f 81 dX8_builds_9 (by decide) (by decide) ?_
    refine go_iload_n dX8_builds_12 rfl ?_
    refine go_iload_n dX8_builds_13 rfl ?_
    refine go_iconst 2 dX8_builds_14 (by decide) ?_
    refine go_icmp_ge_t 22 dX8_builds_15 (by decide) (by decide) ?_
    refine go_iconst 2 dX8_builds_22 (by decide) ?_
    refine go_ishr dX8_builds_23 ?_
    refine go_iconst 2 dX8_builds_24 (by decide) ?_
    refine go_irem dX8_builds_25 (by decide) ?_
    refine go_iconst 1 dX8_builds_26 (by decide) ?_
    refine go_icmp_ne 75 dX8_builds_27 (by decide) (fun q27 => ?_) (fun q27 => ?_)
    · rw [fldA, if_neg (show ¬ mskB q 2 = true from fun z => q27 (of_decide_eq_true z))] at hR
      refine go_iinc dX8_builds_75 rfl (Nat.le_of_ble_eq_true rfl) rfl (show _ = _ + 1 from rfl) ?_
      refine go_goto 7 dX8_builds_78 (by decide) ?_
      exact go_sub [(0, .ref p), (1, .int q), (2, .int (nI 0)), (3, .int (nI 3))] ⟨rfl, rfl, rfl, rfl, trivial⟩ (m_blds_3 l hp hn hA hR)
    · have mk : mskB q 2 = true := decide_eq_true q27
      refine go_aload_n dX8_builds_30 rfl ?_
      refine go_iload_n dX8_builds_31 rfl ?_
      refine go_virt0 dX8_builds_32 (ct_w (m_laysAll l hp (k := 2) (by decide) (f := (getL A 2).1) (z := (getL A 2).2)) (by rw [show ((getL A 2).1, (getL A 2).2) = getL A 2 from rfl, getL_set (by decide)]) rfl rfl) v_X8_127_7 rfl (mdW_ob hp) rfl (Nat.le_of_ble_eq_true rfl) (Nat.le_of_ble_eq_true rfl) (Nat.le_of_ble_eq_true rfl) ?_
      refine go_iload_n dX8_builds_35 rfl ?_
      refine go_if_ne_t 47 dX8_builds_36 (by decide) (by decide) ?_
      refine go_iload_n dX8_builds_47 rfl ?_
      refine go_iconst 1 dX8_builds_48 (by decide) ?_
      refine go_isub dX8_builds_49 ?_
      refine go_istore dX8_builds_50 (Nat.le_of_ble_eq_true rfl) rfl ?_
      refine go_iload dX8_builds_52 rfl ?_
      refine go_if_lt_t 75 dX8_builds_54 (by decide) (by decide) ?_
      exact go_sub [(0, .ref p), (1, .int q), (2, .int (nI 0)), (3, .int (nI 2))] ⟨rfl, rfl, rfl, rfl, trivial⟩ (KK mk)
  · skip
    refine go_iload_n dX8_builds_7 rfl ?_
    refine go_iconst 4 dX8_builds_8 (by decide) ?_
    refine go_icmp_ge_f 81 dX8_builds_9 (by decide) (by decide) ?_
    refine go_iload_n dX8_builds_12 rfl ?_
    refine go_iload_n dX8_builds_13 rfl ?_
    refine go_iconst 2 dX8_builds_14 (by decide) ?_
    refine go_icmp_ge_t 22 dX8_builds_15 (by decide) (by decide) ?_
    refine go_iconst 2 dX8_builds_22 (by decide) ?_
    refine go_ishr dX8_builds_23 ?_
    refine go_iconst 2 dX8_builds_24 (by decide) ?_
    refine go_irem dX8_builds_25 (by decide) ?_
    refine go_iconst 1 dX8_builds_26 (by decide) ?_
    refine go_icmp_ne 75 dX8_builds_27 (by decide) (fun q27 => ?_) (fun q27 => ?_)
    · rw [fldA, if_neg (show ¬ mskB q 2 = true from fun z => q27 (of_decide_eq_true z))] at hR
      refine go_iinc dX8_builds_75 rfl (Nat.le_of_ble_eq_true rfl) rfl (show _ = _ + 1 from rfl) ?_
      refine go_goto 7 dX8_builds_78 (by decide) ?_
      exact go_sub [(0, .ref p), (1, .int q), (2, .int (nI n)), (3, .int (nI 3))] ⟨rfl, rfl, rfl, rfl, trivial⟩ (m_blds_3 l hp hn hA hR)
    · have mk : mskB q 2 = true := decide_eq_true q27
      refine go_aload_n dX8_builds_30 rfl ?_
      refine go_iload_n dX8_builds_31 rfl ?_
      refine go_virt0 dX8_builds_32 (ct_w (m_laysAll l hp (k := 2) (by decide) (f := (getL A 2).1) (z := (getL A 2).2)) (by rw [show ((getL A 2).1, (getL A 2).2) = getL A 2 from rfl, getL_set (by decide)]) rfl rfl) v_X8_127_7 rfl (mdW_ob hp) rfl (Nat.le_of_ble_eq_true rfl) (Nat.le_of_ble_eq_true rfl) (Nat.le_of_ble_eq_true rfl) ?_
      refine go_iload_n dX8_builds_35 rfl ?_
      refine go_if_ne_t 47 dX8_builds_36 (by decide) (by decide) ?_
      refine go_iload_n dX8_builds_47 rfl ?_
      refine go_iconst 1 dX8_builds_48 (by decide) ?_
      refine go_isub dX8_builds_49 ?_
      refine go_istore dX8_builds_50 (Nat.le_of_ble_eq_true rfl) rfl ?_
      exact go_sub [(0, .ref p), (1, .int q), (2, .int (nI n)), (3, .int (nI 2)), (4, .int (nI (n) - 1))] ⟨rfl, rfl, rfl, rfl, congrArg (fun z => some (Value.int z)) (rfl), trivial⟩ (m_bld_52 l hp (k := 2) (by decide) (by omega) hn (KK mk) (n) (lyS A 30 0 0 (getL A 2).1, (getL A 2).2) (by omega) (lyS_ok 30 0 0 _ rfl (hA 2 (by decide))) rfl)
theorem m_blds_1 (l : Launch) {w : MW} {p : Nat} {A P K T : Nat → Int32} {x : XS} (hp : p + 4 < w.1) {n : Nat} (hn : n ≤ 30) {q : Int32} {R : Nat → Int32} (hA : mI A) (hR : R = fldA (blA n) q 3 1 A) : Go l yX8_builds cX8_builds 5 none [] none (mm_Z (mm_eq (.inl none) (mdW w p R P K T x))) 5 0 0 7 [(0, .ref p), (1, .int q), (2, .int (nI n)), (3, .int (nI 1))] [] (mdW w p A P K T x) := by
  have KK : mskB q 1 = true → Go l yX8_builds cX8_builds 5 none [] none (mm_Z (mm_eq (.inl none) (mdW w p R P K T x))) 5 0 0 75 [(0, .ref p), (1, .int q), (2, .int (nI n)), (3, .int (nI 1))] [] (mdW w p (setL A 1 (bldL (ltA A) 1 n (n) (lyS A 30 0 0 (getL A 1).1, (getL A 1).2))) P K T x) := by
    intro mk
    rw [show setL A 1 (bldL (ltA A) 1 n (n) (lyS A 30 0 0 (getL A 1).1, (getL A 1).2)) = blA n 1 A from by unfold blA cK; rw [if_neg (by decide)]]
    refine go_iinc dX8_builds_75 rfl (Nat.le_of_ble_eq_true rfl) rfl (show _ = _ + 1 from rfl) ?_
    refine go_goto 7 dX8_builds_78 (by decide) ?_
    exact go_sub [(0, .ref p), (1, .int q), (2, .int (nI n)), (3, .int (nI 2))] ⟨rfl, rfl, rfl, rfl, trivial⟩ (m_blds_2 l hp (A := blA n 1 A) hn (mI_blA (by decide) hn hA) (by rw [hR, fldA, if_pos mk]))
  by_cases e0 : n = 0
  · subst e0
    have e9 : bldL (ltA A) 1 0 (0) (lyS A 30 0 0 (getL A 1).1, (getL A 1).2) = (lyS A 30 0 0 (getL A 1).1, (getL A 1).2) := by rw [bldL]
    rw [e9] at KK
    refine go_iload_n dX8_builds_7 rfl ?_
    refine go_iconst 4 dX8_builds_8 (by decide) ?_
    refine go_icmp_ge_f 81 dX8_builds_9 (by decide) (by decide) ?_
    refine go_iload_n dX8_builds_12 rfl ?_
    refine go_iload_n dX8_builds_13 rfl ?_
    refine go_iconst 2 dX8_builds_14 (by decide) ?_
    refine go_icmp_ge_f 22 dX8_builds_15 (by decide) (by decide) ?_
    refine go_iload_n dX8_builds_18 rfl ?_
    refine go_goto 23 dX8_builds_19 (by decide) ?_
    refine go_ishr dX8_builds_23 ?_
    refine go_iconst 2 dX8_builds_24 (by decide) ?_
    refine go_irem dX8_builds_25 (by decide) ?_
    refine go_iconst 1 dX8_builds_26 (by decide) ?_
    refine go_icmp_ne 75 dX8_builds_27 (by decide) (fun q27 => ?_) (fun q27 => ?_)
    · rw [fldA, if_neg (show ¬ mskB q 1 = true from fun z => q27 (of_decide_eq_true z))] at hR
      refine go_iinc dX8_builds_75 rfl (Nat.le_of_ble_eq_true rfl) rfl (show _ = _ + 1 from rfl) ?_
      refine go_goto 7 dX8_builds_78 (by decide) ?_
      exact go_sub [(0, .ref p), (1, .int q), (2, .int (nI 0)), (3, .int (nI 2))] ⟨rfl, rfl, rfl, rfl, trivial⟩ (m_blds_2 l hp hn hA hR)
    · have mk : mskB q 1 = true := decide_eq_true q27
      refine go_aload_n dX8_builds_30 rfl ?_
      refine go_iload_n dX8_builds_31 rfl ?_
      refine go_virt0 dX8_builds_32 (ct_w (m_laysAll l hp (k := 1) (by decide) (f := (getL A 1).1) (z := (getL A 1).2)) (by rw [show ((getL A 1).1, (getL A 1).2) = getL A 1 from rfl, getL_set (by decide)]) rfl rfl) v_X8_127_7 rfl (mdW_ob hp) rfl (Nat.le_of_ble_eq_true rfl) (Nat.le_of_ble_eq_true rfl) (Nat.le_of_ble_eq_true rfl) ?_
      refine go_iload_n dX8_builds_35 rfl ?_
      refine go_if_ne_t 47 dX8_builds_36 (by decide) (by decide) ?_
      refine go_iload_n dX8_builds_47 rfl ?_
      refine go_iconst 1 dX8_builds_48 (by decide) ?_
      refine go_isub dX8_builds_49 ?_
      refine go_istore dX8_builds_50 (Nat.le_of_ble_eq_true rfl) rfl ?_
      refine go_iload dX8_builds_52 rfl ?_
      refine go_if_lt_t 75 dX8_builds_54 (by decide) (by decide) ?_
      exact go_sub [(0, .ref p), (1, .int q), (2, .int (nI 0)), (3, .int (nI 1))] ⟨rfl, rfl, rfl, rfl, trivial⟩ (KK mk)
  · skip
    refine go_iload_n dX8_builds_7 rfl ?_
    refine go_iconst 4 dX8_builds_8 (by decide) ?_
    refine go_icmp_ge_f 81 dX8_builds_9 (by decide) (by decide) ?_
    refine go_iload_n dX8_builds_12 rfl ?_
    refine go_iload_n dX8_builds_13 rfl ?_
    refine go_iconst 2 dX8_builds_14 (by decide) ?_
    refine go_icmp_ge_f 22 dX8_builds_15 (by decide) (by decide) ?_
    refine go_iload_n dX8_builds_18 rfl ?_
    refine go_goto 23 dX8_builds_19 (by decide) ?_
    refine go_ishr dX8_builds_23 ?_
    refine go_iconst 2 dX8_builds_24 (by decide) ?_
    refine go_irem dX8_builds_25 (by decide) ?_
    refine go_iconst 1 dX8_builds_26 (by decide) ?_
    refine go_icmp_ne 75 dX8_builds_27 (by decide) (fun q27 => ?_) (fun q27 => ?_)
    · rw [fldA, if_neg (show ¬ mskB q 1 = true from fun z => q27 (of_decide_eq_true z))] at hR
      refine go_iinc dX8_builds_75 rfl (Nat.le_of_ble_eq_true rfl) rfl (show _ = _ + 1 from rfl) ?_
      refine go_goto 7 dX8_builds_78 (by decide) ?_
      exact go_sub [(0, .ref p), (1, .int q), (2, .int (nI n)), (3, .int (nI 2))] ⟨rfl, rfl, rfl, rfl, trivial⟩ (m_blds_2 l hp hn hA hR)
    · have mk : mskB q 1 = true := decide_eq_true q27
      refine go_aload_n dX8_builds_30 rfl ?_
      refine go_iload_n dX8_builds_31 rfl ?_
      refine go_virt0 dX8_builds_32 (ct_w (m_laysAll l hp (k := 1) (by decide) (f := (getL A 1).1) (z := (getL A 1).2)) (by rw [show ((getL A 1).1, (getL A 1).2) = getL A 1 from rfl, getL_set (by decide)]) rfl rfl) v_X8_127_7 rfl (mdW_ob hp) rfl (Nat.le_of_ble_eq_true rfl) (Nat.le_of_ble_eq_true rfl) (Nat.le_of_ble_eq_true rfl) ?_
      refine go_iload_n dX8_builds_35 rfl ?_
      refine go_if_ne_t 47 dX8_builds_36 (by decide) (by decide) ?_
      refine go_iload_n dX8_builds_47 rfl ?_
      refine go_iconst 1 dX8_builds_48 (by decide) ?_
      refine go_isub dX8_builds_49 ?_
      refine go_istore dX8_builds_50 (Nat.le_of_ble_eq_true rfl) rfl ?_
      exact go_sub [(0, .ref p), (1, .int q), (2, .int (nI n)), (3, .int (nI 1)), (4, .int (nI (n) - 1))] ⟨rfl, rfl, rfl, rfl, congrArg (fun z => some (Value.int z)) (rfl), trivial⟩ (m_bld_52 l hp (k := 1) (by decide) (by omega) hn (KK mk) (n) (lyS A 30 0 0 (getL A 1).1, (getL A 1).2) (by omega) (lyS_ok 30 0 0 _ rfl (hA 1 (by decide))) rfl)
theorem m_blds_0 (l : Launch) {w : MW} {p : Nat} {A P K T : Nat → Int32} {x : XS} (hp : p + 4 < w.1) {n : Nat} (hn : n ≤ 30) {q : Int32} {R : Nat → Int32} (hA : mI A) (hR : R = fldA (blA n) q 4 0 A) : Go l yX8_builds cX8_builds 5 none [] none (mm_Z (mm_eq (.inl none) (mdW w p R P K T x))) 5 0 0 7 [(0, .ref p), (1, .int q), (2, .int (nI n)), (3, .int (nI 0))] [] (mdW w p A P K T x) := by
  have KK : mskB q 0 = true → Go l yX8_builds cX8_builds 5 none [] none (mm_Z (mm_eq (.inl none) (mdW w p R P K T x))) 5 0 0 75 [(0, .ref p), (1, .int q), (2, .int (nI n)), (3, .int (nI 0))] [] (mdW w p (setL A 0 (bldL (ltA A) 0 n ((n + 1) / 2) (lyS A 30 0 0 (getL A 0).1, (getL A 0).2))) P K T x) := by
    intro mk
    rw [show setL A 0 (bldL (ltA A) 0 n ((n + 1) / 2) (lyS A 30 0 0 (getL A 0).1, (getL A 0).2)) = blA n 0 A from by unfold blA cK; rw [if_pos rfl]]
    refine go_iinc dX8_builds_75 rfl (Nat.le_of_ble_eq_true rfl) rfl (show _ = _ + 1 from rfl) ?_
    refine go_goto 7 dX8_builds_78 (by decide) ?_
    exact go_sub [(0, .ref p), (1, .int q), (2, .int (nI n)), (3, .int (nI 1))] ⟨rfl, rfl, rfl, rfl, trivial⟩ (m_blds_1 l hp (A := blA n 0 A) hn (mI_blA (by decide) hn hA) (by rw [hR, fldA, if_pos mk]))
  by_cases e0 : n = 0
  · subst e0
    have e9 : bldL (ltA A) 0 0 ((0 + 1) / 2) (lyS A 30 0 0 (getL A 0).1, (getL A 0).2) = (lyS A 30 0 0 (getL A 0).1, (getL A 0).2) := by rw [show (0 + 1) / 2 = 0 from rfl, bldL]
    rw [e9] at KK
    refine go_iload_n dX8_builds_7 rfl ?_
    refine go_iconst 4 dX8_builds_8 (by decide) ?_
    refine go_icmp_ge_f 81 dX8_builds_9 (by decide) (by decide) ?_
    refine go_iload_n dX8_builds_12 rfl ?_
    refine go_iload_n dX8_builds_13 rfl ?_
    refine go_iconst 2 dX8_builds_14 (by decide) ?_
    refine go_icmp_ge_f 22 dX8_builds_15 (by decide) (by decide) ?_
    refine go_iload_n dX8_builds_18 rfl ?_
    refine go_goto 23 dX8_builds_19 (by decide) ?_
    refine go_ishr dX8_builds_23 ?_
    refine go_iconst 2 dX8_builds_24 (by decide) ?_
    refine go_irem dX8_builds_25 (by decide) ?_
    refine go_iconst 1 dX8_builds_26 (by decide) ?_
    refine go_icmp_ne 75 dX8_builds_27 (by decide) (fun q27 => ?_) (fun q27 => ?_)
    · rw [fldA, if_neg (show ¬ mskB q 0 = true from fun z => q27 (of_decide_eq_true z))] at hR
      refine go_iinc dX8_builds_75 rfl (Nat.le_of_ble_eq_true rfl) rfl (show _ = _ + 1 from rfl) ?_
      refine go_goto 7 dX8_builds_78 (by decide) ?_
      exact go_sub [(0, .ref p), (1, .int q), (2, .int (nI 0)), (3, .int (nI 1))] ⟨rfl, rfl, rfl, rfl, trivial⟩ (m_blds_1 l hp hn hA hR)
    · have mk : mskB q 0 = true := decide_eq_true q27
      refine go_aload_n dX8_builds_30 rfl ?_
      refine go_iload_n dX8_builds_31 rfl ?_
      refine go_virt0 dX8_builds_32 (ct_w (m_laysAll l hp (k := 0) (by decide) (f := (getL A 0).1) (z := (getL A 0).2)) (by rw [show ((getL A 0).1, (getL A 0).2) = getL A 0 from rfl, getL_set (by decide)]) rfl rfl) v_X8_127_7 rfl (mdW_ob hp) rfl (Nat.le_of_ble_eq_true rfl) (Nat.le_of_ble_eq_true rfl) (Nat.le_of_ble_eq_true rfl) ?_
      refine go_iload_n dX8_builds_35 rfl ?_
      refine go_if_ne_f 47 dX8_builds_36 (by decide) (rfl) ?_
      refine go_iload_n dX8_builds_39 rfl ?_
      refine go_iconst 1 dX8_builds_40 (by decide) ?_
      refine go_isub dX8_builds_41 ?_
      refine go_iconst 2 dX8_builds_42 (by decide) ?_
      refine go_idiv dX8_builds_43 (by decide) ?_
      refine go_goto 50 dX8_builds_44 (by decide) ?_
      refine go_istore dX8_builds_50 (Nat.le_of_ble_eq_true rfl) rfl ?_
      refine go_iload dX8_builds_52 rfl ?_
      refine go_if_lt_f 75 dX8_builds_54 (by decide) (by decide) ?_
      refine go_iload_n dX8_builds_57 rfl ?_
      refine go_if_le_t 75 dX8_builds_58 (by decide) (by decide) ?_
      exact go_sub [(0, .ref p), (1, .int q), (2, .int (nI 0)), (3, .int (nI 0))] ⟨rfl, rfl, rfl, rfl, trivial⟩ (KK mk)
  · skip
    refine go_iload_n dX8_builds_7 rfl ?_
    refine go_iconst 4 dX8_builds_8 (by decide) ?_
    refine go_icmp_ge_f 81 dX8_builds_9 (by decide) (by decide) ?_
    refine go_iload_n dX8_builds_12 rfl ?_
    refine go_iload_n dX8_builds_13 rfl ?_
    refine go_iconst 2 dX8_builds_14 (by decide) ?_
    refine go_icmp_ge_f 22 dX8_builds_15 (by decide) (by decide) ?_
    refine go_iload_n dX8_builds_18 rfl ?_
    refine go_goto 23 dX8_builds_19 (by decide) ?_
    refine go_ishr dX8_builds_23 ?_
    refine go_iconst 2 dX8_builds_24 (by decide) ?_
    refine go_irem dX8_builds_25 (by decide) ?_
    refine go_iconst 1 dX8_builds_26 (by decide) ?_
    refine go_icmp_ne 75 dX8_builds_27 (by decide) (fun q27 => ?_) (fun q27 => ?_)
    · rw [fldA, if_neg (show ¬ mskB q 0 = true from fun z => q27 (of_decide_eq_true z))] at hR
      refine go_iinc dX8_builds_75 rfl (Nat.le_of_ble_eq_true rfl) rfl (show _ = _ + 1 from rfl) ?_
      refine go_goto 7 dX8_builds_78 (by decide) ?_
      exact go_sub [(0, .ref p), (1, .int q), (2, .int (nI n)), (3, .int (nI 1))] ⟨rfl, rfl, rfl, rfl, trivial⟩ (m_blds_1 l hp hn hA hR)
    · have mk : mskB q 0 = true := decide_eq_true q27
      refine go_aload_n dX8_builds_30 rfl ?_
      refine go_iload_n dX8_builds_31 rfl ?_
      refine go_virt0 dX8_builds_32 (ct_w (m_laysAll l hp (k := 0) (by decide) (f := (getL A 0).1) (z := (getL A 0).2)) (by rw [show ((getL A 0).1, (getL A 0).2) = getL A 0 from rfl, getL_set (by decide)]) rfl rfl) v_X8_127_7 rfl (mdW_ob hp) rfl (Nat.le_of_ble_eq_true rfl) (Nat.le_of_ble_eq_true rfl) (Nat.le_of_ble_eq_true rfl) ?_
      refine go_iload_n dX8_builds_35 rfl ?_
      refine go_if_ne_f 47 dX8_builds_36 (by decide) (rfl) ?_
      refine go_iload_n dX8_builds_39 rfl ?_
      refine go_iconst 1 dX8_builds_40 (by decide) ?_
      refine go_isub dX8_builds_41 ?_
      refine go_iconst 2 dX8_builds_42 (by decide) ?_
      refine go_idiv dX8_builds_43 (by decide) ?_
      refine go_goto 50 dX8_builds_44 (by decide) ?_
      refine go_istore dX8_builds_50 (Nat.le_of_ble_eq_true rfl) rfl ?_
      exact go_sub [(0, .ref p), (1, .int q), (2, .int (nI n)), (3, .int (nI 0)), (4, .int (nI ((n + 1) / 2) - 1))] ⟨rfl, rfl, rfl, rfl, congrArg (fun z => some (Value.int z)) (by rw [a_par (by omega) (by omega), show (n - 1) / 2 = (n + 1) / 2 - 1 by omega]; exact (a_pred (by omega)).symm), trivial⟩ (m_bld_52 l hp (k := 0) (by decide) (by omega) hn (KK mk) ((n + 1) / 2) (lyS A 30 0 0 (getL A 0).1, (getL A 0).2) (by omega) (lyS_ok 30 0 0 _ rfl (hA 0 (by decide))) rfl)
theorem m_builds (l : Launch) {w : MW} {p : Nat} {A P K T : Nat → Int32} {x : XS} (hp : p + 4 < w.1) {n : Nat} (hn : n ≤ 30) {q : Int32} (h180 : A 180 = nI n) (hA : mI A) : Ct l (.code yX8_builds cX8_builds 5 none) yX8_builds 5 0 0 [.ref p, .int q] (mdW w p A P K T x) (.inl none) (mdW w p (fldA (blA n) q 4 0 A) P K T x) := by
  refine ct_of (by decide +kernel) (Nat.le_of_ble_eq_true rfl) ?_
  refine go_aload_n dX8_builds_0 rfl ?_
  refine go_virt1 dX8_builds_1 (m_many l hp) v_X8_95_7 rfl (mdW_ob hp) rfl (Nat.le_of_ble_eq_true rfl) (Nat.le_of_ble_eq_true rfl) (Nat.le_of_ble_eq_true rfl) ?_
  rw [h180]
  refine go_istore_n dX8_builds_4 (Nat.le_of_ble_eq_true rfl) rfl ?_
  refine go_iconst 0 dX8_builds_5 (by decide) ?_
  refine go_istore_n dX8_builds_6 (Nat.le_of_ble_eq_true rfl) rfl ?_
  exact go_sub [(0, .ref p), (1, .int q), (2, .int (nI n)), (3, .int (nI 0))] ⟨rfl, rfl, rfl, rfl, trivial⟩ (m_blds_0 l hp hn hA rfl)
