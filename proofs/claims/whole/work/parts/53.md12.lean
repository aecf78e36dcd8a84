theorem wi_bad {x lo hi hj : Int32} (hd : ¬ hj ≤ hi) (h : x < lo ∨ hj ≤ x) : (decide (lo ≤ x) && decide (x ≤ hi)) = false := by
  rcases h with h | h
  · rw [decide_eq_false (Int32.not_le.mpr h), Bool.false_and]
  · rw [decide_eq_false (p := x ≤ hi) (fun z => hd (Int32.le_trans h z)), Bool.and_false]
theorem wi_bad2 {x lo hi : Int32} (h : x < lo ∨ hi < x) : (decide (lo ≤ x) && decide (x ≤ hi)) = false := by
  rcases h with h | h
  · rw [decide_eq_false (Int32.not_le.mpr h), Bool.false_and]
  · rw [decide_eq_false (p := x ≤ hi) (Int32.not_le.mpr h), Bool.and_false]
theorem wi_ok {k a m : Nat} (h0 : a ≤ k) (h : k ≤ m) (hm : m < 2 ^ 31) : (decide (nI a ≤ nI k) && decide (nI k ≤ nI m)) = true := by
  rw [decide_eq_true (nI_le h0 (by omega)), decide_eq_true (nI_le h hm)]
  rfl
theorem pos_y {n i : Nat} (h : i < n) (hn : n ≤ 30) : (decide ((0 : Int32) ≤ nI i) && decide (nI i ≤ nI n - 1)) = true := by
  rw [a_pred (by omega)]
  exact wi_ok (a := 0) (by omega) (by omega) (by omega)
theorem pos_n {n : Nat} {x : Int32} (h : x < 0 ∨ nI n ≤ x) (hn : n ≤ 30) : (decide ((0 : Int32) ≤ x) && decide (x ≤ nI n - 1)) = false := by
  refine wi_bad ?_ h
  rcases Nat.eq_zero_or_pos n with z | z
  · rw [z]; decide
  · rw [a_pred z]
    exact nI_ge (by omega) (by omega)
def zrA (A : Nat → Int32) (k : Nat) : Nat → Int32 := fun i => if i < k then 0 else A i
theorem zrA_s {A : Nat → Int32} {k : Nat} : upd (zrA A k) k 0 = zrA A (k + 1) := by
  funext i
  simp only [upd, zrA]
  by_cases e : i = k
  · rw [if_pos e, if_pos (by omega)]
  · rw [if_neg e]
    by_cases h : i < k
    · rw [if_pos h, if_pos (by omega)]
    · rw [if_neg h, if_neg (by omega)]
theorem zrA_0 {A : Nat → Int32} : zrA A 0 = A := by
  funext i
  exact if_neg (Nat.not_lt_zero i)
def fgA (A : Nat → Int32) (k : Nat) : Nat → Int32 := fun i => if 181 ≤ i ∧ i < 181 + k then 0 else A i
theorem fgA_s {A : Nat → Int32} {k : Nat} : upd (fgA A k) (181 + k) 0 = fgA A (k + 1) := by
  funext i
  simp only [upd, fgA]
  by_cases e : i = 181 + k
  · rw [if_pos e, if_pos (by omega)]
  · rw [if_neg e]
    by_cases h : 181 ≤ i ∧ i < 181 + k
    · rw [if_pos h, if_pos (by omega)]
    · rw [if_neg h, if_neg (by omega)]
theorem fgA_0 {A : Nat → Int32} : fgA A 0 = A := by
  funext i
  exact if_neg (by omega)
def rkA (A : Nat → Int32) (x : Int32) : Nat → Nat → Int32
  | 0, _ => -1
  | u + 1, h => if itB A (nI h) = true ∧ nI (rnA A (nI h) 30 0 0) = x then nI h else rkA A x u (h + 1)
def btA (A : Nat → Int32) (lo hi : Int32) : Nat → Nat → Nat → Nat
  | 0, _, b => b
  | u + 1, h, b => btA A lo hi u (h + 1) (if itB A (nI h) = true ∧ lo ≤ A h ∧ A h ≤ hi then b + 1 else b)
def acS (z : Int32) : Nat → Nat → Int32 → Int32
  | 0, _, c => c
  | u + 1, h, c => acS z u (h + 1) (c + ((z >>> (nI h &&& 31)) &&& 1))
def fiA : Nat → Int64 → (Nat → Int32) → (Nat → Int32)
  | 0, _, A => A
  | u + 1, x, A => fiA u (lcg x) (insA 7 (nA A) (lcgK (lcg x)) A)
def soA (q : Int32) (k : Nat) : Nat → (Nat → Int32) → (Nat → Int32)
  | 0, A => A
  | u + 1, A => soA q k u (goF q (u + 1) (lsA A (u + 1) k).toNatClampNeg A)
def fwA (A : Nat → Int32) : Nat → Nat → Nat → Nat
  | 0, _, b => b
  | u + 1, i, b => fwA A u (i + 1) (if A (181 + i) < A (181 + b) then i else b)
def kyA (A : Nat → Int32) : Nat → Nat → Int64 → Int64
  | 0, _, h => h
  | u + 1, i, h => kyA A u (i + 1) (if itB A (nI i) = true then 31 * h + (A i).toInt64 else h)
def roA (f : Nat → Int32) : Nat → Nat → Int64 → Int64
  | 0, _, h => h
  | u + 1, i, h => roA f u (i + 1) (31 * h + (f i).toInt64)
def laA (A : Nat → Int32) (n : Nat) : Nat → Nat → Int64 → Int64
  | 0, _, h => h
  | u + 1, k, h => laA A n u (k + 1) (31 * roA (getL A k).1 n 0 h + (nI (brkK (ltA A) k n (getL A k).1)).toInt64)
def cnA (A : Nat → Int32) : Nat → Nat → Int64 → Int64
  | 0, _, h => h
  | u + 1, k, h => cnA A u (k + 1) (31 * h + (A (181 + k)).toInt64)
theorem m_undo_33 (l : Launch) {w : MW} {p : Nat} {A P K T : Nat → Int32} {sv : Nat} {rf : Int32} {y : Int32 × Int32 × Int32 × Int32 × Int64} (hp : p + 4 < w.1) (hs : sv ≤ 4) : ∀ (u k : Nat), u + k = 184 → Go l yX8_undo cX8_undo 2 (some .int) [] none (mm_Z (mm_eq (.inl (some (.int (nI sv)))) (mdW w p (cpyF P A (184 * sv) 0 184) P K T (nI sv, 0, y)))) 1 0 0 33 [(0, .ref p), (1, .int (nI k))] [] (mdW w p (cpyF P A (184 * sv) 0 k) P K T (nI sv, 0, y)) := by
  intro u
  induction u with
  | zero =>
    intro k hu
    have ek : k = 184 := by omega
    subst ek
    refine go_iload_n dX8_undo_33 rfl ?_
    refine go_sipush 184 dX8_undo_34 (by decide) ?_
    refine go_icmp_ge_t 67 dX8_undo_37 (by decide) (by decide) ?_
    refine go_aload_n dX8_undo_67 rfl ?_
    refine go_getfield dX8_undo_68 f_X8_26_7 (mdW_ob hp) rfl ?_
    exact go_ireturn dX8_undo_71 rfl rfl
  | succ u ih =>
    intro k hu
    refine go_iload_n dX8_undo_33 rfl ?_
    refine go_sipush 184 dX8_undo_34 (by decide) ?_
    refine go_icmp_ge_f 67 dX8_undo_37 (by decide) (n_nle (a := 184) (by omega) (by decide)) ?_
    refine go_aload_n dX8_undo_40 rfl ?_
    refine go_getfield dX8_undo_41 f_X8_7_7 (mdW_ob hp) rfl ?_
    refine go_iload_n dX8_undo_44 rfl ?_
    refine go_aload_n dX8_undo_45 rfl ?_
    refine go_getfield dX8_undo_46 f_X8_13_7 (mdW_ob hp) rfl ?_
    refine go_sipush 184 dX8_undo_49 (by decide) ?_
    refine go_aload_n dX8_undo_52 rfl ?_
    refine go_getfield dX8_undo_53 f_X8_26_7 (mdW_ob hp) rfl ?_
    refine go_imul dX8_undo_56 ?_
    refine go_top (.int (nI (184 * sv))) (congrArg Value.int (pk_mul 184 sv)) ?_
    refine go_iload_n dX8_undo_57 rfl ?_
    refine go_iadd dX8_undo_58 ?_
    refine go_top (.int (nI (184 * sv + k))) (congrArg Value.int (nI_add (184 * sv) k)) ?_
    refine go_iaload (184 * sv + k) dX8_undo_59 (mdW_P hp) rfl (by omega) (by decide) ?_
    refine go_iastore k dX8_undo_60 (mdW_A hp) rfl (by omega) (by decide) ?_
    refine go_w _ ((mdW_uA _).trans (by rw [cpyF_sd])) ?_
    refine go_iinc dX8_undo_61 rfl (Nat.le_of_ble_eq_true rfl) rfl (show _ = _ + 1 from rfl) ?_
    rw [a_k1]
    refine go_goto 33 dX8_undo_64 (by decide) ?_
    exact go_sub [(0, .ref p), (1, .int (nI (k + 1)))] ⟨rfl, rfl, trivial⟩ (ih (k + 1) (by omega))
theorem m_undo_y (l : Launch) {w : MW} {p : Nat} {A P K T : Nat → Int32} {sv : Nat} {rf : Int32} {y : Int32 × Int32 × Int32 × Int32 × Int64} (hp : p + 4 < w.1) (hs : sv ≤ 4) : Ct l (.code yX8_undo cX8_undo 2 (some .int)) yX8_undo 1 0 0 [.ref p] (mdW w p A P K T (nI (sv + 1), rf, y)) (.inl (some (.int (nI sv)))) (mdW w p (cpyF P A (184 * sv) 0 184) P K T (nI sv, 0, y)) := by
  refine ct_of (by decide +kernel) (Nat.le_of_ble_eq_true rfl) ?_
  refine go_aload_n dX8_undo_0 rfl ?_
  refine go_aload_n dX8_undo_1 rfl ?_
  refine go_getfield dX8_undo_2 f_X8_26_7 (mdW_ob hp) rfl ?_
  refine go_if_ne_t 12 dX8_undo_5 (by decide) (nI_ne0 (n := sv + 1) (by omega) (by omega)) ?_
  refine go_iconst 0 dX8_undo_12 (by decide) ?_
  refine go_virt1 dX8_undo_13 (m_refd l hp (a := nI (sv + 1)) (b := rf) (y := y) (r := 0)) v_X8_29_7 rfl (mdW_ob hp) rfl (Nat.le_of_ble_eq_true rfl) (Nat.le_of_ble_eq_true rfl) (Nat.le_of_ble_eq_true rfl) ?_
  refine go_if_eq_t 21 dX8_undo_16 (by decide) (by decide) ?_
  refine go_aload_n dX8_undo_21 rfl ?_
  refine go_dup dX8_undo_22 rfl ?_
  refine go_getfield dX8_undo_23 f_X8_26_7 (mdW_ob hp) rfl ?_
  refine go_iconst 1 dX8_undo_26 (by decide) ?_
  refine go_isub dX8_undo_27 ?_
  refine go_top (.int (nI sv)) (congrArg Value.int (nI_pred sv)) ?_
  refine go_putfield dX8_undo_28 p_X8_26_7 (mdW_ob hp) (Nat.le_of_ble_eq_true rfl) (fun _ => ⟨rfl, rfl⟩) (fun _ z => nomatch z) ?_
  refine go_w _ (mdW_uX (nI sv, 0, y)) ?_
  refine go_iconst 0 dX8_undo_31 (by decide) ?_
  refine go_istore_n dX8_undo_32 (Nat.le_of_ble_eq_true rfl) rfl ?_
  exact go_sub [(0, .ref p), (1, .int (nI 0))] ⟨rfl, rfl, trivial⟩ (go_w (mdW w p (cpyF P A (184 * sv) 0 0) P K T (nI sv, 0, y)) (by rw [cpyF_0]) (m_undo_33 l hp (rf := rf) hs 184 0 rfl))
theorem m_undo_n (l : Launch) {w : MW} {p : Nat} {A P K T : Nat → Int32} {sv : Nat} {rf : Int32} {y : Int32 × Int32 × Int32 × Int32 × Int64} (hp : p + 4 < w.1) (hs : sv = 0) : Ct l (.code yX8_undo cX8_undo 2 (some .int)) yX8_undo 1 0 0 [.ref p] (mdW w p A P K T (nI sv, rf, y)) (.inl (some (.int 0))) (mdW w p A P K T (nI sv, 1, y)) := by
  refine ct_of (by decide +kernel) (Nat.le_of_ble_eq_true rfl) ?_
  refine go_aload_n dX8_undo_0 rfl ?_
  refine go_aload_n dX8_undo_1 rfl ?_
  refine go_getfield dX8_undo_2 f_X8_26_7 (mdW_ob hp) rfl ?_
  refine go_if_ne_f 12 dX8_undo_5 (by decide) (by rw [hs]; rfl) ?_
  refine go_iconst 1 dX8_undo_8 (by decide) ?_
  refine go_goto 13 dX8_undo_9 (by decide) ?_
  refine go_virt1 dX8_undo_13 (m_refd l hp (a := nI sv) (b := rf) (y := y) (r := 1)) v_X8_29_7 rfl (mdW_ob hp) rfl (Nat.le_of_ble_eq_true rfl) (Nat.le_of_ble_eq_true rfl) (Nat.le_of_ble_eq_true rfl) ?_
  refine go_if_eq_f 21 dX8_undo_16 (by decide) (by decide) ?_
  refine go_iconst 0 dX8_undo_19 (by decide) ?_
  exact go_ireturn dX8_undo_20 rfl rfl
theorem m_insert_y (l : Launch) {w : MW} {p : Nat} {A P K T : Nat → Int32} {sv : Nat} {rf : Int32} {y : Int32 × Int32 × Int32 × Int32 × Int64} (hp : p + 4 < w.1) {n : Nat} (hW : mWF 7 A n) (hs : sv ≤ 5) {ky : Int32} (hk : isKeyB ky = true) (h3 : n < 30) : Ct l (.code yX8_insert cX8_insert 2 (some .int)) yX8_insert 7 0 0 [.ref p, .int ky] (mdW w p A P K T (nI sv, rf, y)) (.inl (some (.int (nI (frA A))))) (mdW w p (insA 7 n ky A) (svP A P sv) K T (nI (min (sv + 1) 5), 0, y)) := by
  refine ct_of (by decide +kernel) (Nat.le_of_ble_eq_true rfl) ?_
  have hn := hW.2.2.1
  have h180 := hW.2.1
  refine go_aload_n dX8_insert_0 rfl ?_
  refine go_iload_n dX8_insert_1 rfl ?_
  refine go_stat1 dX8_insert_2 (m_isKey l) s_X8_138 kc_X8_isKey rfl rfl (Nat.le_of_ble_eq_true rfl) (Nat.le_of_ble_eq_true rfl) (Nat.le_of_ble_eq_true rfl) ?_
  refine go_if_ne_t 12 dX8_insert_5 (by decide) (by rw [hk]; decide) ?_
  refine go_aload_n dX8_insert_12 rfl ?_
  refine go_virt1 dX8_insert_13 (m_many l hp) v_X8_95_7 rfl (mdW_ob hp) rfl (Nat.le_of_ble_eq_true rfl) (Nat.le_of_ble_eq_true rfl) (Nat.le_of_ble_eq_true rfl) ?_
  rw [h180]
  refine go_bipush 30 dX8_insert_16 (by decide) ?_
  refine go_icmp_ne_t 25 dX8_insert_18 (by decide) (n_ne (b := 30) (by omega) (by omega) (by decide)) ?_
  refine go_iconst 0 dX8_insert_25 (by decide) ?_
  refine go_virt1 dX8_insert_26 (m_refd l hp (a := nI sv) (b := rf) (y := y) (r := 0)) v_X8_29_7 rfl (mdW_ob hp) rfl (Nat.le_of_ble_eq_true rfl) (Nat.le_of_ble_eq_true rfl) (Nat.le_of_ble_eq_true rfl) ?_
  refine go_if_eq_t 34 dX8_insert_29 (by decide) (by decide) ?_
  refine go_aload_n dX8_insert_34 rfl ?_
  refine go_virt0 dX8_insert_35 (m_saves l hp (sv := sv) (y := (0, y)) hs) v_X8_141_7 rfl (mdW_ob hp) rfl (Nat.le_of_ble_eq_true rfl) (Nat.le_of_ble_eq_true rfl) (Nat.le_of_ble_eq_true rfl) ?_
  refine go_aload_n dX8_insert_38 rfl ?_
  refine go_iload_n dX8_insert_39 rfl ?_
  refine go_bipush 7 dX8_insert_40 (by decide) ?_
  refine go_virt1 dX8_insert_42 (m_inserts l hp (q := 7) h3 hW.1 h180 (frA_lt hW.2.2.2.2.1 h3)) v_X8_144_7 rfl (mdW_ob hp) rfl (Nat.le_of_ble_eq_true rfl) (Nat.le_of_ble_eq_true rfl) (Nat.le_of_ble_eq_true rfl) ?_
  exact go_ireturn dX8_insert_45 rfl rfl
theorem m_insert_n1 (l : Launch) {w : MW} {p : Nat} {A P K T : Nat → Int32} {sv : Nat} {rf : Int32} {y : Int32 × Int32 × Int32 × Int32 × Int64} (hp : p + 4 < w.1) {ky : Int32} (hk : isKeyB ky = false) : Ct l (.code yX8_insert cX8_insert 2 (some .int)) yX8_insert 7 0 0 [.ref p, .int ky] (mdW w p A P K T (nI sv, rf, y)) (.inl (some (.int 0))) (mdW w p A P K T (nI sv, 1, y)) := by
  refine ct_of (by decide +kernel) (Nat.le_of_ble_eq_true rfl) ?_
  refine go_aload_n dX8_insert_0 rfl ?_
  refine go_iload_n dX8_insert_1 rfl ?_
  refine go_stat1 dX8_insert_2 (m_isKey l) s_X8_138 kc_X8_isKey rfl rfl (Nat.le_of_ble_eq_true rfl) (Nat.le_of_ble_eq_true rfl) (Nat.le_of_ble_eq_true rfl) ?_
  refine go_if_ne_f 12 dX8_insert_5 (by decide) (by rw [hk]; rfl) ?_
  refine go_iconst 1 dX8_insert_8 (by decide) ?_
  refine go_goto 26 dX8_insert_9 (by decide) ?_
  refine go_virt1 dX8_insert_26 (m_refd l hp (a := nI sv) (b := rf) (y := y) (r := 1)) v_X8_29_7 rfl (mdW_ob hp) rfl (Nat.le_of_ble_eq_true rfl) (Nat.le_of_ble_eq_true rfl) (Nat.le_of_ble_eq_true rfl) ?_
  refine go_if_eq_f 34 dX8_insert_29 (by decide) (by decide) ?_
  refine go_iconst 0 dX8_insert_32 (by decide) ?_
  exact go_ireturn dX8_insert_33 rfl rfl
theorem m_insert_n2 (l : Launch) {w : MW} {p : Nat} {A P K T : Nat → Int32} {sv : Nat} {rf : Int32} {y : Int32 × Int32 × Int32 × Int32 × Int64} (hp : p + 4 < w.1) {ky : Int32} (hk : isKeyB ky = true) (h180 : A 180 = nI 30) : Ct l (.code yX8_insert cX8_insert 2 (some .int)) yX8_insert 7 0 0 [.ref p, .int ky] (mdW w p A P K T (nI sv, rf, y)) (.inl (some (.int 0))) (mdW w p A P K T (nI sv, 2, y)) := by
  refine ct_of (by decide +kernel) (Nat.le_of_ble_eq_true rfl) ?_
  refine go_aload_n dX8_insert_0 rfl ?_
  refine go_iload_n dX8_insert_1 rfl ?_
  refine go_stat1 dX8_insert_2 (m_isKey l) s_X8_138 kc_X8_isKey rfl rfl (Nat.le_of_ble_eq_true rfl) (Nat.le_of_ble_eq_true rfl) (Nat.le_of_ble_eq_true rfl) ?_
  refine go_if_ne_t 12 dX8_insert_5 (by decide) (by rw [hk]; decide) ?_
  refine go_aload_n dX8_insert_12 rfl ?_
  refine go_virt1 dX8_insert_13 (m_many l hp) v_X8_95_7 rfl (mdW_ob hp) rfl (Nat.le_of_ble_eq_true rfl) (Nat.le_of_ble_eq_true rfl) (Nat.le_of_ble_eq_true rfl) ?_
  rw [h180]
  refine go_bipush 30 dX8_insert_16 (by decide) ?_
  refine go_icmp_ne_f 25 dX8_insert_18 (by decide) (rfl) ?_
  refine go_iconst 2 dX8_insert_21 (by decide) ?_
  refine go_goto 26 dX8_insert_22 (by decide) ?_
  refine go_virt1 dX8_insert_26 (m_refd l hp (a := nI sv) (b := rf) (y := y) (r := 2)) v_X8_29_7 rfl (mdW_ob hp) rfl (Nat.le_of_ble_eq_true rfl) (Nat.le_of_ble_eq_true rfl) (Nat.le_of_ble_eq_true rfl) ?_
  refine go_if_eq_f 34 dX8_insert_29 (by decide) (by decide) ?_
  refine go_iconst 0 dX8_insert_32 (by decide) ?_
  exact go_ireturn dX8_insert_33 rfl rfl
theorem m_takeL_y (l : Launch) {w : MW} {p : Nat} {A P K T : Nat → Int32} {sv : Nat} {rf : Int32} {y : Int32 × Int32 × Int32 × Int32 × Int64} (hp : p + 4 < w.1) {n : Nat} (hW : mWF 7 A n) (hs : sv ≤ 5) {j : Nat} (hj : j < 30) (ht : A (30 + j) = 1) (ej : lsA A n 0 = nI j) : Ct l (.code yX8_takeLeast cX8_takeLeast 2 (some .int)) yX8_takeLeast 7 0 0 [.ref p] (mdW w p A P K T (nI sv, rf, y)) (.inl (some (.int (nI j)))) (mdW w p (goF 7 n j A) (svP A P sv) K T (nI (min (sv + 1) 5), 0, y)) := by
  refine ct_of (by decide +kernel) (Nat.le_of_ble_eq_true rfl) ?_
  have hn := hW.2.2.1
  have h180 := hW.2.1
  have h1 : 1 ≤ n := by
    obtain ⟨i, hi, _⟩ := ((hW.2.2.2.2.2.2 0 (by decide) (mskB_7 (by decide))).2 j hj).mp ht
    omega
  refine go_aload_n dX8_takeLeast_0 rfl ?_
  refine go_aload_n dX8_takeLeast_1 rfl ?_
  refine go_virt1 dX8_takeLeast_2 (m_many l hp) v_X8_95_7 rfl (mdW_ob hp) rfl (Nat.le_of_ble_eq_true rfl) (Nat.le_of_ble_eq_true rfl) (Nat.le_of_ble_eq_true rfl) ?_
  rw [h180]
  refine go_if_ne_t 12 dX8_takeLeast_5 (by decide) (nI_ne0 (by omega) (by omega)) ?_
  refine go_iconst 0 dX8_takeLeast_12 (by decide) ?_
  refine go_virt1 dX8_takeLeast_13 (m_refd l hp (a := nI sv) (b := rf) (y := y) (r := 0)) v_X8_29_7 rfl (mdW_ob hp) rfl (Nat.le_of_ble_eq_true rfl) (Nat.le_of_ble_eq_true rfl) (Nat.le_of_ble_eq_true rfl) ?_
  refine go_if_eq_t 21 dX8_takeLeast_16 (by decide) (by decide) ?_
  refine go_aload_n dX8_takeLeast_21 rfl ?_
  refine go_virt0 dX8_takeLeast_22 (m_saves l hp (sv := sv) (y := (0, y)) hs) v_X8_141_7 rfl (mdW_ob hp) rfl (Nat.le_of_ble_eq_true rfl) (Nat.le_of_ble_eq_true rfl) (Nat.le_of_ble_eq_true rfl) ?_
  refine go_aload_n dX8_takeLeast_25 rfl ?_
  refine go_iconst 0 dX8_takeLeast_26 (by decide) ?_
  refine go_virt1 dX8_takeLeast_27 (m_leastOf l hp (k := 0) (by decide) hn h180) v_X8_147_7 rfl (mdW_ob hp) rfl (Nat.le_of_ble_eq_true rfl) (Nat.le_of_ble_eq_true rfl) (Nat.le_of_ble_eq_true rfl) ?_
  rw [ej]
  refine go_istore_n dX8_takeLeast_30 (Nat.le_of_ble_eq_true rfl) rfl ?_
  refine go_aload_n dX8_takeLeast_31 rfl ?_
  refine go_iload_n dX8_takeLeast_32 rfl ?_
  refine go_bipush 7 dX8_takeLeast_33 (by decide) ?_
  refine go_virt0 dX8_takeLeast_35 (m_goes l hp (q := 7) h1 hn hj h180 hW.1 (mWF_hf hW hj ht)) v_X8_150_7 rfl (mdW_ob hp) rfl (Nat.le_of_ble_eq_true rfl) (Nat.le_of_ble_eq_true rfl) (Nat.le_of_ble_eq_true rfl) ?_
  refine go_iload_n dX8_takeLeast_38 rfl ?_
  exact go_ireturn dX8_takeLeast_39 rfl rfl
theorem m_takeL_n (l : Launch) {w : MW} {p : Nat} {A P K T : Nat → Int32} {sv : Nat} {rf : Int32} {y : Int32 × Int32 × Int32 × Int32 × Int64} (hp : p + 4 < w.1) (h180 : A 180 = nI 0) : Ct l (.code yX8_takeLeast cX8_takeLeast 2 (some .int)) yX8_takeLeast 7 0 0 [.ref p] (mdW w p A P K T (nI sv, rf, y)) (.inl (some (.int 0))) (mdW w p A P K T (nI sv, 1, y)) := by
  refine ct_of (by decide +kernel) (Nat.le_of_ble_eq_true rfl) ?_
  refine go_aload_n dX8_takeLeast_0 rfl ?_
  refine go_aload_n dX8_takeLeast_1 rfl ?_
  refine go_virt1 dX8_takeLeast_2 (m_many l hp) v_X8_95_7 rfl (mdW_ob hp) rfl (Nat.le_of_ble_eq_true rfl) (Nat.le_of_ble_eq_true rfl) (Nat.le_of_ble_eq_true rfl) ?_
  rw [h180]
  refine go_if_ne_f 12 dX8_takeLeast_5 (by decide) (rfl) ?_
  refine go_iconst 1 dX8_takeLeast_8 (by decide) ?_
  refine go_goto 13 dX8_takeLeast_9 (by decide) ?_
  refine go_virt1 dX8_takeLeast_13 (m_refd l hp (a := nI sv) (b := rf) (y := y) (r := 1)) v_X8_29_7 rfl (mdW_ob hp) rfl (Nat.le_of_ble_eq_true rfl) (Nat.le_of_ble_eq_true rfl) (Nat.le_of_ble_eq_true rfl) ?_
  refine go_if_eq_f 21 dX8_takeLeast_16 (by decide) (by decide) ?_
  refine go_iconst 0 dX8_takeLeast_19 (by decide) ?_
  exact go_ireturn dX8_takeLeast_20 rfl rfl
theorem m_takeG_y (l : Launch) {w : MW} {p : Nat} {A P K T : Nat → Int32} {sv : Nat} {rf : Int32} {y : Int32 × Int32 × Int32 × Int32 × Int64} (hp : p + 4 < w.1) {n : Nat} (hW : mWF 7 A n) (hs : sv ≤ 5) {j : Nat} (hj : j < 30) (ht : A (30 + j) = 1) (ej : grA A n 0 = nI j) : Ct l (.code yX8_takeGreatest cX8_takeGreatest 1 (some .int)) yX8_takeGreatest 8 0 0 [.ref p] (mdW w p A P K T (nI sv, rf, y)) (.inl (some (.int (nI j)))) (mdW w p (goF 7 n j (upd A 182 (A 182 + bI (tgB 7 n)))) (svP A P sv) K T (nI (min (sv + 1) 5), 0, y)) := by
  refine ct_of (by decide +kernel) (Nat.le_of_ble_eq_true rfl) ?_
  have hn := hW.2.2.1
  have h180 := hW.2.1
  have h1 : 1 ≤ n := by
    obtain ⟨i, hi, _⟩ := ((hW.2.2.2.2.2.2 0 (by decide) (mskB_7 (by decide))).2 j hj).mp ht
    omega
  refine go_aload_n dX8_takeGreatest_0 rfl ?_
  refine go_aload_n dX8_takeGreatest_1 rfl ?_
  refine go_virt1 dX8_takeGreatest_2 (m_many l hp) v_X8_95_7 rfl (mdW_ob hp) rfl (Nat.le_of_ble_eq_true rfl) (Nat.le_of_ble_eq_true rfl) (Nat.le_of_ble_eq_true rfl) ?_
  rw [h180]
  refine go_if_ne_t 12 dX8_takeGreatest_5 (by decide) (nI_ne0 (by omega) (by omega)) ?_
  refine go_iconst 0 dX8_takeGreatest_12 (by decide) ?_
  refine go_virt1 dX8_takeGreatest_13 (m_refd l hp (a := nI sv) (b := rf) (y := y) (r := 0)) v_X8_29_7 rfl (mdW_ob hp) rfl (Nat.le_of_ble_eq_true rfl) (Nat.le_of_ble_eq_true rfl) (Nat.le_of_ble_eq_true rfl) ?_
  refine go_if_eq_t 21 dX8_takeGreatest_16 (by decide) (by decide) ?_
  refine go_aload_n dX8_takeGreatest_21 rfl ?_
  refine go_virt0 dX8_takeGreatest_22 (m_saves l hp (sv := sv) (y := (0, y)) hs) v_X8_141_7 rfl (mdW_ob hp) rfl (Nat.le_of_ble_eq_true rfl) (Nat.le_of_ble_eq_true rfl) (Nat.le_of_ble_eq_true rfl) ?_
  refine go_aload_n dX8_takeGreatest_25 rfl ?_
  refine go_bipush 7 dX8_takeGreatest_26 (by decide) ?_
  refine go_virt1 dX8_takeGreatest_28 (m_takesG l hp (q := 7) h1 hn hj h180 hW.1 ej (mWF_hf hW hj ht)) v_X8_156_7 rfl (mdW_ob hp) rfl (Nat.le_of_ble_eq_true rfl) (Nat.le_of_ble_eq_true rfl) (Nat.le_of_ble_eq_true rfl) ?_
  exact go_ireturn dX8_takeGreatest_31 rfl rfl
theorem m_takeG_n (l : Launch) {w : MW} {p : Nat} {A P K T : Nat → Int32} {sv : Nat} {rf : Int32} {y : Int32 × Int32 × Int32 × Int32 × Int64} (hp : p + 4 < w.1) (h180 : A 180 = nI 0) : Ct l (.code yX8_takeGreatest cX8_takeGreatest 1 (some .int)) yX8_takeGreatest 8 0 0 [.ref p] (mdW w p A P K T (nI sv, rf, y)) (.inl (some (.int 0))) (mdW w p A P K T (nI sv, 1, y)) := by
  refine ct_of (by decide +kernel) (Nat.le_of_ble_eq_true rfl) ?_
  refine go_aload_n dX8_takeGreatest_0 rfl ?_
  refine go_aload_n dX8_takeGreatest_1 rfl ?_
  refine go_virt1 dX8_takeGreatest_2 (m_many l hp) v_X8_95_7 rfl (mdW_ob hp) rfl (Nat.le_of_ble_eq_true rfl) (Nat.le_of_ble_eq_true rfl) (Nat.le_of_ble_eq_true rfl) ?_
  rw [h180]
  refine go_if_ne_f 12 dX8_takeGreatest_5 (by decide) (rfl) ?_
  refine go_iconst 1 dX8_takeGreatest_8 (by decide) ?_
  refine go_goto 13 dX8_takeGreatest_9 (by decide) ?_
  refine go_virt1 dX8_takeGreatest_13 (m_refd l hp (a := nI sv) (b := rf) (y := y) (r := 1)) v_X8_29_7 rfl (mdW_ob hp) rfl (Nat.le_of_ble_eq_true rfl) (Nat.le_of_ble_eq_true rfl) (Nat.le_of_ble_eq_true rfl) ?_
  refine go_if_eq_f 21 dX8_takeGreatest_16 (by decide) (by decide) ?_
  refine go_iconst 0 dX8_takeGreatest_19 (by decide) ?_
  exact go_ireturn dX8_takeGreatest_20 rfl rfl
theorem m_remove_y (l : Launch) {w : MW} {p : Nat} {A P K T : Nat → Int32} {sv : Nat} {rf : Int32} {y : Int32 × Int32 × Int32 × Int32 × Int64} (hp : p + 4 < w.1) {n : Nat} (hW : mWF 7 A n) (hs : sv ≤ 5) {j : Nat} (hj : j < 30) (ht : A (30 + j) = 1) : Ct l (.code yX8_remove cX8_remove 3 (some .int)) yX8_remove 7 0 0 [.ref p, .int (nI j)] (mdW w p A P K T (nI sv, rf, y)) (.inl (some (.int (A j)))) (mdW w p (goF 7 n j A) (svP A P sv) K T (nI (min (sv + 1) 5), 0, y)) := by
  refine ct_of (by decide +kernel) (Nat.le_of_ble_eq_true rfl) ?_
  have hn := hW.2.2.1
  have h180 := hW.2.1
  have h1 : 1 ≤ n := by
    obtain ⟨i, hi, _⟩ := ((hW.2.2.2.2.2.2 0 (by decide) (mskB_7 (by decide))).2 j hj).mp ht
    omega
  have hi := itB_iff.mpr ⟨j, hj, rfl, ht⟩
  refine go_aload_n dX8_remove_0 rfl ?_
  refine go_aload_n dX8_remove_1 rfl ?_
  refine go_iload_n dX8_remove_2 rfl ?_
  refine go_virt1 dX8_remove_3 (m_isItem l hp) v_X8_49_7 rfl (mdW_ob hp) rfl (Nat.le_of_ble_eq_true rfl) (Nat.le_of_ble_eq_true rfl) (Nat.le_of_ble_eq_true rfl) ?_
  refine go_if_eq_f 13 dX8_remove_6 (by decide) (by rw [hi]; decide) ?_
  refine go_iconst 0 dX8_remove_9 (by decide) ?_
  refine go_goto 14 dX8_remove_10 (by decide) ?_
  refine go_virt1 dX8_remove_14 (m_refd l hp (a := nI sv) (b := rf) (y := y) (r := 0)) v_X8_29_7 rfl (mdW_ob hp) rfl (Nat.le_of_ble_eq_true rfl) (Nat.le_of_ble_eq_true rfl) (Nat.le_of_ble_eq_true rfl) ?_
  refine go_if_eq_t 22 dX8_remove_17 (by decide) (by decide) ?_
  refine go_aload_n dX8_remove_22 rfl ?_
  refine go_getfield dX8_remove_23 f_X8_7_7 (mdW_ob hp) rfl ?_
  refine go_iload_n dX8_remove_26 rfl ?_
  refine go_iaload (j) dX8_remove_27 (mdW_A hp) rfl (by omega) (by decide) ?_
  refine go_istore_n dX8_remove_28 (Nat.le_of_ble_eq_true rfl) rfl ?_
  refine go_aload_n dX8_remove_29 rfl ?_
  refine go_virt0 dX8_remove_30 (m_saves l hp (sv := sv) (y := (0, y)) hs) v_X8_141_7 rfl (mdW_ob hp) rfl (Nat.le_of_ble_eq_true rfl) (Nat.le_of_ble_eq_true rfl) (Nat.le_of_ble_eq_true rfl) ?_
  refine go_aload_n dX8_remove_33 rfl ?_
  refine go_iload_n dX8_remove_34 rfl ?_
  refine go_bipush 7 dX8_remove_35 (by decide) ?_
  refine go_virt0 dX8_remove_37 (m_goes l hp (q := 7) h1 hn hj h180 hW.1 (mWF_hf hW hj ht)) v_X8_150_7 rfl (mdW_ob hp) rfl (Nat.le_of_ble_eq_true rfl) (Nat.le_of_ble_eq_true rfl) (Nat.le_of_ble_eq_true rfl) ?_
  refine go_iload_n dX8_remove_40 rfl ?_
  exact go_ireturn dX8_remove_41 rfl rfl
theorem m_remove_n (l : Launch) {w : MW} {p : Nat} {A P K T : Nat → Int32} {sv : Nat} {rf : Int32} {y : Int32 × Int32 × Int32 × Int32 × Int64} (hp : p + 4 < w.1) {z : Int32} (hi : itB A z = false) : Ct l (.code yX8_remove cX8_remove 3 (some .int)) yX8_remove 7 0 0 [.ref p, .int z] (mdW w p A P K T (nI sv, rf, y)) (.inl (some (.int 0))) (mdW w p A P K T (nI sv, 1, y)) := by
  refine ct_of (by decide +kernel) (Nat.le_of_ble_eq_true rfl) ?_
  refine go_aload_n dX8_remove_0 rfl ?_
  refine go_aload_n dX8_remove_1 rfl ?_
  refine go_iload_n dX8_remove_2 rfl ?_
  refine go_virt1 dX8_remove_3 (m_isItem l hp) v_X8_49_7 rfl (mdW_ob hp) rfl (Nat.le_of_ble_eq_true rfl) (Nat.le_of_ble_eq_true rfl) (Nat.le_of_ble_eq_true rfl) ?_
  refine go_if_eq_t 13 dX8_remove_6 (by decide) (by rw [hi]; rfl) ?_
  refine go_iconst 1 dX8_remove_13 (by decide) ?_
  refine go_virt1 dX8_remove_14 (m_refd l hp (a := nI sv) (b := rf) (y := y) (r := 1)) v_X8_29_7 rfl (mdW_ob hp) rfl (Nat.le_of_ble_eq_true rfl) (Nat.le_of_ble_eq_true rfl) (Nat.le_of_ble_eq_true rfl) ?_
  refine go_if_eq_f 22 dX8_remove_17 (by decide) (by decide) ?_
  refine go_iconst 0 dX8_remove_20 (by decide) ?_
  exact go_ireturn dX8_remove_21 rfl rfl
theorem m_change_y (l : Launch) {w : MW} {p : Nat} {A P K T : Nat → Int32} {sv : Nat} {rf : Int32} {y : Int32 × Int32 × Int32 × Int32 × Int64} (hp : p + 4 < w.1) {n : Nat} (hW : mWF 7 A n) (hs : sv ≤ 5) {j : Nat} (hj : j < 30) (ht : A (30 + j) = 1) {ky : Int32} (hk : isKeyB ky = true) : Ct l (.code yX8_change cX8_change 4 (some .int)) yX8_change 7 0 0 [.ref p, .int (nI j), .int ky] (mdW w p A P K T (nI sv, rf, y)) (.inl (some (.int (A j)))) (mdW w p (chF n (nI j) ky A) (svP A P sv) K T (nI (min (sv + 1) 5), 0, y)) := by
  refine ct_of (by decide +kernel) (Nat.le_of_ble_eq_true rfl) ?_
  have hn := hW.2.2.1
  have h180 := hW.2.1
  have hi := itB_iff.mpr ⟨j, hj, rfl, ht⟩
  rw [chF, nI_clamp (by omega)]
  refine go_aload_n dX8_change_0 rfl ?_
  refine go_aload_n dX8_change_1 rfl ?_
  refine go_iload_n dX8_change_2 rfl ?_
  refine go_virt1 dX8_change_3 (m_isItem l hp) v_X8_49_7 rfl (mdW_ob hp) rfl (Nat.le_of_ble_eq_true rfl) (Nat.le_of_ble_eq_true rfl) (Nat.le_of_ble_eq_true rfl) ?_
  refine go_if_ne_t 13 dX8_change_6 (by decide) (by rw [hi]; decide) ?_
  refine go_iload_n dX8_change_13 rfl ?_
  refine go_stat1 dX8_change_14 (m_isKey l) s_X8_138 kc_X8_isKey rfl rfl (Nat.le_of_ble_eq_true rfl) (Nat.le_of_ble_eq_true rfl) (Nat.le_of_ble_eq_true rfl) ?_
  refine go_if_ne_t 24 dX8_change_17 (by decide) (by rw [hk]; decide) ?_
  refine go_iconst 0 dX8_change_24 (by decide) ?_
  refine go_virt1 dX8_change_25 (m_refd l hp (a := nI sv) (b := rf) (y := y) (r := 0)) v_X8_29_7 rfl (mdW_ob hp) rfl (Nat.le_of_ble_eq_true rfl) (Nat.le_of_ble_eq_true rfl) (Nat.le_of_ble_eq_true rfl) ?_
  refine go_if_eq_t 33 dX8_change_28 (by decide) (by decide) ?_
  refine go_aload_n dX8_change_33 rfl ?_
  refine go_getfield dX8_change_34 f_X8_7_7 (mdW_ob hp) rfl ?_
  refine go_iload_n dX8_change_37 rfl ?_
  refine go_iaload (j) dX8_change_38 (mdW_A hp) rfl (by omega) (by decide) ?_
  refine go_istore_n dX8_change_39 (Nat.le_of_ble_eq_true rfl) rfl ?_
  refine go_aload_n dX8_change_40 rfl ?_
  refine go_virt0 dX8_change_41 (m_saves l hp (sv := sv) (y := (0, y)) hs) v_X8_141_7 rfl (mdW_ob hp) rfl (Nat.le_of_ble_eq_true rfl) (Nat.le_of_ble_eq_true rfl) (Nat.le_of_ble_eq_true rfl) ?_
  refine go_aload_n dX8_change_44 rfl ?_
  refine go_iload_n dX8_change_45 rfl ?_
  refine go_iload_n dX8_change_46 rfl ?_
  refine go_virt0 dX8_change_47 (m_changes l hp hn hj h180 hW.1 (fun i hi => mWF_hf hW hj ht i hi (mskB_7 hi))) v_X8_159_7 rfl (mdW_ob hp) rfl (Nat.le_of_ble_eq_true rfl) (Nat.le_of_ble_eq_true rfl) (Nat.le_of_ble_eq_true rfl) ?_
  refine go_iload_n dX8_change_50 rfl ?_
  exact go_ireturn dX8_change_51 rfl rfl
theorem m_change_n1 (l : Launch) {w : MW} {p : Nat} {A P K T : Nat → Int32} {sv : Nat} {rf : Int32} {y : Int32 × Int32 × Int32 × Int32 × Int64} (hp : p + 4 < w.1) {z ky : Int32} (hi : itB A z = false) : Ct l (.code yX8_change cX8_change 4 (some .int)) yX8_change 7 0 0 [.ref p, .int z, .int ky] (mdW w p A P K T (nI sv, rf, y)) (.inl (some (.int 0))) (mdW w p A P K T (nI sv, 1, y)) := by
  refine ct_of (by decide +kernel) (Nat.le_of_ble_eq_true rfl) ?_
  refine go_aload_n dX8_change_0 rfl ?_
  refine go_aload_n dX8_change_1 rfl ?_
  refine go_iload_n dX8_change_2 rfl ?_
  refine go_virt1 dX8_change_3 (m_isItem l hp) v_X8_49_7 rfl (mdW_ob hp) rfl (Nat.le_of_ble_eq_true rfl) (Nat.le_of_ble_eq_true rfl) (Nat.le_of_ble_eq_true rfl) ?_
  refine go_if_ne_f 13 dX8_change_6 (by decide) (by rw [hi]; rfl) ?_
  refine go_iconst 1 dX8_change_9 (by decide) ?_
  refine go_goto 25 dX8_change_10 (by decide) ?_
  refine go_virt1 dX8_change_25 (m_refd l hp (a := nI sv) (b := rf) (y := y) (r := 1)) v_X8_29_7 rfl (mdW_ob hp) rfl (Nat.le_of_ble_eq_true rfl) (Nat.le_of_ble_eq_true rfl) (Nat.le_of_ble_eq_true rfl) ?_
  refine go_if_eq_f 33 dX8_change_28 (by decide) (by decide) ?_
  refine go_iconst 0 dX8_change_31 (by decide) ?_
  exact go_ireturn dX8_change_32 rfl rfl
theorem m_change_n2 (l : Launch) {w : MW} {p : Nat} {A P K T : Nat → Int32} {sv : Nat} {rf : Int32} {y : Int32 × Int32 × Int32 × Int32 × Int64} (hp : p + 4 < w.1) {z ky : Int32} (hi : itB A z = true) (hk : isKeyB ky = false) : Ct l (.code yX8_change cX8_change 4 (some .int)) yX8_change 7 0 0 [.ref p, .int z, .int ky] (mdW w p A P K T (nI sv, rf, y)) (.inl (some (.int 0))) (mdW w p A P K T (nI sv, 2, y)) := by
  refine ct_of (by decide +kernel) (Nat.le_of_ble_eq_true rfl) ?_
  refine go_aload_n dX8_change_0 rfl ?_
  refine go_aload_n dX8_change_1 rfl ?_
  refine go_iload_n dX8_change_2 rfl ?_
  refine go_virt1 dX8_change_3 (m_isItem l hp) v_X8_49_7 rfl (mdW_ob hp) rfl (Nat.le_of_ble_eq_true rfl) (Nat.le_of_ble_eq_true rfl) (Nat.le_of_ble_eq_true rfl) ?_
  refine go_if_ne_t 13 dX8_change_6 (by decide) (by rw [hi]; decide) ?_
  refine go_iload_n dX8_change_13 rfl ?_
  refine go_stat1 dX8_change_14 (m_isKey l) s_X8_138 kc_X8_isKey rfl rfl (Nat.le_of_ble_eq_true rfl) (Nat.le_of_ble_eq_true rfl) (Nat.le_of_ble_eq_true rfl) ?_
  refine go_if_ne_f 24 dX8_change_17 (by decide) (by rw [hk]; rfl) ?_
  refine go_iconst 2 dX8_change_20 (by decide) ?_
  refine go_goto 25 dX8_change_21 (by decide) ?_
  refine go_virt1 dX8_change_25 (m_refd l hp (a := nI sv) (b := rf) (y := y) (r := 2)) v_X8_29_7 rfl (mdW_ob hp) rfl (Nat.le_of_ble_eq_true rfl) (Nat.le_of_ble_eq_true rfl) (Nat.le_of_ble_eq_true rfl) ?_
  refine go_if_eq_f 33 dX8_change_28 (by decide) (by decide) ?_
  refine go_iconst 0 dX8_change_31 (by decide) ?_
  exact go_ireturn dX8_change_32 rfl rfl
theorem m_build (l : Launch) {w : MW} {p : Nat} {A P K T : Nat → Int32} {sv : Nat} {rf : Int32} {y : Int32 × Int32 × Int32 × Int32 × Int64} (hp : p + 4 < w.1) {n : Nat} (hW : mWF 7 A n) (hs : sv ≤ 5) : Ct l (.code yX8_build cX8_build 2 (some .int)) yX8_build 6 0 0 [.ref p] (mdW w p A P K T (nI sv, rf, y)) (.inl (some (.int ((fldA (blA n) 7 4 0 A) 181 + (fldA (blA n) 7 4 0 A) 182 + (fldA (blA n) 7 4 0 A) 183 - (A 181 + A 182 + A 183))))) (mdW w p (fldA (blA n) 7 4 0 A) (svP A P sv) K T (nI (min (sv + 1) 5), 0, y)) := by
  refine ct_of (by decide +kernel) (Nat.le_of_ble_eq_true rfl) ?_
  have hn := hW.2.2.1
  have h180 := hW.2.1
  refine go_aload_n dX8_build_0 rfl ?_
  refine go_iconst 0 dX8_build_1 (by decide) ?_
  refine go_putfield dX8_build_2 p_X8_22_7 (mdW_ob hp) (Nat.le_of_ble_eq_true rfl) (fun _ => ⟨rfl, rfl⟩) (fun _ z => nomatch z) ?_
  refine go_w _ (mdW_uX (nI sv, 0, y)) ?_
  refine go_aload_n dX8_build_5 rfl ?_
  refine go_virt1 dX8_build_6 (m_counts l hp) v_X8_162_7 rfl (mdW_ob hp) rfl (Nat.le_of_ble_eq_true rfl) (Nat.le_of_ble_eq_true rfl) (Nat.le_of_ble_eq_true rfl) ?_
  refine go_istore_n dX8_build_9 (Nat.le_of_ble_eq_true rfl) rfl ?_
  refine go_aload_n dX8_build_10 rfl ?_
  refine go_virt0 dX8_build_11 (m_saves l hp (sv := sv) (y := (0, y)) hs) v_X8_141_7 rfl (mdW_ob hp) rfl (Nat.le_of_ble_eq_true rfl) (Nat.le_of_ble_eq_true rfl) (Nat.le_of_ble_eq_true rfl) ?_
  refine go_aload_n dX8_build_14 rfl ?_
  refine go_bipush 7 dX8_build_15 (by decide) ?_
  refine go_virt0 dX8_build_17 (m_builds l hp (q := 7) hn h180 hW.1) v_X8_165_7 rfl (mdW_ob hp) rfl (Nat.le_of_ble_eq_true rfl) (Nat.le_of_ble_eq_true rfl) (Nat.le_of_ble_eq_true rfl) ?_
  refine go_aload_n dX8_build_20 rfl ?_
  refine go_virt1 dX8_build_21 (m_counts l hp) v_X8_162_7 rfl (mdW_ob hp) rfl (Nat.le_of_ble_eq_true rfl) (Nat.le_of_ble_eq_true rfl) (Nat.le_of_ble_eq_true rfl) ?_
  refine go_iload_n dX8_build_24 rfl ?_
  refine go_isub dX8_build_25 ?_
  exact go_ireturn dX8_build_26 rfl rfl
theorem m_clear_16 (l : Launch) {w : MW} {p : Nat} {A P K T : Nat → Int32} {sv : Nat} {rf : Int32} {y : Int32 × Int32 × Int32 × Int32 × Int64} (hp : p + 4 < w.1) {z : Int32} : ∀ (u k : Nat), u + k = 181 → Go l yX8_clear cX8_clear 3 (some .int) [] none (mm_Z (mm_eq (.inl (some (.int z))) (mdW w p (zrA A 181) P K T (nI sv, rf, y)))) 1 0 0 16 [(0, .ref p), (1, .int z), (2, .int (nI k))] [] (mdW w p (zrA A k) P K T (nI sv, rf, y)) := by
  intro u
  induction u with
  | zero =>
    intro k hu
    have ek : k = 181 := by omega
    subst ek
    refine go_iload_n dX8_clear_16 rfl ?_
    refine go_sipush 180 dX8_clear_17 (by decide) ?_
    refine go_icmp_gt_t 36 dX8_clear_20 (by decide) (by decide) ?_
    refine go_iload_n dX8_clear_36 rfl ?_
    exact go_ireturn dX8_clear_37 rfl rfl
  | succ u ih =>
    intro k hu
    refine go_iload_n dX8_clear_16 rfl ?_
    refine go_sipush 180 dX8_clear_17 (by decide) ?_
    refine go_icmp_gt_f 36 dX8_clear_20 (by decide) (nI_nlt (a := 180) (b := k) (by omega) (by decide)) ?_
    refine go_aload_n dX8_clear_23 rfl ?_
    refine go_getfield dX8_clear_24 f_X8_7_7 (mdW_ob hp) rfl ?_
    refine go_iload_n dX8_clear_27 rfl ?_
    refine go_iconst 0 dX8_clear_28 (by decide) ?_
    refine go_iastore k dX8_clear_29 (mdW_A hp) rfl (by omega) (by decide) ?_
    refine go_w _ ((mdW_uA _).trans (by rw [zrA_s])) ?_
    refine go_iinc dX8_clear_30 rfl (Nat.le_of_ble_eq_true rfl) rfl (show _ = _ + 1 from rfl) ?_
    rw [a_k1]
    refine go_goto 16 dX8_clear_33 (by decide) ?_
    exact go_sub [(0, .ref p), (1, .int z), (2, .int (nI (k + 1)))] ⟨rfl, rfl, rfl, trivial⟩ (ih (k + 1) (by omega))
theorem m_clear (l : Launch) {w : MW} {p : Nat} {A P K T : Nat → Int32} {sv : Nat} {rf : Int32} {y : Int32 × Int32 × Int32 × Int32 × Int64} (hp : p + 4 < w.1) (hs : sv ≤ 5) : Ct l (.code yX8_clear cX8_clear 3 (some .int)) yX8_clear 1 0 0 [.ref p] (mdW w p A P K T (nI sv, rf, y)) (.inl (some (.int (A 180)))) (mdW w p (zrA A 181) (svP A P sv) K T (nI (min (sv + 1) 5), 0, y)) := by
  refine ct_of (by decide +kernel) (Nat.le_of_ble_eq_true rfl) ?_
  refine go_aload_n dX8_clear_0 rfl ?_
  refine go_iconst 0 dX8_clear_1 (by decide) ?_
  refine go_putfield dX8_clear_2 p_X8_22_7 (mdW_ob hp) (Nat.le_of_ble_eq_true rfl) (fun _ => ⟨rfl, rfl⟩) (fun _ z => nomatch z) ?_
  refine go_w _ (mdW_uX (nI sv, 0, y)) ?_
  refine go_aload_n dX8_clear_5 rfl ?_
  refine go_virt1 dX8_clear_6 (m_many l hp) v_X8_95_7 rfl (mdW_ob hp) rfl (Nat.le_of_ble_eq_true rfl) (Nat.le_of_ble_eq_true rfl) (Nat.le_of_ble_eq_true rfl) ?_
  refine go_istore_n dX8_clear_9 (Nat.le_of_ble_eq_true rfl) rfl ?_
  refine go_aload_n dX8_clear_10 rfl ?_
  refine go_virt0 dX8_clear_11 (m_saves l hp (sv := sv) (y := (0, y)) hs) v_X8_141_7 rfl (mdW_ob hp) rfl (Nat.le_of_ble_eq_true rfl) (Nat.le_of_ble_eq_true rfl) (Nat.le_of_ble_eq_true rfl) ?_
  refine go_iconst 0 dX8_clear_14 (by decide) ?_
  refine go_istore_n dX8_clear_15 (Nat.le_of_ble_eq_true rfl) rfl ?_
  exact go_sub [(0, .ref p), (1, .int (A 180)), (2, .int (nI 0))] ⟨rfl, rfl, rfl, trivial⟩ (go_w (mdW w p (zrA A 0) (svP A P sv) K T (nI (min (sv + 1) 5), 0, y)) (by rw [zrA_0]) (m_clear_16 l hp 181 0 rfl))
theorem m_size (l : Launch) {w : MW} {p : Nat} {A P K T : Nat → Int32} {sv : Nat} {rf : Int32} {y : Int32 × Int32 × Int32 × Int32 × Int64} (hp : p + 4 < w.1) : Ct l (.code yX8_size cX8_size 1 (some .int)) yX8_size 1 0 0 [.ref p] (mdW w p A P K T (nI sv, rf, y)) (.inl (some (.int (A 180)))) (mdW w p A P K T (nI sv, 0, y)) := by
  refine ct_of (by decide +kernel) (Nat.le_of_ble_eq_true rfl) ?_
  refine go_aload_n dX8_size_0 rfl ?_
  refine go_iconst 0 dX8_size_1 (by decide) ?_
  refine go_putfield dX8_size_2 p_X8_22_7 (mdW_ob hp) (Nat.le_of_ble_eq_true rfl) (fun _ => ⟨rfl, rfl⟩) (fun _ z => nomatch z) ?_
  refine go_w _ (mdW_uX (nI sv, 0, y)) ?_
  refine go_aload_n dX8_size_5 rfl ?_
  refine go_virt1 dX8_size_6 (m_many l hp) v_X8_95_7 rfl (mdW_ob hp) rfl (Nat.le_of_ble_eq_true rfl) (Nat.le_of_ble_eq_true rfl) (Nat.le_of_ble_eq_true rfl) ?_
  exact go_ireturn dX8_size_9 rfl rfl
theorem m_handles (l : Launch) {w : MW} {p : Nat} {A P K T : Nat → Int32} {sv : Nat} {rf : Int32} {y : Int32 × Int32 × Int32 × Int32 × Int64} (hp : p + 4 < w.1) : Ct l (.code yX8_handles cX8_handles 1 (some .int)) yX8_handles 1 0 0 [.ref p] (mdW w p A P K T (nI sv, rf, y)) (.inl (some (.int (hsA A 30 0 0)))) (mdW w p A P K T (nI sv, 0, y)) := by
  refine ct_of (by decide +kernel) (Nat.le_of_ble_eq_true rfl) ?_
  refine go_aload_n dX8_handles_0 rfl ?_
  refine go_iconst 0 dX8_handles_1 (by decide) ?_
  refine go_putfield dX8_handles_2 p_X8_22_7 (mdW_ob hp) (Nat.le_of_ble_eq_true rfl) (fun _ => ⟨rfl, rfl⟩) (fun _ z => nomatch z) ?_
  refine go_w _ (mdW_uX (nI sv, 0, y)) ?_
  refine go_aload_n dX8_handles_5 rfl ?_
  refine go_virt1 dX8_handles_6 (m_handleSet l hp) v_X8_168_7 rfl (mdW_ob hp) rfl (Nat.le_of_ble_eq_true rfl) (Nat.le_of_ble_eq_true rfl) (Nat.le_of_ble_eq_true rfl) ?_
  exact go_ireturn dX8_handles_9 rfl rfl
theorem m_key_y (l : Launch) {w : MW} {p : Nat} {A P K T : Nat → Int32} {sv : Nat} {rf : Int32} {y : Int32 × Int32 × Int32 × Int32 × Int64} (hp : p + 4 < w.1) {j : Nat} (hj : j < 30) (ht : A (30 + j) = 1) : Ct l (.code yX8_key cX8_key 2 (some .int)) yX8_key 2 0 0 [.ref p, .int (nI j)] (mdW w p A P K T (nI sv, rf, y)) (.inl (some (.int (A j)))) (mdW w p A P K T (nI sv, 0, y)) := by
  refine ct_of (by decide +kernel) (Nat.le_of_ble_eq_true rfl) ?_
  have hi := itB_iff.mpr ⟨j, hj, rfl, ht⟩
  refine go_aload_n dX8_key_0 rfl ?_
  refine go_aload_n dX8_key_1 rfl ?_
  refine go_iload_n dX8_key_2 rfl ?_
  refine go_virt1 dX8_key_3 (m_isItem l hp) v_X8_49_7 rfl (mdW_ob hp) rfl (Nat.le_of_ble_eq_true rfl) (Nat.le_of_ble_eq_true rfl) (Nat.le_of_ble_eq_true rfl) ?_
  refine go_if_eq_f 13 dX8_key_6 (by decide) (by rw [hi]; decide) ?_
  refine go_iconst 0 dX8_key_9 (by decide) ?_
  refine go_goto 14 dX8_key_10 (by decide) ?_
  refine go_virt1 dX8_key_14 (m_refd l hp (a := nI sv) (b := rf) (y := y) (r := 0)) v_X8_29_7 rfl (mdW_ob hp) rfl (Nat.le_of_ble_eq_true rfl) (Nat.le_of_ble_eq_true rfl) (Nat.le_of_ble_eq_true rfl) ?_
  refine go_if_eq_t 24 dX8_key_17 (by decide) (by decide) ?_
  refine go_aload_n dX8_key_24 rfl ?_
  refine go_getfield dX8_key_25 f_X8_7_7 (mdW_ob hp) rfl ?_
  refine go_iload_n dX8_key_28 rfl ?_
  refine go_iaload (j) dX8_key_29 (mdW_A hp) rfl (by omega) (by decide) ?_
  exact go_ireturn dX8_key_30 rfl rfl
theorem m_key_n (l : Launch) {w : MW} {p : Nat} {A P K T : Nat → Int32} {sv : Nat} {rf : Int32} {y : Int32 × Int32 × Int32 × Int32 × Int64} (hp : p + 4 < w.1) {z : Int32} (hi : itB A z = false) : Ct l (.code yX8_key cX8_key 2 (some .int)) yX8_key 2 0 0 [.ref p, .int z] (mdW w p A P K T (nI sv, rf, y)) (.inl (some (.int 0))) (mdW w p A P K T (nI sv, 1, y)) := by
  refine ct_of (by decide +kernel) (Nat.le_of_ble_eq_true rfl) ?_
  refine go_aload_n dX8_key_0 rfl ?_
  refine go_aload_n dX8_key_1 rfl ?_
  refine go_iload_n dX8_key_2 rfl ?_
  refine go_virt1 dX8_key_3 (m_isItem l hp) v_X8_49_7 rfl (mdW_ob hp) rfl (Nat.le_of_ble_eq_true rfl) (Nat.le_of_ble_eq_true rfl) (Nat.le_of_ble_eq_true rfl) ?_
  refine go_if_eq_t 13 dX8_key_6 (by decide) (by rw [hi]; rfl) ?_
  refine go_iconst 1 dX8_key_13 (by decide) ?_
  refine go_virt1 dX8_key_14 (m_refd l hp (a := nI sv) (b := rf) (y := y) (r := 1)) v_X8_29_7 rfl (mdW_ob hp) rfl (Nat.le_of_ble_eq_true rfl) (Nat.le_of_ble_eq_true rfl) (Nat.le_of_ble_eq_true rfl) ?_
  refine go_if_eq_f 24 dX8_key_17 (by decide) (by decide) ?_
  refine go_iconst 0 dX8_key_20 (by decide) ?_
  refine go_goto 30 dX8_key_21 (by decide) ?_
  exact go_ireturn dX8_key_30 rfl rfl
theorem m_least_y (l : Launch) {w : MW} {p : Nat} {A P K T : Nat → Int32} {sv : Nat} {rf : Int32} {y : Int32 × Int32 × Int32 × Int32 × Int64} (hp : p + 4 < w.1) {n : Nat} (hW : mWF 7 A n) {k : Nat} (hk : k < 3) : Ct l (.code yX8_least cX8_least 2 (some .int)) yX8_least 2 0 0 [.ref p, .int (nI k)] (mdW w p A P K T (nI sv, rf, y)) (.inl (some (.int (lsA A n k)))) (mdW w p A P K T (nI sv, 0, y)) := by
  refine ct_of (by decide +kernel) (Nat.le_of_ble_eq_true rfl) ?_
  have hn := hW.2.2.1
  have h180 := hW.2.1
  refine go_aload_n dX8_least_0 rfl ?_
  refine go_iload_n dX8_least_1 rfl ?_
  refine go_iconst 0 dX8_least_2 (by decide) ?_
  refine go_iconst 2 dX8_least_3 (by decide) ?_
  refine go_stat1 dX8_least_4 (m_within l) s_X8_33 kc_X8_within rfl rfl (Nat.le_of_ble_eq_true rfl) (Nat.le_of_ble_eq_true rfl) (Nat.le_of_ble_eq_true rfl) ?_
  refine go_if_eq_f 14 dX8_least_7 (by decide) (by rw [show (decide ((0 : Int32) ≤ nI k) && decide (nI k ≤ 2)) = true from wi_ok (a := 0) (m := 2) (by omega) (by omega) (by decide)]; decide) ?_
  refine go_iconst 0 dX8_least_10 (by decide) ?_
  refine go_goto 15 dX8_least_11 (by decide) ?_
  refine go_virt1 dX8_least_15 (m_refd l hp (a := nI sv) (b := rf) (y := y) (r := 0)) v_X8_29_7 rfl (mdW_ob hp) rfl (Nat.le_of_ble_eq_true rfl) (Nat.le_of_ble_eq_true rfl) (Nat.le_of_ble_eq_true rfl) ?_
  refine go_if_eq_t 25 dX8_least_18 (by decide) (by decide) ?_
  refine go_aload_n dX8_least_25 rfl ?_
  refine go_iload_n dX8_least_26 rfl ?_
  refine go_virt1 dX8_least_27 (m_leastOf l hp (k := k) (by omega) hn h180) v_X8_147_7 rfl (mdW_ob hp) rfl (Nat.le_of_ble_eq_true rfl) (Nat.le_of_ble_eq_true rfl) (Nat.le_of_ble_eq_true rfl) ?_
  exact go_ireturn dX8_least_30 rfl rfl
theorem m_least_n (l : Launch) {w : MW} {p : Nat} {A P K T : Nat → Int32} {sv : Nat} {rf : Int32} {y : Int32 × Int32 × Int32 × Int32 × Int64} (hp : p + 4 < w.1) {z : Int32} (h : z < 0 ∨ 3 ≤ z) : Ct l (.code yX8_least cX8_least 2 (some .int)) yX8_least 2 0 0 [.ref p, .int z] (mdW w p A P K T (nI sv, rf, y)) (.inl (some (.int 0))) (mdW w p A P K T (nI sv, 1, y)) := by
  refine ct_of (by decide +kernel) (Nat.le_of_ble_eq_true rfl) ?_
  refine go_aload_n dX8_least_0 rfl ?_
  refine go_iload_n dX8_least_1 rfl ?_
  refine go_iconst 0 dX8_least_2 (by decide) ?_
  refine go_iconst 2 dX8_least_3 (by decide) ?_
  refine go_stat1 dX8_least_4 (m_within l) s_X8_33 kc_X8_within rfl rfl (Nat.le_of_ble_eq_true rfl) (Nat.le_of_ble_eq_true rfl) (Nat.le_of_ble_eq_true rfl) ?_
  refine go_if_eq_t 14 dX8_least_7 (by decide) (by rw [wi_bad (hj := 3) (by decide) h]; rfl) ?_
  refine go_iconst 1 dX8_least_14 (by decide) ?_
  refine go_virt1 dX8_least_15 (m_refd l hp (a := nI sv) (b := rf) (y := y) (r := 1)) v_X8_29_7 rfl (mdW_ob hp) rfl (Nat.le_of_ble_eq_true rfl) (Nat.le_of_ble_eq_true rfl) (Nat.le_of_ble_eq_true rfl) ?_
  refine go_if_eq_f 25 dX8_least_18 (by decide) (by decide) ?_
  refine go_iconst 0 dX8_least_21 (by decide) ?_
  refine go_goto 30 dX8_least_22 (by decide) ?_
  exact go_ireturn dX8_least_30 rfl rfl
theorem m_greatest_y (l : Launch) {w : MW} {p : Nat} {A P K T : Nat → Int32} {sv : Nat} {rf : Int32} {y : Int32 × Int32 × Int32 × Int32 × Int64} (hp : p + 4 < w.1) {n : Nat} (hW : mWF 7 A n) {k : Nat} (hk : k < 3) : Ct l (.code yX8_greatest cX8_greatest 2 (some .int)) yX8_greatest 2 0 0 [.ref p, .int (nI k)] (mdW w p A P K T (nI sv, rf, y)) (.inl (some (.int (grA A n k)))) (mdW w p A P K T (nI sv, 0, y)) := by
  refine ct_of (by decide +kernel) (Nat.le_of_ble_eq_true rfl) ?_
  have hn := hW.2.2.1
  have h180 := hW.2.1
  refine go_aload_n dX8_greatest_0 rfl ?_
  refine go_iload_n dX8_greatest_1 rfl ?_
  refine go_iconst 0 dX8_greatest_2 (by decide) ?_
  refine go_iconst 2 dX8_greatest_3 (by decide) ?_
  refine go_stat1 dX8_greatest_4 (m_within l) s_X8_33 kc_X8_within rfl rfl (Nat.le_of_ble_eq_true rfl) (Nat.le_of_ble_eq_true rfl) (Nat.le_of_ble_eq_true rfl) ?_
  refine go_if_eq_f 14 dX8_greatest_7 (by decide) (by rw [show (decide ((0 : Int32) ≤ nI k) && decide (nI k ≤ 2)) = true from wi_ok (a := 0) (m := 2) (by omega) (by omega) (by decide)]; decide) ?_
  refine go_iconst 0 dX8_greatest_10 (by decide) ?_
  refine go_goto 15 dX8_greatest_11 (by decide) ?_
  refine go_virt1 dX8_greatest_15 (m_refd l hp (a := nI sv) (b := rf) (y := y) (r := 0)) v_X8_29_7 rfl (mdW_ob hp) rfl (Nat.le_of_ble_eq_true rfl) (Nat.le_of_ble_eq_true rfl) (Nat.le_of_ble_eq_true rfl) ?_
  refine go_if_eq_t 25 dX8_greatest_18 (by decide) (by decide) ?_
  refine go_aload_n dX8_greatest_25 rfl ?_
  refine go_iload_n dX8_greatest_26 rfl ?_
  refine go_virt1 dX8_greatest_27 (m_greatestOf l hp (k := k) hk hn hW.1 h180) v_X8_153_7 rfl (mdW_ob hp) rfl (Nat.le_of_ble_eq_true rfl) (Nat.le_of_ble_eq_true rfl) (Nat.le_of_ble_eq_true rfl) ?_
  exact go_ireturn dX8_greatest_30 rfl rfl
theorem m_greatest_n (l : Launch) {w : MW} {p : Nat} {A P K T : Nat → Int32} {sv : Nat} {rf : Int32} {y : Int32 × Int32 × Int32 × Int32 × Int64} (hp : p + 4 < w.1) {z : Int32} (h : z < 0 ∨ 3 ≤ z) : Ct l (.code yX8_greatest cX8_greatest 2 (some .int)) yX8_greatest 2 0 0 [.ref p, .int z] (mdW w p A P K T (nI sv, rf, y)) (.inl (some (.int 0))) (mdW w p A P K T (nI sv, 1, y)) := by
  refine ct_of (by decide +kernel) (Nat.le_of_ble_eq_true rfl) ?_
  refine go_aload_n dX8_greatest_0 rfl ?_
  refine go_iload_n dX8_greatest_1 rfl ?_
  refine go_iconst 0 dX8_greatest_2 (by decide) ?_
  refine go_iconst 2 dX8_greatest_3 (by decide) ?_
  refine go_stat1 dX8_greatest_4 (m_within l) s_X8_33 kc_X8_within rfl rfl (Nat.le_of_ble_eq_true rfl) (Nat.le_of_ble_eq_true rfl) (Nat.le_of_ble_eq_true rfl) ?_
  refine go_if_eq_t 14 dX8_greatest_7 (by decide) (by rw [wi_bad (hj := 3) (by decide) h]; rfl) ?_
  refine go_iconst 1 dX8_greatest_14 (by decide) ?_
  refine go_virt1 dX8_greatest_15 (m_refd l hp (a := nI sv) (b := rf) (y := y) (r := 1)) v_X8_29_7 rfl (mdW_ob hp) rfl (Nat.le_of_ble_eq_true rfl) (Nat.le_of_ble_eq_true rfl) (Nat.le_of_ble_eq_true rfl) ?_
  refine go_if_eq_f 25 dX8_greatest_18 (by decide) (by decide) ?_
  refine go_iconst 0 dX8_greatest_21 (by decide) ?_
  refine go_goto 30 dX8_greatest_22 (by decide) ?_
  exact go_ireturn dX8_greatest_30 rfl rfl
theorem m_comparisons_y (l : Launch) {w : MW} {p : Nat} {A P K T : Nat → Int32} {sv : Nat} {rf : Int32} {y : Int32 × Int32 × Int32 × Int32 × Int64} (hp : p + 4 < w.1) {k : Nat} (hk : k < 3) : Ct l (.code yX8_comparisons cX8_comparisons 2 (some .int)) yX8_comparisons 1 0 0 [.ref p, .int (nI k)] (mdW w p A P K T (nI sv, rf, y)) (.inl (some (.int (A (181 + k))))) (mdW w p A P K T (nI sv, 0, y)) := by
  refine ct_of (by decide +kernel) (Nat.le_of_ble_eq_true rfl) ?_
  refine go_aload_n dX8_comparisons_0 rfl ?_
  refine go_iload_n dX8_comparisons_1 rfl ?_
  refine go_iconst 0 dX8_comparisons_2 (by decide) ?_
  refine go_iconst 2 dX8_comparisons_3 (by decide) ?_
  refine go_stat1 dX8_comparisons_4 (m_within l) s_X8_33 kc_X8_within rfl rfl (Nat.le_of_ble_eq_true rfl) (Nat.le_of_ble_eq_true rfl) (Nat.le_of_ble_eq_true rfl) ?_
  refine go_if_eq_f 14 dX8_comparisons_7 (by decide) (by rw [show (decide ((0 : Int32) ≤ nI k) && decide (nI k ≤ 2)) = true from wi_ok (a := 0) (m := 2) (by omega) (by omega) (by decide)]; decide) ?_
  refine go_iconst 0 dX8_comparisons_10 (by decide) ?_
  refine go_goto 15 dX8_comparisons_11 (by decide) ?_
  refine go_virt1 dX8_comparisons_15 (m_refd l hp (a := nI sv) (b := rf) (y := y) (r := 0)) v_X8_29_7 rfl (mdW_ob hp) rfl (Nat.le_of_ble_eq_true rfl) (Nat.le_of_ble_eq_true rfl) (Nat.le_of_ble_eq_true rfl) ?_
  refine go_if_eq_t 25 dX8_comparisons_18 (by decide) (by decide) ?_
  refine go_aload_n dX8_comparisons_25 rfl ?_
  refine go_getfield dX8_comparisons_26 f_X8_7_7 (mdW_ob hp) rfl ?_
  refine go_sipush 181 dX8_comparisons_29 (by decide) ?_
  refine go_iload_n dX8_comparisons_32 rfl ?_
  refine go_iadd dX8_comparisons_33 ?_
  refine go_iaload (181 + k) dX8_comparisons_34 (mdW_A hp) (nI_add 181 k) (by omega) (by decide) ?_
  exact go_ireturn dX8_comparisons_35 rfl rfl
theorem m_comparisons_n (l : Launch) {w : MW} {p : Nat} {A P K T : Nat → Int32} {sv : Nat} {rf : Int32} {y : Int32 × Int32 × Int32 × Int32 × Int64} (hp : p + 4 < w.1) {z : Int32} (h : z < 0 ∨ 3 ≤ z) : Ct l (.code yX8_comparisons cX8_comparisons 2 (some .int)) yX8_comparisons 1 0 0 [.ref p, .int z] (mdW w p A P K T (nI sv, rf, y)) (.inl (some (.int 0))) (mdW w p A P K T (nI sv, 1, y)) := by
  refine ct_of (by decide +kernel) (Nat.le_of_ble_eq_true rfl) ?_
  refine go_aload_n dX8_comparisons_0 rfl ?_
  refine go_iload_n dX8_comparisons_1 rfl ?_
  refine go_iconst 0 dX8_comparisons_2 (by decide) ?_
  refine go_iconst 2 dX8_comparisons_3 (by decide) ?_
  refine go_stat1 dX8_comparisons_4 (m_within l) s_X8_33 kc_X8_within rfl rfl (Nat.le_of_ble_eq_true rfl) (Nat.le_of_ble_eq_true rfl) (Nat.le_of_ble_eq_true rfl) ?_
  refine go_if_eq_t 14 dX8_comparisons_7 (by decide) (by rw [wi_bad (hj := 3) (by decide) h]; rfl) ?_
  refine go_iconst 1 dX8_comparisons_14 (by decide) ?_
  refine go_virt1 dX8_comparisons_15 (m_refd l hp (a := nI sv) (b := rf) (y := y) (r := 1)) v_X8_29_7 rfl (mdW_ob hp) rfl (Nat.le_of_ble_eq_true rfl) (Nat.le_of_ble_eq_true rfl) (Nat.le_of_ble_eq_true rfl) ?_
  refine go_if_eq_f 25 dX8_comparisons_18 (by decide) (by decide) ?_
  refine go_iconst 0 dX8_comparisons_21 (by decide) ?_
  refine go_goto 35 dX8_comparisons_22 (by decide) ?_
  exact go_ireturn dX8_comparisons_35 rfl rfl
theorem m_ranked_7 (l : Launch) {w : MW} {p : Nat} {A P K T : Nat → Int32} {sv : Nat} {rf : Int32} {y : Int32 × Int32 × Int32 × Int32 × Int64} (hp : p + 4 < w.1) {z : Int32} : ∀ (u h : Nat) (r : Int32), u + h = 30 → r = rkA A z u h → Go l yX8_ranked cX8_ranked 3 (some .int) [] none (mm_Z (mm_eq (.inl (some (.int r))) (mdW w p A P K T (nI sv, rf, y)))) 3 0 0 7 [(0, .ref p), (1, .int z), (2, .int (nI h))] [] (mdW w p A P K T (nI sv, rf, y)) := by
  intro u
  induction u with
  | zero =>
    intro h r hu hr
    rw [hr, rkA]
    refine go_iload_n dX8_ranked_7 rfl ?_
    refine go_bipush 30 dX8_ranked_8 (by decide) ?_
    refine go_icmp_ge_t 38 dX8_ranked_10 (by decide) (nI_le (a := 30) (by omega) (by omega)) ?_
    refine go_iconst (-1) dX8_ranked_38 (by decide) ?_
    exact go_ireturn dX8_ranked_39 rfl rfl
  | succ u ih =>
    intro h r hu hr
    refine go_iload_n dX8_ranked_7 rfl ?_
    refine go_bipush 30 dX8_ranked_8 (by decide) ?_
    refine go_icmp_ge_f 38 dX8_ranked_10 (by decide) (n_nle (a := 30) (by omega) (by decide)) ?_
    refine go_aload_n dX8_ranked_13 rfl ?_
    refine go_iload_n dX8_ranked_14 rfl ?_
    refine go_virt1 dX8_ranked_15 (m_isItem l hp) v_X8_49_7 rfl (mdW_ob hp) rfl (Nat.le_of_ble_eq_true rfl) (Nat.le_of_ble_eq_true rfl) (Nat.le_of_ble_eq_true rfl) ?_
    refine go_if_eq 32 dX8_ranked_18 (by decide) (fun q18 => ?_) (fun q18 => ?_)
    · have eN : ¬ (itB A (nI h) = true ∧ nI (rnA A (nI h) 30 0 0) = z) := fun e => bI_ff q18 e.1
      refine go_iinc dX8_ranked_32 rfl (Nat.le_of_ble_eq_true rfl) rfl (show _ = _ + 1 from rfl) ?_
      rw [a_k1]
      refine go_goto 7 dX8_ranked_35 (by decide) ?_
      exact go_sub [(0, .ref p), (1, .int z), (2, .int (nI (h + 1)))] ⟨rfl, rfl, rfl, trivial⟩ (ih (h + 1) r (by omega) (by rw [hr, rkA, if_neg eN]))
    · refine go_aload_n dX8_ranked_21 rfl ?_
      refine go_iload_n dX8_ranked_22 rfl ?_
      refine go_virt1 dX8_ranked_23 (m_rankOf l hp ⟨h, by omega, rfl⟩) v_X8_181_7 rfl (mdW_ob hp) rfl (Nat.le_of_ble_eq_true rfl) (Nat.le_of_ble_eq_true rfl) (Nat.le_of_ble_eq_true rfl) ?_
      refine go_iload_n dX8_ranked_26 rfl ?_
      refine go_icmp_ne 32 dX8_ranked_27 (by decide) (fun q27 => ?_) (fun q27 => ?_)
      · have eN : ¬ (itB A (nI h) = true ∧ nI (rnA A (nI h) 30 0 0) = z) := fun e => q27 e.2
        refine go_iinc dX8_ranked_32 rfl (Nat.le_of_ble_eq_true rfl) rfl (show _ = _ + 1 from rfl) ?_
        rw [a_k1]
        refine go_goto 7 dX8_ranked_35 (by decide) ?_
        exact go_sub [(0, .ref p), (1, .int z), (2, .int (nI (h + 1)))] ⟨rfl, rfl, rfl, trivial⟩ (ih (h + 1) r (by omega) (by rw [hr, rkA, if_neg eN]))
      · rw [hr, rkA, if_pos (show itB A (nI h) = true ∧ nI (rnA A (nI h) 30 0 0) = z from ⟨bI_ne.mp q18, q27⟩)]
        refine go_iload_n dX8_ranked_30 rfl ?_
        exact go_ireturn dX8_ranked_31 rfl rfl
theorem m_ranked (l : Launch) {w : MW} {p : Nat} {A P K T : Nat → Int32} {sv : Nat} {rf : Int32} {y : Int32 × Int32 × Int32 × Int32 × Int64} (hp : p + 4 < w.1) {z : Int32} : Ct l (.code yX8_ranked cX8_ranked 3 (some .int)) yX8_ranked 3 0 0 [.ref p, .int z] (mdW w p A P K T (nI sv, rf, y)) (.inl (some (.int (rkA A z 30 0)))) (mdW w p A P K T (nI sv, 0, y)) := by
  refine ct_of (by decide +kernel) (Nat.le_of_ble_eq_true rfl) ?_
  refine go_aload_n dX8_ranked_0 rfl ?_
  refine go_iconst 0 dX8_ranked_1 (by decide) ?_
  refine go_putfield dX8_ranked_2 p_X8_22_7 (mdW_ob hp) (Nat.le_of_ble_eq_true rfl) (fun _ => ⟨rfl, rfl⟩) (fun _ z => nomatch z) ?_
  refine go_w _ (mdW_uX (nI sv, 0, y)) ?_
  refine go_iconst 0 dX8_ranked_5 (by decide) ?_
  refine go_istore_n dX8_ranked_6 (Nat.le_of_ble_eq_true rfl) rfl ?_
  exact go_sub [(0, .ref p), (1, .int z), (2, .int (nI 0))] ⟨rfl, rfl, rfl, trivial⟩ (m_ranked_7 l hp 30 0 _ rfl rfl)
theorem m_rank_y (l : Launch) {w : MW} {p : Nat} {A P K T : Nat → Int32} {sv : Nat} {rf : Int32} {y : Int32 × Int32 × Int32 × Int32 × Int64} (hp : p + 4 < w.1) {j : Nat} (hj : j < 30) (ht : A (30 + j) = 1) : Ct l (.code yX8_rank cX8_rank 2 (some .int)) yX8_rank 3 0 0 [.ref p, .int (nI j)] (mdW w p A P K T (nI sv, rf, y)) (.inl (some (.int (nI (rnA A (nI j) 30 0 0))))) (mdW w p A P K T (nI sv, 0, y)) := by
  refine ct_of (by decide +kernel) (Nat.le_of_ble_eq_true rfl) ?_
  have hi := itB_iff.mpr ⟨j, hj, rfl, ht⟩
  refine go_aload_n dX8_rank_0 rfl ?_
  refine go_aload_n dX8_rank_1 rfl ?_
  refine go_iload_n dX8_rank_2 rfl ?_
  refine go_virt1 dX8_rank_3 (m_isItem l hp) v_X8_49_7 rfl (mdW_ob hp) rfl (Nat.le_of_ble_eq_true rfl) (Nat.le_of_ble_eq_true rfl) (Nat.le_of_ble_eq_true rfl) ?_
  refine go_if_eq_f 13 dX8_rank_6 (by decide) (by rw [hi]; decide) ?_
  refine go_iconst 0 dX8_rank_9 (by decide) ?_
  refine go_goto 14 dX8_rank_10 (by decide) ?_
  refine go_virt1 dX8_rank_14 (m_refd l hp (a := nI sv) (b := rf) (y := y) (r := 0)) v_X8_29_7 rfl (mdW_ob hp) rfl (Nat.le_of_ble_eq_true rfl) (Nat.le_of_ble_eq_true rfl) (Nat.le_of_ble_eq_true rfl) ?_
  refine go_if_eq_t 24 dX8_rank_17 (by decide) (by decide) ?_
  refine go_aload_n dX8_rank_24 rfl ?_
  refine go_iload_n dX8_rank_25 rfl ?_
  refine go_virt1 dX8_rank_26 (m_rankOf l hp ⟨j, hj, rfl⟩) v_X8_181_7 rfl (mdW_ob hp) rfl (Nat.le_of_ble_eq_true rfl) (Nat.le_of_ble_eq_true rfl) (Nat.le_of_ble_eq_true rfl) ?_
  exact go_ireturn dX8_rank_29 rfl rfl
theorem m_rank_n (l : Launch) {w : MW} {p : Nat} {A P K T : Nat → Int32} {sv : Nat} {rf : Int32} {y : Int32 × Int32 × Int32 × Int32 × Int64} (hp : p + 4 < w.1) {z : Int32} (hi : itB A z = false) : Ct l (.code yX8_rank cX8_rank 2 (some .int)) yX8_rank 3 0 0 [.ref p, .int z] (mdW w p A P K T (nI sv, rf, y)) (.inl (some (.int 0))) (mdW w p A P K T (nI sv, 1, y)) := by
  refine ct_of (by decide +kernel) (Nat.le_of_ble_eq_true rfl) ?_
  refine go_aload_n dX8_rank_0 rfl ?_
  refine go_aload_n dX8_rank_1 rfl ?_
  refine go_iload_n dX8_rank_2 rfl ?_
  refine go_virt1 dX8_rank_3 (m_isItem l hp) v_X8_49_7 rfl (mdW_ob hp) rfl (Nat.le_of_ble_eq_true rfl) (Nat.le_of_ble_eq_true rfl) (Nat.le_of_ble_eq_true rfl) ?_
  refine go_if_eq_t 13 dX8_rank_6 (by decide) (by rw [hi]; rfl) ?_
  refine go_iconst 1 dX8_rank_13 (by decide) ?_
  refine go_virt1 dX8_rank_14 (m_refd l hp (a := nI sv) (b := rf) (y := y) (r := 1)) v_X8_29_7 rfl (mdW_ob hp) rfl (Nat.le_of_ble_eq_true rfl) (Nat.le_of_ble_eq_true rfl) (Nat.le_of_ble_eq_true rfl) ?_
  refine go_if_eq_f 24 dX8_rank_17 (by decide) (by decide) ?_
  refine go_iconst 0 dX8_rank_20 (by decide) ?_
  refine go_goto 29 dX8_rank_21 (by decide) ?_
  exact go_ireturn dX8_rank_29 rfl rfl
theorem m_btw_10 (l : Launch) {w : MW} {p : Nat} {A P K T : Nat → Int32} {sv : Nat} {rf : Int32} {y : Int32 × Int32 × Int32 × Int32 × Int64} (hp : p + 4 < w.1) {lo hi : Int32} : ∀ (u h b r : Nat), u + h = 30 → r = btA A lo hi u h b → Go l yX8_between cX8_between 5 (some .int) [] none (mm_Z (mm_eq (.inl (some (.int (nI r)))) (mdW w p A P K T (nI sv, rf, y)))) 2 0 0 10 [(0, .ref p), (1, .int lo), (2, .int hi), (3, .int (nI b)), (4, .int (nI h))] [] (mdW w p A P K T (nI sv, rf, y)) := by
  intro u
  induction u with
  | zero =>
    intro h b r hu hr
    rw [hr, btA]
    refine go_iload dX8_between_10 rfl ?_
    refine go_bipush 30 dX8_between_12 (by decide) ?_
    refine go_icmp_ge_t 55 dX8_between_14 (by decide) (nI_le (a := 30) (by omega) (by omega)) ?_
    refine go_iload_n dX8_between_55 rfl ?_
    exact go_ireturn dX8_between_56 rfl rfl
  | succ u ih =>
    intro h b r hu hr
    refine go_iload dX8_between_10 rfl ?_
    refine go_bipush 30 dX8_between_12 (by decide) ?_
    refine go_icmp_ge_f 55 dX8_between_14 (by decide) (n_nle (a := 30) (by omega) (by decide)) ?_
    refine go_iload_n dX8_between_17 rfl ?_
    refine go_aload_n dX8_between_18 rfl ?_
    refine go_iload dX8_between_19 rfl ?_
    refine go_virt1 dX8_between_21 (m_isItem l hp) v_X8_49_7 rfl (mdW_ob hp) rfl (Nat.le_of_ble_eq_true rfl) (Nat.le_of_ble_eq_true rfl) (Nat.le_of_ble_eq_true rfl) ?_
    refine go_if_eq 46 dX8_between_24 (by decide) (fun q24 => ?_) (fun q24 => ?_)
    · have eN : ¬ (itB A (nI h) = true ∧ lo ≤ A h ∧ A h ≤ hi) := fun e => bI_ff q24 e.1
      refine go_iconst 0 dX8_between_46 (by decide) ?_
      refine go_iadd dX8_between_47 ?_
      first | rw [Int32.add_zero] | rw [a_k1]
      refine go_istore_n dX8_between_48 (Nat.le_of_ble_eq_true rfl) rfl ?_
      refine go_iinc dX8_between_49 rfl (Nat.le_of_ble_eq_true rfl) rfl (show _ = _ + 1 from rfl) ?_
      rw [a_k1]
      refine go_goto 10 dX8_between_52 (by decide) ?_
      first | exact go_sub [(0, .ref p), (1, .int lo), (2, .int hi), (3, .int (nI b)), (4, .int (nI (h + 1)))] ⟨rfl, rfl, rfl, rfl, rfl, trivial⟩ (ih (h + 1) b r (by omega) (by rw [hr, btA, if_neg eN])) | exact go_sub [(0, .ref p), (1, .int lo), (2, .int hi), (3, .int (nI (b + 1))), (4, .int (nI (h + 1)))] ⟨rfl, rfl, rfl, rfl, rfl, trivial⟩ (ih (h + 1) (b + 1) r (by omega) (by rw [hr, btA, if_pos eY]))
    · refine go_aload_n dX8_between_27 rfl ?_
      refine go_getfield dX8_between_28 f_X8_7_7 (mdW_ob hp) rfl ?_
      refine go_iload dX8_between_31 rfl ?_
      refine go_iaload (h) dX8_between_33 (mdW_A hp) rfl (by omega) (by decide) ?_
      refine go_iload_n dX8_between_34 rfl ?_
      refine go_iload_n dX8_between_35 rfl ?_
      refine go_stat1 dX8_between_36 (m_within l) s_X8_33 kc_X8_within rfl rfl (Nat.le_of_ble_eq_true rfl) (Nat.le_of_ble_eq_true rfl) (Nat.le_of_ble_eq_true rfl) ?_
      refine go_if_eq 46 dX8_between_39 (by decide) (fun q39 => ?_) (fun q39 => ?_)
      · have eN : ¬ (itB A (nI h) = true ∧ lo ≤ A h ∧ A h ≤ hi) := fun e => bI_ff q39 (by rw [decide_eq_true e.2.1, decide_eq_true e.2.2]; rfl)
        refine go_iconst 0 dX8_between_46 (by decide) ?_
        refine go_iadd dX8_between_47 ?_
        first | rw [Int32.add_zero] | rw [a_k1]
        refine go_istore_n dX8_between_48 (Nat.le_of_ble_eq_true rfl) rfl ?_
        refine go_iinc dX8_between_49 rfl (Nat.le_of_ble_eq_true rfl) rfl (show _ = _ + 1 from rfl) ?_
        rw [a_k1]
        refine go_goto 10 dX8_between_52 (by decide) ?_
        first | exact go_sub [(0, .ref p), (1, .int lo), (2, .int hi), (3, .int (nI b)), (4, .int (nI (h + 1)))] ⟨rfl, rfl, rfl, rfl, rfl, trivial⟩ (ih (h + 1) b r (by omega) (by rw [hr, btA, if_neg eN])) | exact go_sub [(0, .ref p), (1, .int lo), (2, .int hi), (3, .int (nI (b + 1))), (4, .int (nI (h + 1)))] ⟨rfl, rfl, rfl, rfl, rfl, trivial⟩ (ih (h + 1) (b + 1) r (by omega) (by rw [hr, btA, if_pos eY]))
      · have e6 := Bool.and_eq_true_iff.mp (bI_ne.mp q39)
        have eY : itB A (nI h) = true ∧ lo ≤ A h ∧ A h ≤ hi := ⟨bI_ne.mp q24, of_decide_eq_true e6.1, of_decide_eq_true e6.2⟩
        refine go_iconst 1 dX8_between_42 (by decide) ?_
        refine go_goto 47 dX8_between_43 (by decide) ?_
        refine go_iadd dX8_between_47 ?_
        first | rw [Int32.add_zero] | rw [a_k1]
        refine go_istore_n dX8_between_48 (Nat.le_of_ble_eq_true rfl) rfl ?_
        refine go_iinc dX8_between_49 rfl (Nat.le_of_ble_eq_true rfl) rfl (show _ = _ + 1 from rfl) ?_
        rw [a_k1]
        refine go_goto 10 dX8_between_52 (by decide) ?_
        first | exact go_sub [(0, .ref p), (1, .int lo), (2, .int hi), (3, .int (nI b)), (4, .int (nI (h + 1)))] ⟨rfl, rfl, rfl, rfl, rfl, trivial⟩ (ih (h + 1) b r (by omega) (by rw [hr, btA, if_neg eN])) | exact go_sub [(0, .ref p), (1, .int lo), (2, .int hi), (3, .int (nI (b + 1))), (4, .int (nI (h + 1)))] ⟨rfl, rfl, rfl, rfl, rfl, trivial⟩ (ih (h + 1) (b + 1) r (by omega) (by rw [hr, btA, if_pos eY]))
theorem m_between (l : Launch) {w : MW} {p : Nat} {A P K T : Nat → Int32} {sv : Nat} {rf : Int32} {y : Int32 × Int32 × Int32 × Int32 × Int64} (hp : p + 4 < w.1) {lo hi : Int32} : Ct l (.code yX8_between cX8_between 5 (some .int)) yX8_between 2 0 0 [.ref p, .int lo, .int hi] (mdW w p A P K T (nI sv, rf, y)) (.inl (some (.int (nI (btA A lo hi 30 0 0))))) (mdW w p A P K T (nI sv, 0, y)) := by
  refine ct_of (by decide +kernel) (Nat.le_of_ble_eq_true rfl) ?_
  refine go_aload_n dX8_between_0 rfl ?_
  refine go_iconst 0 dX8_between_1 (by decide) ?_
  refine go_putfield dX8_between_2 p_X8_22_7 (mdW_ob hp) (Nat.le_of_ble_eq_true rfl) (fun _ => ⟨rfl, rfl⟩) (fun _ z => nomatch z) ?_
  refine go_w _ (mdW_uX (nI sv, 0, y)) ?_
  refine go_iconst 0 dX8_between_5 (by decide) ?_
  refine go_istore_n dX8_between_6 (Nat.le_of_ble_eq_true rfl) rfl ?_
  refine go_iconst 0 dX8_between_7 (by decide) ?_
  refine go_istore dX8_between_8 (Nat.le_of_ble_eq_true rfl) rfl ?_
  exact go_sub [(0, .ref p), (1, .int lo), (2, .int hi), (3, .int (nI 0)), (4, .int (nI 0))] ⟨rfl, rfl, rfl, rfl, rfl, trivial⟩ (m_btw_10 l hp 30 0 0 _ rfl rfl)
theorem m_at_y1 (l : Launch) {w : MW} {p : Nat} {A P K T : Nat → Int32} {sv : Nat} {rf : Int32} {y : Int32 × Int32 × Int32 × Int32 × Int64} (hp : p + 4 < w.1) {n : Nat} (hW : mWF 7 A n) {k i : Nat} (hk : k < 4) (hi : i < n) : Ct l (.code yX8_at cX8_at 3 (some .int)) yX8_at 2 0 0 [.ref p, .int (nI k), .int (nI i)] (mdW w p A P K T (nI sv, rf, y)) (.inl (some (.int ((getL A k).1 i)))) (mdW w p A P K T (nI sv, 0, y)) := by
  refine ct_of (by decide +kernel) (Nat.le_of_ble_eq_true rfl) ?_
  have hn := hW.2.2.1
  have h180 := hW.2.1
  refine go_aload_n dX8_at_0 rfl ?_
  refine go_iload_n dX8_at_1 rfl ?_
  refine go_stat1 dX8_at_2 (m_isLayout l) s_X8_184 kc_X8_isLayout rfl rfl (Nat.le_of_ble_eq_true rfl) (Nat.le_of_ble_eq_true rfl) (Nat.le_of_ble_eq_true rfl) ?_
  refine go_if_eq_f 12 dX8_at_5 (by decide) (by rw [show (decide ((0 : Int32) ≤ nI k) && decide (nI k ≤ 3)) = true from wi_ok (a := 0) (m := 3) (by omega) (by omega) (by decide)]; decide) ?_
  refine go_iconst 0 dX8_at_8 (by decide) ?_
  refine go_goto 13 dX8_at_9 (by decide) ?_
  refine go_virt1 dX8_at_13 (m_refd l hp (a := nI sv) (b := rf) (y := y) (r := 0)) v_X8_29_7 rfl (mdW_ob hp) rfl (Nat.le_of_ble_eq_true rfl) (Nat.le_of_ble_eq_true rfl) (Nat.le_of_ble_eq_true rfl) ?_
  refine go_if_eq_t 21 dX8_at_16 (by decide) (by decide) ?_
  refine go_iload_n dX8_at_21 rfl ?_
  refine go_iconst 0 dX8_at_22 (by decide) ?_
  refine go_aload_n dX8_at_23 rfl ?_
  refine go_virt1 dX8_at_24 (m_many l hp) v_X8_95_7 rfl (mdW_ob hp) rfl (Nat.le_of_ble_eq_true rfl) (Nat.le_of_ble_eq_true rfl) (Nat.le_of_ble_eq_true rfl) ?_
  rw [h180]
  refine go_iconst 1 dX8_at_27 (by decide) ?_
  refine go_isub dX8_at_28 ?_
  refine go_stat1 dX8_at_29 (m_within l) s_X8_33 kc_X8_within rfl rfl (Nat.le_of_ble_eq_true rfl) (Nat.le_of_ble_eq_true rfl) (Nat.le_of_ble_eq_true rfl) ?_
  refine go_if_eq_f 44 dX8_at_32 (by decide) (by rw [pos_y hi hn]; decide) ?_
  refine go_aload_n dX8_at_35 rfl ?_
  refine go_iload_n dX8_at_36 rfl ?_
  refine go_iload_n dX8_at_37 rfl ?_
  refine go_virt1 dX8_at_38 (m_item l hp hk (i := i) (by omega)) v_X8_37_7 rfl (mdW_ob hp) rfl (Nat.le_of_ble_eq_true rfl) (Nat.le_of_ble_eq_true rfl) (Nat.le_of_ble_eq_true rfl) ?_
  refine go_goto 45 dX8_at_41 (by decide) ?_
  exact go_ireturn dX8_at_45 rfl rfl
theorem m_at_y0 (l : Launch) {w : MW} {p : Nat} {A P K T : Nat → Int32} {sv : Nat} {rf : Int32} {y : Int32 × Int32 × Int32 × Int32 × Int64} (hp : p + 4 < w.1) {n : Nat} (hW : mWF 7 A n) {k : Nat} {z : Int32} (hk : k < 4) (hz : z < 0 ∨ nI n ≤ z) : Ct l (.code yX8_at cX8_at 3 (some .int)) yX8_at 2 0 0 [.ref p, .int (nI k), .int z] (mdW w p A P K T (nI sv, rf, y)) (.inl (some (.int (-1)))) (mdW w p A P K T (nI sv, 0, y)) := by
  refine ct_of (by decide +kernel) (Nat.le_of_ble_eq_true rfl) ?_
  have hn := hW.2.2.1
  have h180 := hW.2.1
  refine go_aload_n dX8_at_0 rfl ?_
  refine go_iload_n dX8_at_1 rfl ?_
  refine go_stat1 dX8_at_2 (m_isLayout l) s_X8_184 kc_X8_isLayout rfl rfl (Nat.le_of_ble_eq_true rfl) (Nat.le_of_ble_eq_true rfl) (Nat.le_of_ble_eq_true rfl) ?_
  refine go_if_eq_f 12 dX8_at_5 (by decide) (by rw [show (decide ((0 : Int32) ≤ nI k) && decide (nI k ≤ 3)) = true from wi_ok (a := 0) (m := 3) (by omega) (by omega) (by decide)]; decide) ?_
  refine go_iconst 0 dX8_at_8 (by decide) ?_
  refine go_goto 13 dX8_at_9 (by decide) ?_
  refine go_virt1 dX8_at_13 (m_refd l hp (a := nI sv) (b := rf) (y := y) (r := 0)) v_X8_29_7 rfl (mdW_ob hp) rfl (Nat.le_of_ble_eq_true rfl) (Nat.le_of_ble_eq_true rfl) (Nat.le_of_ble_eq_true rfl) ?_
  refine go_if_eq_t 21 dX8_at_16 (by decide) (by decide) ?_
  refine go_iload_n dX8_at_21 rfl ?_
  refine go_iconst 0 dX8_at_22 (by decide) ?_
  refine go_aload_n dX8_at_23 rfl ?_
  refine go_virt1 dX8_at_24 (m_many l hp) v_X8_95_7 rfl (mdW_ob hp) rfl (Nat.le_of_ble_eq_true rfl) (Nat.le_of_ble_eq_true rfl) (Nat.le_of_ble_eq_true rfl) ?_
  rw [h180]
  refine go_iconst 1 dX8_at_27 (by decide) ?_
  refine go_isub dX8_at_28 ?_
  refine go_stat1 dX8_at_29 (m_within l) s_X8_33 kc_X8_within rfl rfl (Nat.le_of_ble_eq_true rfl) (Nat.le_of_ble_eq_true rfl) (Nat.le_of_ble_eq_true rfl) ?_
  refine go_if_eq_t 44 dX8_at_32 (by decide) (by rw [pos_n hz hn]; rfl) ?_
  refine go_iconst (-1) dX8_at_44 (by decide) ?_
  exact go_ireturn dX8_at_45 rfl rfl
theorem m_at_n (l : Launch) {w : MW} {p : Nat} {A P K T : Nat → Int32} {sv : Nat} {rf : Int32} {y : Int32 × Int32 × Int32 × Int32 × Int64} (hp : p + 4 < w.1) {z i : Int32} (h : z < 0 ∨ 4 ≤ z) : Ct l (.code yX8_at cX8_at 3 (some .int)) yX8_at 2 0 0 [.ref p, .int z, .int i] (mdW w p A P K T (nI sv, rf, y)) (.inl (some (.int 0))) (mdW w p A P K T (nI sv, 1, y)) := by
  refine ct_of (by decide +kernel) (Nat.le_of_ble_eq_true rfl) ?_
  refine go_aload_n dX8_at_0 rfl ?_
  refine go_iload_n dX8_at_1 rfl ?_
  refine go_stat1 dX8_at_2 (m_isLayout l) s_X8_184 kc_X8_isLayout rfl rfl (Nat.le_of_ble_eq_true rfl) (Nat.le_of_ble_eq_true rfl) (Nat.le_of_ble_eq_true rfl) ?_
  refine go_if_eq_t 12 dX8_at_5 (by decide) (by rw [wi_bad (hj := 4) (by decide) h]; rfl) ?_
  refine go_iconst 1 dX8_at_12 (by decide) ?_
  refine go_virt1 dX8_at_13 (m_refd l hp (a := nI sv) (b := rf) (y := y) (r := 1)) v_X8_29_7 rfl (mdW_ob hp) rfl (Nat.le_of_ble_eq_true rfl) (Nat.le_of_ble_eq_true rfl) (Nat.le_of_ble_eq_true rfl) ?_
  refine go_if_eq_f 21 dX8_at_16 (by decide) (by decide) ?_
  refine go_iconst 0 dX8_at_19 (by decide) ?_
  exact go_ireturn dX8_at_20 rfl rfl
theorem m_where_y (l : Launch) {w : MW} {p : Nat} {A P K T : Nat → Int32} {sv : Nat} {rf : Int32} {y : Int32 × Int32 × Int32 × Int32 × Int64} (hp : p + 4 < w.1) {n : Nat} (hW : mWF 7 A n) {j : Nat} (hj : j < 30) (ht : A (30 + j) = 1) {k : Nat} (hk : k < 4) : Ct l (.code yX8_where cX8_where 3 (some .int)) yX8_where 2 0 0 [.ref p, .int (nI k), .int (nI j)] (mdW w p A P K T (nI sv, rf, y)) (.inl (some (.int (nI (fndH (getL A k).1 n (nI j)))))) (mdW w p A P K T (nI sv, 0, y)) := by
  refine ct_of (by decide +kernel) (Nat.le_of_ble_eq_true rfl) ?_
  have hn := hW.2.2.1
  have h180 := hW.2.1
  have hi := itB_iff.mpr ⟨j, hj, rfl, ht⟩
  refine go_aload_n dX8_where_0 rfl ?_
  refine go_iload_n dX8_where_1 rfl ?_
  refine go_stat1 dX8_where_2 (m_isLayout l) s_X8_184 kc_X8_isLayout rfl rfl (Nat.le_of_ble_eq_true rfl) (Nat.le_of_ble_eq_true rfl) (Nat.le_of_ble_eq_true rfl) ?_
  refine go_if_ne_t 12 dX8_where_5 (by decide) (by rw [show (decide ((0 : Int32) ≤ nI k) && decide (nI k ≤ 3)) = true from wi_ok (a := 0) (m := 3) (by omega) (by omega) (by decide)]; decide) ?_
  refine go_aload_n dX8_where_12 rfl ?_
  refine go_iload_n dX8_where_13 rfl ?_
  refine go_virt1 dX8_where_14 (m_isItem l hp) v_X8_49_7 rfl (mdW_ob hp) rfl (Nat.le_of_ble_eq_true rfl) (Nat.le_of_ble_eq_true rfl) (Nat.le_of_ble_eq_true rfl) ?_
  refine go_if_ne_t 24 dX8_where_17 (by decide) (by rw [hi]; decide) ?_
  refine go_iconst 0 dX8_where_24 (by decide) ?_
  refine go_virt1 dX8_where_25 (m_refd l hp (a := nI sv) (b := rf) (y := y) (r := 0)) v_X8_29_7 rfl (mdW_ob hp) rfl (Nat.le_of_ble_eq_true rfl) (Nat.le_of_ble_eq_true rfl) (Nat.le_of_ble_eq_true rfl) ?_
  refine go_if_eq_t 35 dX8_where_28 (by decide) (by decide) ?_
  refine go_aload_n dX8_where_35 rfl ?_
  refine go_iload_n dX8_where_36 rfl ?_
  refine go_iload_n dX8_where_37 rfl ?_
  refine go_virt1 dX8_where_38 (ct_w (m_placeOf l hp hk (s := getL A k) hn (mWF_hf hW hj ht k hk (mskB_7 hk))) (by rw [getL_set hk]) (by rw [getL_set hk]) rfl) v_X8_117_7 rfl (mdW_ob hp) rfl (Nat.le_of_ble_eq_true rfl) (Nat.le_of_ble_eq_true rfl) (Nat.le_of_ble_eq_true rfl) ?_
  exact go_ireturn dX8_where_41 rfl rfl
theorem m_where_n1 (l : Launch) {w : MW} {p : Nat} {A P K T : Nat → Int32} {sv : Nat} {rf : Int32} {y : Int32 × Int32 × Int32 × Int32 × Int64} (hp : p + 4 < w.1) {z i : Int32} (h : z < 0 ∨ 4 ≤ z) : Ct l (.code yX8_where cX8_where 3 (some .int)) yX8_where 2 0 0 [.ref p, .int z, .int i] (mdW w p A P K T (nI sv, rf, y)) (.inl (some (.int 0))) (mdW w p A P K T (nI sv, 1, y)) := by
  refine ct_of (by decide +kernel) (Nat.le_of_ble_eq_true rfl) ?_
  refine go_aload_n dX8_where_0 rfl ?_
  refine go_iload_n dX8_where_1 rfl ?_
  refine go_stat1 dX8_where_2 (m_isLayout l) s_X8_184 kc_X8_isLayout rfl rfl (Nat.le_of_ble_eq_true rfl) (Nat.le_of_ble_eq_true rfl) (Nat.le_of_ble_eq_true rfl) ?_
  refine go_if_ne_f 12 dX8_where_5 (by decide) (by rw [wi_bad (hj := 4) (by decide) h]; rfl) ?_
  refine go_iconst 1 dX8_where_8 (by decide) ?_
  refine go_goto 25 dX8_where_9 (by decide) ?_
  refine go_virt1 dX8_where_25 (m_refd l hp (a := nI sv) (b := rf) (y := y) (r := 1)) v_X8_29_7 rfl (mdW_ob hp) rfl (Nat.le_of_ble_eq_true rfl) (Nat.le_of_ble_eq_true rfl) (Nat.le_of_ble_eq_true rfl) ?_
  refine go_if_eq_f 35 dX8_where_28 (by decide) (by decide) ?_
  refine go_iconst 0 dX8_where_31 (by decide) ?_
  refine go_goto 41 dX8_where_32 (by decide) ?_
  exact go_ireturn dX8_where_41 rfl rfl
theorem m_where_n2 (l : Launch) {w : MW} {p : Nat} {A P K T : Nat → Int32} {sv : Nat} {rf : Int32} {y : Int32 × Int32 × Int32 × Int32 × Int64} (hp : p + 4 < w.1) {k : Nat} {i : Int32} (hk : k < 4) (hi : itB A i = false) : Ct l (.code yX8_where cX8_where 3 (some .int)) yX8_where 2 0 0 [.ref p, .int (nI k), .int i] (mdW w p A P K T (nI sv, rf, y)) (.inl (some (.int 0))) (mdW w p A P K T (nI sv, 2, y)) := by
  refine ct_of (by decide +kernel) (Nat.le_of_ble_eq_true rfl) ?_
  refine go_aload_n dX8_where_0 rfl ?_
  refine go_iload_n dX8_where_1 rfl ?_
  refine go_stat1 dX8_where_2 (m_isLayout l) s_X8_184 kc_X8_isLayout rfl rfl (Nat.le_of_ble_eq_true rfl) (Nat.le_of_ble_eq_true rfl) (Nat.le_of_ble_eq_true rfl) ?_
  refine go_if_ne_t 12 dX8_where_5 (by decide) (by rw [show (decide ((0 : Int32) ≤ nI k) && decide (nI k ≤ 3)) = true from wi_ok (a := 0) (m := 3) (by omega) (by omega) (by decide)]; decide) ?_
  refine go_aload_n dX8_where_12 rfl ?_
  refine go_iload_n dX8_where_13 rfl ?_
  refine go_virt1 dX8_where_14 (m_isItem l hp) v_X8_49_7 rfl (mdW_ob hp) rfl (Nat.le_of_ble_eq_true rfl) (Nat.le_of_ble_eq_true rfl) (Nat.le_of_ble_eq_true rfl) ?_
  refine go_if_ne_f 24 dX8_where_17 (by decide) (by rw [hi]; rfl) ?_
  refine go_iconst 2 dX8_where_20 (by decide) ?_
  refine go_goto 25 dX8_where_21 (by decide) ?_
  refine go_virt1 dX8_where_25 (m_refd l hp (a := nI sv) (b := rf) (y := y) (r := 2)) v_X8_29_7 rfl (mdW_ob hp) rfl (Nat.le_of_ble_eq_true rfl) (Nat.le_of_ble_eq_true rfl) (Nat.le_of_ble_eq_true rfl) ?_
  refine go_if_eq_f 35 dX8_where_28 (by decide) (by decide) ?_
  refine go_iconst 0 dX8_where_31 (by decide) ?_
  refine go_goto 41 dX8_where_32 (by decide) ?_
  exact go_ireturn dX8_where_41 rfl rfl
theorem m_violations_y (l : Launch) {w : MW} {p : Nat} {A P K T : Nat → Int32} {sv : Nat} {rf : Int32} {y : Int32 × Int32 × Int32 × Int32 × Int64} (hp : p + 4 < w.1) {n : Nat} (hW : mWF 7 A n) {k : Nat} (hk : k < 4) : Ct l (.code yX8_violations cX8_violations 2 (some .int)) yX8_violations 4 0 0 [.ref p, .int (nI k)] (mdW w p A P K T (nI sv, rf, y)) (.inl (some (.int (nI (brkK (ltA A) k n (getL A k).1))))) (mdW w p A P K T (nI sv, 0, y)) := by
  refine ct_of (by decide +kernel) (Nat.le_of_ble_eq_true rfl) ?_
  have hn := hW.2.2.1
  have h180 := hW.2.1
  refine go_aload_n dX8_violations_0 rfl ?_
  refine go_iload_n dX8_violations_1 rfl ?_
  refine go_stat1 dX8_violations_2 (m_isLayout l) s_X8_184 kc_X8_isLayout rfl rfl (Nat.le_of_ble_eq_true rfl) (Nat.le_of_ble_eq_true rfl) (Nat.le_of_ble_eq_true rfl) ?_
  refine go_if_eq_f 12 dX8_violations_5 (by decide) (by rw [show (decide ((0 : Int32) ≤ nI k) && decide (nI k ≤ 3)) = true from wi_ok (a := 0) (m := 3) (by omega) (by omega) (by decide)]; decide) ?_
  refine go_iconst 0 dX8_violations_8 (by decide) ?_
  refine go_goto 13 dX8_violations_9 (by decide) ?_
  refine go_virt1 dX8_violations_13 (m_refd l hp (a := nI sv) (b := rf) (y := y) (r := 0)) v_X8_29_7 rfl (mdW_ob hp) rfl (Nat.le_of_ble_eq_true rfl) (Nat.le_of_ble_eq_true rfl) (Nat.le_of_ble_eq_true rfl) ?_
  refine go_if_eq_t 23 dX8_violations_16 (by decide) (by decide) ?_
  refine go_aload_n dX8_violations_23 rfl ?_
  refine go_iload_n dX8_violations_24 rfl ?_
  refine go_virt1 dX8_violations_25 (m_wrongIn l hp hk hn hW.1 h180) v_X8_196_7 rfl (mdW_ob hp) rfl (Nat.le_of_ble_eq_true rfl) (Nat.le_of_ble_eq_true rfl) (Nat.le_of_ble_eq_true rfl) ?_
  exact go_ireturn dX8_violations_28 rfl rfl
theorem m_violations_n (l : Launch) {w : MW} {p : Nat} {A P K T : Nat → Int32} {sv : Nat} {rf : Int32} {y : Int32 × Int32 × Int32 × Int32 × Int64} (hp : p + 4 < w.1) {z : Int32} (h : z < 0 ∨ 4 ≤ z) : Ct l (.code yX8_violations cX8_violations 2 (some .int)) yX8_violations 4 0 0 [.ref p, .int z] (mdW w p A P K T (nI sv, rf, y)) (.inl (some (.int 0))) (mdW w p A P K T (nI sv, 1, y)) := by
  refine ct_of (by decide +kernel) (Nat.le_of_ble_eq_true rfl) ?_
  refine go_aload_n dX8_violations_0 rfl ?_
  refine go_iload_n dX8_violations_1 rfl ?_
  refine go_stat1 dX8_violations_2 (m_isLayout l) s_X8_184 kc_X8_isLayout rfl rfl (Nat.le_of_ble_eq_true rfl) (Nat.le_of_ble_eq_true rfl) (Nat.le_of_ble_eq_true rfl) ?_
  refine go_if_eq_t 12 dX8_violations_5 (by decide) (by rw [wi_bad (hj := 4) (by decide) h]; rfl) ?_
  refine go_iconst 1 dX8_violations_12 (by decide) ?_
  refine go_virt1 dX8_violations_13 (m_refd l hp (a := nI sv) (b := rf) (y := y) (r := 1)) v_X8_29_7 rfl (mdW_ob hp) rfl (Nat.le_of_ble_eq_true rfl) (Nat.le_of_ble_eq_true rfl) (Nat.le_of_ble_eq_true rfl) ?_
  refine go_if_eq_f 23 dX8_violations_16 (by decide) (by decide) ?_
  refine go_iconst 0 dX8_violations_19 (by decide) ?_
  refine go_goto 28 dX8_violations_20 (by decide) ?_
  exact go_ireturn dX8_violations_28 rfl rfl
theorem m_disturb_y (l : Launch) {w : MW} {p : Nat} {A P K T : Nat → Int32} {sv : Nat} {rf : Int32} {y : Int32 × Int32 × Int32 × Int32 × Int64} (hp : p + 4 < w.1) {n : Nat} (hW : mWF 7 A n) (hs : sv ≤ 5) {k i j : Nat} (hk : k < 4) (hi : i < n) (hj : j < n) : Ct l (.code yX8_disturb cX8_disturb 5 (some .int)) yX8_disturb 4 0 0 [.ref p, .int (nI k), .int (nI i), .int (nI j)] (mdW w p A P K T (nI sv, rf, y)) (.inl (some (.int (nI (brkK (ltA (setL A k (sw (getL A k).1 i j, (getL A k).2))) k n (getL (setL A k (sw (getL A k).1 i j, (getL A k).2)) k).1))))) (mdW w p (setL A k (sw (getL A k).1 i j, (getL A k).2)) (svP A P sv) K T (nI (min (sv + 1) 5), 0, y)) := by
  refine ct_of (by decide +kernel) (Nat.le_of_ble_eq_true rfl) ?_
  have hn := hW.2.2.1
  have h180 := hW.2.1
  refine go_iload_n dX8_disturb_0 rfl ?_
  refine go_iconst 0 dX8_disturb_1 (by decide) ?_
  refine go_aload_n dX8_disturb_2 rfl ?_
  refine go_virt1 dX8_disturb_3 (m_many l hp) v_X8_95_7 rfl (mdW_ob hp) rfl (Nat.le_of_ble_eq_true rfl) (Nat.le_of_ble_eq_true rfl) (Nat.le_of_ble_eq_true rfl) ?_
  rw [h180]
  refine go_iconst 1 dX8_disturb_6 (by decide) ?_
  refine go_isub dX8_disturb_7 ?_
  refine go_stat1 dX8_disturb_8 (m_within l) s_X8_33 kc_X8_within rfl rfl (Nat.le_of_ble_eq_true rfl) (Nat.le_of_ble_eq_true rfl) (Nat.le_of_ble_eq_true rfl) ?_
  refine go_if_eq_f 32 dX8_disturb_11 (by decide) (by rw [pos_y hi hn]; decide) ?_
  refine go_iload_n dX8_disturb_14 rfl ?_
  refine go_iconst 0 dX8_disturb_15 (by decide) ?_
  refine go_aload_n dX8_disturb_16 rfl ?_
  refine go_virt1 dX8_disturb_17 (m_many l hp) v_X8_95_7 rfl (mdW_ob hp) rfl (Nat.le_of_ble_eq_true rfl) (Nat.le_of_ble_eq_true rfl) (Nat.le_of_ble_eq_true rfl) ?_
  rw [h180]
  refine go_iconst 1 dX8_disturb_20 (by decide) ?_
  refine go_isub dX8_disturb_21 ?_
  refine go_stat1 dX8_disturb_22 (m_within l) s_X8_33 kc_X8_within rfl rfl (Nat.le_of_ble_eq_true rfl) (Nat.le_of_ble_eq_true rfl) (Nat.le_of_ble_eq_true rfl) ?_
  refine go_if_eq_f 32 dX8_disturb_25 (by decide) (by rw [pos_y hj hn]; decide) ?_
  refine go_iconst 1 dX8_disturb_28 (by decide) ?_
  refine go_goto 33 dX8_disturb_29 (by decide) ?_
  refine go_istore dX8_disturb_33 (Nat.le_of_ble_eq_true rfl) rfl ?_
  refine go_aload_n dX8_disturb_35 rfl ?_
  refine go_iload_n dX8_disturb_36 rfl ?_
  refine go_stat1 dX8_disturb_37 (m_isLayout l) s_X8_184 kc_X8_isLayout rfl rfl (Nat.le_of_ble_eq_true rfl) (Nat.le_of_ble_eq_true rfl) (Nat.le_of_ble_eq_true rfl) ?_
  refine go_if_ne_t 47 dX8_disturb_40 (by decide) (by rw [show (decide ((0 : Int32) ≤ nI k) && decide (nI k ≤ 3)) = true from wi_ok (a := 0) (m := 3) (by omega) (by omega) (by decide)]; decide) ?_
  refine go_iload dX8_disturb_47 rfl ?_
  refine go_if_ne_t 56 dX8_disturb_49 (by decide) (by decide) ?_
  refine go_iconst 0 dX8_disturb_56 (by decide) ?_
  refine go_virt1 dX8_disturb_57 (m_refd l hp (a := nI sv) (b := rf) (y := y) (r := 0)) v_X8_29_7 rfl (mdW_ob hp) rfl (Nat.le_of_ble_eq_true rfl) (Nat.le_of_ble_eq_true rfl) (Nat.le_of_ble_eq_true rfl) ?_
  refine go_if_eq_t 65 dX8_disturb_60 (by decide) (by decide) ?_
  refine go_aload_n dX8_disturb_65 rfl ?_
  refine go_virt0 dX8_disturb_66 (m_saves l hp (sv := sv) (y := (0, y)) hs) v_X8_141_7 rfl (mdW_ob hp) rfl (Nat.le_of_ble_eq_true rfl) (Nat.le_of_ble_eq_true rfl) (Nat.le_of_ble_eq_true rfl) ?_
  refine go_aload_n dX8_disturb_69 rfl ?_
  refine go_iload_n dX8_disturb_70 rfl ?_
  refine go_iload_n dX8_disturb_71 rfl ?_
  refine go_iload_n dX8_disturb_72 rfl ?_
  refine go_virt0 dX8_disturb_73 (ct_w (m_exch l hp (s := getL A k) hk (a := i) (b := j) (by omega) (by omega)) (by rw [getL_set hk]) rfl rfl) v_X8_55_7 rfl (mdW_ob hp) rfl (Nat.le_of_ble_eq_true rfl) (Nat.le_of_ble_eq_true rfl) (Nat.le_of_ble_eq_true rfl) ?_
  refine go_aload_n dX8_disturb_76 rfl ?_
  refine go_iload_n dX8_disturb_77 rfl ?_
  refine go_virt1 dX8_disturb_78 (m_wrongIn l hp hk hn (mI_set hk hW.1 (rowOK_sw (hW.1 k hk) (by omega) (by omega))) ((setL_n hk).trans h180)) v_X8_196_7 rfl (mdW_ob hp) rfl (Nat.le_of_ble_eq_true rfl) (Nat.le_of_ble_eq_true rfl) (Nat.le_of_ble_eq_true rfl) ?_
  exact go_ireturn dX8_disturb_81 rfl rfl
theorem m_disturb_n1 (l : Launch) {w : MW} {p : Nat} {A P K T : Nat → Int32} {sv : Nat} {rf : Int32} {y : Int32 × Int32 × Int32 × Int32 × Int64} (hp : p + 4 < w.1) {n : Nat} (hW : mWF 7 A n) {z i j : Int32} (h : z < 0 ∨ 4 ≤ z) : Ct l (.code yX8_disturb cX8_disturb 5 (some .int)) yX8_disturb 4 0 0 [.ref p, .int z, .int i, .int j] (mdW w p A P K T (nI sv, rf, y)) (.inl (some (.int 0))) (mdW w p A P K T (nI sv, 1, y)) := by
  refine ct_of (by decide +kernel) (Nat.le_of_ble_eq_true rfl) ?_
  have hn := hW.2.2.1
  have h180 := hW.2.1
  refine go_iload_n dX8_disturb_0 rfl ?_
  refine go_iconst 0 dX8_disturb_1 (by decide) ?_
  refine go_aload_n dX8_disturb_2 rfl ?_
  refine go_virt1 dX8_disturb_3 (m_many l hp) v_X8_95_7 rfl (mdW_ob hp) rfl (Nat.le_of_ble_eq_true rfl) (Nat.le_of_ble_eq_true rfl) (Nat.le_of_ble_eq_true rfl) ?_
  rw [h180]
  refine go_iconst 1 dX8_disturb_6 (by decide) ?_
  refine go_isub dX8_disturb_7 ?_
  refine go_stat1 dX8_disturb_8 (m_within l) s_X8_33 kc_X8_within rfl rfl (Nat.le_of_ble_eq_true rfl) (Nat.le_of_ble_eq_true rfl) (Nat.le_of_ble_eq_true rfl) ?_
  refine go_if_eq 32 dX8_disturb_11 (by decide) (fun q11 => ?_) (fun q11 => ?_)
  · refine go_iconst 0 dX8_disturb_32 (by decide) ?_
    refine go_istore dX8_disturb_33 (Nat.le_of_ble_eq_true rfl) rfl ?_
    refine go_aload_n dX8_disturb_35 rfl ?_
    refine go_iload_n dX8_disturb_36 rfl ?_
    refine go_stat1 dX8_disturb_37 (m_isLayout l) s_X8_184 kc_X8_isLayout rfl rfl (Nat.le_of_ble_eq_true rfl) (Nat.le_of_ble_eq_true rfl) (Nat.le_of_ble_eq_true rfl) ?_
    refine go_if_ne_f 47 dX8_disturb_40 (by decide) (by rw [wi_bad (hj := 4) (by decide) h]; rfl) ?_
    refine go_iconst 1 dX8_disturb_43 (by decide) ?_
    refine go_goto 57 dX8_disturb_44 (by decide) ?_
    refine go_virt1 dX8_disturb_57 (m_refd l hp (a := nI sv) (b := rf) (y := y) (r := 1)) v_X8_29_7 rfl (mdW_ob hp) rfl (Nat.le_of_ble_eq_true rfl) (Nat.le_of_ble_eq_true rfl) (Nat.le_of_ble_eq_true rfl) ?_
    refine go_if_eq_f 65 dX8_disturb_60 (by decide) (by decide) ?_
    refine go_iconst 0 dX8_disturb_63 (by decide) ?_
    exact go_ireturn dX8_disturb_64 rfl rfl
  · refine go_iload_n dX8_disturb_14 rfl ?_
    refine go_iconst 0 dX8_disturb_15 (by decide) ?_
    refine go_aload_n dX8_disturb_16 rfl ?_
    refine go_virt1 dX8_disturb_17 (m_many l hp) v_X8_95_7 rfl (mdW_ob hp) rfl (Nat.le_of_ble_eq_true rfl) (Nat.le_of_ble_eq_true rfl) (Nat.le_of_ble_eq_true rfl) ?_
    rw [h180]
    refine go_iconst 1 dX8_disturb_20 (by decide) ?_
    refine go_isub dX8_disturb_21 ?_
    refine go_stat1 dX8_disturb_22 (m_within l) s_X8_33 kc_X8_within rfl rfl (Nat.le_of_ble_eq_true rfl) (Nat.le_of_ble_eq_true rfl) (Nat.le_of_ble_eq_true rfl) ?_
    refine go_if_eq 32 dX8_disturb_25 (by decide) (fun q25 => ?_) (fun q25 => ?_)
    · refine go_iconst 0 dX8_disturb_32 (by decide) ?_
      refine go_istore dX8_disturb_33 (Nat.le_of_ble_eq_true rfl) rfl ?_
      refine go_aload_n dX8_disturb_35 rfl ?_
      refine go_iload_n dX8_disturb_36 rfl ?_
      refine go_stat1 dX8_disturb_37 (m_isLayout l) s_X8_184 kc_X8_isLayout rfl rfl (Nat.le_of_ble_eq_true rfl) (Nat.le_of_ble_eq_true rfl) (Nat.le_of_ble_eq_true rfl) ?_
      refine go_if_ne_f 47 dX8_disturb_40 (by decide) (by rw [wi_bad (hj := 4) (by decide) h]; rfl) ?_
      refine go_iconst 1 dX8_disturb_43 (by decide) ?_
      refine go_goto 57 dX8_disturb_44 (by decide) ?_
      refine go_virt1 dX8_disturb_57 (m_refd l hp (a := nI sv) (b := rf) (y := y) (r := 1)) v_X8_29_7 rfl (mdW_ob hp) rfl (Nat.le_of_ble_eq_true rfl) (Nat.le_of_ble_eq_true rfl) (Nat.le_of_ble_eq_true rfl) ?_
      refine go_if_eq_f 65 dX8_disturb_60 (by decide) (by decide) ?_
      refine go_iconst 0 dX8_disturb_63 (by decide) ?_
      exact go_ireturn dX8_disturb_64 rfl rfl
    · refine go_iconst 1 dX8_disturb_28 (by decide) ?_
      refine go_goto 33 dX8_disturb_29 (by decide) ?_
      refine go_istore dX8_disturb_33 (Nat.le_of_ble_eq_true rfl) rfl ?_
      refine go_aload_n dX8_disturb_35 rfl ?_
      refine go_iload_n dX8_disturb_36 rfl ?_
      refine go_stat1 dX8_disturb_37 (m_isLayout l) s_X8_184 kc_X8_isLayout rfl rfl (Nat.le_of_ble_eq_true rfl) (Nat.le_of_ble_eq_true rfl) (Nat.le_of_ble_eq_true rfl) ?_
      refine go_if_ne_f 47 dX8_disturb_40 (by decide) (by rw [wi_bad (hj := 4) (by decide) h]; rfl) ?_
      refine go_iconst 1 dX8_disturb_43 (by decide) ?_
      refine go_goto 57 dX8_disturb_44 (by decide) ?_
      refine go_virt1 dX8_disturb_57 (m_refd l hp (a := nI sv) (b := rf) (y := y) (r := 1)) v_X8_29_7 rfl (mdW_ob hp) rfl (Nat.le_of_ble_eq_true rfl) (Nat.le_of_ble_eq_true rfl) (Nat.le_of_ble_eq_true rfl) ?_
      refine go_if_eq_f 65 dX8_disturb_60 (by decide) (by decide) ?_
      refine go_iconst 0 dX8_disturb_63 (by decide) ?_
      exact go_ireturn dX8_disturb_64 rfl rfl
theorem m_disturb_n2 (l : Launch) {w : MW} {p : Nat} {A P K T : Nat → Int32} {sv : Nat} {rf : Int32} {y : Int32 × Int32 × Int32 × Int32 × Int64} (hp : p + 4 < w.1) {n : Nat} (hW : mWF 7 A n) {k : Nat} {i j : Int32} (hk : k < 4) (hi : i < 0 ∨ nI n ≤ i) : Ct l (.code yX8_disturb cX8_disturb 5 (some .int)) yX8_disturb 4 0 0 [.ref p, .int (nI k), .int i, .int j] (mdW w p A P K T (nI sv, rf, y)) (.inl (some (.int 0))) (mdW w p A P K T (nI sv, 2, y)) := by
  refine ct_of (by decide +kernel) (Nat.le_of_ble_eq_true rfl) ?_
  have hn := hW.2.2.1
  have h180 := hW.2.1
  refine go_iload_n dX8_disturb_0 rfl ?_
  refine go_iconst 0 dX8_disturb_1 (by decide) ?_
  refine go_aload_n dX8_disturb_2 rfl ?_
  refine go_virt1 dX8_disturb_3 (m_many l hp) v_X8_95_7 rfl (mdW_ob hp) rfl (Nat.le_of_ble_eq_true rfl) (Nat.le_of_ble_eq_true rfl) (Nat.le_of_ble_eq_true rfl) ?_
  rw [h180]
  refine go_iconst 1 dX8_disturb_6 (by decide) ?_
  refine go_isub dX8_disturb_7 ?_
  refine go_stat1 dX8_disturb_8 (m_within l) s_X8_33 kc_X8_within rfl rfl (Nat.le_of_ble_eq_true rfl) (Nat.le_of_ble_eq_true rfl) (Nat.le_of_ble_eq_true rfl) ?_
  refine go_if_eq_t 32 dX8_disturb_11 (by decide) (by rw [pos_n hi hn]; rfl) ?_
  refine go_iconst 0 dX8_disturb_32 (by decide) ?_
  refine go_istore dX8_disturb_33 (Nat.le_of_ble_eq_true rfl) rfl ?_
  refine go_aload_n dX8_disturb_35 rfl ?_
  refine go_iload_n dX8_disturb_36 rfl ?_
  refine go_stat1 dX8_disturb_37 (m_isLayout l) s_X8_184 kc_X8_isLayout rfl rfl (Nat.le_of_ble_eq_true rfl) (Nat.le_of_ble_eq_true rfl) (Nat.le_of_ble_eq_true rfl) ?_
  refine go_if_ne_t 47 dX8_disturb_40 (by decide) (by rw [show (decide ((0 : Int32) ≤ nI k) && decide (nI k ≤ 3)) = true from wi_ok (a := 0) (m := 3) (by omega) (by omega) (by decide)]; decide) ?_
  refine go_iload dX8_disturb_47 rfl ?_
  refine go_if_ne_f 56 dX8_disturb_49 (by decide) (rfl) ?_
  refine go_iconst 2 dX8_disturb_52 (by decide) ?_
  refine go_goto 57 dX8_disturb_53 (by decide) ?_
  refine go_virt1 dX8_disturb_57 (m_refd l hp (a := nI sv) (b := rf) (y := y) (r := 2)) v_X8_29_7 rfl (mdW_ob hp) rfl (Nat.le_of_ble_eq_true rfl) (Nat.le_of_ble_eq_true rfl) (Nat.le_of_ble_eq_true rfl) ?_
  refine go_if_eq_f 65 dX8_disturb_60 (by decide) (by decide) ?_
  refine go_iconst 0 dX8_disturb_63 (by decide) ?_
  exact go_ireturn dX8_disturb_64 rfl rfl
theorem m_disturb_n3 (l : Launch) {w : MW} {p : Nat} {A P K T : Nat → Int32} {sv : Nat} {rf : Int32} {y : Int32 × Int32 × Int32 × Int32 × Int64} (hp : p + 4 < w.1) {n : Nat} (hW : mWF 7 A n) {k i : Nat} {j : Int32} (hk : k < 4) (hi : i < n) (hj : j < 0 ∨ nI n ≤ j) : Ct l (.code yX8_disturb cX8_disturb 5 (some .int)) yX8_disturb 4 0 0 [.ref p, .int (nI k), .int (nI i), .int j] (mdW w p A P K T (nI sv, rf, y)) (.inl (some (.int 0))) (mdW w p A P K T (nI sv, 2, y)) := by
  refine ct_of (by decide +kernel) (Nat.le_of_ble_eq_true rfl) ?_
  have hn := hW.2.2.1
  have h180 := hW.2.1
  refine go_iload_n dX8_disturb_0 rfl ?_
  refine go_iconst 0 dX8_disturb_1 (by decide) ?_
  refine go_aload_n dX8_disturb_2 rfl ?_
  refine go_virt1 dX8_disturb_3 (m_many l hp) v_X8_95_7 rfl (mdW_ob hp) rfl (Nat.le_of_ble_eq_true rfl) (Nat.le_of_ble_eq_true rfl) (Nat.le_of_ble_eq_true rfl) ?_
  rw [h180]
  refine go_iconst 1 dX8_disturb_6 (by decide) ?_
  refine go_isub dX8_disturb_7 ?_
  refine go_stat1 dX8_disturb_8 (m_within l) s_X8_33 kc_X8_within rfl rfl (Nat.le_of_ble_eq_true rfl) (Nat.le_of_ble_eq_true rfl) (Nat.le_of_ble_eq_true rfl) ?_
  refine go_if_eq_f 32 dX8_disturb_11 (by decide) (by rw [pos_y hi hn]; decide) ?_
  refine go_iload_n dX8_disturb_14 rfl ?_
  refine go_iconst 0 dX8_disturb_15 (by decide) ?_
  refine go_aload_n dX8_disturb_16 rfl ?_
  refine go_virt1 dX8_disturb_17 (m_many l hp) v_X8_95_7 rfl (mdW_ob hp) rfl (Nat.le_of_ble_eq_true rfl) (Nat.le_of_ble_eq_true rfl) (Nat.le_of_ble_eq_true rfl) ?_
  rw [h180]
  refine go_iconst 1 dX8_disturb_20 (by decide) ?_
  refine go_isub dX8_disturb_21 ?_
  refine go_stat1 dX8_disturb_22 (m_within l) s_X8_33 kc_X8_within rfl rfl (Nat.le_of_ble_eq_true rfl) (Nat.le_of_ble_eq_true rfl) (Nat.le_of_ble_eq_true rfl) ?_
  refine go_if_eq_t 32 dX8_disturb_25 (by decide) (by rw [pos_n hj hn]; rfl) ?_
  refine go_iconst 0 dX8_disturb_32 (by decide) ?_
  refine go_istore dX8_disturb_33 (Nat.le_of_ble_eq_true rfl) rfl ?_
  refine go_aload_n dX8_disturb_35 rfl ?_
  refine go_iload_n dX8_disturb_36 rfl ?_
  refine go_stat1 dX8_disturb_37 (m_isLayout l) s_X8_184 kc_X8_isLayout rfl rfl (Nat.le_of_ble_eq_true rfl) (Nat.le_of_ble_eq_true rfl) (Nat.le_of_ble_eq_true rfl) ?_
  refine go_if_ne_t 47 dX8_disturb_40 (by decide) (by rw [show (decide ((0 : Int32) ≤ nI k) && decide (nI k ≤ 3)) = true from wi_ok (a := 0) (m := 3) (by omega) (by omega) (by decide)]; decide) ?_
  refine go_iload dX8_disturb_47 rfl ?_
  refine go_if_ne_f 56 dX8_disturb_49 (by decide) (rfl) ?_
  refine go_iconst 2 dX8_disturb_52 (by decide) ?_
  refine go_goto 57 dX8_disturb_53 (by decide) ?_
  refine go_virt1 dX8_disturb_57 (m_refd l hp (a := nI sv) (b := rf) (y := y) (r := 2)) v_X8_29_7 rfl (mdW_ob hp) rfl (Nat.le_of_ble_eq_true rfl) (Nat.le_of_ble_eq_true rfl) (Nat.le_of_ble_eq_true rfl) ?_
  refine go_if_eq_f 65 dX8_disturb_60 (by decide) (by decide) ?_
  refine go_iconst 0 dX8_disturb_63 (by decide) ?_
  exact go_ireturn dX8_disturb_64 rfl rfl
theorem m_level_y (l : Launch) {w : MW} {p : Nat} {A P K T : Nat → Int32} {sv : Nat} {rf : Int32} {y : Int32 × Int32 × Int32 × Int32 × Int64} (hp : p + 4 < w.1) {k : Nat} (hk : k ≤ 1000000) : Ct l (.code yX8_level cX8_level 2 (some .int)) yX8_level 1 0 0 [.ref p, .int (nI k)] (mdW w p A P K T (nI sv, rf, y)) (.inl (some (.int (nI (lvl k))))) (mdW w p A P K T (nI sv, 0, y)) := by
  refine ct_of (by decide +kernel) (Nat.le_of_ble_eq_true rfl) ?_
  refine go_aload_n dX8_level_0 rfl ?_
  refine go_iload_n dX8_level_1 rfl ?_
  refine go_iconst 0 dX8_level_2 (by decide) ?_
  refine go_ldc dX8_level_3 kd_X8_199 ?_
  refine go_stat1 dX8_level_5 (m_within l) s_X8_33 kc_X8_within rfl rfl (Nat.le_of_ble_eq_true rfl) (Nat.le_of_ble_eq_true rfl) (Nat.le_of_ble_eq_true rfl) ?_
  refine go_if_eq_f 15 dX8_level_8 (by decide) (by rw [show (decide ((0 : Int32) ≤ nI k) && decide (nI k ≤ 1000000)) = true from wi_ok (a := 0) (m := 1000000) (by omega) (by omega) (by decide)]; decide) ?_
  refine go_iconst 0 dX8_level_11 (by decide) ?_
  refine go_goto 16 dX8_level_12 (by decide) ?_
  refine go_virt1 dX8_level_16 (m_refd l hp (a := nI sv) (b := rf) (y := y) (r := 0)) v_X8_29_7 rfl (mdW_ob hp) rfl (Nat.le_of_ble_eq_true rfl) (Nat.le_of_ble_eq_true rfl) (Nat.le_of_ble_eq_true rfl) ?_
  refine go_if_eq_t 26 dX8_level_19 (by decide) (by decide) ?_
  refine go_iload_n dX8_level_26 rfl ?_
  refine go_stat1 dX8_level_27 (m_levelOf l (q := k) (by omega)) s_X8_78 kc_X8_levelOf rfl rfl (Nat.le_of_ble_eq_true rfl) (Nat.le_of_ble_eq_true rfl) (Nat.le_of_ble_eq_true rfl) ?_
  exact go_ireturn dX8_level_30 rfl rfl
theorem m_level_n (l : Launch) {w : MW} {p : Nat} {A P K T : Nat → Int32} {sv : Nat} {rf : Int32} {y : Int32 × Int32 × Int32 × Int32 × Int64} (hp : p + 4 < w.1) {z : Int32} (h : z < 0 ∨ 1000000 < z) : Ct l (.code yX8_level cX8_level 2 (some .int)) yX8_level 1 0 0 [.ref p, .int z] (mdW w p A P K T (nI sv, rf, y)) (.inl (some (.int 0))) (mdW w p A P K T (nI sv, 1, y)) := by
  refine ct_of (by decide +kernel) (Nat.le_of_ble_eq_true rfl) ?_
  refine go_aload_n dX8_level_0 rfl ?_
  refine go_iload_n dX8_level_1 rfl ?_
  refine go_iconst 0 dX8_level_2 (by decide) ?_
  refine go_ldc dX8_level_3 kd_X8_199 ?_
  refine go_stat1 dX8_level_5 (m_within l) s_X8_33 kc_X8_within rfl rfl (Nat.le_of_ble_eq_true rfl) (Nat.le_of_ble_eq_true rfl) (Nat.le_of_ble_eq_true rfl) ?_
  refine go_if_eq_t 15 dX8_level_8 (by decide) (by rw [wi_bad2 h]; rfl) ?_
  refine go_iconst 1 dX8_level_15 (by decide) ?_
  refine go_virt1 dX8_level_16 (m_refd l hp (a := nI sv) (b := rf) (y := y) (r := 1)) v_X8_29_7 rfl (mdW_ob hp) rfl (Nat.le_of_ble_eq_true rfl) (Nat.le_of_ble_eq_true rfl) (Nat.le_of_ble_eq_true rfl) ?_
  refine go_if_eq_f 26 dX8_level_19 (by decide) (by decide) ?_
  refine go_iconst 0 dX8_level_22 (by decide) ?_
  refine go_goto 30 dX8_level_23 (by decide) ?_
  exact go_ireturn dX8_level_30 rfl rfl
theorem m_anc_41 (l : Launch) {w : MW} {p : Nat} {A P K T : Nat → Int32} {sv : Nat} {rf : Int32} {y : Int32 × Int32 × Int32 × Int32 × Int64} (hp : p + 4 < w.1) {z : Int32} : ∀ (u h : Nat) (c r : Int32), u + h = 30 → r = acS z u h c → Go l yX8_ancestors cX8_ancestors 5 (some .int) [] none (mm_Z (mm_eq (.inl (some (.int r))) (mdW w p A P K T (nI sv, rf, y)))) 3 0 0 41 [(0, .ref p), (2, .int z), (3, .int c), (4, .int (nI h))] [] (mdW w p A P K T (nI sv, rf, y)) := by
  intro u
  induction u with
  | zero =>
    intro h c r hu hr
    rw [hr, acS]
    refine go_iload dX8_ancestors_41 rfl ?_
    refine go_bipush 30 dX8_ancestors_43 (by decide) ?_
    refine go_icmp_ge_t 63 dX8_ancestors_45 (by decide) (nI_le (a := 30) (by omega) (by omega)) ?_
    refine go_iload_n dX8_ancestors_63 rfl ?_
    exact go_ireturn dX8_ancestors_64 rfl rfl
  | succ u ih =>
    intro h c r hu hr
    refine go_iload dX8_ancestors_41 rfl ?_
    refine go_bipush 30 dX8_ancestors_43 (by decide) ?_
    refine go_icmp_ge_f 63 dX8_ancestors_45 (by decide) (n_nle (a := 30) (by omega) (by decide)) ?_
    refine go_iload_n dX8_ancestors_48 rfl ?_
    refine go_iload_n dX8_ancestors_49 rfl ?_
    refine go_iload dX8_ancestors_50 rfl ?_
    refine go_ishr dX8_ancestors_52 ?_
    refine go_iconst 1 dX8_ancestors_53 (by decide) ?_
    refine go_iand dX8_ancestors_54 ?_
    refine go_iadd dX8_ancestors_55 ?_
    refine go_istore_n dX8_ancestors_56 (Nat.le_of_ble_eq_true rfl) rfl ?_
    refine go_iinc dX8_ancestors_57 rfl (Nat.le_of_ble_eq_true rfl) rfl (show _ = _ + 1 from rfl) ?_
    rw [a_k1]
    refine go_goto 41 dX8_ancestors_60 (by decide) ?_
    exact go_sub [(0, .ref p), (2, .int z), (3, .int (c + ((z >>> (nI h &&& 31)) &&& 1))), (4, .int (nI (h + 1)))] ⟨rfl, rfl, rfl, rfl, trivial⟩ (ih (h + 1) (c + ((z >>> (nI h &&& 31)) &&& 1)) r (by omega) (by rw [hr, acS]))
theorem m_anc_y (l : Launch) {w : MW} {p : Nat} {A P K T : Nat → Int32} {sv : Nat} {rf : Int32} {y : Int32 × Int32 × Int32 × Int32 × Int64} (hp : p + 4 < w.1) {n : Nat} (hW : mWF 7 A n) {j : Nat} (hj : j < 30) (ht : A (30 + j) = 1) : Ct l (.code yX8_ancestors cX8_ancestors 5 (some .int)) yX8_ancestors 3 0 0 [.ref p, .int (nI j)] (mdW w p A P K T (nI sv, rf, y)) (.inl (some (.int (acS (abA (getL A 2).1 30 (fndH (getL A 2).1 n (nI j)) 0 &&& abA (getL A 3).1 30 (fndH (getL A 3).1 n (nI j)) 0) 30 0 0)))) (mdW w p A P K T (nI sv, 0, y)) := by
  refine ct_of (by decide +kernel) (Nat.le_of_ble_eq_true rfl) ?_
  have hn := hW.2.2.1
  have h180 := hW.2.1
  have hi := itB_iff.mpr ⟨j, hj, rfl, ht⟩
  refine go_aload_n dX8_ancestors_0 rfl ?_
  refine go_aload_n dX8_ancestors_1 rfl ?_
  refine go_iload_n dX8_ancestors_2 rfl ?_
  refine go_virt1 dX8_ancestors_3 (m_isItem l hp) v_X8_49_7 rfl (mdW_ob hp) rfl (Nat.le_of_ble_eq_true rfl) (Nat.le_of_ble_eq_true rfl) (Nat.le_of_ble_eq_true rfl) ?_
  refine go_if_eq_f 13 dX8_ancestors_6 (by decide) (by rw [hi]; decide) ?_
  refine go_iconst 0 dX8_ancestors_9 (by decide) ?_
  refine go_goto 14 dX8_ancestors_10 (by decide) ?_
  refine go_virt1 dX8_ancestors_14 (m_refd l hp (a := nI sv) (b := rf) (y := y) (r := 0)) v_X8_29_7 rfl (mdW_ob hp) rfl (Nat.le_of_ble_eq_true rfl) (Nat.le_of_ble_eq_true rfl) (Nat.le_of_ble_eq_true rfl) ?_
  refine go_if_eq_t 22 dX8_ancestors_17 (by decide) (by decide) ?_
  refine go_aload_n dX8_ancestors_22 rfl ?_
  refine go_iconst 2 dX8_ancestors_23 (by decide) ?_
  refine go_iload_n dX8_ancestors_24 rfl ?_
  refine go_virt1 dX8_ancestors_25 (m_above l hp (k := 2) (by decide) hn (mWF_hf hW hj ht 2 (by decide) (mskB_7 (by decide)))) v_X8_200_7 rfl (mdW_ob hp) rfl (Nat.le_of_ble_eq_true rfl) (Nat.le_of_ble_eq_true rfl) (Nat.le_of_ble_eq_true rfl) ?_
  refine go_aload_n dX8_ancestors_28 rfl ?_
  refine go_iconst 3 dX8_ancestors_29 (by decide) ?_
  refine go_iload_n dX8_ancestors_30 rfl ?_
  refine go_virt1 dX8_ancestors_31 (m_above l hp (k := 3) (by decide) hn (mWF_hf hW hj ht 3 (by decide) (mskB_7 (by decide)))) v_X8_200_7 rfl (mdW_ob hp) rfl (Nat.le_of_ble_eq_true rfl) (Nat.le_of_ble_eq_true rfl) (Nat.le_of_ble_eq_true rfl) ?_
  refine go_iand dX8_ancestors_34 ?_
  refine go_istore_n dX8_ancestors_35 (Nat.le_of_ble_eq_true rfl) rfl ?_
  refine go_iconst 0 dX8_ancestors_36 (by decide) ?_
  refine go_istore_n dX8_ancestors_37 (Nat.le_of_ble_eq_true rfl) rfl ?_
  refine go_iconst 0 dX8_ancestors_38 (by decide) ?_
  refine go_istore dX8_ancestors_39 (Nat.le_of_ble_eq_true rfl) rfl ?_
  exact go_sub [(0, .ref p), (2, .int (abA (getL A 2).1 30 (fndH (getL A 2).1 n (nI j)) 0 &&& abA (getL A 3).1 30 (fndH (getL A 3).1 n (nI j)) 0)), (3, .int 0), (4, .int (nI 0))] ⟨rfl, rfl, rfl, rfl, trivial⟩ (m_anc_41 l hp 30 0 0 _ rfl rfl)
theorem m_anc_n (l : Launch) {w : MW} {p : Nat} {A P K T : Nat → Int32} {sv : Nat} {rf : Int32} {y : Int32 × Int32 × Int32 × Int32 × Int64} (hp : p + 4 < w.1) {z : Int32} (hi : itB A z = false) : Ct l (.code yX8_ancestors cX8_ancestors 5 (some .int)) yX8_ancestors 3 0 0 [.ref p, .int z] (mdW w p A P K T (nI sv, rf, y)) (.inl (some (.int 0))) (mdW w p A P K T (nI sv, 1, y)) := by
  refine ct_of (by decide +kernel) (Nat.le_of_ble_eq_true rfl) ?_
  refine go_aload_n dX8_ancestors_0 rfl ?_
  refine go_aload_n dX8_ancestors_1 rfl ?_
  refine go_iload_n dX8_ancestors_2 rfl ?_
  refine go_virt1 dX8_ancestors_3 (m_isItem l hp) v_X8_49_7 rfl (mdW_ob hp) rfl (Nat.le_of_ble_eq_true rfl) (Nat.le_of_ble_eq_true rfl) (Nat.le_of_ble_eq_true rfl) ?_
  refine go_if_eq_t 13 dX8_ancestors_6 (by decide) (by rw [hi]; rfl) ?_
  refine go_iconst 1 dX8_ancestors_13 (by decide) ?_
  refine go_virt1 dX8_ancestors_14 (m_refd l hp (a := nI sv) (b := rf) (y := y) (r := 1)) v_X8_29_7 rfl (mdW_ob hp) rfl (Nat.le_of_ble_eq_true rfl) (Nat.le_of_ble_eq_true rfl) (Nat.le_of_ble_eq_true rfl) ?_
  refine go_if_eq_f 22 dX8_ancestors_17 (by decide) (by decide) ?_
  refine go_iconst 0 dX8_ancestors_20 (by decide) ?_
  exact go_ireturn dX8_ancestors_21 rfl rfl
theorem m_forget_16 (l : Launch) {w : MW} {p : Nat} {A P K T : Nat → Int32} {sv : Nat} {rf : Int32} {y : Int32 × Int32 × Int32 × Int32 × Int64} (hp : p + 4 < w.1) {z : Int32} : ∀ (u k : Nat), u + k = 3 → Go l yX8_forget cX8_forget 3 (some .int) [] none (mm_Z (mm_eq (.inl (some (.int z))) (mdW w p (fgA A 3) P K T (nI sv, rf, y)))) 1 0 0 16 [(0, .ref p), (1, .int z), (2, .int (nI k))] [] (mdW w p (fgA A k) P K T (nI sv, rf, y)) := by
  intro u
  induction u with
  | zero =>
    intro k hu
    have ek : k = 3 := by omega
    subst ek
    refine go_iload_n dX8_forget_16 rfl ?_
    refine go_iconst 3 dX8_forget_17 (by decide) ?_
    refine go_icmp_ge_t 38 dX8_forget_18 (by decide) (by decide) ?_
    refine go_iload_n dX8_forget_38 rfl ?_
    exact go_ireturn dX8_forget_39 rfl rfl
  | succ u ih =>
    intro k hu
    refine go_iload_n dX8_forget_16 rfl ?_
    refine go_iconst 3 dX8_forget_17 (by decide) ?_
    refine go_icmp_ge_f 38 dX8_forget_18 (by decide) (n_nle (a := 3) (by omega) (by decide)) ?_
    refine go_aload_n dX8_forget_21 rfl ?_
    refine go_getfield dX8_forget_22 f_X8_7_7 (mdW_ob hp) rfl ?_
    refine go_sipush 181 dX8_forget_25 (by decide) ?_
    refine go_iload_n dX8_forget_28 rfl ?_
    refine go_iadd dX8_forget_29 ?_
    refine go_iconst 0 dX8_forget_30 (by decide) ?_
    refine go_iastore (181 + k) dX8_forget_31 (mdW_A hp) (nI_add 181 k) (by omega) (by decide) ?_
    refine go_w _ ((mdW_uA _).trans (by rw [fgA_s])) ?_
    refine go_iinc dX8_forget_32 rfl (Nat.le_of_ble_eq_true rfl) rfl (show _ = _ + 1 from rfl) ?_
    rw [a_k1]
    refine go_goto 16 dX8_forget_35 (by decide) ?_
    exact go_sub [(0, .ref p), (1, .int z), (2, .int (nI (k + 1)))] ⟨rfl, rfl, rfl, trivial⟩ (ih (k + 1) (by omega))
theorem m_forget (l : Launch) {w : MW} {p : Nat} {A P K T : Nat → Int32} {sv : Nat} {rf : Int32} {y : Int32 × Int32 × Int32 × Int32 × Int64} (hp : p + 4 < w.1) (hs : sv ≤ 5) : Ct l (.code yX8_forget cX8_forget 3 (some .int)) yX8_forget 1 0 0 [.ref p] (mdW w p A P K T (nI sv, rf, y)) (.inl (some (.int (A 181 + A 182 + A 183)))) (mdW w p (fgA A 3) (svP A P sv) K T (nI (min (sv + 1) 5), 0, y)) := by
  refine ct_of (by decide +kernel) (Nat.le_of_ble_eq_true rfl) ?_
  refine go_aload_n dX8_forget_0 rfl ?_
  refine go_iconst 0 dX8_forget_1 (by decide) ?_
  refine go_putfield dX8_forget_2 p_X8_22_7 (mdW_ob hp) (Nat.le_of_ble_eq_true rfl) (fun _ => ⟨rfl, rfl⟩) (fun _ z => nomatch z) ?_
  refine go_w _ (mdW_uX (nI sv, 0, y)) ?_
  refine go_aload_n dX8_forget_5 rfl ?_
  refine go_virt1 dX8_forget_6 (m_counts l hp) v_X8_162_7 rfl (mdW_ob hp) rfl (Nat.le_of_ble_eq_true rfl) (Nat.le_of_ble_eq_true rfl) (Nat.le_of_ble_eq_true rfl) ?_
  refine go_istore_n dX8_forget_9 (Nat.le_of_ble_eq_true rfl) rfl ?_
  refine go_aload_n dX8_forget_10 rfl ?_
  refine go_virt0 dX8_forget_11 (m_saves l hp (sv := sv) (y := (0, y)) hs) v_X8_141_7 rfl (mdW_ob hp) rfl (Nat.le_of_ble_eq_true rfl) (Nat.le_of_ble_eq_true rfl) (Nat.le_of_ble_eq_true rfl) ?_
  refine go_iconst 0 dX8_forget_14 (by decide) ?_
  refine go_istore_n dX8_forget_15 (Nat.le_of_ble_eq_true rfl) rfl ?_
  exact go_sub [(0, .ref p), (1, .int (A 181 + A 182 + A 183)), (2, .int (nI 0))] ⟨rfl, rfl, rfl, trivial⟩ (go_w (mdW w p (fgA A 0) (svP A P sv) K T (nI (min (sv + 1) 5), 0, y)) (by rw [fgA_0]) (m_forget_16 l hp 3 0 rfl))
theorem m_few_9 (l : Launch) {w : MW} {p : Nat} {A P K T : Nat → Int32} {sv : Nat} {rf : Int32} {y : Int32 × Int32 × Int32 × Int32 × Int64} (hp : p + 4 < w.1) : ∀ (u i b r : Nat), u + i = 3 → b < 3 → r = fwA A u i b → Go l yX8_fewest cX8_fewest 3 (some .int) [] none (mm_Z (mm_eq (.inl (some (.int (nI r)))) (mdW w p A P K T (nI sv, rf, y)))) 0 0 0 9 [(0, .ref p), (1, .int (nI b)), (2, .int (nI i))] [] (mdW w p A P K T (nI sv, rf, y)) := by
  intro u
  induction u with
  | zero =>
    intro i b r hu hb hr
    rw [hr, fwA]
    refine go_iload_n dX8_fewest_9 rfl ?_
    refine go_iconst 3 dX8_fewest_10 (by decide) ?_
    refine go_icmp_ge_t 49 dX8_fewest_11 (by decide) (nI_le (a := 3) (by omega) (by omega)) ?_
    refine go_iload_n dX8_fewest_49 rfl ?_
    exact go_ireturn dX8_fewest_50 rfl rfl
  | succ u ih =>
    intro i b r hu hb hr
    refine go_iload_n dX8_fewest_9 rfl ?_
    refine go_iconst 3 dX8_fewest_10 (by decide) ?_
    refine go_icmp_ge_f 49 dX8_fewest_11 (by decide) (n_nle (a := 3) (by omega) (by decide)) ?_
    refine go_aload_n dX8_fewest_14 rfl ?_
    refine go_getfield dX8_fewest_15 f_X8_7_7 (mdW_ob hp) rfl ?_
    refine go_sipush 181 dX8_fewest_18 (by decide) ?_
    refine go_iload_n dX8_fewest_21 rfl ?_
    refine go_iadd dX8_fewest_22 ?_
    refine go_iaload (181 + i) dX8_fewest_23 (mdW_A hp) (nI_add 181 i) (by omega) (by decide) ?_
    refine go_aload_n dX8_fewest_24 rfl ?_
    refine go_getfield dX8_fewest_25 f_X8_7_7 (mdW_ob hp) rfl ?_
    refine go_sipush 181 dX8_fewest_28 (by decide) ?_
    refine go_iload_n dX8_fewest_31 rfl ?_
    refine go_iadd dX8_fewest_32 ?_
    refine go_iaload (181 + b) dX8_fewest_33 (mdW_A hp) (nI_add 181 b) (by omega) (by decide) ?_
    refine go_icmp_ge 41 dX8_fewest_34 (by decide) (fun q34 => ?_) (fun q34 => ?_)
    · have eN : ¬ A (181 + i) < A (181 + b) := Int32.not_lt.mpr q34
      refine go_iload_n dX8_fewest_41 rfl ?_
      refine go_istore_n dX8_fewest_42 (Nat.le_of_ble_eq_true rfl) rfl ?_
      refine go_iinc dX8_fewest_43 rfl (Nat.le_of_ble_eq_true rfl) rfl (show _ = _ + 1 from rfl) ?_
      rw [a_k1]
      refine go_goto 9 dX8_fewest_46 (by decide) ?_
      first | exact go_sub [(0, .ref p), (1, .int (nI b)), (2, .int (nI (i + 1)))] ⟨rfl, rfl, rfl, trivial⟩ (ih (i + 1) b r (by omega) (by omega) (by rw [hr, fwA, if_neg eN])) | exact go_sub [(0, .ref p), (1, .int (nI i)), (2, .int (nI (i + 1)))] ⟨rfl, rfl, rfl, trivial⟩ (ih (i + 1) i r (by omega) (by omega) (by rw [hr, fwA, if_pos eY]))
    · have eY : A (181 + i) < A (181 + b) := Int32.not_le.mp q34
      refine go_iload_n dX8_fewest_37 rfl ?_
      refine go_goto 42 dX8_fewest_38 (by decide) ?_
      refine go_istore_n dX8_fewest_42 (Nat.le_of_ble_eq_true rfl) rfl ?_
      refine go_iinc dX8_fewest_43 rfl (Nat.le_of_ble_eq_true rfl) rfl (show _ = _ + 1 from rfl) ?_
      rw [a_k1]
      refine go_goto 9 dX8_fewest_46 (by decide) ?_
      first | exact go_sub [(0, .ref p), (1, .int (nI b)), (2, .int (nI (i + 1)))] ⟨rfl, rfl, rfl, trivial⟩ (ih (i + 1) b r (by omega) (by omega) (by rw [hr, fwA, if_neg eN])) | exact go_sub [(0, .ref p), (1, .int (nI i)), (2, .int (nI (i + 1)))] ⟨rfl, rfl, rfl, trivial⟩ (ih (i + 1) i r (by omega) (by omega) (by rw [hr, fwA, if_pos eY]))
theorem m_fewest (l : Launch) {w : MW} {p : Nat} {A P K T : Nat → Int32} {sv : Nat} {rf : Int32} {y : Int32 × Int32 × Int32 × Int32 × Int64} (hp : p + 4 < w.1) : Ct l (.code yX8_fewest cX8_fewest 3 (some .int)) yX8_fewest 0 0 0 [.ref p] (mdW w p A P K T (nI sv, rf, y)) (.inl (some (.int (nI (fwA A 2 1 0))))) (mdW w p A P K T (nI sv, 0, y)) := by
  refine ct_of (by decide +kernel) (Nat.le_of_ble_eq_true rfl) ?_
  refine go_aload_n dX8_fewest_0 rfl ?_
  refine go_iconst 0 dX8_fewest_1 (by decide) ?_
  refine go_putfield dX8_fewest_2 p_X8_22_7 (mdW_ob hp) (Nat.le_of_ble_eq_true rfl) (fun _ => ⟨rfl, rfl⟩) (fun _ z => nomatch z) ?_
  refine go_w _ (mdW_uX (nI sv, 0, y)) ?_
  refine go_iconst 0 dX8_fewest_5 (by decide) ?_
  refine go_istore_n dX8_fewest_6 (Nat.le_of_ble_eq_true rfl) rfl ?_
  refine go_iconst 1 dX8_fewest_7 (by decide) ?_
  refine go_istore_n dX8_fewest_8 (Nat.le_of_ble_eq_true rfl) rfl ?_
  exact go_sub [(0, .ref p), (1, .int (nI 0)), (2, .int (nI 1))] ⟨rfl, rfl, rfl, trivial⟩ (m_few_9 l hp 2 1 0 _ rfl (by decide) rfl)
