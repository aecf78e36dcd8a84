theorem nI_z {n : Nat} (h : n < 2 ^ 31) (q : nI n = 0) : n = 0 := (nI_eq (b := 0) h (by decide)).mp q
theorem a_bI (b : Nat) (c : Bool) : nI b + bI c = nI (b + bN c) := by
  cases c
  · exact Int32.add_zero _
  · exact nI_1 b
theorem mI_up {A : Nat → Int32} {j : Nat} {v : Int32} (hj : j < 60 ∨ 180 ≤ j) (h : mI A) : mI (upd A j v) := by
  intro k hk i hi
  show okH (upd A j v (60 + 30 * k + i))
  rw [pk_un (by omega)]
  exact h k hk i hi
theorem ltA_irr {A : Nat → Int32} {x : Int32} : ltA A x x = false := by
  unfold ltA
  rw [if_pos rfl]
  exact decide_eq_false (fun h => Int32.lt_irrefl h)
theorem getL_up {A : Nat → Int32} {j k i : Nat} {v : Int32} (hj : j < 60 ∨ 180 ≤ j) (hk : k < 4) (hi : i < 30) : (getL (upd A j v) k).1 i = (getL A k).1 i := pk_un (f := A) (k := j) (j := 60 + 30 * k + i) (by omega)
theorem fndH_up {A : Nat → Int32} {j k n : Nat} {v x : Int32} (hj : j < 60 ∨ 180 ≤ j) (hk : k < 4) (hn : n ≤ 30) : fndH (getL (upd A j v) k).1 n x = fndH (getL A k).1 n x := fndH_congr (fun i hi => getL_up hj hk (by omega))
def cpyF (f g : Nat → Int32) (c d k : Nat) : Nat → Int32 := fun i => if d ≤ i ∧ i < d + k then f (c + (i - d)) else g i
theorem cpyF_0 {f g : Nat → Int32} {c d : Nat} : cpyF f g c d 0 = g := by
  funext i
  unfold cpyF
  rw [if_neg (by omega)]
theorem cpyF_s {f g : Nat → Int32} {c d k : Nat} : upd (cpyF f g c d k) (d + k) (f (c + k)) = cpyF f g c d (k + 1) := by
  funext i
  simp only [upd, cpyF]
  by_cases e : i = d + k
  · rw [if_pos e, if_pos (by omega), show i - d = k by omega]
  · rw [if_neg e]
    by_cases h : d ≤ i ∧ i < d + k
    · rw [if_pos h, if_pos (by omega)]
    · rw [if_neg h, if_neg (by omega)]
theorem cpyF_o {f g : Nat → Int32} {c d k i : Nat} (h : ¬ (d ≤ i ∧ i < d + k)) : cpyF f g c d k i = g i := if_neg h
theorem cpyF_i {f g : Nat → Int32} {c d k i : Nat} (h : d ≤ i ∧ i < d + k) : cpyF f g c d k i = f (c + (i - d)) := if_pos h
def frA (A : Nat → Int32) : Nat := ff (fun h => !decide (A (30 + h) = 1)) 30 0
def insA (q : Int32) (m : Nat) (ky : Int32) (A : Nat → Int32) : Nat → Int32 := upd (upd (fldA (entA m (nI (frA A))) q 4 0 (upd A (frA A) ky)) (30 + frA A) 1) 180 (nI (m + 1))
def lsA (A : Nat → Int32) (n k : Nat) : Int32 := if n = 0 then -1 else (getL A k).1 0
def grA (A : Nat → Int32) (n k : Nat) : Int32 := if n = 0 then -1 else if k = 0 then (getL A 0).1 (topN n 0) else if k = 2 then (getL A 3).1 0 else if n < 3 then (getL A 1).1 (n - 1) else if ltA A ((getL A 1).1 1) ((getL A 1).1 2) = true then (getL A 1).1 2 else (getL A 1).1 1
def tgB (q : Int32) (n : Nat) : Bool := decide (2 < n) && decide (q / 2 - q / 2 / 2 * 2 = 1)
def goF (q : Int32) (n j : Nat) (A : Nat → Int32) : Nat → Int32 := upd (upd (upd (fldA (goA n (nI j)) q 4 0 A) (30 + j) 0) j 0) 180 (nI (n - 1))
def chgA (n : Nat) (x : Int32) (k : Nat) (A : Nat → Int32) : Nat → Int32 := setL A k (settleK (ltA A) k n (fndH (getL A k).1 n x) (getL A k))
def fl4 (op : Nat → (Nat → Int32) → (Nat → Int32)) : Nat → Nat → (Nat → Int32) → (Nat → Int32)
  | 0, _, A => A
  | u + 1, k, A => fl4 op u (k + 1) (op k A)
def hsA (A : Nat → Int32) : Nat → Nat → Int32 → Int32
  | 0, _, a => a
  | u + 1, h, a => hsA A u (h + 1) (a ||| (A (30 + h) <<< (nI h &&& 31)))
def rnA (A : Nat → Int32) (y : Int32) : Nat → Nat → Nat → Nat
  | 0, _, b => b
  | u + 1, h, b => rnA A y u (h + 1) (if itB A (nI h) = true ∧ ltA A (nI h) y = true then b + 1 else b)
theorem tgB_0 {q : Int32} {n : Nat} (h : ¬ 2 < n) : bI (tgB q n) = 0 := by unfold tgB; rw [decide_eq_false h, Bool.false_and]; rfl
theorem tgB_1 {q : Int32} {n : Nat} (h : ¬ (q / 2 - q / 2 / 2 * 2 = 1)) : bI (tgB q n) = 0 := by unfold tgB; rw [decide_eq_false (p := q / 2 - q / 2 / 2 * 2 = 1) h, Bool.and_false]; rfl
theorem tgB_2 {q : Int32} {n : Nat} (h1 : 2 < n) (h : q / 2 - q / 2 / 2 * 2 = 1) : bI (tgB q n) = 1 := by unfold tgB; rw [decide_eq_true (p := q / 2 - q / 2 / 2 * 2 = 1) h, decide_eq_true h1]; rfl
theorem chgA_n {A : Nat → Int32} {n k : Nat} {x : Int32} (hk : k < 4) : chgA n x k A 180 = A 180 := setL_n hk
theorem chgA_ne {A : Nat → Int32} {n k i t : Nat} {x : Int32} (hk : k < 4) (hi : i < 4) (e : i ≠ k) (ht : t < 30) : (getL (chgA n x k A) i).1 t = (getL A i).1 t := getL_ne hk hi e ht
theorem m_free_2 (l : Launch) {w : MW} {p : Nat} {A P K T : Nat → Int32} {x : XS} (hp : p + 4 < w.1) : ∀ (u j r : Nat), u + j = 30 → r = ff (fun h => !decide (A (30 + h) = 1)) u j → Go l yX8_freeHandle cX8_freeHandle 2 (some .int) [] none (mm_Z (mm_eq (.inl (some (.int (nI r)))) (mdW w p A P K T x))) 0 0 0 2 [(0, .ref p), (1, .int (nI j))] [] (mdW w p A P K T x) := by
  intro u
  induction u with
  | zero =>
    intro j r hu hr
    rw [hr, ff]
    refine go_iload_n dX8_freeHandle_2 rfl ?_
    refine go_bipush 30 dX8_freeHandle_3 (by decide) ?_
    refine go_icmp_ge_t 27 dX8_freeHandle_5 (by decide) (nI_le (a := 30) (by omega) (by omega)) ?_
    refine go_iload_n dX8_freeHandle_27 rfl ?_
    exact go_ireturn dX8_freeHandle_28 rfl rfl
  | succ u ih =>
    intro j r hu hr
    refine go_iload_n dX8_freeHandle_2 rfl ?_
    refine go_bipush 30 dX8_freeHandle_3 (by decide) ?_
    refine go_icmp_ge_f 27 dX8_freeHandle_5 (by decide) (n_nle (a := 30) (by omega) (by decide)) ?_
    refine go_aload_n dX8_freeHandle_8 rfl ?_
    refine go_getfield dX8_freeHandle_9 f_X8_7_7 (mdW_ob hp) rfl ?_
    refine go_bipush 30 dX8_freeHandle_12 (by decide) ?_
    refine go_iload_n dX8_freeHandle_14 rfl ?_
    refine go_iadd dX8_freeHandle_15 ?_
    refine go_iaload (30 + j) dX8_freeHandle_16 (mdW_A hp) (nI_add 30 j) (by omega) (by decide) ?_
    refine go_iconst 1 dX8_freeHandle_17 (by decide) ?_
    refine go_icmp_ne 27 dX8_freeHandle_18 (by decide) (fun q18 => ?_) (fun q18 => ?_)
    · rw [hr, ff_yes (show (!decide (A (30 + j) = 1)) = true from by rw [decide_eq_false q18]; rfl)]
      refine go_iload_n dX8_freeHandle_27 rfl ?_
      exact go_ireturn dX8_freeHandle_28 rfl rfl
    · refine go_iinc dX8_freeHandle_21 rfl (Nat.le_of_ble_eq_true rfl) rfl (show _ = _ + 1 from rfl) ?_
      rw [a_k1]
      refine go_goto 2 dX8_freeHandle_24 (by decide) ?_
      exact go_sub [(0, .ref p), (1, .int (nI (j + 1)))] ⟨rfl, rfl, trivial⟩ (ih (j + 1) r (by omega) (hr.trans (ff_no (show (!decide (A (30 + j) = 1)) = false from by rw [decide_eq_true q18]; rfl))))
theorem m_freeHandle (l : Launch) {w : MW} {p : Nat} {A P K T : Nat → Int32} {x : XS} (hp : p + 4 < w.1) : Ct l (.code yX8_freeHandle cX8_freeHandle 2 (some .int)) yX8_freeHandle 0 0 0 [.ref p] (mdW w p A P K T x) (.inl (some (.int (nI (frA A))))) (mdW w p A P K T x) := by
  refine ct_of (by decide +kernel) (Nat.le_of_ble_eq_true rfl) ?_
  refine go_iconst 0 dX8_freeHandle_0 (by decide) ?_
  refine go_istore_n dX8_freeHandle_1 (Nat.le_of_ble_eq_true rfl) rfl ?_
  exact go_sub [(0, .ref p), (1, .int (nI 0))] ⟨rfl, rfl, trivial⟩ (m_free_2 l hp 30 0 (frA A) rfl rfl)
theorem m_inserts (l : Launch) {w : MW} {p : Nat} {A P K T : Nat → Int32} {x : XS} (hp : p + 4 < w.1) {m : Nat} (hm : m < 30) {ky q : Int32} (hA : mI A) (hn : A 180 = nI m) (hf : frA A < 30) : Ct l (.code yX8_inserts cX8_inserts 4 (some .int)) yX8_inserts 6 0 0 [.ref p, .int ky, .int q] (mdW w p A P K T x) (.inl (some (.int (nI (frA A))))) (mdW w p (insA q m ky A) P K T x) := by
  refine ct_of (by decide +kernel) (Nat.le_of_ble_eq_true rfl) ?_
  refine go_aload_n dX8_inserts_0 rfl ?_
  refine go_virt1 dX8_inserts_1 (m_freeHandle l hp) v_X8_133_7 rfl (mdW_ob hp) rfl (Nat.le_of_ble_eq_true rfl) (Nat.le_of_ble_eq_true rfl) (Nat.le_of_ble_eq_true rfl) ?_
  refine go_istore_n dX8_inserts_4 (Nat.le_of_ble_eq_true rfl) rfl ?_
  refine go_aload_n dX8_inserts_5 rfl ?_
  refine go_getfield dX8_inserts_6 f_X8_7_7 (mdW_ob hp) rfl ?_
  refine go_iload_n dX8_inserts_9 rfl ?_
  refine go_iload_n dX8_inserts_10 rfl ?_
  refine go_iastore (frA A) dX8_inserts_11 (mdW_A hp) rfl (by omega) (by decide) ?_
  refine go_w _ (mdW_uA (upd A (frA A) ky)) ?_
  refine go_aload_n dX8_inserts_12 rfl ?_
  refine go_iload_n dX8_inserts_13 rfl ?_
  refine go_iload_n dX8_inserts_14 rfl ?_
  refine go_virt0 dX8_inserts_15 (m_enters l hp (A := upd A (frA A) ky) (q := q) hm hf (mI_up (by omega) hA) (by rw [pk_un (by omega)]; exact hn)) v_X8_136_7 rfl (mdW_ob hp) rfl (Nat.le_of_ble_eq_true rfl) (Nat.le_of_ble_eq_true rfl) (Nat.le_of_ble_eq_true rfl) ?_
  refine go_iload_n dX8_inserts_18 rfl ?_
  exact go_ireturn dX8_inserts_19 rfl rfl
theorem m_leastOf (l : Launch) {w : MW} {p : Nat} {A P K T : Nat → Int32} {x : XS} (hp : p + 4 < w.1) {k n : Nat} (hk : k < 4) (hn : n ≤ 30) (h180 : A 180 = nI n) : Ct l (.code yX8_leastOf cX8_leastOf 2 (some .int)) yX8_leastOf 1 0 0 [.ref p, .int (nI k)] (mdW w p A P K T x) (.inl (some (.int (lsA A n k)))) (mdW w p A P K T x) := by
  refine ct_of (by decide +kernel) (Nat.le_of_ble_eq_true rfl) ?_
  refine go_aload_n dX8_leastOf_0 rfl ?_
  refine go_virt1 dX8_leastOf_1 (m_many l hp) v_X8_95_7 rfl (mdW_ob hp) rfl (Nat.le_of_ble_eq_true rfl) (Nat.le_of_ble_eq_true rfl) (Nat.le_of_ble_eq_true rfl) ?_
  rw [h180]
  refine go_if_ne 11 dX8_leastOf_4 (by decide) (fun q4 => ?_) (fun q4 => ?_)
  · rw [lsA, if_neg (show ¬ n = 0 from fun z => q4 (by rw [z]; rfl))]
    refine go_aload_n dX8_leastOf_11 rfl ?_
    refine go_iload_n dX8_leastOf_12 rfl ?_
    refine go_iconst 0 dX8_leastOf_13 (by decide) ?_
    refine go_virt1 dX8_leastOf_14 (m_item l hp hk (i := 0) (by decide)) v_X8_37_7 rfl (mdW_ob hp) rfl (Nat.le_of_ble_eq_true rfl) (Nat.le_of_ble_eq_true rfl) (Nat.le_of_ble_eq_true rfl) ?_
    exact go_ireturn dX8_leastOf_17 rfl rfl
  · rw [lsA, if_pos (nI_z (by omega) q4)]
    refine go_iconst (-1) dX8_leastOf_7 (by decide) ?_
    refine go_goto 17 dX8_leastOf_8 (by decide) ?_
    exact go_ireturn dX8_leastOf_17 rfl rfl
theorem m_greatestOf (l : Launch) {w : MW} {p : Nat} {A P K T : Nat → Int32} {x : XS} (hp : p + 4 < w.1) {k n : Nat} (hk : k < 3) (hn : n ≤ 30) (hA : mI A) (h180 : A 180 = nI n) : Ct l (.code yX8_greatestOf cX8_greatestOf 3 (some .int)) yX8_greatestOf 1 0 0 [.ref p, .int (nI k)] (mdW w p A P K T x) (.inl (some (.int (grA A n k)))) (mdW w p A P K T x) := by
  refine ct_of (by decide +kernel) (Nat.le_of_ble_eq_true rfl) ?_
  rcases (show k = 0 ∨ k = 1 ∨ k = 2 by omega) with rfl | rfl | rfl
  · skip
    refine go_aload_n dX8_greatestOf_0 rfl ?_
    refine go_virt1 dX8_greatestOf_1 (m_many l hp) v_X8_95_7 rfl (mdW_ob hp) rfl (Nat.le_of_ble_eq_true rfl) (Nat.le_of_ble_eq_true rfl) (Nat.le_of_ble_eq_true rfl) ?_
    rw [h180]
    refine go_istore_n dX8_greatestOf_4 (Nat.le_of_ble_eq_true rfl) rfl ?_
    refine go_iload_n dX8_greatestOf_5 rfl ?_
    refine go_if_ne 11 dX8_greatestOf_6 (by decide) (fun q6 => ?_) (fun q6 => ?_)
    · have e0 : ¬ n = 0 := fun z => q6 (by rw [z]; rfl)
      rw [grA, if_neg e0, if_pos rfl]
      refine go_iload_n dX8_greatestOf_11 rfl ?_
      refine go_if_ne_f 27 dX8_greatestOf_12 (by decide) (rfl) ?_
      refine go_aload_n dX8_greatestOf_15 rfl ?_
      refine go_iconst 0 dX8_greatestOf_16 (by decide) ?_
      refine go_aload_n dX8_greatestOf_17 rfl ?_
      refine go_iconst 0 dX8_greatestOf_18 (by decide) ?_
      refine go_iload_n dX8_greatestOf_19 rfl ?_
      refine go_virt1 dX8_greatestOf_20 (m_topOf l hp (k := 0) (by decide) hn) v_X8_62_7 rfl (mdW_ob hp) rfl (Nat.le_of_ble_eq_true rfl) (Nat.le_of_ble_eq_true rfl) (Nat.le_of_ble_eq_true rfl) ?_
      refine go_virt1 dX8_greatestOf_23 (m_item l hp (k := 0) (by decide) (i := topN n 0) (by have := topN_bd n 0; omega)) v_X8_37_7 rfl (mdW_ob hp) rfl (Nat.le_of_ble_eq_true rfl) (Nat.le_of_ble_eq_true rfl) (Nat.le_of_ble_eq_true rfl) ?_
      exact go_ireturn dX8_greatestOf_26 rfl rfl
    · rw [grA, if_pos (nI_z (by omega) q6)]
      refine go_iconst (-1) dX8_greatestOf_9 (by decide) ?_
      exact go_ireturn dX8_greatestOf_10 rfl rfl
  · skip
    refine go_aload_n dX8_greatestOf_0 rfl ?_
    refine go_virt1 dX8_greatestOf_1 (m_many l hp) v_X8_95_7 rfl (mdW_ob hp) rfl (Nat.le_of_ble_eq_true rfl) (Nat.le_of_ble_eq_true rfl) (Nat.le_of_ble_eq_true rfl) ?_
    rw [h180]
    refine go_istore_n dX8_greatestOf_4 (Nat.le_of_ble_eq_true rfl) rfl ?_
    refine go_iload_n dX8_greatestOf_5 rfl ?_
    refine go_if_ne 11 dX8_greatestOf_6 (by decide) (fun q6 => ?_) (fun q6 => ?_)
    · have e0 : ¬ n = 0 := fun z => q6 (by rw [z]; rfl)
      rw [grA, if_neg e0, if_neg (by decide), if_neg (by decide)]
      refine go_iload_n dX8_greatestOf_11 rfl ?_
      refine go_if_ne_t 27 dX8_greatestOf_12 (by decide) (by decide) ?_
      refine go_iload_n dX8_greatestOf_27 rfl ?_
      refine go_iconst 2 dX8_greatestOf_28 (by decide) ?_
      refine go_icmp_ne_t 39 dX8_greatestOf_29 (by decide) (by decide) ?_
      refine go_iload_n dX8_greatestOf_39 rfl ?_
      refine go_iconst 3 dX8_greatestOf_40 (by decide) ?_
      refine go_icmp_ge 55 dX8_greatestOf_41 (by decide) (fun q41 => ?_) (fun q41 => ?_)
      · rw [if_neg (show ¬ n < 3 from by have := n_le' (a := 3) q41 (by decide) (by omega); omega)]
        refine go_aload_n dX8_greatestOf_55 rfl ?_
        refine go_aload_n dX8_greatestOf_56 rfl ?_
        refine go_iconst 1 dX8_greatestOf_57 (by decide) ?_
        refine go_iconst 1 dX8_greatestOf_58 (by decide) ?_
        refine go_virt1 dX8_greatestOf_59 (m_item l hp (k := 1) (by decide) (i := 1) (by decide)) v_X8_37_7 rfl (mdW_ob hp) rfl (Nat.le_of_ble_eq_true rfl) (Nat.le_of_ble_eq_true rfl) (Nat.le_of_ble_eq_true rfl) ?_
        refine go_aload_n dX8_greatestOf_62 rfl ?_
        refine go_iconst 1 dX8_greatestOf_63 (by decide) ?_
        refine go_iconst 2 dX8_greatestOf_64 (by decide) ?_
        refine go_virt1 dX8_greatestOf_65 (m_item l hp (k := 1) (by decide) (i := 2) (by decide)) v_X8_37_7 rfl (mdW_ob hp) rfl (Nat.le_of_ble_eq_true rfl) (Nat.le_of_ble_eq_true rfl) (Nat.le_of_ble_eq_true rfl) ?_
        refine go_virt1 dX8_greatestOf_68 (m_isLess l hp (hA 1 (by decide) 1 (by decide)) (hA 1 (by decide) 2 (by decide))) v_X8_41_7 rfl (mdW_ob hp) rfl (Nat.le_of_ble_eq_true rfl) (Nat.le_of_ble_eq_true rfl) (Nat.le_of_ble_eq_true rfl) ?_
        refine go_if_eq 83 dX8_greatestOf_71 (by decide) (fun q71 => ?_) (fun q71 => ?_)
        · rw [if_neg (bI_ff q71)]
          refine go_aload_n dX8_greatestOf_83 rfl ?_
          refine go_iconst 1 dX8_greatestOf_84 (by decide) ?_
          refine go_iconst 1 dX8_greatestOf_85 (by decide) ?_
          refine go_virt1 dX8_greatestOf_86 (m_item l hp (k := 1) (by decide) (i := 1) (by decide)) v_X8_37_7 rfl (mdW_ob hp) rfl (Nat.le_of_ble_eq_true rfl) (Nat.le_of_ble_eq_true rfl) (Nat.le_of_ble_eq_true rfl) ?_
          exact go_ireturn dX8_greatestOf_89 rfl rfl
        · rw [if_pos (bI_ne.mp q71)]
          refine go_aload_n dX8_greatestOf_74 rfl ?_
          refine go_iconst 1 dX8_greatestOf_75 (by decide) ?_
          refine go_iconst 2 dX8_greatestOf_76 (by decide) ?_
          refine go_virt1 dX8_greatestOf_77 (m_item l hp (k := 1) (by decide) (i := 2) (by decide)) v_X8_37_7 rfl (mdW_ob hp) rfl (Nat.le_of_ble_eq_true rfl) (Nat.le_of_ble_eq_true rfl) (Nat.le_of_ble_eq_true rfl) ?_
          refine go_goto 89 dX8_greatestOf_80 (by decide) ?_
          exact go_ireturn dX8_greatestOf_89 rfl rfl
      · rw [if_pos (n_lt' (b := 3) q41 (by omega))]
        refine go_aload_n dX8_greatestOf_44 rfl ?_
        refine go_iconst 1 dX8_greatestOf_45 (by decide) ?_
        refine go_iload_n dX8_greatestOf_46 rfl ?_
        refine go_iconst 1 dX8_greatestOf_47 (by decide) ?_
        refine go_isub dX8_greatestOf_48 ?_
        rw [a_pred (by omega)]
        refine go_virt1 dX8_greatestOf_49 (m_item l hp (k := 1) (by decide) (i := n - 1) (by omega)) v_X8_37_7 rfl (mdW_ob hp) rfl (Nat.le_of_ble_eq_true rfl) (Nat.le_of_ble_eq_true rfl) (Nat.le_of_ble_eq_true rfl) ?_
        refine go_goto 89 dX8_greatestOf_52 (by decide) ?_
        exact go_ireturn dX8_greatestOf_89 rfl rfl
    · rw [grA, if_pos (nI_z (by omega) q6)]
      refine go_iconst (-1) dX8_greatestOf_9 (by decide) ?_
      exact go_ireturn dX8_greatestOf_10 rfl rfl
  · skip
    refine go_aload_n dX8_greatestOf_0 rfl ?_
    refine go_virt1 dX8_greatestOf_1 (m_many l hp) v_X8_95_7 rfl (mdW_ob hp) rfl (Nat.le_of_ble_eq_true rfl) (Nat.le_of_ble_eq_true rfl) (Nat.le_of_ble_eq_true rfl) ?_
    rw [h180]
    refine go_istore_n dX8_greatestOf_4 (Nat.le_of_ble_eq_true rfl) rfl ?_
    refine go_iload_n dX8_greatestOf_5 rfl ?_
    refine go_if_ne 11 dX8_greatestOf_6 (by decide) (fun q6 => ?_) (fun q6 => ?_)
    · have e0 : ¬ n = 0 := fun z => q6 (by rw [z]; rfl)
      rw [grA, if_neg e0, if_neg (by decide), if_pos rfl]
      refine go_iload_n dX8_greatestOf_11 rfl ?_
      refine go_if_ne_t 27 dX8_greatestOf_12 (by decide) (by decide) ?_
      refine go_iload_n dX8_greatestOf_27 rfl ?_
      refine go_iconst 2 dX8_greatestOf_28 (by decide) ?_
      refine go_icmp_ne_f 39 dX8_greatestOf_29 (by decide) (rfl) ?_
      refine go_aload_n dX8_greatestOf_32 rfl ?_
      refine go_iconst 3 dX8_greatestOf_33 (by decide) ?_
      refine go_iconst 0 dX8_greatestOf_34 (by decide) ?_
      refine go_virt1 dX8_greatestOf_35 (m_item l hp (k := 3) (by decide) (i := 0) (by decide)) v_X8_37_7 rfl (mdW_ob hp) rfl (Nat.le_of_ble_eq_true rfl) (Nat.le_of_ble_eq_true rfl) (Nat.le_of_ble_eq_true rfl) ?_
      exact go_ireturn dX8_greatestOf_38 rfl rfl
    · rw [grA, if_pos (nI_z (by omega) q6)]
      refine go_iconst (-1) dX8_greatestOf_9 (by decide) ?_
      exact go_ireturn dX8_greatestOf_10 rfl rfl

theorem m_takesG (l : Launch) {w : MW} {p : Nat} {A P K T : Nat → Int32} {x : XS} (hp : p + 4 < w.1) {n j : Nat} (h1 : 1 ≤ n) (hn : n ≤ 30) (hj : j < 30) {q : Int32} (h180 : A 180 = nI n) (hA : mI A) (hg : grA A n 0 = nI j) (hf : ∀ i, i < 4 → mskB q i = true → fndH (getL A i).1 n (nI j) < n) : Ct l (.code yX8_takesGreatest cX8_takesGreatest 3 (some .int)) yX8_takesGreatest 7 0 0 [.ref p, .int q] (mdW w p A P K T x) (.inl (some (.int (nI j)))) (mdW w p (goF q n j (upd A 182 (A 182 + bI (tgB q n)))) P K T x) := by
  refine ct_of (by decide +kernel) (Nat.le_of_ble_eq_true rfl) ?_
  refine go_aload_n dX8_takesGreatest_0 rfl ?_
  refine go_iconst 0 dX8_takesGreatest_1 (by decide) ?_
  refine go_virt1 dX8_takesGreatest_2 (m_greatestOf l hp (k := 0) (by decide) hn hA h180) v_X8_153_7 rfl (mdW_ob hp) rfl (Nat.le_of_ble_eq_true rfl) (Nat.le_of_ble_eq_true rfl) (Nat.le_of_ble_eq_true rfl) ?_
  rw [hg]
  refine go_istore_n dX8_takesGreatest_5 (Nat.le_of_ble_eq_true rfl) rfl ?_
  refine go_aload_n dX8_takesGreatest_6 rfl ?_
  refine go_getfield dX8_takesGreatest_7 f_X8_7_7 (mdW_ob hp) rfl ?_
  refine go_sipush 182 dX8_takesGreatest_10 (by decide) ?_
  refine go_dup2 dX8_takesGreatest_13 rfl rfl ?_
  refine go_iaload (182) dX8_takesGreatest_14 (mdW_A hp) rfl (by omega) (by decide) ?_
  refine go_aload_n dX8_takesGreatest_15 rfl ?_
  refine go_virt1 dX8_takesGreatest_16 (m_many l hp) v_X8_95_7 rfl (mdW_ob hp) rfl (Nat.le_of_ble_eq_true rfl) (Nat.le_of_ble_eq_true rfl) (Nat.le_of_ble_eq_true rfl) ?_
  rw [h180]
  refine go_iconst 2 dX8_takesGreatest_19 (by decide) ?_
  refine go_icmp_le 36 dX8_takesGreatest_20 (by decide) (fun q20 => ?_) (fun q20 => ?_)
  · have eb : bI (tgB q n) = 0 := tgB_0 (by have := n_le' (b := 2) q20 (by omega) (by decide); omega)
    refine go_iconst 0 dX8_takesGreatest_36 (by decide) ?_
    refine go_iadd dX8_takesGreatest_37 ?_
    refine go_iastore 182 dX8_takesGreatest_38 (mdW_A hp) rfl (by omega) (by decide) ?_
    refine go_w (mdW w p (upd A 182 (A 182 + bI (tgB q n))) P K T x) ((mdW_uA _).trans (by rw [eb])) ?_
    refine go_aload_n dX8_takesGreatest_39 rfl ?_
    refine go_iload_n dX8_takesGreatest_40 rfl ?_
    refine go_iload_n dX8_takesGreatest_41 rfl ?_
    refine go_virt0 dX8_takesGreatest_42 (m_goes l hp (A := upd A 182 (A 182 + bI (tgB q n))) h1 hn hj (q := q) (by rw [pk_un (by decide)]; exact h180) (mI_up (Or.inr (by decide)) hA) (fun i a b => by rw [fndH_up (Or.inr (by decide)) a hn]; exact hf i a b)) v_X8_150_7 rfl (mdW_ob hp) rfl (Nat.le_of_ble_eq_true rfl) (Nat.le_of_ble_eq_true rfl) (Nat.le_of_ble_eq_true rfl) ?_
    refine go_iload_n dX8_takesGreatest_45 rfl ?_
    exact go_ireturn dX8_takesGreatest_46 rfl rfl
  · have e2 : 2 < n := n_lt' (a := 2) q20 (by decide)
    refine go_iload_n dX8_takesGreatest_23 rfl ?_
    refine go_iconst 2 dX8_takesGreatest_24 (by decide) ?_
    refine go_idiv dX8_takesGreatest_25 (by decide) ?_
    refine go_iconst 2 dX8_takesGreatest_26 (by decide) ?_
    refine go_irem dX8_takesGreatest_27 (by decide) ?_
    refine go_iconst 1 dX8_takesGreatest_28 (by decide) ?_
    refine go_icmp_ne 36 dX8_takesGreatest_29 (by decide) (fun q29 => ?_) (fun q29 => ?_)
    · have eb : bI (tgB q n) = 0 := tgB_1 q29
      refine go_iconst 0 dX8_takesGreatest_36 (by decide) ?_
      refine go_iadd dX8_takesGreatest_37 ?_
      refine go_iastore 182 dX8_takesGreatest_38 (mdW_A hp) rfl (by omega) (by decide) ?_
      refine go_w (mdW w p (upd A 182 (A 182 + bI (tgB q n))) P K T x) ((mdW_uA _).trans (by rw [eb])) ?_
      refine go_aload_n dX8_takesGreatest_39 rfl ?_
      refine go_iload_n dX8_takesGreatest_40 rfl ?_
      refine go_iload_n dX8_takesGreatest_41 rfl ?_
      refine go_virt0 dX8_takesGreatest_42 (m_goes l hp (A := upd A 182 (A 182 + bI (tgB q n))) h1 hn hj (q := q) (by rw [pk_un (by decide)]; exact h180) (mI_up (Or.inr (by decide)) hA) (fun i a b => by rw [fndH_up (Or.inr (by decide)) a hn]; exact hf i a b)) v_X8_150_7 rfl (mdW_ob hp) rfl (Nat.le_of_ble_eq_true rfl) (Nat.le_of_ble_eq_true rfl) (Nat.le_of_ble_eq_true rfl) ?_
      refine go_iload_n dX8_takesGreatest_45 rfl ?_
      exact go_ireturn dX8_takesGreatest_46 rfl rfl
    · have eb : bI (tgB q n) = 1 := tgB_2 e2 q29
      refine go_iconst 1 dX8_takesGreatest_32 (by decide) ?_
      refine go_goto 37 dX8_takesGreatest_33 (by decide) ?_
      refine go_iadd dX8_takesGreatest_37 ?_
      refine go_iastore 182 dX8_takesGreatest_38 (mdW_A hp) rfl (by omega) (by decide) ?_
      refine go_w (mdW w p (upd A 182 (A 182 + bI (tgB q n))) P K T x) ((mdW_uA _).trans (by rw [eb])) ?_
      refine go_aload_n dX8_takesGreatest_39 rfl ?_
      refine go_iload_n dX8_takesGreatest_40 rfl ?_
      refine go_iload_n dX8_takesGreatest_41 rfl ?_
      refine go_virt0 dX8_takesGreatest_42 (m_goes l hp (A := upd A 182 (A 182 + bI (tgB q n))) h1 hn hj (q := q) (by rw [pk_un (by decide)]; exact h180) (mI_up (Or.inr (by decide)) hA) (fun i a b => by rw [fndH_up (Or.inr (by decide)) a hn]; exact hf i a b)) v_X8_150_7 rfl (mdW_ob hp) rfl (Nat.le_of_ble_eq_true rfl) (Nat.le_of_ble_eq_true rfl) (Nat.le_of_ble_eq_true rfl) ?_
      refine go_iload_n dX8_takesGreatest_45 rfl ?_
      exact go_ireturn dX8_takesGreatest_46 rfl rfl
theorem m_chg_4 (l : Launch) {w : MW} {p : Nat} {A P K T : Nat → Int32} {x : XS} (hp : p + 4 < w.1) {n j : Nat} (hn : n ≤ 30) (h180 : A 180 = nI n) {R : Nat → Int32} (hR : R = A) : Go l yX8_changes cX8_changes 4 none [] none (mm_Z (mm_eq (.inl none) (mdW w p R P K T x))) 6 0 0 9 [(0, .ref p), (1, .int (nI j)), (3, .int (nI 4))] [] (mdW w p A P K T x) := by
  subst hR
  refine go_iload_n dX8_changes_9 rfl ?_
  refine go_iconst 4 dX8_changes_10 (by decide) ?_
  refine go_icmp_ge_t 35 dX8_changes_11 (by decide) (Int32.le_refl _) ?_
  exact go_return dX8_changes_35 rfl
theorem m_chg_3 (l : Launch) {w : MW} {p : Nat} {A P K T : Nat → Int32} {x : XS} (hp : p + 4 < w.1) {n j : Nat} (hn : n ≤ 30) (h180 : A 180 = nI n) {R : Nat → Int32} (hA : mI A) (hf : ∀ i, 3 ≤ i → i < 4 → fndH (getL A i).1 n (nI j) < n) (hR : R = fl4 (chgA n (nI j)) 1 3 A) : Go l yX8_changes cX8_changes 4 none [] none (mm_Z (mm_eq (.inl none) (mdW w p R P K T x))) 6 0 0 9 [(0, .ref p), (1, .int (nI j)), (3, .int (nI 3))] [] (mdW w p A P K T x) := by
  have hf0 := hf 3 (Nat.le_refl _) (by decide)
  refine go_iload_n dX8_changes_9 rfl ?_
  refine go_iconst 4 dX8_changes_10 (by decide) ?_
  refine go_icmp_ge_f 35 dX8_changes_11 (by decide) (by decide) ?_
  refine go_aload_n dX8_changes_14 rfl ?_
  refine go_iload_n dX8_changes_15 rfl ?_
  refine go_aload_n dX8_changes_16 rfl ?_
  refine go_iload_n dX8_changes_17 rfl ?_
  refine go_iload_n dX8_changes_18 rfl ?_
  refine go_virt1 dX8_changes_19 (ct_w (m_placeOf l hp (k := 3) (by decide) (s := getL A 3) hn hf0) (by rw [getL_set (by decide)]) (by rw [getL_set (by decide)]) rfl) v_X8_117_7 rfl (mdW_ob hp) rfl (Nat.le_of_ble_eq_true rfl) (Nat.le_of_ble_eq_true rfl) (Nat.le_of_ble_eq_true rfl) ?_
  refine go_aload_n dX8_changes_22 rfl ?_
  refine go_virt1 dX8_changes_23 (m_many l hp) v_X8_95_7 rfl (mdW_ob hp) rfl (Nat.le_of_ble_eq_true rfl) (Nat.le_of_ble_eq_true rfl) (Nat.le_of_ble_eq_true rfl) ?_
  rw [h180]
  refine go_virt0 dX8_changes_26 (ct_w (m_moves l hp (k := 3) (by decide) (s := getL A 3) (hA 3 (by decide)) (i := (fndH (getL A 3).1 n (nI j))) hf0 hn) (by rw [getL_set (by decide)]) rfl rfl) v_X8_124_7 rfl (mdW_ob hp) rfl (Nat.le_of_ble_eq_true rfl) (Nat.le_of_ble_eq_true rfl) (Nat.le_of_ble_eq_true rfl) ?_
  refine go_iinc dX8_changes_29 rfl (Nat.le_of_ble_eq_true rfl) rfl (show _ = _ + 1 from rfl) ?_
  refine go_goto 9 dX8_changes_32 (by decide) ?_
  exact go_sub [(0, .ref p), (1, .int (nI j)), (3, .int (nI 4))] ⟨rfl, rfl, rfl, trivial⟩ (m_chg_4 l hp (A := chgA n (nI j) 3 A) hn ((chgA_n (by decide)).trans h180) (by rw [hR, fl4]; rfl))
theorem m_chg_2 (l : Launch) {w : MW} {p : Nat} {A P K T : Nat → Int32} {x : XS} (hp : p + 4 < w.1) {n j : Nat} (hn : n ≤ 30) (h180 : A 180 = nI n) {R : Nat → Int32} (hA : mI A) (hf : ∀ i, 2 ≤ i → i < 4 → fndH (getL A i).1 n (nI j) < n) (hR : R = fl4 (chgA n (nI j)) 2 2 A) : Go l yX8_changes cX8_changes 4 none [] none (mm_Z (mm_eq (.inl none) (mdW w p R P K T x))) 6 0 0 9 [(0, .ref p), (1, .int (nI j)), (3, .int (nI 2))] [] (mdW w p A P K T x) := by
  have hf0 := hf 2 (Nat.le_refl _) (by decide)
  refine go_iload_n dX8_changes_9 rfl ?_
  refine go_iconst 4 dX8_changes_10 (by decide) ?_
  refine go_icmp_ge_f 35 dX8_changes_11 (by decide) (by decide) ?_
  refine go_aload_n dX8_changes_14 rfl ?_
  refine go_iload_n dX8_changes_15 rfl ?_
  refine go_aload_n dX8_changes_16 rfl ?_
  refine go_iload_n dX8_changes_17 rfl ?_
  refine go_iload_n dX8_changes_18 rfl ?_
  refine go_virt1 dX8_changes_19 (ct_w (m_placeOf l hp (k := 2) (by decide) (s := getL A 2) hn hf0) (by rw [getL_set (by decide)]) (by rw [getL_set (by decide)]) rfl) v_X8_117_7 rfl (mdW_ob hp) rfl (Nat.le_of_ble_eq_true rfl) (Nat.le_of_ble_eq_true rfl) (Nat.le_of_ble_eq_true rfl) ?_
  refine go_aload_n dX8_changes_22 rfl ?_
  refine go_virt1 dX8_changes_23 (m_many l hp) v_X8_95_7 rfl (mdW_ob hp) rfl (Nat.le_of_ble_eq_true rfl) (Nat.le_of_ble_eq_true rfl) (Nat.le_of_ble_eq_true rfl) ?_
  rw [h180]
  refine go_virt0 dX8_changes_26 (ct_w (m_moves l hp (k := 2) (by decide) (s := getL A 2) (hA 2 (by decide)) (i := (fndH (getL A 2).1 n (nI j))) hf0 hn) (by rw [getL_set (by decide)]) rfl rfl) v_X8_124_7 rfl (mdW_ob hp) rfl (Nat.le_of_ble_eq_true rfl) (Nat.le_of_ble_eq_true rfl) (Nat.le_of_ble_eq_true rfl) ?_
  refine go_iinc dX8_changes_29 rfl (Nat.le_of_ble_eq_true rfl) rfl (show _ = _ + 1 from rfl) ?_
  refine go_goto 9 dX8_changes_32 (by decide) ?_
  exact go_sub [(0, .ref p), (1, .int (nI j)), (3, .int (nI 3))] ⟨rfl, rfl, rfl, trivial⟩ (m_chg_3 l hp (A := chgA n (nI j) 2 A) hn ((chgA_n (by decide)).trans h180) (mI_set (by decide) hA (settleK_ok hf0 hn (hA 2 (by decide)))) (fun i a b => by rw [fndH_congr (f := (getL (chgA n (nI j) 2 A) i).1) (g := (getL A i).1) (fun t ht => chgA_ne (by decide) b (by omega) (by omega))]; exact hf i (by omega) b) (by rw [hR, fl4]))
theorem m_chg_1 (l : Launch) {w : MW} {p : Nat} {A P K T : Nat → Int32} {x : XS} (hp : p + 4 < w.1) {n j : Nat} (hn : n ≤ 30) (h180 : A 180 = nI n) {R : Nat → Int32} (hA : mI A) (hf : ∀ i, 1 ≤ i → i < 4 → fndH (getL A i).1 n (nI j) < n) (hR : R = fl4 (chgA n (nI j)) 3 1 A) : Go l yX8_changes cX8_changes 4 none [] none (mm_Z (mm_eq (.inl none) (mdW w p R P K T x))) 6 0 0 9 [(0, .ref p), (1, .int (nI j)), (3, .int (nI 1))] [] (mdW w p A P K T x) := by
  have hf0 := hf 1 (Nat.le_refl _) (by decide)
  refine go_iload_n dX8_changes_9 rfl ?_
  refine go_iconst 4 dX8_changes_10 (by decide) ?_
  refine go_icmp_ge_f 35 dX8_changes_11 (by decide) (by decide) ?_
  refine go_aload_n dX8_changes_14 rfl ?_
  refine go_iload_n dX8_changes_15 rfl ?_
  refine go_aload_n dX8_changes_16 rfl ?_
  refine go_iload_n dX8_changes_17 rfl ?_
  refine go_iload_n dX8_changes_18 rfl ?_
  refine go_virt1 dX8_changes_19 (ct_w (m_placeOf l hp (k := 1) (by decide) (s := getL A 1) hn hf0) (by rw [getL_set (by decide)]) (by rw [getL_set (by decide)]) rfl) v_X8_117_7 rfl (mdW_ob hp) rfl (Nat.le_of_ble_eq_true rfl) (Nat.le_of_ble_eq_true rfl) (Nat.le_of_ble_eq_true rfl) ?_
  refine go_aload_n dX8_changes_22 rfl ?_
  refine go_virt1 dX8_changes_23 (m_many l hp) v_X8_95_7 rfl (mdW_ob hp) rfl (Nat.le_of_ble_eq_true rfl) (Nat.le_of_ble_eq_true rfl) (Nat.le_of_ble_eq_true rfl) ?_
  rw [h180]
  refine go_virt0 dX8_changes_26 (ct_w (m_moves l hp (k := 1) (by decide) (s := getL A 1) (hA 1 (by decide)) (i := (fndH (getL A 1).1 n (nI j))) hf0 hn) (by rw [getL_set (by decide)]) rfl rfl) v_X8_124_7 rfl (mdW_ob hp) rfl (Nat.le_of_ble_eq_true rfl) (Nat.le_of_ble_eq_true rfl) (Nat.le_of_ble_eq_true rfl) ?_
  refine go_iinc dX8_changes_29 rfl (Nat.le_of_ble_eq_true rfl) rfl (show _ = _ + 1 from rfl) ?_
  refine go_goto 9 dX8_changes_32 (by decide) ?_
  exact go_sub [(0, .ref p), (1, .int (nI j)), (3, .int (nI 2))] ⟨rfl, rfl, rfl, trivial⟩ (m_chg_2 l hp (A := chgA n (nI j) 1 A) hn ((chgA_n (by decide)).trans h180) (mI_set (by decide) hA (settleK_ok hf0 hn (hA 1 (by decide)))) (fun i a b => by rw [fndH_congr (f := (getL (chgA n (nI j) 1 A) i).1) (g := (getL A i).1) (fun t ht => chgA_ne (by decide) b (by omega) (by omega))]; exact hf i (by omega) b) (by rw [hR, fl4]))
theorem m_chg_0 (l : Launch) {w : MW} {p : Nat} {A P K T : Nat → Int32} {x : XS} (hp : p + 4 < w.1) {n j : Nat} (hn : n ≤ 30) (h180 : A 180 = nI n) {R : Nat → Int32} (hA : mI A) (hf : ∀ i, 0 ≤ i → i < 4 → fndH (getL A i).1 n (nI j) < n) (hR : R = fl4 (chgA n (nI j)) 4 0 A) : Go l yX8_changes cX8_changes 4 none [] none (mm_Z (mm_eq (.inl none) (mdW w p R P K T x))) 6 0 0 9 [(0, .ref p), (1, .int (nI j)), (3, .int (nI 0))] [] (mdW w p A P K T x) := by
  have hf0 := hf 0 (Nat.le_refl _) (by decide)
  refine go_iload_n dX8_changes_9 rfl ?_
  refine go_iconst 4 dX8_changes_10 (by decide) ?_
  refine go_icmp_ge_f 35 dX8_changes_11 (by decide) (by decide) ?_
  refine go_aload_n dX8_changes_14 rfl ?_
  refine go_iload_n dX8_changes_15 rfl ?_
  refine go_aload_n dX8_changes_16 rfl ?_
  refine go_iload_n dX8_changes_17 rfl ?_
  refine go_iload_n dX8_changes_18 rfl ?_
  refine go_virt1 dX8_changes_19 (ct_w (m_placeOf l hp (k := 0) (by decide) (s := getL A 0) hn hf0) (by rw [getL_set (by decide)]) (by rw [getL_set (by decide)]) rfl) v_X8_117_7 rfl (mdW_ob hp) rfl (Nat.le_of_ble_eq_true rfl) (Nat.le_of_ble_eq_true rfl) (Nat.le_of_ble_eq_true rfl) ?_
  refine go_aload_n dX8_changes_22 rfl ?_
  refine go_virt1 dX8_changes_23 (m_many l hp) v_X8_95_7 rfl (mdW_ob hp) rfl (Nat.le_of_ble_eq_true rfl) (Nat.le_of_ble_eq_true rfl) (Nat.le_of_ble_eq_true rfl) ?_
  rw [h180]
  refine go_virt0 dX8_changes_26 (ct_w (m_moves l hp (k := 0) (by decide) (s := getL A 0) (hA 0 (by decide)) (i := (fndH (getL A 0).1 n (nI j))) hf0 hn) (by rw [getL_set (by decide)]) rfl rfl) v_X8_124_7 rfl (mdW_ob hp) rfl (Nat.le_of_ble_eq_true rfl) (Nat.le_of_ble_eq_true rfl) (Nat.le_of_ble_eq_true rfl) ?_
  refine go_iinc dX8_changes_29 rfl (Nat.le_of_ble_eq_true rfl) rfl (show _ = _ + 1 from rfl) ?_
  refine go_goto 9 dX8_changes_32 (by decide) ?_
  exact go_sub [(0, .ref p), (1, .int (nI j)), (3, .int (nI 1))] ⟨rfl, rfl, rfl, trivial⟩ (m_chg_1 l hp (A := chgA n (nI j) 0 A) hn ((chgA_n (by decide)).trans h180) (mI_set (by decide) hA (settleK_ok hf0 hn (hA 0 (by decide)))) (fun i a b => by rw [fndH_congr (f := (getL (chgA n (nI j) 0 A) i).1) (g := (getL A i).1) (fun t ht => chgA_ne (by decide) b (by omega) (by omega))]; exact hf i (by omega) b) (by rw [hR, fl4]))
theorem m_changes (l : Launch) {w : MW} {p : Nat} {A P K T : Nat → Int32} {x : XS} (hp : p + 4 < w.1) {n j : Nat} (hn : n ≤ 30) (hj : j < 30) {ky : Int32} (h180 : A 180 = nI n) (hA : mI A) (hf : ∀ i, i < 4 → fndH (getL A i).1 n (nI j) < n) : Ct l (.code yX8_changes cX8_changes 4 none) yX8_changes 6 0 0 [.ref p, .int (nI j), .int ky] (mdW w p A P K T x) (.inl none) (mdW w p (fl4 (chgA n (nI j)) 4 0 (upd A j ky)) P K T x) := by
  refine ct_of (by decide +kernel) (Nat.le_of_ble_eq_true rfl) ?_
  refine go_aload_n dX8_changes_0 rfl ?_
  refine go_getfield dX8_changes_1 f_X8_7_7 (mdW_ob hp) rfl ?_
  refine go_iload_n dX8_changes_4 rfl ?_
  refine go_iload_n dX8_changes_5 rfl ?_
  refine go_iastore (j) dX8_changes_6 (mdW_A hp) rfl (by omega) (by decide) ?_
  refine go_w _ (mdW_uA (upd A j ky)) ?_
  refine go_iconst 0 dX8_changes_7 (by decide) ?_
  refine go_istore_n dX8_changes_8 (Nat.le_of_ble_eq_true rfl) rfl ?_
  exact go_sub [(0, .ref p), (1, .int (nI j)), (3, .int (nI 0))] ⟨rfl, rfl, rfl, trivial⟩ (m_chg_0 l hp (A := upd A j ky) hn (by rw [pk_un (by omega)]; exact h180) (mI_up (by omega) hA) (fun i _ b => by rw [fndH_up (Or.inl (by omega)) b hn]; exact hf i b) rfl)
theorem m_counts (l : Launch) {w : MW} {p : Nat} {A P K T : Nat → Int32} {x : XS} (hp : p + 4 < w.1) : Ct l (.code yX8_counts cX8_counts 1 (some .int)) yX8_counts 0 0 0 [.ref p] (mdW w p A P K T x) (.inl (some (.int (A 181 + A 182 + A 183)))) (mdW w p A P K T x) := by
  refine ct_of (by decide +kernel) (Nat.le_of_ble_eq_true rfl) ?_
  refine go_aload_n dX8_counts_0 rfl ?_
  refine go_getfield dX8_counts_1 f_X8_7_7 (mdW_ob hp) rfl ?_
  refine go_sipush 181 dX8_counts_4 (by decide) ?_
  refine go_iaload (181) dX8_counts_7 (mdW_A hp) rfl (by omega) (by decide) ?_
  refine go_aload_n dX8_counts_8 rfl ?_
  refine go_getfield dX8_counts_9 f_X8_7_7 (mdW_ob hp) rfl ?_
  refine go_sipush 182 dX8_counts_12 (by decide) ?_
  refine go_iaload (182) dX8_counts_15 (mdW_A hp) rfl (by omega) (by decide) ?_
  refine go_iadd dX8_counts_16 ?_
  refine go_aload_n dX8_counts_17 rfl ?_
  refine go_getfield dX8_counts_18 f_X8_7_7 (mdW_ob hp) rfl ?_
  refine go_sipush 183 dX8_counts_21 (by decide) ?_
  refine go_iaload (183) dX8_counts_24 (mdW_A hp) rfl (by omega) (by decide) ?_
  refine go_iadd dX8_counts_25 ?_
  exact go_ireturn dX8_counts_26 rfl rfl
theorem m_hset_4 (l : Launch) {w : MW} {p : Nat} {A P K T : Nat → Int32} {x : XS} (hp : p + 4 < w.1) : ∀ (u h : Nat) (a r : Int32), u + h = 30 → r = hsA A u h a → Go l yX8_handleSet cX8_handleSet 3 (some .int) [] none (mm_Z (mm_eq (.inl (some (.int r))) (mdW w p A P K T x))) 0 0 0 4 [(0, .ref p), (1, .int a), (2, .int (nI h))] [] (mdW w p A P K T x) := by
  intro u
  induction u with
  | zero =>
    intro h a r hu hr
    rw [hr, hsA]
    refine go_iload_n dX8_handleSet_4 rfl ?_
    refine go_bipush 30 dX8_handleSet_5 (by decide) ?_
    refine go_icmp_ge_t 30 dX8_handleSet_7 (by decide) (nI_le (a := 30) (by omega) (by omega)) ?_
    refine go_iload_n dX8_handleSet_30 rfl ?_
    exact go_ireturn dX8_handleSet_31 rfl rfl
  | succ u ih =>
    intro h a r hu hr
    refine go_iload_n dX8_handleSet_4 rfl ?_
    refine go_bipush 30 dX8_handleSet_5 (by decide) ?_
    refine go_icmp_ge_f 30 dX8_handleSet_7 (by decide) (n_nle (a := 30) (by omega) (by decide)) ?_
    refine go_iload_n dX8_handleSet_10 rfl ?_
    refine go_aload_n dX8_handleSet_11 rfl ?_
    refine go_getfield dX8_handleSet_12 f_X8_7_7 (mdW_ob hp) rfl ?_
    refine go_bipush 30 dX8_handleSet_15 (by decide) ?_
    refine go_iload_n dX8_handleSet_17 rfl ?_
    refine go_iadd dX8_handleSet_18 ?_
    refine go_iaload (30 + h) dX8_handleSet_19 (mdW_A hp) (nI_add 30 h) (by omega) (by decide) ?_
    refine go_iload_n dX8_handleSet_20 rfl ?_
    refine go_ishl dX8_handleSet_21 ?_
    refine go_ior dX8_handleSet_22 ?_
    refine go_istore_n dX8_handleSet_23 (Nat.le_of_ble_eq_true rfl) rfl ?_
    refine go_iinc dX8_handleSet_24 rfl (Nat.le_of_ble_eq_true rfl) rfl (show _ = _ + 1 from rfl) ?_
    rw [a_k1]
    refine go_goto 4 dX8_handleSet_27 (by decide) ?_
    exact go_sub [(0, .ref p), (1, .int (a ||| (A (30 + h) <<< (nI h &&& 31)))), (2, .int (nI (h + 1)))] ⟨rfl, rfl, rfl, trivial⟩ (ih (h + 1) _ r (by omega) (by rw [hr, hsA]))
theorem m_handleSet (l : Launch) {w : MW} {p : Nat} {A P K T : Nat → Int32} {x : XS} (hp : p + 4 < w.1) : Ct l (.code yX8_handleSet cX8_handleSet 3 (some .int)) yX8_handleSet 0 0 0 [.ref p] (mdW w p A P K T x) (.inl (some (.int (hsA A 30 0 0)))) (mdW w p A P K T x) := by
  refine ct_of (by decide +kernel) (Nat.le_of_ble_eq_true rfl) ?_
  refine go_iconst 0 dX8_handleSet_0 (by decide) ?_
  refine go_istore_n dX8_handleSet_1 (Nat.le_of_ble_eq_true rfl) rfl ?_
  refine go_iconst 0 dX8_handleSet_2 (by decide) ?_
  refine go_istore_n dX8_handleSet_3 (Nat.le_of_ble_eq_true rfl) rfl ?_
  exact go_sub [(0, .ref p), (1, .int 0), (2, .int (nI 0))] ⟨rfl, rfl, rfl, trivial⟩ (m_hset_4 l hp 30 0 0 _ rfl rfl)
theorem m_rank_4 (l : Launch) {w : MW} {p : Nat} {A P K T : Nat → Int32} {x : XS} (hp : p + 4 < w.1) {y : Int32} (hy : okH y) : ∀ (u h b r : Nat), u + h = 30 → r = rnA A y u h b → Go l yX8_rankOf cX8_rankOf 4 (some .int) [] none (mm_Z (mm_eq (.inl (some (.int (nI r)))) (mdW w p A P K T x))) 2 0 0 4 [(0, .ref p), (1, .int y), (2, .int (nI b)), (3, .int (nI h))] [] (mdW w p A P K T x) := by
  intro u
  induction u with
  | zero =>
    intro h b r hu hr
    rw [hr, rnA]
    refine go_iload_n dX8_rankOf_4 rfl ?_
    refine go_bipush 30 dX8_rankOf_5 (by decide) ?_
    refine go_icmp_ge_t 41 dX8_rankOf_7 (by decide) (nI_le (a := 30) (by omega) (by omega)) ?_
    refine go_iload_n dX8_rankOf_41 rfl ?_
    exact go_ireturn dX8_rankOf_42 rfl rfl
  | succ u ih =>
    intro h b r hu hr
    refine go_iload_n dX8_rankOf_4 rfl ?_
    refine go_bipush 30 dX8_rankOf_5 (by decide) ?_
    refine go_icmp_ge_f 41 dX8_rankOf_7 (by decide) (n_nle (a := 30) (by omega) (by decide)) ?_
    refine go_iload_n dX8_rankOf_10 rfl ?_
    refine go_aload_n dX8_rankOf_11 rfl ?_
    refine go_iload_n dX8_rankOf_12 rfl ?_
    refine go_virt1 dX8_rankOf_13 (m_isItem l hp) v_X8_49_7 rfl (mdW_ob hp) rfl (Nat.le_of_ble_eq_true rfl) (Nat.le_of_ble_eq_true rfl) (Nat.le_of_ble_eq_true rfl) ?_
    refine go_if_eq 32 dX8_rankOf_16 (by decide) (fun q16 => ?_) (fun q16 => ?_)
    · have eN : ¬ (itB A (nI h) = true ∧ ltA A (nI h) y = true) := fun z => bI_ff q16 z.1
      refine go_iconst 0 dX8_rankOf_32 (by decide) ?_
      refine go_iadd dX8_rankOf_33 ?_
      first | rw [Int32.add_zero] | rw [a_k1]
      refine go_istore_n dX8_rankOf_34 (Nat.le_of_ble_eq_true rfl) rfl ?_
      refine go_iinc dX8_rankOf_35 rfl (Nat.le_of_ble_eq_true rfl) rfl (show _ = _ + 1 from rfl) ?_
      rw [a_k1]
      refine go_goto 4 dX8_rankOf_38 (by decide) ?_
      first | exact go_sub [(0, .ref p), (1, .int y), (2, .int (nI b)), (3, .int (nI (h + 1)))] ⟨rfl, rfl, rfl, rfl, trivial⟩ (ih (h + 1) b r (by omega) (by rw [hr, rnA, if_neg eN])) | exact go_sub [(0, .ref p), (1, .int y), (2, .int (nI (b + 1))), (3, .int (nI (h + 1)))] ⟨rfl, rfl, rfl, rfl, trivial⟩ (ih (h + 1) (b + 1) r (by omega) (by rw [hr, rnA, if_pos eY]))
    · refine go_aload_n dX8_rankOf_19 rfl ?_
      refine go_iload_n dX8_rankOf_20 rfl ?_
      refine go_iload_n dX8_rankOf_21 rfl ?_
      refine go_virt1 dX8_rankOf_22 (m_isLess l hp ⟨h, by omega, rfl⟩ hy) v_X8_41_7 rfl (mdW_ob hp) rfl (Nat.le_of_ble_eq_true rfl) (Nat.le_of_ble_eq_true rfl) (Nat.le_of_ble_eq_true rfl) ?_
      refine go_if_eq 32 dX8_rankOf_25 (by decide) (fun q25 => ?_) (fun q25 => ?_)
      · have eN : ¬ (itB A (nI h) = true ∧ ltA A (nI h) y = true) := fun z => bI_ff q25 z.2
        refine go_iconst 0 dX8_rankOf_32 (by decide) ?_
        refine go_iadd dX8_rankOf_33 ?_
        first | rw [Int32.add_zero] | rw [a_k1]
        refine go_istore_n dX8_rankOf_34 (Nat.le_of_ble_eq_true rfl) rfl ?_
        refine go_iinc dX8_rankOf_35 rfl (Nat.le_of_ble_eq_true rfl) rfl (show _ = _ + 1 from rfl) ?_
        rw [a_k1]
        refine go_goto 4 dX8_rankOf_38 (by decide) ?_
        first | exact go_sub [(0, .ref p), (1, .int y), (2, .int (nI b)), (3, .int (nI (h + 1)))] ⟨rfl, rfl, rfl, rfl, trivial⟩ (ih (h + 1) b r (by omega) (by rw [hr, rnA, if_neg eN])) | exact go_sub [(0, .ref p), (1, .int y), (2, .int (nI (b + 1))), (3, .int (nI (h + 1)))] ⟨rfl, rfl, rfl, rfl, trivial⟩ (ih (h + 1) (b + 1) r (by omega) (by rw [hr, rnA, if_pos eY]))
      · have eY : itB A (nI h) = true ∧ ltA A (nI h) y = true := ⟨bI_ne.mp q16, bI_ne.mp q25⟩
        refine go_iconst 1 dX8_rankOf_28 (by decide) ?_
        refine go_goto 33 dX8_rankOf_29 (by decide) ?_
        refine go_iadd dX8_rankOf_33 ?_
        first | rw [Int32.add_zero] | rw [a_k1]
        refine go_istore_n dX8_rankOf_34 (Nat.le_of_ble_eq_true rfl) rfl ?_
        refine go_iinc dX8_rankOf_35 rfl (Nat.le_of_ble_eq_true rfl) rfl (show _ = _ + 1 from rfl) ?_
        rw [a_k1]
        refine go_goto 4 dX8_rankOf_38 (by decide) ?_
        first | exact go_sub [(0, .ref p), (1, .int y), (2, .int (nI b)), (3, .int (nI (h + 1)))] ⟨rfl, rfl, rfl, rfl, trivial⟩ (ih (h + 1) b r (by omega) (by rw [hr, rnA, if_neg eN])) | exact go_sub [(0, .ref p), (1, .int y), (2, .int (nI (b + 1))), (3, .int (nI (h + 1)))] ⟨rfl, rfl, rfl, rfl, trivial⟩ (ih (h + 1) (b + 1) r (by omega) (by rw [hr, rnA, if_pos eY]))
theorem m_rankOf (l : Launch) {w : MW} {p : Nat} {A P K T : Nat → Int32} {x : XS} (hp : p + 4 < w.1) {y : Int32} (hy : okH y) : Ct l (.code yX8_rankOf cX8_rankOf 4 (some .int)) yX8_rankOf 2 0 0 [.ref p, .int y] (mdW w p A P K T x) (.inl (some (.int (nI (rnA A y 30 0 0))))) (mdW w p A P K T x) := by
  refine ct_of (by decide +kernel) (Nat.le_of_ble_eq_true rfl) ?_
  refine go_iconst 0 dX8_rankOf_0 (by decide) ?_
  refine go_istore_n dX8_rankOf_1 (Nat.le_of_ble_eq_true rfl) rfl ?_
  refine go_iconst 0 dX8_rankOf_2 (by decide) ?_
  refine go_istore_n dX8_rankOf_3 (Nat.le_of_ble_eq_true rfl) rfl ?_
  exact go_sub [(0, .ref p), (1, .int y), (2, .int (nI 0)), (3, .int (nI 0))] ⟨rfl, rfl, rfl, rfl, trivial⟩ (m_rank_4 l hp hy 30 0 0 _ rfl rfl)
