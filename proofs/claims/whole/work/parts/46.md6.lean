theorem upd_row {A : Nat → Int32} {k i : Nat} {v : Int32} (hk : k < 4) (hi : i < 30) : upd A (60 + 30 * k + i) v = setL A k (upd (getL A k).1 i v, (getL A k).2) := by
  rw [← setL_uR hk hi, getL_set hk]
theorem ff_congr {f g : Nat → Bool} (u j : Nat) (h : ∀ i, j ≤ i → i < j + u → f i = g i) : ff f u j = ff g u j := by
  induction u generalizing j with
  | zero => rfl
  | succ u ih =>
    rw [ff, ff, h j (Nat.le_refl _) (by omega), ih (j + 1) (fun i h1 h2 => h i (by omega) (by omega))]
theorem fndH_congr {f g : Nat → Int32} {n : Nat} {x : Int32} (h : ∀ i, i < n → f i = g i) : fndH f n x = fndH g n x := ff_congr n 0 (fun i _ h2 => by rw [h i (by omega)])
theorem getL_ne {A : Nat → Int32} {k j i : Nat} {s : QS} (hk : k < 4) (hj : j < 4) (e : j ≠ k) (hi : i < 30) : (getL (setL A k s) j).1 i = (getL A j).1 i := by
  show setL A k s (60 + 30 * j + i) = A (60 + 30 * j + i)
  unfold setL
  rw [if_neg (by omega), if_neg (by omega)]
theorem goA_ne {A : Nat → Int32} {n k i t : Nat} {x : Int32} (hk : k < 4) (hi : i < 4) (e : i ≠ k) (ht : t < 30) : (getL (goA n x k A) i).1 t = (getL A i).1 t := getL_ne hk hi e ht
theorem entA_ne {A : Nat → Int32} {m k i t : Nat} {x : Int32} (hk : k < 4) (hi : i < 4) (e : i ≠ k) (ht : t < 30) : (getL (entA m x k A) i).1 t = (getL A i).1 t := getL_ne hk hi e ht
theorem m_ent_4 (l : Launch) {w : MW} {p : Nat} {A P K T : Nat → Int32} {x : XS} (hp : p + 4 < w.1) {m j : Nat} (hm : m < 30) (hj : j < 30) {q : Int32} {R : Nat → Int32} (hR : R = A) : Go l yX8_enters_ cX8_enters_ 5 none [] none (mm_Z (mm_eq (.inl none) (mdW w p (upd (upd R (30 + j) 1) 180 (nI (m + 1))) P K T x))) 5 0 0 10 [(0, .ref p), (1, .int (nI j)), (2, .int q), (3, .int (nI (m + 1))), (4, .int (nI 4))] [] (mdW w p A P K T x) := by
  subst hR
  refine go_iload dX8_enters__10 rfl ?_
  refine go_iconst 4 dX8_enters__12 (by decide) ?_
  refine go_icmp_ge_t 90 dX8_enters__13 (by decide) (Int32.le_refl _) ?_
  refine go_aload_n dX8_enters__90 rfl ?_
  refine go_getfield dX8_enters__91 f_X8_7_7 (mdW_ob hp) rfl ?_
  refine go_bipush 30 dX8_enters__94 (by decide) ?_
  refine go_iload_n dX8_enters__96 rfl ?_
  refine go_iadd dX8_enters__97 ?_
  refine go_iconst 1 dX8_enters__98 (by decide) ?_
  rw [show (30 : Int32) + nI j = nI (30 + j) from nI_add 30 j]
  refine go_iastore (30 + j) dX8_enters__99 (mdW_A hp) rfl (by omega) (by decide) ?_
  refine go_w _ (mdW_uA (upd R (30 + j) 1)) ?_
  refine go_aload_n dX8_enters__100 rfl ?_
  refine go_getfield dX8_enters__101 f_X8_7_7 (mdW_ob hp) rfl ?_
  refine go_sipush 180 dX8_enters__104 (by decide) ?_
  refine go_iload_n dX8_enters__107 rfl ?_
  refine go_iastore (180) dX8_enters__108 (mdW_A hp) rfl (by omega) (by decide) ?_
  refine go_w _ (mdW_uA (upd (upd R (30 + j) 1) 180 (nI (m + 1)))) ?_
  exact go_return dX8_enters__109 rfl
theorem m_ent_3 (l : Launch) {w : MW} {p : Nat} {A P K T : Nat → Int32} {x : XS} (hp : p + 4 < w.1) {m j : Nat} (hm : m < 30) (hj : j < 30) {q : Int32} {R : Nat → Int32} (hA : mI A) (hR : R = fldA (entA m (nI j)) q 1 3 A) : Go l yX8_enters_ cX8_enters_ 5 none [] none (mm_Z (mm_eq (.inl none) (mdW w p (upd (upd R (30 + j) 1) 180 (nI (m + 1))) P K T x))) 5 0 0 10 [(0, .ref p), (1, .int (nI j)), (2, .int q), (3, .int (nI (m + 1))), (4, .int (nI 3))] [] (mdW w p A P K T x) := by
  refine go_iload dX8_enters__10 rfl ?_
  refine go_iconst 4 dX8_enters__12 (by decide) ?_
  refine go_icmp_ge_f 90 dX8_enters__13 (by decide) (by decide) ?_
  refine go_iload_n dX8_enters__16 rfl ?_
  refine go_iload dX8_enters__17 rfl ?_
  refine go_iconst 2 dX8_enters__19 (by decide) ?_
  refine go_icmp_ge_t 28 dX8_enters__20 (by decide) (by decide) ?_
  refine go_iconst 2 dX8_enters__28 (by decide) ?_
  refine go_ishr dX8_enters__29 ?_
  refine go_iconst 2 dX8_enters__30 (by decide) ?_
  refine go_irem dX8_enters__31 (by decide) ?_
  refine go_iconst 1 dX8_enters__32 (by decide) ?_
  refine go_icmp_ne 84 dX8_enters__33 (by decide) (fun q33 => ?_) (fun q33 => ?_)
  · have N1 := trivial
    refine go_iinc dX8_enters__84 rfl (Nat.le_of_ble_eq_true rfl) rfl (show _ = _ + 1 from rfl) ?_
    refine go_goto 10 dX8_enters__87 (by decide) ?_
    exact go_sub [(0, .ref p), (1, .int (nI j)), (2, .int q), (3, .int (nI (m + 1))), (4, .int (nI 4))] ⟨rfl, rfl, rfl, rfl, rfl, trivial⟩ (m_ent_4 l hp hm hj (by rw [hR, fldA, if_neg (show ¬ mskB q 3 = true from fun z => q33 (of_decide_eq_true z))]; rfl))
  · have N2 := trivial
    refine go_aload_n dX8_enters__36 rfl ?_
    refine go_iload dX8_enters__37 rfl ?_
    refine go_iload_n dX8_enters__39 rfl ?_
    refine go_iconst 1 dX8_enters__40 (by decide) ?_
    refine go_isub dX8_enters__41 ?_
    rw [nI_pred]
    refine go_iload_n dX8_enters__42 rfl ?_
    refine go_virt0 dX8_enters__43 (m_lays l hp (k := 3) (by decide) hm) v_X8_45_7 rfl (mdW_ob hp) rfl (Nat.le_of_ble_eq_true rfl) (Nat.le_of_ble_eq_true rfl) (Nat.le_of_ble_eq_true rfl) ?_
    rw [upd_row (by decide) hm]
    refine go_iload dX8_enters__46 rfl ?_
    refine go_if_ne_t 59 dX8_enters__48 (by decide) (by decide) ?_
    refine go_iload dX8_enters__59 rfl ?_
    refine go_iconst 1 dX8_enters__61 (by decide) ?_
    refine go_icmp_ne_t 75 dX8_enters__62 (by decide) (by decide) ?_
    refine go_aload_n dX8_enters__75 rfl ?_
    refine go_iload dX8_enters__76 rfl ?_
    refine go_iload_n dX8_enters__78 rfl ?_
    refine go_iconst 1 dX8_enters__79 (by decide) ?_
    refine go_isub dX8_enters__80 ?_
    rw [nI_pred]
    refine go_virt0 dX8_enters__81 (m_up l hp (k := 3) (by decide) (s := (upd (getL A 3).1 m (nI j), (getL A 3).2)) (rowOK_upd (hA 3 (by decide)) ⟨j, hj, rfl⟩) hm) v_X8_105_7 rfl (mdW_ob hp) rfl (Nat.le_of_ble_eq_true rfl) (Nat.le_of_ble_eq_true rfl) (Nat.le_of_ble_eq_true rfl) ?_
    refine go_iinc dX8_enters__84 rfl (Nat.le_of_ble_eq_true rfl) rfl (show _ = _ + 1 from rfl) ?_
    refine go_goto 10 dX8_enters__87 (by decide) ?_
    rw [← enterJ_3]
    exact go_sub [(0, .ref p), (1, .int (nI j)), (2, .int q), (3, .int (nI (m + 1))), (4, .int (nI 4))] ⟨rfl, rfl, rfl, rfl, rfl, trivial⟩ (m_ent_4 l hp (A := entA m (nI j) 3 A) hm hj (by rw [hR, fldA, if_pos (show mskB q 3 = true from decide_eq_true q33)]; rfl))
theorem m_ent_2 (l : Launch) {w : MW} {p : Nat} {A P K T : Nat → Int32} {x : XS} (hp : p + 4 < w.1) {m j : Nat} (hm : m < 30) (hj : j < 30) {q : Int32} {R : Nat → Int32} (hA : mI A) (hR : R = fldA (entA m (nI j)) q 2 2 A) : Go l yX8_enters_ cX8_enters_ 5 none [] none (mm_Z (mm_eq (.inl none) (mdW w p (upd (upd R (30 + j) 1) 180 (nI (m + 1))) P K T x))) 5 0 0 10 [(0, .ref p), (1, .int (nI j)), (2, .int q), (3, .int (nI (m + 1))), (4, .int (nI 2))] [] (mdW w p A P K T x) := by
  refine go_iload dX8_enters__10 rfl ?_
  refine go_iconst 4 dX8_enters__12 (by decide) ?_
  refine go_icmp_ge_f 90 dX8_enters__13 (by decide) (by decide) ?_
  refine go_iload_n dX8_enters__16 rfl ?_
  refine go_iload dX8_enters__17 rfl ?_
  refine go_iconst 2 dX8_enters__19 (by decide) ?_
  refine go_icmp_ge_t 28 dX8_enters__20 (by decide) (by decide) ?_
  refine go_iconst 2 dX8_enters__28 (by decide) ?_
  refine go_ishr dX8_enters__29 ?_
  refine go_iconst 2 dX8_enters__30 (by decide) ?_
  refine go_irem dX8_enters__31 (by decide) ?_
  refine go_iconst 1 dX8_enters__32 (by decide) ?_
  refine go_icmp_ne 84 dX8_enters__33 (by decide) (fun q33 => ?_) (fun q33 => ?_)
  · have N1 := trivial
    refine go_iinc dX8_enters__84 rfl (Nat.le_of_ble_eq_true rfl) rfl (show _ = _ + 1 from rfl) ?_
    refine go_goto 10 dX8_enters__87 (by decide) ?_
    exact go_sub [(0, .ref p), (1, .int (nI j)), (2, .int q), (3, .int (nI (m + 1))), (4, .int (nI 3))] ⟨rfl, rfl, rfl, rfl, rfl, trivial⟩ (m_ent_3 l hp hm hj hA (by rw [hR, fldA, if_neg (show ¬ mskB q 2 = true from fun z => q33 (of_decide_eq_true z))]))
  · have N2 := trivial
    refine go_aload_n dX8_enters__36 rfl ?_
    refine go_iload dX8_enters__37 rfl ?_
    refine go_iload_n dX8_enters__39 rfl ?_
    refine go_iconst 1 dX8_enters__40 (by decide) ?_
    refine go_isub dX8_enters__41 ?_
    rw [nI_pred]
    refine go_iload_n dX8_enters__42 rfl ?_
    refine go_virt0 dX8_enters__43 (m_lays l hp (k := 2) (by decide) hm) v_X8_45_7 rfl (mdW_ob hp) rfl (Nat.le_of_ble_eq_true rfl) (Nat.le_of_ble_eq_true rfl) (Nat.le_of_ble_eq_true rfl) ?_
    rw [upd_row (by decide) hm]
    refine go_iload dX8_enters__46 rfl ?_
    refine go_if_ne_t 59 dX8_enters__48 (by decide) (by decide) ?_
    refine go_iload dX8_enters__59 rfl ?_
    refine go_iconst 1 dX8_enters__61 (by decide) ?_
    refine go_icmp_ne_t 75 dX8_enters__62 (by decide) (by decide) ?_
    refine go_aload_n dX8_enters__75 rfl ?_
    refine go_iload dX8_enters__76 rfl ?_
    refine go_iload_n dX8_enters__78 rfl ?_
    refine go_iconst 1 dX8_enters__79 (by decide) ?_
    refine go_isub dX8_enters__80 ?_
    rw [nI_pred]
    refine go_virt0 dX8_enters__81 (m_up l hp (k := 2) (by decide) (s := (upd (getL A 2).1 m (nI j), (getL A 2).2)) (rowOK_upd (hA 2 (by decide)) ⟨j, hj, rfl⟩) hm) v_X8_105_7 rfl (mdW_ob hp) rfl (Nat.le_of_ble_eq_true rfl) (Nat.le_of_ble_eq_true rfl) (Nat.le_of_ble_eq_true rfl) ?_
    refine go_iinc dX8_enters__84 rfl (Nat.le_of_ble_eq_true rfl) rfl (show _ = _ + 1 from rfl) ?_
    refine go_goto 10 dX8_enters__87 (by decide) ?_
    rw [← enterJ_2]
    exact go_sub [(0, .ref p), (1, .int (nI j)), (2, .int q), (3, .int (nI (m + 1))), (4, .int (nI 3))] ⟨rfl, rfl, rfl, rfl, rfl, trivial⟩ (m_ent_3 l hp (A := entA m (nI j) 2 A) hm hj (mI_entA (by decide) hm ⟨j, hj, rfl⟩ hA) (by rw [hR, fldA, if_pos (show mskB q 2 = true from decide_eq_true q33)]))
theorem m_ent_1 (l : Launch) {w : MW} {p : Nat} {A P K T : Nat → Int32} {x : XS} (hp : p + 4 < w.1) {m j : Nat} (hm : m < 30) (hj : j < 30) {q : Int32} {R : Nat → Int32} (hA : mI A) (hR : R = fldA (entA m (nI j)) q 3 1 A) : Go l yX8_enters_ cX8_enters_ 5 none [] none (mm_Z (mm_eq (.inl none) (mdW w p (upd (upd R (30 + j) 1) 180 (nI (m + 1))) P K T x))) 5 0 0 10 [(0, .ref p), (1, .int (nI j)), (2, .int q), (3, .int (nI (m + 1))), (4, .int (nI 1))] [] (mdW w p A P K T x) := by
  refine go_iload dX8_enters__10 rfl ?_
  refine go_iconst 4 dX8_enters__12 (by decide) ?_
  refine go_icmp_ge_f 90 dX8_enters__13 (by decide) (by decide) ?_
  refine go_iload_n dX8_enters__16 rfl ?_
  refine go_iload dX8_enters__17 rfl ?_
  refine go_iconst 2 dX8_enters__19 (by decide) ?_
  refine go_icmp_ge_f 28 dX8_enters__20 (by decide) (by decide) ?_
  refine go_iload dX8_enters__23 rfl ?_
  refine go_goto 29 dX8_enters__25 (by decide) ?_
  refine go_ishr dX8_enters__29 ?_
  refine go_iconst 2 dX8_enters__30 (by decide) ?_
  refine go_irem dX8_enters__31 (by decide) ?_
  refine go_iconst 1 dX8_enters__32 (by decide) ?_
  refine go_icmp_ne 84 dX8_enters__33 (by decide) (fun q33 => ?_) (fun q33 => ?_)
  · have N1 := trivial
    refine go_iinc dX8_enters__84 rfl (Nat.le_of_ble_eq_true rfl) rfl (show _ = _ + 1 from rfl) ?_
    refine go_goto 10 dX8_enters__87 (by decide) ?_
    exact go_sub [(0, .ref p), (1, .int (nI j)), (2, .int q), (3, .int (nI (m + 1))), (4, .int (nI 2))] ⟨rfl, rfl, rfl, rfl, rfl, trivial⟩ (m_ent_2 l hp hm hj hA (by rw [hR, fldA, if_neg (show ¬ mskB q 1 = true from fun z => q33 (of_decide_eq_true z))]))
  · have N2 := trivial
    refine go_aload_n dX8_enters__36 rfl ?_
    refine go_iload dX8_enters__37 rfl ?_
    refine go_iload_n dX8_enters__39 rfl ?_
    refine go_iconst 1 dX8_enters__40 (by decide) ?_
    refine go_isub dX8_enters__41 ?_
    rw [nI_pred]
    refine go_iload_n dX8_enters__42 rfl ?_
    refine go_virt0 dX8_enters__43 (m_lays l hp (k := 1) (by decide) hm) v_X8_45_7 rfl (mdW_ob hp) rfl (Nat.le_of_ble_eq_true rfl) (Nat.le_of_ble_eq_true rfl) (Nat.le_of_ble_eq_true rfl) ?_
    rw [upd_row (by decide) hm]
    refine go_iload dX8_enters__46 rfl ?_
    refine go_if_ne_t 59 dX8_enters__48 (by decide) (by decide) ?_
    refine go_iload dX8_enters__59 rfl ?_
    refine go_iconst 1 dX8_enters__61 (by decide) ?_
    refine go_icmp_ne_f 75 dX8_enters__62 (by decide) (rfl) ?_
    refine go_aload_n dX8_enters__65 rfl ?_
    refine go_iload_n dX8_enters__66 rfl ?_
    refine go_iconst 1 dX8_enters__67 (by decide) ?_
    refine go_isub dX8_enters__68 ?_
    rw [nI_pred]
    refine go_virt0 dX8_enters__69 (m_enters1 l hp (s := (upd (getL A 1).1 m (nI j), (getL A 1).2)) (rowOK_upd (hA 1 (by decide)) ⟨j, hj, rfl⟩) hm) v_X8_102_7 rfl (mdW_ob hp) rfl (Nat.le_of_ble_eq_true rfl) (Nat.le_of_ble_eq_true rfl) (Nat.le_of_ble_eq_true rfl) ?_
    refine go_goto 84 dX8_enters__72 (by decide) ?_
    refine go_iinc dX8_enters__84 rfl (Nat.le_of_ble_eq_true rfl) rfl (show _ = _ + 1 from rfl) ?_
    refine go_goto 10 dX8_enters__87 (by decide) ?_
    rw [← enterJ_1]
    exact go_sub [(0, .ref p), (1, .int (nI j)), (2, .int q), (3, .int (nI (m + 1))), (4, .int (nI 2))] ⟨rfl, rfl, rfl, rfl, rfl, trivial⟩ (m_ent_2 l hp (A := entA m (nI j) 1 A) hm hj (mI_entA (by decide) hm ⟨j, hj, rfl⟩ hA) (by rw [hR, fldA, if_pos (show mskB q 1 = true from decide_eq_true q33)]))
theorem m_ent_0 (l : Launch) {w : MW} {p : Nat} {A P K T : Nat → Int32} {x : XS} (hp : p + 4 < w.1) {m j : Nat} (hm : m < 30) (hj : j < 30) {q : Int32} {R : Nat → Int32} (hA : mI A) (hR : R = fldA (entA m (nI j)) q 4 0 A) : Go l yX8_enters_ cX8_enters_ 5 none [] none (mm_Z (mm_eq (.inl none) (mdW w p (upd (upd R (30 + j) 1) 180 (nI (m + 1))) P K T x))) 5 0 0 10 [(0, .ref p), (1, .int (nI j)), (2, .int q), (3, .int (nI (m + 1))), (4, .int (nI 0))] [] (mdW w p A P K T x) := by
  refine go_iload dX8_enters__10 rfl ?_
  refine go_iconst 4 dX8_enters__12 (by decide) ?_
  refine go_icmp_ge_f 90 dX8_enters__13 (by decide) (by decide) ?_
  refine go_iload_n dX8_enters__16 rfl ?_
  refine go_iload dX8_enters__17 rfl ?_
  refine go_iconst 2 dX8_enters__19 (by decide) ?_
  refine go_icmp_ge_f 28 dX8_enters__20 (by decide) (by decide) ?_
  refine go_iload dX8_enters__23 rfl ?_
  refine go_goto 29 dX8_enters__25 (by decide) ?_
  refine go_ishr dX8_enters__29 ?_
  refine go_iconst 2 dX8_enters__30 (by decide) ?_
  refine go_irem dX8_enters__31 (by decide) ?_
  refine go_iconst 1 dX8_enters__32 (by decide) ?_
  refine go_icmp_ne 84 dX8_enters__33 (by decide) (fun q33 => ?_) (fun q33 => ?_)
  · have N1 := trivial
    refine go_iinc dX8_enters__84 rfl (Nat.le_of_ble_eq_true rfl) rfl (show _ = _ + 1 from rfl) ?_
    refine go_goto 10 dX8_enters__87 (by decide) ?_
    exact go_sub [(0, .ref p), (1, .int (nI j)), (2, .int q), (3, .int (nI (m + 1))), (4, .int (nI 1))] ⟨rfl, rfl, rfl, rfl, rfl, trivial⟩ (m_ent_1 l hp hm hj hA (by rw [hR, fldA, if_neg (show ¬ mskB q 0 = true from fun z => q33 (of_decide_eq_true z))]))
  · have N2 := trivial
    refine go_aload_n dX8_enters__36 rfl ?_
    refine go_iload dX8_enters__37 rfl ?_
    refine go_iload_n dX8_enters__39 rfl ?_
    refine go_iconst 1 dX8_enters__40 (by decide) ?_
    refine go_isub dX8_enters__41 ?_
    rw [nI_pred]
    refine go_iload_n dX8_enters__42 rfl ?_
    refine go_virt0 dX8_enters__43 (m_lays l hp (k := 0) (by decide) hm) v_X8_45_7 rfl (mdW_ob hp) rfl (Nat.le_of_ble_eq_true rfl) (Nat.le_of_ble_eq_true rfl) (Nat.le_of_ble_eq_true rfl) ?_
    rw [upd_row (by decide) hm]
    refine go_iload dX8_enters__46 rfl ?_
    refine go_if_ne_f 59 dX8_enters__48 (by decide) (rfl) ?_
    refine go_aload_n dX8_enters__51 rfl ?_
    refine go_iload_n dX8_enters__52 rfl ?_
    refine go_virt0 dX8_enters__53 (m_comesFirst l hp (s := (upd (getL A 0).1 m (nI j), (getL A 0).2)) (rowOK_upd (hA 0 (by decide)) ⟨j, hj, rfl⟩) hm) v_X8_99_7 rfl (mdW_ob hp) rfl (Nat.le_of_ble_eq_true rfl) (Nat.le_of_ble_eq_true rfl) (Nat.le_of_ble_eq_true rfl) ?_
    refine go_goto 84 dX8_enters__56 (by decide) ?_
    refine go_iinc dX8_enters__84 rfl (Nat.le_of_ble_eq_true rfl) rfl (show _ = _ + 1 from rfl) ?_
    refine go_goto 10 dX8_enters__87 (by decide) ?_
    rw [← enterJ_0]
    exact go_sub [(0, .ref p), (1, .int (nI j)), (2, .int q), (3, .int (nI (m + 1))), (4, .int (nI 1))] ⟨rfl, rfl, rfl, rfl, rfl, trivial⟩ (m_ent_1 l hp (A := entA m (nI j) 0 A) hm hj (mI_entA (by decide) hm ⟨j, hj, rfl⟩ hA) (by rw [hR, fldA, if_pos (show mskB q 0 = true from decide_eq_true q33)]))
theorem m_enters (l : Launch) {w : MW} {p : Nat} {A P K T : Nat → Int32} {x : XS} (hp : p + 4 < w.1) {m j : Nat} (hm : m < 30) (hj : j < 30) {q : Int32} (hA : mI A) (hn : A 180 = nI m) : Ct l (.code yX8_enters_ cX8_enters_ 5 none) yX8_enters_ 5 0 0 [.ref p, .int (nI j), .int q] (mdW w p A P K T x) (.inl none) (mdW w p (upd (upd (fldA (entA m (nI j)) q 4 0 A) (30 + j) 1) 180 (nI (m + 1))) P K T x) := by
  refine ct_of (by decide +kernel) (Nat.le_of_ble_eq_true rfl) ?_
  refine go_aload_n dX8_enters__0 rfl ?_
  refine go_virt1 dX8_enters__1 (m_many l hp) v_X8_95_7 rfl (mdW_ob hp) rfl (Nat.le_of_ble_eq_true rfl) (Nat.le_of_ble_eq_true rfl) (Nat.le_of_ble_eq_true rfl) ?_
  refine go_iconst 1 dX8_enters__4 (by decide) ?_
  refine go_iadd dX8_enters__5 ?_
  rw [hn, a_k1]
  refine go_istore_n dX8_enters__6 (Nat.le_of_ble_eq_true rfl) rfl ?_
  refine go_iconst 0 dX8_enters__7 (by decide) ?_
  refine go_istore dX8_enters__8 (Nat.le_of_ble_eq_true rfl) rfl ?_
  exact go_sub [(0, .ref p), (1, .int (nI j)), (2, .int q), (3, .int (nI (m + 1))), (4, .int (nI 0))] ⟨rfl, rfl, rfl, rfl, rfl, trivial⟩ (m_ent_0 l hp hm hj hA rfl)
theorem m_goes_4 (l : Launch) {w : MW} {p : Nat} {A P K T : Nat → Int32} {x : XS} (hp : p + 4 < w.1) {n j : Nat} (h1 : 1 ≤ n) (hn : n ≤ 30) (hj : j < 30) {q : Int32} {R : Nat → Int32} (h180 : A 180 = nI n) (hR : R = A) : Go l yX8_goes cX8_goes 6 none [] none (mm_Z (mm_eq (.inl none) (mdW w p (upd (upd (upd R (30 + j) 0) j 0) 180 (nI (n - 1))) P K T x))) 6 0 0 2 [(0, .ref p), (1, .int (nI j)), (2, .int q), (3, .int (nI 4))] [] (mdW w p A P K T x) := by
  subst hR
  have e1 : upd (upd R (30 + j) 0) j 0 180 = nI n := by
    simp only [upd]
    rw [if_neg (by omega), if_neg (by omega)]
    exact h180
  refine go_iload_n dX8_goes_2 rfl ?_
  refine go_iconst 4 dX8_goes_3 (by decide) ?_
  refine go_icmp_ge_t 68 dX8_goes_4 (by decide) (Int32.le_refl _) ?_
  refine go_aload_n dX8_goes_68 rfl ?_
  refine go_getfield dX8_goes_69 f_X8_7_7 (mdW_ob hp) rfl ?_
  refine go_bipush 30 dX8_goes_72 (by decide) ?_
  refine go_iload_n dX8_goes_74 rfl ?_
  refine go_iadd dX8_goes_75 ?_
  refine go_iconst 0 dX8_goes_76 (by decide) ?_
  rw [show (30 : Int32) + nI j = nI (30 + j) from nI_add 30 j]
  refine go_iastore (30 + j) dX8_goes_77 (mdW_A hp) rfl (by omega) (by decide) ?_
  refine go_w _ (mdW_uA (upd R (30 + j) 0)) ?_
  refine go_aload_n dX8_goes_78 rfl ?_
  refine go_getfield dX8_goes_79 f_X8_7_7 (mdW_ob hp) rfl ?_
  refine go_iload_n dX8_goes_82 rfl ?_
  refine go_iconst 0 dX8_goes_83 (by decide) ?_
  refine go_iastore (j) dX8_goes_84 (mdW_A hp) rfl (by omega) (by decide) ?_
  refine go_w _ (mdW_uA (upd (upd R (30 + j) 0) j 0)) ?_
  refine go_aload_n dX8_goes_85 rfl ?_
  refine go_getfield dX8_goes_86 f_X8_7_7 (mdW_ob hp) rfl ?_
  refine go_sipush 180 dX8_goes_89 (by decide) ?_
  refine go_dup2 dX8_goes_92 rfl rfl ?_
  refine go_iaload (180) dX8_goes_93 (mdW_A hp) rfl (by omega) (by decide) ?_
  rw [e1]
  refine go_iconst 1 dX8_goes_94 (by decide) ?_
  refine go_isub dX8_goes_95 ?_
  rw [a_pred h1]
  refine go_iastore (180) dX8_goes_96 (mdW_A hp) rfl (by omega) (by decide) ?_
  refine go_w _ (mdW_uA (upd (upd (upd R (30 + j) 0) j 0) 180 (nI (n - 1)))) ?_
  exact go_return dX8_goes_97 rfl
theorem m_goes_3 (l : Launch) {w : MW} {p : Nat} {A P K T : Nat → Int32} {x : XS} (hp : p + 4 < w.1) {n j : Nat} (h1 : 1 ≤ n) (hn : n ≤ 30) (hj : j < 30) {q : Int32} {R : Nat → Int32} (h180 : A 180 = nI n) (hA : mI A) (hf : ∀ i, 3 ≤ i → i < 4 → mskB q i = true → fndH (getL A i).1 n (nI j) < n) (hR : R = fldA (goA n (nI j)) q 1 3 A) : Go l yX8_goes cX8_goes 6 none [] none (mm_Z (mm_eq (.inl none) (mdW w p (upd (upd (upd R (30 + j) 0) j 0) 180 (nI (n - 1))) P K T x))) 6 0 0 2 [(0, .ref p), (1, .int (nI j)), (2, .int q), (3, .int (nI 3))] [] (mdW w p A P K T x) := by
  refine go_iload_n dX8_goes_2 rfl ?_
  refine go_iconst 4 dX8_goes_3 (by decide) ?_
  refine go_icmp_ge_f 68 dX8_goes_4 (by decide) (by decide) ?_
  refine go_iload_n dX8_goes_7 rfl ?_
  refine go_iload_n dX8_goes_8 rfl ?_
  refine go_iconst 2 dX8_goes_9 (by decide) ?_
  refine go_icmp_ge_t 17 dX8_goes_10 (by decide) (by decide) ?_
  refine go_iconst 2 dX8_goes_17 (by decide) ?_
  refine go_ishr dX8_goes_18 ?_
  refine go_iconst 2 dX8_goes_19 (by decide) ?_
  refine go_irem dX8_goes_20 (by decide) ?_
  refine go_iconst 1 dX8_goes_21 (by decide) ?_
  refine go_icmp_ne 62 dX8_goes_22 (by decide) (fun q22 => ?_) (fun q22 => ?_)
  · have N1 := trivial
    refine go_iinc dX8_goes_62 rfl (Nat.le_of_ble_eq_true rfl) rfl (show _ = _ + 1 from rfl) ?_
    refine go_goto 2 dX8_goes_65 (by decide) ?_
    exact go_sub [(0, .ref p), (1, .int (nI j)), (2, .int q), (3, .int (nI 4))] ⟨rfl, rfl, rfl, rfl, trivial⟩ (m_goes_4 l hp h1 hn hj h180 (by rw [hR, fldA, if_neg (show ¬ mskB q 3 = true from fun z => q22 (of_decide_eq_true z))]; rfl))
  · have N2 := trivial
    have mk : mskB q 3 = true := decide_eq_true q22
    have hf0 := hf 3 (Nat.le_refl _) (by decide) mk
    have hr1 : rowOK (upd (upd (getL A 3).1 (fndH (getL A 3).1 n (nI j)) ((getL A 3).1 (n - 1))) (n - 1) 0, (getL A 3).2).1 := rowOK_upd (rowOK_upd (hA 3 (by decide)) (hA 3 (by decide) _ (by omega))) okH_0
    refine go_aload_n dX8_goes_25 rfl ?_
    refine go_iload_n dX8_goes_26 rfl ?_
    refine go_iload_n dX8_goes_27 rfl ?_
    refine go_virt1 dX8_goes_28 (ct_w (m_placeOf l hp (k := 3) (by decide) (s := getL A 3) hn hf0) (by rw [getL_set (by decide)]) (by rw [getL_set (by decide)]) rfl) v_X8_117_7 rfl (mdW_ob hp) rfl (Nat.le_of_ble_eq_true rfl) (Nat.le_of_ble_eq_true rfl) (Nat.le_of_ble_eq_true rfl) ?_
    refine go_istore dX8_goes_31 (Nat.le_of_ble_eq_true rfl) rfl ?_
    refine go_aload_n dX8_goes_33 rfl ?_
    refine go_iload_n dX8_goes_34 rfl ?_
    refine go_iload dX8_goes_35 rfl ?_
    refine go_aload_n dX8_goes_37 rfl ?_
    refine go_virt1 dX8_goes_38 (m_many l hp) v_X8_95_7 rfl (mdW_ob hp) rfl (Nat.le_of_ble_eq_true rfl) (Nat.le_of_ble_eq_true rfl) (Nat.le_of_ble_eq_true rfl) ?_
    rw [h180]
    refine go_virt1 dX8_goes_41 (ct_w (m_closes l hp (k := 3) (by decide) (s := getL A 3) (i := (fndH (getL A 3).1 n (nI j))) (by omega) h1 hn) (by rw [getL_set (by decide)]) rfl rfl) v_X8_120_7 rfl (mdW_ob hp) rfl (Nat.le_of_ble_eq_true rfl) (Nat.le_of_ble_eq_true rfl) (Nat.le_of_ble_eq_true rfl) ?_
    refine go_istore dX8_goes_44 (Nat.le_of_ble_eq_true rfl) rfl ?_
    refine go_iload dX8_goes_46 rfl ?_
    refine go_iload dX8_goes_48 rfl ?_
    refine go_icmp_ge 62 dX8_goes_50 (by decide) (fun q50 => ?_) (fun q50 => ?_)
    · have z : ¬ (fndH (getL A 3).1 n (nI j)) < n - 1 := by have := n_le' q50 (by omega) (by omega); omega
      have eG : goA n (nI j) 3 A = setL A 3 (upd (upd (getL A 3).1 (fndH (getL A 3).1 n (nI j)) ((getL A 3).1 (n - 1))) (n - 1) 0, (getL A 3).2) := by unfold goA goS; rw [if_neg z]
      rw [← eG]
      refine go_iinc dX8_goes_62 rfl (Nat.le_of_ble_eq_true rfl) rfl (show _ = _ + 1 from rfl) ?_
      refine go_goto 2 dX8_goes_65 (by decide) ?_
      exact go_sub [(0, .ref p), (1, .int (nI j)), (2, .int q), (3, .int (nI 4))] ⟨rfl, rfl, rfl, rfl, trivial⟩ (m_goes_4 l hp (A := goA n (nI j) 3 A) h1 hn hj ((goA_n (by decide)).trans h180) (by rw [hR, fldA, if_pos mk]; rfl))
    · have z : (fndH (getL A 3).1 n (nI j)) < n - 1 := n_lt' q50 (by omega)
      have eG : goA n (nI j) 3 A = setL A 3 (settleK (ltA A) 3 (n - 1) (fndH (getL A 3).1 n (nI j)) (upd (upd (getL A 3).1 (fndH (getL A 3).1 n (nI j)) ((getL A 3).1 (n - 1))) (n - 1) 0, (getL A 3).2)) := by unfold goA goS; rw [if_pos z]
      refine go_aload_n dX8_goes_53 rfl ?_
      refine go_iload_n dX8_goes_54 rfl ?_
      refine go_iload dX8_goes_55 rfl ?_
      refine go_iload dX8_goes_57 rfl ?_
      refine go_virt0 dX8_goes_59 (m_moves l hp (k := 3) (by decide) (s := (upd (upd (getL A 3).1 (fndH (getL A 3).1 n (nI j)) ((getL A 3).1 (n - 1))) (n - 1) 0, (getL A 3).2)) hr1 (i := (fndH (getL A 3).1 n (nI j))) (n := n - 1) z (by omega)) v_X8_124_7 rfl (mdW_ob hp) rfl (Nat.le_of_ble_eq_true rfl) (Nat.le_of_ble_eq_true rfl) (Nat.le_of_ble_eq_true rfl) ?_
      rw [← eG]
      refine go_iinc dX8_goes_62 rfl (Nat.le_of_ble_eq_true rfl) rfl (show _ = _ + 1 from rfl) ?_
      refine go_goto 2 dX8_goes_65 (by decide) ?_
      exact go_sub [(0, .ref p), (1, .int (nI j)), (2, .int q), (3, .int (nI 4))] ⟨rfl, rfl, rfl, rfl, trivial⟩ (m_goes_4 l hp (A := goA n (nI j) 3 A) h1 hn hj ((goA_n (by decide)).trans h180) (by rw [hR, fldA, if_pos mk]; rfl))
theorem m_goes_2 (l : Launch) {w : MW} {p : Nat} {A P K T : Nat → Int32} {x : XS} (hp : p + 4 < w.1) {n j : Nat} (h1 : 1 ≤ n) (hn : n ≤ 30) (hj : j < 30) {q : Int32} {R : Nat → Int32} (h180 : A 180 = nI n) (hA : mI A) (hf : ∀ i, 2 ≤ i → i < 4 → mskB q i = true → fndH (getL A i).1 n (nI j) < n) (hR : R = fldA (goA n (nI j)) q 2 2 A) : Go l yX8_goes cX8_goes 6 none [] none (mm_Z (mm_eq (.inl none) (mdW w p (upd (upd (upd R (30 + j) 0) j 0) 180 (nI (n - 1))) P K T x))) 6 0 0 2 [(0, .ref p), (1, .int (nI j)), (2, .int q), (3, .int (nI 2))] [] (mdW w p A P K T x) := by
  refine go_iload_n dX8_goes_2 rfl ?_
  refine go_iconst 4 dX8_goes_3 (by decide) ?_
  refine go_icmp_ge_f 68 dX8_goes_4 (by decide) (by decide) ?_
  refine go_iload_n dX8_goes_7 rfl ?_
  refine go_iload_n dX8_goes_8 rfl ?_
  refine go_iconst 2 dX8_goes_9 (by decide) ?_
  refine go_icmp_ge_t 17 dX8_goes_10 (by decide) (by decide) ?_
  refine go_iconst 2 dX8_goes_17 (by decide) ?_
  refine go_ishr dX8_goes_18 ?_
  refine go_iconst 2 dX8_goes_19 (by decide) ?_
  refine go_irem dX8_goes_20 (by decide) ?_
  refine go_iconst 1 dX8_goes_21 (by decide) ?_
  refine go_icmp_ne 62 dX8_goes_22 (by decide) (fun q22 => ?_) (fun q22 => ?_)
  · have N1 := trivial
    refine go_iinc dX8_goes_62 rfl (Nat.le_of_ble_eq_true rfl) rfl (show _ = _ + 1 from rfl) ?_
    refine go_goto 2 dX8_goes_65 (by decide) ?_
    exact go_sub [(0, .ref p), (1, .int (nI j)), (2, .int q), (3, .int (nI 3))] ⟨rfl, rfl, rfl, rfl, trivial⟩ (m_goes_3 l hp h1 hn hj h180 hA (fun i a b c => hf i (by omega) b c) (by rw [hR, fldA, if_neg (show ¬ mskB q 2 = true from fun z => q22 (of_decide_eq_true z))]))
  · have N2 := trivial
    have mk : mskB q 2 = true := decide_eq_true q22
    have hf0 := hf 2 (Nat.le_refl _) (by decide) mk
    have hr1 : rowOK (upd (upd (getL A 2).1 (fndH (getL A 2).1 n (nI j)) ((getL A 2).1 (n - 1))) (n - 1) 0, (getL A 2).2).1 := rowOK_upd (rowOK_upd (hA 2 (by decide)) (hA 2 (by decide) _ (by omega))) okH_0
    refine go_aload_n dX8_goes_25 rfl ?_
    refine go_iload_n dX8_goes_26 rfl ?_
    refine go_iload_n dX8_goes_27 rfl ?_
    refine go_virt1 dX8_goes_28 (ct_w (m_placeOf l hp (k := 2) (by decide) (s := getL A 2) hn hf0) (by rw [getL_set (by decide)]) (by rw [getL_set (by decide)]) rfl) v_X8_117_7 rfl (mdW_ob hp) rfl (Nat.le_of_ble_eq_true rfl) (Nat.le_of_ble_eq_true rfl) (Nat.le_of_ble_eq_true rfl) ?_
    refine go_istore dX8_goes_31 (Nat.le_of_ble_eq_true rfl) rfl ?_
    refine go_aload_n dX8_goes_33 rfl ?_
    refine go_iload_n dX8_goes_34 rfl ?_
    refine go_iload dX8_goes_35 rfl ?_
    refine go_aload_n dX8_goes_37 rfl ?_
    refine go_virt1 dX8_goes_38 (m_many l hp) v_X8_95_7 rfl (mdW_ob hp) rfl (Nat.le_of_ble_eq_true rfl) (Nat.le_of_ble_eq_true rfl) (Nat.le_of_ble_eq_true rfl) ?_
    rw [h180]
    refine go_virt1 dX8_goes_41 (ct_w (m_closes l hp (k := 2) (by decide) (s := getL A 2) (i := (fndH (getL A 2).1 n (nI j))) (by omega) h1 hn) (by rw [getL_set (by decide)]) rfl rfl) v_X8_120_7 rfl (mdW_ob hp) rfl (Nat.le_of_ble_eq_true rfl) (Nat.le_of_ble_eq_true rfl) (Nat.le_of_ble_eq_true rfl) ?_
    refine go_istore dX8_goes_44 (Nat.le_of_ble_eq_true rfl) rfl ?_
    refine go_iload dX8_goes_46 rfl ?_
    refine go_iload dX8_goes_48 rfl ?_
    refine go_icmp_ge 62 dX8_goes_50 (by decide) (fun q50 => ?_) (fun q50 => ?_)
    · have z : ¬ (fndH (getL A 2).1 n (nI j)) < n - 1 := by have := n_le' q50 (by omega) (by omega); omega
      have eG : goA n (nI j) 2 A = setL A 2 (upd (upd (getL A 2).1 (fndH (getL A 2).1 n (nI j)) ((getL A 2).1 (n - 1))) (n - 1) 0, (getL A 2).2) := by unfold goA goS; rw [if_neg z]
      rw [← eG]
      refine go_iinc dX8_goes_62 rfl (Nat.le_of_ble_eq_true rfl) rfl (show _ = _ + 1 from rfl) ?_
      refine go_goto 2 dX8_goes_65 (by decide) ?_
      exact go_sub [(0, .ref p), (1, .int (nI j)), (2, .int q), (3, .int (nI 3))] ⟨rfl, rfl, rfl, rfl, trivial⟩ (m_goes_3 l hp (A := goA n (nI j) 2 A) h1 hn hj ((goA_n (by decide)).trans h180) (mI_set (by decide) hA (goS_ok h1 hn (hA 2 (by decide)))) (fun i a b c => by rw [fndH_congr (f := (getL (goA n (nI j) 2 A) i).1) (g := (getL A i).1) (fun t ht => goA_ne (by decide) b (by omega) (by omega))]; exact hf i (by omega) b c) (by rw [hR, fldA, if_pos mk]))
    · have z : (fndH (getL A 2).1 n (nI j)) < n - 1 := n_lt' q50 (by omega)
      have eG : goA n (nI j) 2 A = setL A 2 (settleK (ltA A) 2 (n - 1) (fndH (getL A 2).1 n (nI j)) (upd (upd (getL A 2).1 (fndH (getL A 2).1 n (nI j)) ((getL A 2).1 (n - 1))) (n - 1) 0, (getL A 2).2)) := by unfold goA goS; rw [if_pos z]
      refine go_aload_n dX8_goes_53 rfl ?_
      refine go_iload_n dX8_goes_54 rfl ?_
      refine go_iload dX8_goes_55 rfl ?_
      refine go_iload dX8_goes_57 rfl ?_
      refine go_virt0 dX8_goes_59 (m_moves l hp (k := 2) (by decide) (s := (upd (upd (getL A 2).1 (fndH (getL A 2).1 n (nI j)) ((getL A 2).1 (n - 1))) (n - 1) 0, (getL A 2).2)) hr1 (i := (fndH (getL A 2).1 n (nI j))) (n := n - 1) z (by omega)) v_X8_124_7 rfl (mdW_ob hp) rfl (Nat.le_of_ble_eq_true rfl) (Nat.le_of_ble_eq_true rfl) (Nat.le_of_ble_eq_true rfl) ?_
      rw [← eG]
      refine go_iinc dX8_goes_62 rfl (Nat.le_of_ble_eq_true rfl) rfl (show _ = _ + 1 from rfl) ?_
      refine go_goto 2 dX8_goes_65 (by decide) ?_
      exact go_sub [(0, .ref p), (1, .int (nI j)), (2, .int q), (3, .int (nI 3))] ⟨rfl, rfl, rfl, rfl, trivial⟩ (m_goes_3 l hp (A := goA n (nI j) 2 A) h1 hn hj ((goA_n (by decide)).trans h180) (mI_set (by decide) hA (goS_ok h1 hn (hA 2 (by decide)))) (fun i a b c => by rw [fndH_congr (f := (getL (goA n (nI j) 2 A) i).1) (g := (getL A i).1) (fun t ht => goA_ne (by decide) b (by omega) (by omega))]; exact hf i (by omega) b c) (by rw [hR, fldA, if_pos mk]))
theorem m_goes_1 (l : Launch) {w : MW} {p : Nat} {A P K T : Nat → Int32} {x : XS} (hp : p + 4 < w.1) {n j : Nat} (h1 : 1 ≤ n) (hn : n ≤ 30) (hj : j < 30) {q : Int32} {R : Nat → Int32} (h180 : A 180 = nI n) (hA : mI A) (hf : ∀ i, 1 ≤ i → i < 4 → mskB q i = true → fndH (getL A i).1 n (nI j) < n) (hR : R = fldA (goA n (nI j)) q 3 1 A) : Go l yX8_goes cX8_goes 6 none [] none (mm_Z (mm_eq (.inl none) (mdW w p (upd (upd (upd R (30 + j) 0) j 0) 180 (nI (n - 1))) P K T x))) 6 0 0 2 [(0, .ref p), (1, .int (nI j)), (2, .int q), (3, .int (nI 1))] [] (mdW w p A P K T x) := by
  refine go_iload_n dX8_goes_2 rfl ?_
  refine go_iconst 4 dX8_goes_3 (by decide) ?_
  refine go_icmp_ge_f 68 dX8_goes_4 (by decide) (by decide) ?_
  refine go_iload_n dX8_goes_7 rfl ?_
  refine go_iload_n dX8_goes_8 rfl ?_
  refine go_iconst 2 dX8_goes_9 (by decide) ?_
  refine go_icmp_ge_f 17 dX8_goes_10 (by decide) (by decide) ?_
  refine go_iload_n dX8_goes_13 rfl ?_
  refine go_goto 18 dX8_goes_14 (by decide) ?_
  refine go_ishr dX8_goes_18 ?_
  refine go_iconst 2 dX8_goes_19 (by decide) ?_
  refine go_irem dX8_goes_20 (by decide) ?_
  refine go_iconst 1 dX8_goes_21 (by decide) ?_
  refine go_icmp_ne 62 dX8_goes_22 (by decide) (fun q22 => ?_) (fun q22 => ?_)
  · have N1 := trivial
    refine go_iinc dX8_goes_62 rfl (Nat.le_of_ble_eq_true rfl) rfl (show _ = _ + 1 from rfl) ?_
    refine go_goto 2 dX8_goes_65 (by decide) ?_
    exact go_sub [(0, .ref p), (1, .int (nI j)), (2, .int q), (3, .int (nI 2))] ⟨rfl, rfl, rfl, rfl, trivial⟩ (m_goes_2 l hp h1 hn hj h180 hA (fun i a b c => hf i (by omega) b c) (by rw [hR, fldA, if_neg (show ¬ mskB q 1 = true from fun z => q22 (of_decide_eq_true z))]))
  · have N2 := trivial
    have mk : mskB q 1 = true := decide_eq_true q22
    have hf0 := hf 1 (Nat.le_refl _) (by decide) mk
    have hr1 : rowOK (upd (upd (getL A 1).1 (fndH (getL A 1).1 n (nI j)) ((getL A 1).1 (n - 1))) (n - 1) 0, (getL A 1).2).1 := rowOK_upd (rowOK_upd (hA 1 (by decide)) (hA 1 (by decide) _ (by omega))) okH_0
    refine go_aload_n dX8_goes_25 rfl ?_
    refine go_iload_n dX8_goes_26 rfl ?_
    refine go_iload_n dX8_goes_27 rfl ?_
    refine go_virt1 dX8_goes_28 (ct_w (m_placeOf l hp (k := 1) (by decide) (s := getL A 1) hn hf0) (by rw [getL_set (by decide)]) (by rw [getL_set (by decide)]) rfl) v_X8_117_7 rfl (mdW_ob hp) rfl (Nat.le_of_ble_eq_true rfl) (Nat.le_of_ble_eq_true rfl) (Nat.le_of_ble_eq_true rfl) ?_
    refine go_istore dX8_goes_31 (Nat.le_of_ble_eq_true rfl) rfl ?_
    refine go_aload_n dX8_goes_33 rfl ?_
    refine go_iload_n dX8_goes_34 rfl ?_
    refine go_iload dX8_goes_35 rfl ?_
    refine go_aload_n dX8_goes_37 rfl ?_
    refine go_virt1 dX8_goes_38 (m_many l hp) v_X8_95_7 rfl (mdW_ob hp) rfl (Nat.le_of_ble_eq_true rfl) (Nat.le_of_ble_eq_true rfl) (Nat.le_of_ble_eq_true rfl) ?_
    rw [h180]
    refine go_virt1 dX8_goes_41 (ct_w (m_closes l hp (k := 1) (by decide) (s := getL A 1) (i := (fndH (getL A 1).1 n (nI j))) (by omega) h1 hn) (by rw [getL_set (by decide)]) rfl rfl) v_X8_120_7 rfl (mdW_ob hp) rfl (Nat.le_of_ble_eq_true rfl) (Nat.le_of_ble_eq_true rfl) (Nat.le_of_ble_eq_true rfl) ?_
    refine go_istore dX8_goes_44 (Nat.le_of_ble_eq_true rfl) rfl ?_
    refine go_iload dX8_goes_46 rfl ?_
    refine go_iload dX8_goes_48 rfl ?_
    refine go_icmp_ge 62 dX8_goes_50 (by decide) (fun q50 => ?_) (fun q50 => ?_)
    · have z : ¬ (fndH (getL A 1).1 n (nI j)) < n - 1 := by have := n_le' q50 (by omega) (by omega); omega
      have eG : goA n (nI j) 1 A = setL A 1 (upd (upd (getL A 1).1 (fndH (getL A 1).1 n (nI j)) ((getL A 1).1 (n - 1))) (n - 1) 0, (getL A 1).2) := by unfold goA goS; rw [if_neg z]
      rw [← eG]
      refine go_iinc dX8_goes_62 rfl (Nat.le_of_ble_eq_true rfl) rfl (show _ = _ + 1 from rfl) ?_
      refine go_goto 2 dX8_goes_65 (by decide) ?_
      exact go_sub [(0, .ref p), (1, .int (nI j)), (2, .int q), (3, .int (nI 2))] ⟨rfl, rfl, rfl, rfl, trivial⟩ (m_goes_2 l hp (A := goA n (nI j) 1 A) h1 hn hj ((goA_n (by decide)).trans h180) (mI_set (by decide) hA (goS_ok h1 hn (hA 1 (by decide)))) (fun i a b c => by rw [fndH_congr (f := (getL (goA n (nI j) 1 A) i).1) (g := (getL A i).1) (fun t ht => goA_ne (by decide) b (by omega) (by omega))]; exact hf i (by omega) b c) (by rw [hR, fldA, if_pos mk]))
    · have z : (fndH (getL A 1).1 n (nI j)) < n - 1 := n_lt' q50 (by omega)
      have eG : goA n (nI j) 1 A = setL A 1 (settleK (ltA A) 1 (n - 1) (fndH (getL A 1).1 n (nI j)) (upd (upd (getL A 1).1 (fndH (getL A 1).1 n (nI j)) ((getL A 1).1 (n - 1))) (n - 1) 0, (getL A 1).2)) := by unfold goA goS; rw [if_pos z]
      refine go_aload_n dX8_goes_53 rfl ?_
      refine go_iload_n dX8_goes_54 rfl ?_
      refine go_iload dX8_goes_55 rfl ?_
      refine go_iload dX8_goes_57 rfl ?_
      refine go_virt0 dX8_goes_59 (m_moves l hp (k := 1) (by decide) (s := (upd (upd (getL A 1).1 (fndH (getL A 1).1 n (nI j)) ((getL A 1).1 (n - 1))) (n - 1) 0, (getL A 1).2)) hr1 (i := (fndH (getL A 1).1 n (nI j))) (n := n - 1) z (by omega)) v_X8_124_7 rfl (mdW_ob hp) rfl (Nat.le_of_ble_eq_true rfl) (Nat.le_of_ble_eq_true rfl) (Nat.le_of_ble_eq_true rfl) ?_
      rw [← eG]
      refine go_iinc dX8_goes_62 rfl (Nat.le_of_ble_eq_true rfl) rfl (show _ = _ + 1 from rfl) ?_
      refine go_goto 2 dX8_goes_65 (by decide) ?_
      exact go_sub [(0, .ref p), (1, .int (nI j)), (2, .int q), (3, .int (nI 2))] ⟨rfl, rfl, rfl, rfl, trivial⟩ (m_goes_2 l hp (A := goA n (nI j) 1 A) h1 hn hj ((goA_n (by decide)).trans h180) (mI_set (by decide) hA (goS_ok h1 hn (hA 1 (by decide)))) (fun i a b c => by rw [fndH_congr (f := (getL (goA n (nI j) 1 A) i).1) (g := (getL A i).1) (fun t ht => goA_ne (by decide) b (by omega) (by omega))]; exact hf i (by omega) b c) (by rw [hR, fldA, if_pos mk]))
theorem m_goes_0 (l : Launch) {w : MW} {p : Nat} {A P K T : Nat → Int32} {x : XS} (hp : p + 4 < w.1) {n j : Nat} (h1 : 1 ≤ n) (hn : n ≤ 30) (hj : j < 30) {q : Int32} {R : Nat → Int32} (h180 : A 180 = nI n) (hA : mI A) (hf : ∀ i, 0 ≤ i → i < 4 → mskB q i = true → fndH (getL A i).1 n (nI j) < n) (hR : R = fldA (goA n (nI j)) q 4 0 A) : Go l yX8_goes cX8_goes 6 none [] none (mm_Z (mm_eq (.inl none) (mdW w p (upd (upd (upd R (30 + j) 0) j 0) 180 (nI (n - 1))) P K T x))) 6 0 0 2 [(0, .ref p), (1, .int (nI j)), (2, .int q), (3, .int (nI 0))] [] (mdW w p A P K T x) := by
  refine go_iload_n dX8_goes_2 rfl ?_
  refine go_iconst 4 dX8_goes_3 (by decide) ?_
  refine go_icmp_ge_f 68 dX8_goes_4 (by decide) (by decide) ?_
  refine go_iload_n dX8_goes_7 rfl ?_
  refine go_iload_n dX8_goes_8 rfl ?_
  refine go_iconst 2 dX8_goes_9 (by decide) ?_
  refine go_icmp_ge_f 17 dX8_goes_10 (by decide) (by decide) ?_
  refine go_iload_n dX8_goes_13 rfl ?_
  refine go_goto 18 dX8_goes_14 (by decide) ?_
  refine go_ishr dX8_goes_18 ?_
  refine go_iconst 2 dX8_goes_19 (by decide) ?_
  refine go_irem dX8_goes_20 (by decide) ?_
  refine go_iconst 1 dX8_goes_21 (by decide) ?_
  refine go_icmp_ne 62 dX8_goes_22 (by decide) (fun q22 => ?_) (fun q22 => ?_)
  · have N1 := trivial
    refine go_iinc dX8_goes_62 rfl (Nat.le_of_ble_eq_true rfl) rfl (show _ = _ + 1 from rfl) ?_
    refine go_goto 2 dX8_goes_65 (by decide) ?_
    exact go_sub [(0, .ref p), (1, .int (nI j)), (2, .int q), (3, .int (nI 1))] ⟨rfl, rfl, rfl, rfl, trivial⟩ (m_goes_1 l hp h1 hn hj h180 hA (fun i a b c => hf i (by omega) b c) (by rw [hR, fldA, if_neg (show ¬ mskB q 0 = true from fun z => q22 (of_decide_eq_true z))]))
  · have N2 := trivial
    have mk : mskB q 0 = true := decide_eq_true q22
    have hf0 := hf 0 (Nat.le_refl _) (by decide) mk
    have hr1 : rowOK (upd (upd (getL A 0).1 (fndH (getL A 0).1 n (nI j)) ((getL A 0).1 (n - 1))) (n - 1) 0, (getL A 0).2).1 := rowOK_upd (rowOK_upd (hA 0 (by decide)) (hA 0 (by decide) _ (by omega))) okH_0
    refine go_aload_n dX8_goes_25 rfl ?_
    refine go_iload_n dX8_goes_26 rfl ?_
    refine go_iload_n dX8_goes_27 rfl ?_
    refine go_virt1 dX8_goes_28 (ct_w (m_placeOf l hp (k := 0) (by decide) (s := getL A 0) hn hf0) (by rw [getL_set (by decide)]) (by rw [getL_set (by decide)]) rfl) v_X8_117_7 rfl (mdW_ob hp) rfl (Nat.le_of_ble_eq_true rfl) (Nat.le_of_ble_eq_true rfl) (Nat.le_of_ble_eq_true rfl) ?_
    refine go_istore dX8_goes_31 (Nat.le_of_ble_eq_true rfl) rfl ?_
    refine go_aload_n dX8_goes_33 rfl ?_
    refine go_iload_n dX8_goes_34 rfl ?_
    refine go_iload dX8_goes_35 rfl ?_
    refine go_aload_n dX8_goes_37 rfl ?_
    refine go_virt1 dX8_goes_38 (m_many l hp) v_X8_95_7 rfl (mdW_ob hp) rfl (Nat.le_of_ble_eq_true rfl) (Nat.le_of_ble_eq_true rfl) (Nat.le_of_ble_eq_true rfl) ?_
    rw [h180]
    refine go_virt1 dX8_goes_41 (ct_w (m_closes l hp (k := 0) (by decide) (s := getL A 0) (i := (fndH (getL A 0).1 n (nI j))) (by omega) h1 hn) (by rw [getL_set (by decide)]) rfl rfl) v_X8_120_7 rfl (mdW_ob hp) rfl (Nat.le_of_ble_eq_true rfl) (Nat.le_of_ble_eq_true rfl) (Nat.le_of_ble_eq_true rfl) ?_
    refine go_istore dX8_goes_44 (Nat.le_of_ble_eq_true rfl) rfl ?_
    refine go_iload dX8_goes_46 rfl ?_
    refine go_iload dX8_goes_48 rfl ?_
    refine go_icmp_ge 62 dX8_goes_50 (by decide) (fun q50 => ?_) (fun q50 => ?_)
    · have z : ¬ (fndH (getL A 0).1 n (nI j)) < n - 1 := by have := n_le' q50 (by omega) (by omega); omega
      have eG : goA n (nI j) 0 A = setL A 0 (upd (upd (getL A 0).1 (fndH (getL A 0).1 n (nI j)) ((getL A 0).1 (n - 1))) (n - 1) 0, (getL A 0).2) := by unfold goA goS; rw [if_neg z]
      rw [← eG]
      refine go_iinc dX8_goes_62 rfl (Nat.le_of_ble_eq_true rfl) rfl (show _ = _ + 1 from rfl) ?_
      refine go_goto 2 dX8_goes_65 (by decide) ?_
      exact go_sub [(0, .ref p), (1, .int (nI j)), (2, .int q), (3, .int (nI 1))] ⟨rfl, rfl, rfl, rfl, trivial⟩ (m_goes_1 l hp (A := goA n (nI j) 0 A) h1 hn hj ((goA_n (by decide)).trans h180) (mI_set (by decide) hA (goS_ok h1 hn (hA 0 (by decide)))) (fun i a b c => by rw [fndH_congr (f := (getL (goA n (nI j) 0 A) i).1) (g := (getL A i).1) (fun t ht => goA_ne (by decide) b (by omega) (by omega))]; exact hf i (by omega) b c) (by rw [hR, fldA, if_pos mk]))
    · have z : (fndH (getL A 0).1 n (nI j)) < n - 1 := n_lt' q50 (by omega)
      have eG : goA n (nI j) 0 A = setL A 0 (settleK (ltA A) 0 (n - 1) (fndH (getL A 0).1 n (nI j)) (upd (upd (getL A 0).1 (fndH (getL A 0).1 n (nI j)) ((getL A 0).1 (n - 1))) (n - 1) 0, (getL A 0).2)) := by unfold goA goS; rw [if_pos z]
      refine go_aload_n dX8_goes_53 rfl ?_
      refine go_iload_n dX8_goes_54 rfl ?_
      refine go_iload dX8_goes_55 rfl ?_
      refine go_iload dX8_goes_57 rfl ?_
      refine go_virt0 dX8_goes_59 (m_moves l hp (k := 0) (by decide) (s := (upd (upd (getL A 0).1 (fndH (getL A 0).1 n (nI j)) ((getL A 0).1 (n - 1))) (n - 1) 0, (getL A 0).2)) hr1 (i := (fndH (getL A 0).1 n (nI j))) (n := n - 1) z (by omega)) v_X8_124_7 rfl (mdW_ob hp) rfl (Nat.le_of_ble_eq_true rfl) (Nat.le_of_ble_eq_true rfl) (Nat.le_of_ble_eq_true rfl) ?_
      rw [← eG]
      refine go_iinc dX8_goes_62 rfl (Nat.le_of_ble_eq_true rfl) rfl (show _ = _ + 1 from rfl) ?_
      refine go_goto 2 dX8_goes_65 (by decide) ?_
      exact go_sub [(0, .ref p), (1, .int (nI j)), (2, .int q), (3, .int (nI 1))] ⟨rfl, rfl, rfl, rfl, trivial⟩ (m_goes_1 l hp (A := goA n (nI j) 0 A) h1 hn hj ((goA_n (by decide)).trans h180) (mI_set (by decide) hA (goS_ok h1 hn (hA 0 (by decide)))) (fun i a b c => by rw [fndH_congr (f := (getL (goA n (nI j) 0 A) i).1) (g := (getL A i).1) (fun t ht => goA_ne (by decide) b (by omega) (by omega))]; exact hf i (by omega) b c) (by rw [hR, fldA, if_pos mk]))
theorem m_goes (l : Launch) {w : MW} {p : Nat} {A P K T : Nat → Int32} {x : XS} (hp : p + 4 < w.1) {n j : Nat} (h1 : 1 ≤ n) (hn : n ≤ 30) (hj : j < 30) {q : Int32} (h180 : A 180 = nI n) (hA : mI A) (hf : ∀ i, i < 4 → mskB q i = true → fndH (getL A i).1 n (nI j) < n) : Ct l (.code yX8_goes cX8_goes 6 none) yX8_goes 6 0 0 [.ref p, .int (nI j), .int q] (mdW w p A P K T x) (.inl none) (mdW w p (upd (upd (upd (fldA (goA n (nI j)) q 4 0 A) (30 + j) 0) j 0) 180 (nI (n - 1))) P K T x) := by
  refine ct_of (by decide +kernel) (Nat.le_of_ble_eq_true rfl) ?_
  refine go_iconst 0 dX8_goes_0 (by decide) ?_
  refine go_istore_n dX8_goes_1 (Nat.le_of_ble_eq_true rfl) rfl ?_
  exact go_sub [(0, .ref p), (1, .int (nI j)), (2, .int q), (3, .int (nI 0))] ⟨rfl, rfl, rfl, rfl, trivial⟩ (m_goes_0 l hp h1 hn hj h180 hA (fun i _ b c => hf i b c) rfl)
