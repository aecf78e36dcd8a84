theorem c_putIn_0 (l : Launch) {w : MW} {h : Nat} {n : Nat} {f : Nat → Int32} {c : Int32} (hh : h + 1 < w.1) (hn : n < 30) {x ky : Int32} : Ct l (.code yX3_putIn cX3_putIn 3 none) yX3_putIn 3 0 0 [.ref h, .int x, .int ky] (layW w h 2 [] f n c) (.inl none) (layP w h 2 [] (n + 1) (enterK ltI 0 n (upd f n (encI ky x), c))) := by
  rw [enterK_0]
  refine ct_of (by decide +kernel) (Nat.le_of_ble_eq_true rfl) ?_
  refine go_aload_n dX3_putIn_0 rfl ?_
  refine go_getfield dX3_putIn_1 f_X3_15_2 (layW_ob hh) rfl ?_
  refine go_aload_n dX3_putIn_4 rfl ?_
  refine go_getfield dX3_putIn_5 f_X3_9_2 (layW_ob hh) rfl ?_
  refine go_alen 0 (fun _ => rfl) dX3_putIn_8 (layW_ar hh) ?_
  refine go_icmp_ge_f 46 dX3_putIn_9 (by decide) (n_nle (a := 30) hn (by decide)) ?_
  refine go_aload_n dX3_putIn_12 rfl ?_
  refine go_getfield dX3_putIn_13 f_X3_9_2 (layW_ob hh) rfl ?_
  refine go_aload_n dX3_putIn_16 rfl ?_
  refine go_getfield dX3_putIn_17 f_X3_15_2 (layW_ob hh) rfl ?_
  refine go_iload_n dX3_putIn_20 rfl ?_
  refine go_iconst 5 dX3_putIn_21 (by decide) ?_
  refine go_ishl dX3_putIn_22 ?_
  refine go_iload_n dX3_putIn_23 rfl ?_
  refine go_iadd dX3_putIn_24 ?_
  refine go_iastore n dX3_putIn_25 (layW_ar hh) rfl (by omega) (by decide) ?_
  rw [layW_upA]
  refine go_aload_n dX3_putIn_26 rfl ?_
  refine go_dup dX3_putIn_27 rfl ?_
  refine go_getfield dX3_putIn_28 f_X3_15_2 (layW_ob hh) rfl ?_
  refine go_iconst 1 dX3_putIn_31 (by decide) ?_
  refine go_iadd dX3_putIn_32 ?_
  refine go_putfield dX3_putIn_33 p_X3_15_2 (layW_ob hh) (by simp only [List.length_cons]; omega) (fun _ => ⟨rfl, rfl⟩) (fun _ z => nomatch z) ?_
  rw [a_k1, layW_upN]
  refine go_aload_n dX3_putIn_36 rfl ?_
  refine go_aload_n dX3_putIn_37 rfl ?_
  refine go_getfield dX3_putIn_38 f_X3_15_2 (layW_ob hh) rfl ?_
  refine go_iconst 1 dX3_putIn_41 (by decide) ?_
  refine go_isub dX3_putIn_42 ?_
  rw [a_pred (by omega)]
  refine go_virt0 dX3_putIn_43 (c_enter0 l hh (n := n + 1) (by omega) (by omega)) v_X3_33_2 rfl (layW_ob hh) rfl (Nat.le_of_ble_eq_true rfl) (Nat.le_of_ble_eq_true rfl) (Nat.le_of_ble_eq_true rfl) ?_
  exact go_return dX3_putIn_46 rfl
theorem c_takeOut_0 (l : Launch) {w : MW} {h : Nat} {n : Nat} {f : Nat → Int32} {c : Int32} (hh : h + 1 < w.1) (hn : n ≤ 30) {x : Int32} (hx : fndN f n x < n) : Ct l (.code yX3_takeOut cX3_takeOut 3 none) yX3_takeOut 4 0 0 [.ref h, .int x] (layW w h 2 [] f n c) (.inl none) (layP w h 2 [] (n - 1) (takeK ltI 0 n (fndN f n x) (f, c))) := by
  refine ct_of (by decide +kernel) (Nat.le_of_ble_eq_true rfl) ?_
  refine go_aload_n dX3_takeOut_0 rfl ?_
  refine go_iload_n dX3_takeOut_1 rfl ?_
  refine go_virt1 dX3_takeOut_2 (c_find l hh (Or.inr (Or.inl rfl)) hn (x := x)) v_X3_37_2 rfl (layW_ob hh) rfl (Nat.le_of_ble_eq_true rfl) (Nat.le_of_ble_eq_true rfl) (Nat.le_of_ble_eq_true rfl) ?_
  rw [show fndR f n x = nI (fndN f n x) from if_pos hx]
  refine go_istore_n dX3_takeOut_5 (Nat.le_of_ble_eq_true rfl) rfl ?_
  refine go_aload_n dX3_takeOut_6 rfl ?_
  refine go_iload_n dX3_takeOut_7 rfl ?_
  refine go_virt1 dX3_takeOut_8 (c_isPos1 l hh (Or.inr (Or.inl rfl)) hn (j := fndN f n x) hx) v_X3_19_2 rfl (layW_ob hh) rfl (Nat.le_of_ble_eq_true rfl) (Nat.le_of_ble_eq_true rfl) (Nat.le_of_ble_eq_true rfl) ?_
  refine go_if_eq_f 54 dX3_takeOut_11 (by decide) (by decide) ?_
  refine go_aload_n dX3_takeOut_14 rfl ?_
  refine go_getfield dX3_takeOut_15 f_X3_9_2 (layW_ob hh) rfl ?_
  refine go_iload_n dX3_takeOut_18 rfl ?_
  refine go_aload_n dX3_takeOut_19 rfl ?_
  refine go_getfield dX3_takeOut_20 f_X3_9_2 (layW_ob hh) rfl ?_
  refine go_aload_n dX3_takeOut_23 rfl ?_
  refine go_getfield dX3_takeOut_24 f_X3_15_2 (layW_ob hh) rfl ?_
  refine go_iconst 1 dX3_takeOut_27 (by decide) ?_
  refine go_isub dX3_takeOut_28 ?_
  rw [a_pred (by omega)]
  refine go_iaload (n - 1) dX3_takeOut_29 (layW_ar hh) rfl (by omega) (by decide) ?_
  refine go_iastore (fndN f n x) dX3_takeOut_30 (layW_ar hh) rfl (by omega) (by decide) ?_
  rw [layW_upA]
  refine go_aload_n dX3_takeOut_31 rfl ?_
  refine go_dup dX3_takeOut_32 rfl ?_
  refine go_getfield dX3_takeOut_33 f_X3_15_2 (layW_ob hh) rfl ?_
  refine go_iconst 1 dX3_takeOut_36 (by decide) ?_
  refine go_isub dX3_takeOut_37 ?_
  refine go_putfield dX3_takeOut_38 p_X3_15_2 (layW_ob hh) (by simp only [List.length_cons]; omega) (fun _ => ⟨rfl, rfl⟩) (fun _ z => nomatch z) ?_
  rw [a_pred (by omega), layW_upN]
  refine go_iload_n dX3_takeOut_41 rfl ?_
  refine go_aload_n dX3_takeOut_42 rfl ?_
  refine go_getfield dX3_takeOut_43 f_X3_15_2 (layW_ob hh) rfl ?_
  refine go_icmp_ge 54 dX3_takeOut_46 (by decide) (fun q46 => ?_) (fun q46 => ?_)
  · have z46 := n_le' q46 (by omega) (by omega)
    rw [show takeK ltI 0 n (fndN f n x) (f, c) = (upd f (fndN f n x) (f (n - 1)), c) from if_neg (by omega)]
    exact go_return dX3_takeOut_54 rfl
  · have z46 := n_lt' q46 (by omega)
    rw [show takeK ltI 0 n (fndN f n x) (f, c) = settleK ltI 0 (n - 1) (fndN f n x) (upd f (fndN f n x) (f (n - 1)), c) from if_pos z46, settleK_0]
    refine go_aload_n dX3_takeOut_49 rfl ?_
    refine go_iload_n dX3_takeOut_50 rfl ?_
    refine go_virt0 dX3_takeOut_51 (c_settle0 l hh (n := n - 1) (by omega) z46) v_X3_40_2 rfl (layW_ob hh) rfl (Nat.le_of_ble_eq_true rfl) (Nat.le_of_ble_eq_true rfl) (Nat.le_of_ble_eq_true rfl) ?_
    exact go_return dX3_takeOut_54 rfl
theorem c_giveKey_0 (l : Launch) {w : MW} {h : Nat} {n : Nat} {f : Nat → Int32} {c : Int32} (hh : h + 1 < w.1) (hn : n ≤ 30) {x ky : Int32} (hx : fndN f n x < n) : Ct l (.code yX3_giveKey cX3_giveKey 4 none) yX3_giveKey 4 0 0 [.ref h, .int x, .int ky] (layW w h 2 [] f n c) (.inl none) (layP w h 2 [] n (settleK ltI 0 n (fndN f n x) (upd f (fndN f n x) (encI ky x), c))) := by
  rw [settleK_0]
  refine ct_of (by decide +kernel) (Nat.le_of_ble_eq_true rfl) ?_
  refine go_aload_n dX3_giveKey_0 rfl ?_
  refine go_iload_n dX3_giveKey_1 rfl ?_
  refine go_virt1 dX3_giveKey_2 (c_find l hh (Or.inr (Or.inl rfl)) hn (x := x)) v_X3_37_2 rfl (layW_ob hh) rfl (Nat.le_of_ble_eq_true rfl) (Nat.le_of_ble_eq_true rfl) (Nat.le_of_ble_eq_true rfl) ?_
  rw [show fndR f n x = nI (fndN f n x) from if_pos hx]
  refine go_istore_n dX3_giveKey_5 (Nat.le_of_ble_eq_true rfl) rfl ?_
  refine go_aload_n dX3_giveKey_6 rfl ?_
  refine go_iload_n dX3_giveKey_7 rfl ?_
  refine go_virt1 dX3_giveKey_8 (c_isPos1 l hh (Or.inr (Or.inl rfl)) hn (j := fndN f n x) hx) v_X3_19_2 rfl (layW_ob hh) rfl (Nat.le_of_ble_eq_true rfl) (Nat.le_of_ble_eq_true rfl) (Nat.le_of_ble_eq_true rfl) ?_
  refine go_if_eq_f 30 dX3_giveKey_11 (by decide) (by decide) ?_
  refine go_aload_n dX3_giveKey_14 rfl ?_
  refine go_getfield dX3_giveKey_15 f_X3_9_2 (layW_ob hh) rfl ?_
  refine go_iload_n dX3_giveKey_18 rfl ?_
  refine go_iload_n dX3_giveKey_19 rfl ?_
  refine go_iconst 5 dX3_giveKey_20 (by decide) ?_
  refine go_ishl dX3_giveKey_21 ?_
  refine go_iload_n dX3_giveKey_22 rfl ?_
  refine go_iadd dX3_giveKey_23 ?_
  refine go_iastore (fndN f n x) dX3_giveKey_24 (layW_ar hh) rfl (by omega) (by decide) ?_
  rw [layW_upA]
  refine go_aload_n dX3_giveKey_25 rfl ?_
  refine go_iload_n dX3_giveKey_26 rfl ?_
  refine go_virt0 dX3_giveKey_27 (c_settle0 l hh hn hx) v_X3_40_2 rfl (layW_ob hh) rfl (Nat.le_of_ble_eq_true rfl) (Nat.le_of_ble_eq_true rfl) (Nat.le_of_ble_eq_true rfl) ?_
  exact go_return dX3_giveKey_30 rfl
theorem c_putIn_1 (l : Launch) {w : MW} {h : Nat} {n : Nat} {f : Nat → Int32} {c : Int32} (hh : h + 1 < w.1) (hn : n < 30) {x ky : Int32} : Ct l (.code yX3_putIn cX3_putIn 3 none) yX3_putIn 3 0 0 [.ref h, .int x, .int ky] (layW w h 3 [] f n c) (.inl none) (layP w h 3 [] (n + 1) (enterK ltI 1 n (upd f n (encI ky x), c))) := by
  rw [enterK_1]
  refine ct_of (by decide +kernel) (Nat.le_of_ble_eq_true rfl) ?_
  refine go_aload_n dX3_putIn_0 rfl ?_
  refine go_getfield dX3_putIn_1 f_X3_15_3 (layW_ob hh) rfl ?_
  refine go_aload_n dX3_putIn_4 rfl ?_
  refine go_getfield dX3_putIn_5 f_X3_9_3 (layW_ob hh) rfl ?_
  refine go_alen 0 (fun _ => rfl) dX3_putIn_8 (layW_ar hh) ?_
  refine go_icmp_ge_f 46 dX3_putIn_9 (by decide) (n_nle (a := 30) hn (by decide)) ?_
  refine go_aload_n dX3_putIn_12 rfl ?_
  refine go_getfield dX3_putIn_13 f_X3_9_3 (layW_ob hh) rfl ?_
  refine go_aload_n dX3_putIn_16 rfl ?_
  refine go_getfield dX3_putIn_17 f_X3_15_3 (layW_ob hh) rfl ?_
  refine go_iload_n dX3_putIn_20 rfl ?_
  refine go_iconst 5 dX3_putIn_21 (by decide) ?_
  refine go_ishl dX3_putIn_22 ?_
  refine go_iload_n dX3_putIn_23 rfl ?_
  refine go_iadd dX3_putIn_24 ?_
  refine go_iastore n dX3_putIn_25 (layW_ar hh) rfl (by omega) (by decide) ?_
  rw [layW_upA]
  refine go_aload_n dX3_putIn_26 rfl ?_
  refine go_dup dX3_putIn_27 rfl ?_
  refine go_getfield dX3_putIn_28 f_X3_15_3 (layW_ob hh) rfl ?_
  refine go_iconst 1 dX3_putIn_31 (by decide) ?_
  refine go_iadd dX3_putIn_32 ?_
  refine go_putfield dX3_putIn_33 p_X3_15_3 (layW_ob hh) (by simp only [List.length_cons]; omega) (fun _ => ⟨rfl, rfl⟩) (fun _ z => nomatch z) ?_
  rw [a_k1, layW_upN]
  refine go_aload_n dX3_putIn_36 rfl ?_
  refine go_aload_n dX3_putIn_37 rfl ?_
  refine go_getfield dX3_putIn_38 f_X3_15_3 (layW_ob hh) rfl ?_
  refine go_iconst 1 dX3_putIn_41 (by decide) ?_
  refine go_isub dX3_putIn_42 ?_
  rw [a_pred (by omega)]
  refine go_virt0 dX3_putIn_43 (c_enter1 l hh (n := n + 1) (by omega) (by omega)) v_X3_33_3 rfl (layW_ob hh) rfl (Nat.le_of_ble_eq_true rfl) (Nat.le_of_ble_eq_true rfl) (Nat.le_of_ble_eq_true rfl) ?_
  exact go_return dX3_putIn_46 rfl
theorem c_takeOut_1 (l : Launch) {w : MW} {h : Nat} {n : Nat} {f : Nat → Int32} {c : Int32} (hh : h + 1 < w.1) (hn : n ≤ 30) {x : Int32} (hx : fndN f n x < n) : Ct l (.code yX3_takeOut cX3_takeOut 3 none) yX3_takeOut 4 0 0 [.ref h, .int x] (layW w h 3 [] f n c) (.inl none) (layP w h 3 [] (n - 1) (takeK ltI 1 n (fndN f n x) (f, c))) := by
  refine ct_of (by decide +kernel) (Nat.le_of_ble_eq_true rfl) ?_
  refine go_aload_n dX3_takeOut_0 rfl ?_
  refine go_iload_n dX3_takeOut_1 rfl ?_
  refine go_virt1 dX3_takeOut_2 (c_find l hh (Or.inr (Or.inr rfl)) hn (x := x)) v_X3_37_3 rfl (layW_ob hh) rfl (Nat.le_of_ble_eq_true rfl) (Nat.le_of_ble_eq_true rfl) (Nat.le_of_ble_eq_true rfl) ?_
  rw [show fndR f n x = nI (fndN f n x) from if_pos hx]
  refine go_istore_n dX3_takeOut_5 (Nat.le_of_ble_eq_true rfl) rfl ?_
  refine go_aload_n dX3_takeOut_6 rfl ?_
  refine go_iload_n dX3_takeOut_7 rfl ?_
  refine go_virt1 dX3_takeOut_8 (c_isPos1 l hh (Or.inr (Or.inr rfl)) hn (j := fndN f n x) hx) v_X3_19_3 rfl (layW_ob hh) rfl (Nat.le_of_ble_eq_true rfl) (Nat.le_of_ble_eq_true rfl) (Nat.le_of_ble_eq_true rfl) ?_
  refine go_if_eq_f 54 dX3_takeOut_11 (by decide) (by decide) ?_
  refine go_aload_n dX3_takeOut_14 rfl ?_
  refine go_getfield dX3_takeOut_15 f_X3_9_3 (layW_ob hh) rfl ?_
  refine go_iload_n dX3_takeOut_18 rfl ?_
  refine go_aload_n dX3_takeOut_19 rfl ?_
  refine go_getfield dX3_takeOut_20 f_X3_9_3 (layW_ob hh) rfl ?_
  refine go_aload_n dX3_takeOut_23 rfl ?_
  refine go_getfield dX3_takeOut_24 f_X3_15_3 (layW_ob hh) rfl ?_
  refine go_iconst 1 dX3_takeOut_27 (by decide) ?_
  refine go_isub dX3_takeOut_28 ?_
  rw [a_pred (by omega)]
  refine go_iaload (n - 1) dX3_takeOut_29 (layW_ar hh) rfl (by omega) (by decide) ?_
  refine go_iastore (fndN f n x) dX3_takeOut_30 (layW_ar hh) rfl (by omega) (by decide) ?_
  rw [layW_upA]
  refine go_aload_n dX3_takeOut_31 rfl ?_
  refine go_dup dX3_takeOut_32 rfl ?_
  refine go_getfield dX3_takeOut_33 f_X3_15_3 (layW_ob hh) rfl ?_
  refine go_iconst 1 dX3_takeOut_36 (by decide) ?_
  refine go_isub dX3_takeOut_37 ?_
  refine go_putfield dX3_takeOut_38 p_X3_15_3 (layW_ob hh) (by simp only [List.length_cons]; omega) (fun _ => ⟨rfl, rfl⟩) (fun _ z => nomatch z) ?_
  rw [a_pred (by omega), layW_upN]
  refine go_iload_n dX3_takeOut_41 rfl ?_
  refine go_aload_n dX3_takeOut_42 rfl ?_
  refine go_getfield dX3_takeOut_43 f_X3_15_3 (layW_ob hh) rfl ?_
  refine go_icmp_ge 54 dX3_takeOut_46 (by decide) (fun q46 => ?_) (fun q46 => ?_)
  · have z46 := n_le' q46 (by omega) (by omega)
    rw [show takeK ltI 1 n (fndN f n x) (f, c) = (upd f (fndN f n x) (f (n - 1)), c) from if_neg (by omega)]
    exact go_return dX3_takeOut_54 rfl
  · have z46 := n_lt' q46 (by omega)
    rw [show takeK ltI 1 n (fndN f n x) (f, c) = settleK ltI 1 (n - 1) (fndN f n x) (upd f (fndN f n x) (f (n - 1)), c) from if_pos z46, settleK_1]
    refine go_aload_n dX3_takeOut_49 rfl ?_
    refine go_iload_n dX3_takeOut_50 rfl ?_
    refine go_virt0 dX3_takeOut_51 (c_settle1 l hh (n := n - 1) (by omega) z46) v_X3_40_3 rfl (layW_ob hh) rfl (Nat.le_of_ble_eq_true rfl) (Nat.le_of_ble_eq_true rfl) (Nat.le_of_ble_eq_true rfl) ?_
    exact go_return dX3_takeOut_54 rfl
theorem c_giveKey_1 (l : Launch) {w : MW} {h : Nat} {n : Nat} {f : Nat → Int32} {c : Int32} (hh : h + 1 < w.1) (hn : n ≤ 30) {x ky : Int32} (hx : fndN f n x < n) : Ct l (.code yX3_giveKey cX3_giveKey 4 none) yX3_giveKey 4 0 0 [.ref h, .int x, .int ky] (layW w h 3 [] f n c) (.inl none) (layP w h 3 [] n (settleK ltI 1 n (fndN f n x) (upd f (fndN f n x) (encI ky x), c))) := by
  rw [settleK_1]
  refine ct_of (by decide +kernel) (Nat.le_of_ble_eq_true rfl) ?_
  refine go_aload_n dX3_giveKey_0 rfl ?_
  refine go_iload_n dX3_giveKey_1 rfl ?_
  refine go_virt1 dX3_giveKey_2 (c_find l hh (Or.inr (Or.inr rfl)) hn (x := x)) v_X3_37_3 rfl (layW_ob hh) rfl (Nat.le_of_ble_eq_true rfl) (Nat.le_of_ble_eq_true rfl) (Nat.le_of_ble_eq_true rfl) ?_
  rw [show fndR f n x = nI (fndN f n x) from if_pos hx]
  refine go_istore_n dX3_giveKey_5 (Nat.le_of_ble_eq_true rfl) rfl ?_
  refine go_aload_n dX3_giveKey_6 rfl ?_
  refine go_iload_n dX3_giveKey_7 rfl ?_
  refine go_virt1 dX3_giveKey_8 (c_isPos1 l hh (Or.inr (Or.inr rfl)) hn (j := fndN f n x) hx) v_X3_19_3 rfl (layW_ob hh) rfl (Nat.le_of_ble_eq_true rfl) (Nat.le_of_ble_eq_true rfl) (Nat.le_of_ble_eq_true rfl) ?_
  refine go_if_eq_f 30 dX3_giveKey_11 (by decide) (by decide) ?_
  refine go_aload_n dX3_giveKey_14 rfl ?_
  refine go_getfield dX3_giveKey_15 f_X3_9_3 (layW_ob hh) rfl ?_
  refine go_iload_n dX3_giveKey_18 rfl ?_
  refine go_iload_n dX3_giveKey_19 rfl ?_
  refine go_iconst 5 dX3_giveKey_20 (by decide) ?_
  refine go_ishl dX3_giveKey_21 ?_
  refine go_iload_n dX3_giveKey_22 rfl ?_
  refine go_iadd dX3_giveKey_23 ?_
  refine go_iastore (fndN f n x) dX3_giveKey_24 (layW_ar hh) rfl (by omega) (by decide) ?_
  rw [layW_upA]
  refine go_aload_n dX3_giveKey_25 rfl ?_
  refine go_iload_n dX3_giveKey_26 rfl ?_
  refine go_virt0 dX3_giveKey_27 (c_settle1 l hh hn hx) v_X3_40_3 rfl (layW_ob hh) rfl (Nat.le_of_ble_eq_true rfl) (Nat.le_of_ble_eq_true rfl) (Nat.le_of_ble_eq_true rfl) ?_
  exact go_return dX3_giveKey_30 rfl
theorem c_putIn_2 (l : Launch) {w : MW} {h : Nat} {n : Nat} {f : Nat → Int32} {c : Int32} (hh : h + 1 < w.1) (hn : n < 30) {x ky : Int32} : Ct l (.code yX3_putIn cX3_putIn 3 none) yX3_putIn 3 0 0 [.ref h, .int x, .int ky] (layW w h 0 [.int (bI true)] f n c) (.inl none) (layP w h 0 [.int (bI true)] (n + 1) (enterK ltI 2 n (upd f n (encI ky x), c))) := by
  rw [enterK_2]
  refine ct_of (by decide +kernel) (Nat.le_of_ble_eq_true rfl) ?_
  refine go_aload_n dX3_putIn_0 rfl ?_
  refine go_getfield dX3_putIn_1 f_X3_15_0 (layW_ob hh) rfl ?_
  refine go_aload_n dX3_putIn_4 rfl ?_
  refine go_getfield dX3_putIn_5 f_X3_9_0 (layW_ob hh) rfl ?_
  refine go_alen 0 (fun _ => rfl) dX3_putIn_8 (layW_ar hh) ?_
  refine go_icmp_ge_f 46 dX3_putIn_9 (by decide) (n_nle (a := 30) hn (by decide)) ?_
  refine go_aload_n dX3_putIn_12 rfl ?_
  refine go_getfield dX3_putIn_13 f_X3_9_0 (layW_ob hh) rfl ?_
  refine go_aload_n dX3_putIn_16 rfl ?_
  refine go_getfield dX3_putIn_17 f_X3_15_0 (layW_ob hh) rfl ?_
  refine go_iload_n dX3_putIn_20 rfl ?_
  refine go_iconst 5 dX3_putIn_21 (by decide) ?_
  refine go_ishl dX3_putIn_22 ?_
  refine go_iload_n dX3_putIn_23 rfl ?_
  refine go_iadd dX3_putIn_24 ?_
  refine go_iastore n dX3_putIn_25 (layW_ar hh) rfl (by omega) (by decide) ?_
  rw [layW_upA]
  refine go_aload_n dX3_putIn_26 rfl ?_
  refine go_dup dX3_putIn_27 rfl ?_
  refine go_getfield dX3_putIn_28 f_X3_15_0 (layW_ob hh) rfl ?_
  refine go_iconst 1 dX3_putIn_31 (by decide) ?_
  refine go_iadd dX3_putIn_32 ?_
  refine go_putfield dX3_putIn_33 p_X3_15_0 (layW_ob hh) (by simp only [List.length_cons]; omega) (fun _ => ⟨rfl, rfl⟩) (fun _ z => nomatch z) ?_
  rw [a_k1, layW_upN]
  refine go_aload_n dX3_putIn_36 rfl ?_
  refine go_aload_n dX3_putIn_37 rfl ?_
  refine go_getfield dX3_putIn_38 f_X3_15_0 (layW_ob hh) rfl ?_
  refine go_iconst 1 dX3_putIn_41 (by decide) ?_
  refine go_isub dX3_putIn_42 ?_
  rw [a_pred (by omega)]
  refine go_virt0 dX3_putIn_43 (c_up l hh (n := n + 1) (by omega) (by omega)) v_X3_33_0 rfl (layW_ob hh) rfl (Nat.le_of_ble_eq_true rfl) (Nat.le_of_ble_eq_true rfl) (Nat.le_of_ble_eq_true rfl) ?_
  exact go_return dX3_putIn_46 rfl
theorem c_takeOut_2 (l : Launch) {w : MW} {h : Nat} {n : Nat} {f : Nat → Int32} {c : Int32} (hh : h + 1 < w.1) (hn : n ≤ 30) {x : Int32} (hx : fndN f n x < n) : Ct l (.code yX3_takeOut cX3_takeOut 3 none) yX3_takeOut 4 0 0 [.ref h, .int x] (layW w h 0 [.int (bI true)] f n c) (.inl none) (layP w h 0 [.int (bI true)] (n - 1) (takeK ltI 2 n (fndN f n x) (f, c))) := by
  refine ct_of (by decide +kernel) (Nat.le_of_ble_eq_true rfl) ?_
  refine go_aload_n dX3_takeOut_0 rfl ?_
  refine go_iload_n dX3_takeOut_1 rfl ?_
  refine go_virt1 dX3_takeOut_2 (c_find l hh (Or.inl rfl) hn (x := x)) v_X3_37_0 rfl (layW_ob hh) rfl (Nat.le_of_ble_eq_true rfl) (Nat.le_of_ble_eq_true rfl) (Nat.le_of_ble_eq_true rfl) ?_
  rw [show fndR f n x = nI (fndN f n x) from if_pos hx]
  refine go_istore_n dX3_takeOut_5 (Nat.le_of_ble_eq_true rfl) rfl ?_
  refine go_aload_n dX3_takeOut_6 rfl ?_
  refine go_iload_n dX3_takeOut_7 rfl ?_
  refine go_virt1 dX3_takeOut_8 (c_isPos1 l hh (Or.inl rfl) hn (j := fndN f n x) hx) v_X3_19_0 rfl (layW_ob hh) rfl (Nat.le_of_ble_eq_true rfl) (Nat.le_of_ble_eq_true rfl) (Nat.le_of_ble_eq_true rfl) ?_
  refine go_if_eq_f 54 dX3_takeOut_11 (by decide) (by decide) ?_
  refine go_aload_n dX3_takeOut_14 rfl ?_
  refine go_getfield dX3_takeOut_15 f_X3_9_0 (layW_ob hh) rfl ?_
  refine go_iload_n dX3_takeOut_18 rfl ?_
  refine go_aload_n dX3_takeOut_19 rfl ?_
  refine go_getfield dX3_takeOut_20 f_X3_9_0 (layW_ob hh) rfl ?_
  refine go_aload_n dX3_takeOut_23 rfl ?_
  refine go_getfield dX3_takeOut_24 f_X3_15_0 (layW_ob hh) rfl ?_
  refine go_iconst 1 dX3_takeOut_27 (by decide) ?_
  refine go_isub dX3_takeOut_28 ?_
  rw [a_pred (by omega)]
  refine go_iaload (n - 1) dX3_takeOut_29 (layW_ar hh) rfl (by omega) (by decide) ?_
  refine go_iastore (fndN f n x) dX3_takeOut_30 (layW_ar hh) rfl (by omega) (by decide) ?_
  rw [layW_upA]
  refine go_aload_n dX3_takeOut_31 rfl ?_
  refine go_dup dX3_takeOut_32 rfl ?_
  refine go_getfield dX3_takeOut_33 f_X3_15_0 (layW_ob hh) rfl ?_
  refine go_iconst 1 dX3_takeOut_36 (by decide) ?_
  refine go_isub dX3_takeOut_37 ?_
  refine go_putfield dX3_takeOut_38 p_X3_15_0 (layW_ob hh) (by simp only [List.length_cons]; omega) (fun _ => ⟨rfl, rfl⟩) (fun _ z => nomatch z) ?_
  rw [a_pred (by omega), layW_upN]
  refine go_iload_n dX3_takeOut_41 rfl ?_
  refine go_aload_n dX3_takeOut_42 rfl ?_
  refine go_getfield dX3_takeOut_43 f_X3_15_0 (layW_ob hh) rfl ?_
  refine go_icmp_ge 54 dX3_takeOut_46 (by decide) (fun q46 => ?_) (fun q46 => ?_)
  · have z46 := n_le' q46 (by omega) (by omega)
    rw [show takeK ltI 2 n (fndN f n x) (f, c) = (upd f (fndN f n x) (f (n - 1)), c) from if_neg (by omega)]
    exact go_return dX3_takeOut_54 rfl
  · have z46 := n_lt' q46 (by omega)
    rw [show takeK ltI 2 n (fndN f n x) (f, c) = settleK ltI 2 (n - 1) (fndN f n x) (upd f (fndN f n x) (f (n - 1)), c) from if_pos z46, settleK_2]
    refine go_aload_n dX3_takeOut_49 rfl ?_
    refine go_iload_n dX3_takeOut_50 rfl ?_
    refine go_virt0 dX3_takeOut_51 (c_settle2 l hh (n := n - 1) (by omega) z46) v_X3_40_0 rfl (layW_ob hh) rfl (Nat.le_of_ble_eq_true rfl) (Nat.le_of_ble_eq_true rfl) (Nat.le_of_ble_eq_true rfl) ?_
    exact go_return dX3_takeOut_54 rfl
theorem c_giveKey_2 (l : Launch) {w : MW} {h : Nat} {n : Nat} {f : Nat → Int32} {c : Int32} (hh : h + 1 < w.1) (hn : n ≤ 30) {x ky : Int32} (hx : fndN f n x < n) : Ct l (.code yX3_giveKey cX3_giveKey 4 none) yX3_giveKey 4 0 0 [.ref h, .int x, .int ky] (layW w h 0 [.int (bI true)] f n c) (.inl none) (layP w h 0 [.int (bI true)] n (settleK ltI 2 n (fndN f n x) (upd f (fndN f n x) (encI ky x), c))) := by
  rw [settleK_2]
  refine ct_of (by decide +kernel) (Nat.le_of_ble_eq_true rfl) ?_
  refine go_aload_n dX3_giveKey_0 rfl ?_
  refine go_iload_n dX3_giveKey_1 rfl ?_
  refine go_virt1 dX3_giveKey_2 (c_find l hh (Or.inl rfl) hn (x := x)) v_X3_37_0 rfl (layW_ob hh) rfl (Nat.le_of_ble_eq_true rfl) (Nat.le_of_ble_eq_true rfl) (Nat.le_of_ble_eq_true rfl) ?_
  rw [show fndR f n x = nI (fndN f n x) from if_pos hx]
  refine go_istore_n dX3_giveKey_5 (Nat.le_of_ble_eq_true rfl) rfl ?_
  refine go_aload_n dX3_giveKey_6 rfl ?_
  refine go_iload_n dX3_giveKey_7 rfl ?_
  refine go_virt1 dX3_giveKey_8 (c_isPos1 l hh (Or.inl rfl) hn (j := fndN f n x) hx) v_X3_19_0 rfl (layW_ob hh) rfl (Nat.le_of_ble_eq_true rfl) (Nat.le_of_ble_eq_true rfl) (Nat.le_of_ble_eq_true rfl) ?_
  refine go_if_eq_f 30 dX3_giveKey_11 (by decide) (by decide) ?_
  refine go_aload_n dX3_giveKey_14 rfl ?_
  refine go_getfield dX3_giveKey_15 f_X3_9_0 (layW_ob hh) rfl ?_
  refine go_iload_n dX3_giveKey_18 rfl ?_
  refine go_iload_n dX3_giveKey_19 rfl ?_
  refine go_iconst 5 dX3_giveKey_20 (by decide) ?_
  refine go_ishl dX3_giveKey_21 ?_
  refine go_iload_n dX3_giveKey_22 rfl ?_
  refine go_iadd dX3_giveKey_23 ?_
  refine go_iastore (fndN f n x) dX3_giveKey_24 (layW_ar hh) rfl (by omega) (by decide) ?_
  rw [layW_upA]
  refine go_aload_n dX3_giveKey_25 rfl ?_
  refine go_iload_n dX3_giveKey_26 rfl ?_
  refine go_virt0 dX3_giveKey_27 (c_settle2 l hh hn hx) v_X3_40_0 rfl (layW_ob hh) rfl (Nat.le_of_ble_eq_true rfl) (Nat.le_of_ble_eq_true rfl) (Nat.le_of_ble_eq_true rfl) ?_
  exact go_return dX3_giveKey_30 rfl
theorem c_putIn_3 (l : Launch) {w : MW} {h : Nat} {n : Nat} {f : Nat → Int32} {c : Int32} (hh : h + 1 < w.1) (hn : n < 30) {x ky : Int32} : Ct l (.code yX3_putIn cX3_putIn 3 none) yX3_putIn 3 0 0 [.ref h, .int x, .int ky] (layW w h 0 [.int (bI false)] f n c) (.inl none) (layP w h 0 [.int (bI false)] (n + 1) (enterK ltI 3 n (upd f n (encI ky x), c))) := by
  rw [enterK_3]
  refine ct_of (by decide +kernel) (Nat.le_of_ble_eq_true rfl) ?_
  refine go_aload_n dX3_putIn_0 rfl ?_
  refine go_getfield dX3_putIn_1 f_X3_15_0 (layW_ob hh) rfl ?_
  refine go_aload_n dX3_putIn_4 rfl ?_
  refine go_getfield dX3_putIn_5 f_X3_9_0 (layW_ob hh) rfl ?_
  refine go_alen 0 (fun _ => rfl) dX3_putIn_8 (layW_ar hh) ?_
  refine go_icmp_ge_f 46 dX3_putIn_9 (by decide) (n_nle (a := 30) hn (by decide)) ?_
  refine go_aload_n dX3_putIn_12 rfl ?_
  refine go_getfield dX3_putIn_13 f_X3_9_0 (layW_ob hh) rfl ?_
  refine go_aload_n dX3_putIn_16 rfl ?_
  refine go_getfield dX3_putIn_17 f_X3_15_0 (layW_ob hh) rfl ?_
  refine go_iload_n dX3_putIn_20 rfl ?_
  refine go_iconst 5 dX3_putIn_21 (by decide) ?_
  refine go_ishl dX3_putIn_22 ?_
  refine go_iload_n dX3_putIn_23 rfl ?_
  refine go_iadd dX3_putIn_24 ?_
  refine go_iastore n dX3_putIn_25 (layW_ar hh) rfl (by omega) (by decide) ?_
  rw [layW_upA]
  refine go_aload_n dX3_putIn_26 rfl ?_
  refine go_dup dX3_putIn_27 rfl ?_
  refine go_getfield dX3_putIn_28 f_X3_15_0 (layW_ob hh) rfl ?_
  refine go_iconst 1 dX3_putIn_31 (by decide) ?_
  refine go_iadd dX3_putIn_32 ?_
  refine go_putfield dX3_putIn_33 p_X3_15_0 (layW_ob hh) (by simp only [List.length_cons]; omega) (fun _ => ⟨rfl, rfl⟩) (fun _ z => nomatch z) ?_
  rw [a_k1, layW_upN]
  refine go_aload_n dX3_putIn_36 rfl ?_
  refine go_aload_n dX3_putIn_37 rfl ?_
  refine go_getfield dX3_putIn_38 f_X3_15_0 (layW_ob hh) rfl ?_
  refine go_iconst 1 dX3_putIn_41 (by decide) ?_
  refine go_isub dX3_putIn_42 ?_
  rw [a_pred (by omega)]
  refine go_virt0 dX3_putIn_43 (c_up l hh (n := n + 1) (by omega) (by omega)) v_X3_33_0 rfl (layW_ob hh) rfl (Nat.le_of_ble_eq_true rfl) (Nat.le_of_ble_eq_true rfl) (Nat.le_of_ble_eq_true rfl) ?_
  exact go_return dX3_putIn_46 rfl
theorem c_takeOut_3 (l : Launch) {w : MW} {h : Nat} {n : Nat} {f : Nat → Int32} {c : Int32} (hh : h + 1 < w.1) (hn : n ≤ 30) {x : Int32} (hx : fndN f n x < n) : Ct l (.code yX3_takeOut cX3_takeOut 3 none) yX3_takeOut 4 0 0 [.ref h, .int x] (layW w h 0 [.int (bI false)] f n c) (.inl none) (layP w h 0 [.int (bI false)] (n - 1) (takeK ltI 3 n (fndN f n x) (f, c))) := by
  refine ct_of (by decide +kernel) (Nat.le_of_ble_eq_true rfl) ?_
  refine go_aload_n dX3_takeOut_0 rfl ?_
  refine go_iload_n dX3_takeOut_1 rfl ?_
  refine go_virt1 dX3_takeOut_2 (c_find l hh (Or.inl rfl) hn (x := x)) v_X3_37_0 rfl (layW_ob hh) rfl (Nat.le_of_ble_eq_true rfl) (Nat.le_of_ble_eq_true rfl) (Nat.le_of_ble_eq_true rfl) ?_
  rw [show fndR f n x = nI (fndN f n x) from if_pos hx]
  refine go_istore_n dX3_takeOut_5 (Nat.le_of_ble_eq_true rfl) rfl ?_
  refine go_aload_n dX3_takeOut_6 rfl ?_
  refine go_iload_n dX3_takeOut_7 rfl ?_
  refine go_virt1 dX3_takeOut_8 (c_isPos1 l hh (Or.inl rfl) hn (j := fndN f n x) hx) v_X3_19_0 rfl (layW_ob hh) rfl (Nat.le_of_ble_eq_true rfl) (Nat.le_of_ble_eq_true rfl) (Nat.le_of_ble_eq_true rfl) ?_
  refine go_if_eq_f 54 dX3_takeOut_11 (by decide) (by decide) ?_
  refine go_aload_n dX3_takeOut_14 rfl ?_
  refine go_getfield dX3_takeOut_15 f_X3_9_0 (layW_ob hh) rfl ?_
  refine go_iload_n dX3_takeOut_18 rfl ?_
  refine go_aload_n dX3_takeOut_19 rfl ?_
  refine go_getfield dX3_takeOut_20 f_X3_9_0 (layW_ob hh) rfl ?_
  refine go_aload_n dX3_takeOut_23 rfl ?_
  refine go_getfield dX3_takeOut_24 f_X3_15_0 (layW_ob hh) rfl ?_
  refine go_iconst 1 dX3_takeOut_27 (by decide) ?_
  refine go_isub dX3_takeOut_28 ?_
  rw [a_pred (by omega)]
  refine go_iaload (n - 1) dX3_takeOut_29 (layW_ar hh) rfl (by omega) (by decide) ?_
  refine go_iastore (fndN f n x) dX3_takeOut_30 (layW_ar hh) rfl (by omega) (by decide) ?_
  rw [layW_upA]
  refine go_aload_n dX3_takeOut_31 rfl ?_
  refine go_dup dX3_takeOut_32 rfl ?_
  refine go_getfield dX3_takeOut_33 f_X3_15_0 (layW_ob hh) rfl ?_
  refine go_iconst 1 dX3_takeOut_36 (by decide) ?_
  refine go_isub dX3_takeOut_37 ?_
  refine go_putfield dX3_takeOut_38 p_X3_15_0 (layW_ob hh) (by simp only [List.length_cons]; omega) (fun _ => ⟨rfl, rfl⟩) (fun _ z => nomatch z) ?_
  rw [a_pred (by omega), layW_upN]
  refine go_iload_n dX3_takeOut_41 rfl ?_
  refine go_aload_n dX3_takeOut_42 rfl ?_
  refine go_getfield dX3_takeOut_43 f_X3_15_0 (layW_ob hh) rfl ?_
  refine go_icmp_ge 54 dX3_takeOut_46 (by decide) (fun q46 => ?_) (fun q46 => ?_)
  · have z46 := n_le' q46 (by omega) (by omega)
    rw [show takeK ltI 3 n (fndN f n x) (f, c) = (upd f (fndN f n x) (f (n - 1)), c) from if_neg (by omega)]
    exact go_return dX3_takeOut_54 rfl
  · have z46 := n_lt' q46 (by omega)
    rw [show takeK ltI 3 n (fndN f n x) (f, c) = settleK ltI 3 (n - 1) (fndN f n x) (upd f (fndN f n x) (f (n - 1)), c) from if_pos z46, settleK_3]
    refine go_aload_n dX3_takeOut_49 rfl ?_
    refine go_iload_n dX3_takeOut_50 rfl ?_
    refine go_virt0 dX3_takeOut_51 (c_settle2 l hh (n := n - 1) (by omega) z46) v_X3_40_0 rfl (layW_ob hh) rfl (Nat.le_of_ble_eq_true rfl) (Nat.le_of_ble_eq_true rfl) (Nat.le_of_ble_eq_true rfl) ?_
    exact go_return dX3_takeOut_54 rfl
theorem c_giveKey_3 (l : Launch) {w : MW} {h : Nat} {n : Nat} {f : Nat → Int32} {c : Int32} (hh : h + 1 < w.1) (hn : n ≤ 30) {x ky : Int32} (hx : fndN f n x < n) : Ct l (.code yX3_giveKey cX3_giveKey 4 none) yX3_giveKey 4 0 0 [.ref h, .int x, .int ky] (layW w h 0 [.int (bI false)] f n c) (.inl none) (layP w h 0 [.int (bI false)] n (settleK ltI 3 n (fndN f n x) (upd f (fndN f n x) (encI ky x), c))) := by
  rw [settleK_3]
  refine ct_of (by decide +kernel) (Nat.le_of_ble_eq_true rfl) ?_
  refine go_aload_n dX3_giveKey_0 rfl ?_
  refine go_iload_n dX3_giveKey_1 rfl ?_
  refine go_virt1 dX3_giveKey_2 (c_find l hh (Or.inl rfl) hn (x := x)) v_X3_37_0 rfl (layW_ob hh) rfl (Nat.le_of_ble_eq_true rfl) (Nat.le_of_ble_eq_true rfl) (Nat.le_of_ble_eq_true rfl) ?_
  rw [show fndR f n x = nI (fndN f n x) from if_pos hx]
  refine go_istore_n dX3_giveKey_5 (Nat.le_of_ble_eq_true rfl) rfl ?_
  refine go_aload_n dX3_giveKey_6 rfl ?_
  refine go_iload_n dX3_giveKey_7 rfl ?_
  refine go_virt1 dX3_giveKey_8 (c_isPos1 l hh (Or.inl rfl) hn (j := fndN f n x) hx) v_X3_19_0 rfl (layW_ob hh) rfl (Nat.le_of_ble_eq_true rfl) (Nat.le_of_ble_eq_true rfl) (Nat.le_of_ble_eq_true rfl) ?_
  refine go_if_eq_f 30 dX3_giveKey_11 (by decide) (by decide) ?_
  refine go_aload_n dX3_giveKey_14 rfl ?_
  refine go_getfield dX3_giveKey_15 f_X3_9_0 (layW_ob hh) rfl ?_
  refine go_iload_n dX3_giveKey_18 rfl ?_
  refine go_iload_n dX3_giveKey_19 rfl ?_
  refine go_iconst 5 dX3_giveKey_20 (by decide) ?_
  refine go_ishl dX3_giveKey_21 ?_
  refine go_iload_n dX3_giveKey_22 rfl ?_
  refine go_iadd dX3_giveKey_23 ?_
  refine go_iastore (fndN f n x) dX3_giveKey_24 (layW_ar hh) rfl (by omega) (by decide) ?_
  rw [layW_upA]
  refine go_aload_n dX3_giveKey_25 rfl ?_
  refine go_iload_n dX3_giveKey_26 rfl ?_
  refine go_virt0 dX3_giveKey_27 (c_settle2 l hh hn hx) v_X3_40_0 rfl (layW_ob hh) rfl (Nat.le_of_ble_eq_true rfl) (Nat.le_of_ble_eq_true rfl) (Nat.le_of_ble_eq_true rfl) ?_
  exact go_return dX3_giveKey_30 rfl
theorem c_lineUp_4 (l : Launch) {w : MW} {h ci : Nat} {xt : List Value} {n : Nat} {c : Int32} (hh : h + 1 < w.1) (hci : ci = 0 ∨ ci = 2 ∨ ci = 3) (hn : n ≤ 30) : ∀ (u a x : Nat) (f r : Nat → Int32), u + a = 30 → (∀ i, i < x → ∃ b, b < a ∧ hs (f i) = nI b) → r = lineS n u a x f → Go l yX3_lineUp cX3_lineUp 4 none [] none (mm_Z (mm_eq (.inl none) (layW w h ci xt r n c))) 3 0 0 4 [(0, .ref h), (1, .int (nI x)), (2, .int (nI a))] [] (layW w h ci xt f n c) := by
  intro u
  induction u with
  | zero =>
    intro a x f r ha hI hr
    subst hr
    refine go_iload_n dX3_lineUp_4 rfl ?_
    refine go_bipush 30 dX3_lineUp_5 (by decide) ?_
    refine go_icmp_ge_t 36 dX3_lineUp_7 (by decide) (nI_le (a := 30) (by omega) (by omega)) ?_
    exact go_return dX3_lineUp_36 rfl
  | succ u ih =>
    intro a x f r ha hI hr
    unfold lineS at hr
    by_cases e : fndN f n (nI a) < n
    · rw [if_pos e] at hr
      have hit : hs (f (fndN f n (nI a))) = nI a := by
        have z := ff_hit (fun j => decide (hs (f j) = nI a)) n 0 (by rw [Nat.zero_add]; exact e)
        exact of_decide_eq_true z
      have hx : x ≤ fndN f n (nI a) := by
        rcases Nat.lt_or_ge (fndN f n (nI a)) x with z | z
        · obtain ⟨b, hb, hb2⟩ := hI _ z
          rw [hit] at hb2
          have := (nI_eq (by omega) (by omega)).mp hb2
          omega
        · exact z
      have hI2 : ∀ i, i < x + 1 → ∃ b, b < a + 1 ∧ hs (sw f x (fndN f n (nI a)) i) = nI b := by
        intro i hi
        by_cases e1 : i = x
        · subst e1
          exact ⟨a, by omega, by rw [sw_at_i]; exact hit⟩
        · obtain ⟨b, hb, hb2⟩ := hI i (by omega)
          exact ⟨b, by omega, by rw [sw_at_o e1 (by omega)]; exact hb2⟩
      refine go_iload_n dX3_lineUp_4 rfl ?_
      refine go_bipush 30 dX3_lineUp_5 (by decide) ?_
      refine go_icmp_ge_f 36 dX3_lineUp_7 (by decide) (n_nle (a := 30) (by omega) (by decide)) ?_
      refine go_aload_n dX3_lineUp_10 rfl ?_
      refine go_iload_n dX3_lineUp_11 rfl ?_
      refine go_virt1 dX3_lineUp_12 (c_find l hh hci hn (x := nI a)) (v_X3_37 hci) rfl (layW_ob hh) rfl (Nat.le_of_ble_eq_true rfl) (Nat.le_of_ble_eq_true rfl) (Nat.le_of_ble_eq_true rfl) ?_
      rw [show fndR f n (nI a) = nI (fndN f n (nI a)) from if_pos e]
      refine go_istore_n dX3_lineUp_15 (Nat.le_of_ble_eq_true rfl) rfl ?_
      refine go_iload_n dX3_lineUp_16 rfl ?_
      refine go_iconst (-1) dX3_lineUp_17 (by decide) ?_
      refine go_icmp_eq_f 30 dX3_lineUp_18 (by decide) (fun z => absurd (congrArg Int32.toInt z) (by rw [nI_toInt (by omega)]; intro z2; have : ((-1 : Int32)).toInt = -1 := rfl; omega)) ?_
      refine go_aload_n dX3_lineUp_21 rfl ?_
      refine go_iload_n dX3_lineUp_22 rfl ?_
      refine go_iload_n dX3_lineUp_23 rfl ?_
      refine go_virt0 dX3_lineUp_24 (c_exchange l hh hci hn (i := x) (j := fndN f n (nI a)) (by omega) e) (v_X3_49 hci) rfl (layW_ob hh) rfl (Nat.le_of_ble_eq_true rfl) (Nat.le_of_ble_eq_true rfl) (Nat.le_of_ble_eq_true rfl) ?_
      refine go_iinc dX3_lineUp_27 rfl (Nat.le_of_ble_eq_true rfl) rfl (show _ = _ + 1 from rfl) ?_
      rw [a_k1]
      refine go_iinc dX3_lineUp_30 rfl (Nat.le_of_ble_eq_true rfl) rfl (show _ = _ + 1 from rfl) ?_
      rw [a_k1]
      refine go_goto 4 dX3_lineUp_33 (by decide) ?_
      exact go_sub [(0, .ref h), (1, .int (nI (x + 1))), (2, .int (nI (a + 1)))] ⟨rfl, rfl, rfl, trivial⟩ (ih (a + 1) (x + 1) _ r (by omega) hI2 hr)
    · rw [if_neg e] at hr
      have hI2 : ∀ i, i < x → ∃ b, b < a + 1 ∧ hs (f i) = nI b := by
        intro i hi
        obtain ⟨b, hb, hb2⟩ := hI i hi
        exact ⟨b, by omega, hb2⟩
      refine go_iload_n dX3_lineUp_4 rfl ?_
      refine go_bipush 30 dX3_lineUp_5 (by decide) ?_
      refine go_icmp_ge_f 36 dX3_lineUp_7 (by decide) (n_nle (a := 30) (by omega) (by decide)) ?_
      refine go_aload_n dX3_lineUp_10 rfl ?_
      refine go_iload_n dX3_lineUp_11 rfl ?_
      refine go_virt1 dX3_lineUp_12 (c_find l hh hci hn (x := nI a)) (v_X3_37 hci) rfl (layW_ob hh) rfl (Nat.le_of_ble_eq_true rfl) (Nat.le_of_ble_eq_true rfl) (Nat.le_of_ble_eq_true rfl) ?_
      rw [show fndR f n (nI a) = -1 from if_neg e]
      refine go_istore_n dX3_lineUp_15 (Nat.le_of_ble_eq_true rfl) rfl ?_
      refine go_iload_n dX3_lineUp_16 rfl ?_
      refine go_iconst (-1) dX3_lineUp_17 (by decide) ?_
      refine go_icmp_eq_t 30 dX3_lineUp_18 (by decide) (rfl) ?_
      refine go_iinc dX3_lineUp_30 rfl (Nat.le_of_ble_eq_true rfl) rfl (show _ = _ + 1 from rfl) ?_
      rw [a_k1]
      refine go_goto 4 dX3_lineUp_33 (by decide) ?_
      exact go_sub [(0, .ref h), (1, .int (nI x)), (2, .int (nI (a + 1)))] ⟨rfl, rfl, rfl, trivial⟩ (ih (a + 1) x _ r (by omega) hI2 hr)
theorem c_lineUp (l : Launch) {w : MW} {h ci : Nat} {xt : List Value} {n : Nat} {c : Int32} (hh : h + 1 < w.1) (hci : ci = 0 ∨ ci = 2 ∨ ci = 3) (hn : n ≤ 30) {f : Nat → Int32} : Ct l (.code yX3_lineUp cX3_lineUp 4 none) yX3_lineUp 3 0 0 [.ref h] (layW w h ci xt f n c) (.inl none) (layW w h ci xt (lineS n 30 0 0 f) n c) := by
  refine ct_of (by decide +kernel) (Nat.le_of_ble_eq_true rfl) ?_
  refine go_iconst 0 dX3_lineUp_0 (by decide) ?_
  refine go_istore_n dX3_lineUp_1 (Nat.le_of_ble_eq_true rfl) rfl ?_
  refine go_iconst 0 dX3_lineUp_2 (by decide) ?_
  refine go_istore_n dX3_lineUp_3 (Nat.le_of_ble_eq_true rfl) rfl ?_
  exact go_sub [(0, .ref h), (1, .int (nI 0)), (2, .int (nI 0))] ⟨rfl, rfl, rfl, trivial⟩ (c_lineUp_4 l hh hci hn 30 0 0 f _ rfl (fun i hi => absurd hi (Nat.not_lt_zero _)) rfl)
theorem c_arrange_0 (l : Launch) {w : MW} {h : Nat} {n : Nat} {f : Nat → Int32} {c : Int32} (hh : h + 1 < w.1) (hn : n ≤ 30) : Ct l (.code yX3_arrange cX3_arrange 1 none) yX3_arrange 4 0 0 [.ref h] (layW w h 2 [] f n c) (.inl none) (layP w h 2 [] n (allK ltI 0 n (lineS n 30 0 0 f, c))) := by
  rw [allK_0]
  refine ct_of (by decide +kernel) (Nat.le_of_ble_eq_true rfl) ?_
  refine go_aload_n dX3_arrange_0 rfl ?_
  refine go_virt0 dX3_arrange_1 (c_lineUp l hh (Or.inr (Or.inl rfl)) hn) v_X3_43_2 rfl (layW_ob hh) rfl (Nat.le_of_ble_eq_true rfl) (Nat.le_of_ble_eq_true rfl) (Nat.le_of_ble_eq_true rfl) ?_
  refine go_aload_n dX3_arrange_4 rfl ?_
  refine go_virt0 dX3_arrange_5 (c_settleAll0 l hh hn) v_X3_46_2 rfl (layW_ob hh) rfl (Nat.le_of_ble_eq_true rfl) (Nat.le_of_ble_eq_true rfl) (Nat.le_of_ble_eq_true rfl) ?_
  exact go_return dX3_arrange_8 rfl
theorem c_arrange_1 (l : Launch) {w : MW} {h : Nat} {n : Nat} {f : Nat → Int32} {c : Int32} (hh : h + 1 < w.1) (hn : n ≤ 30) : Ct l (.code yX3_arrange cX3_arrange 1 none) yX3_arrange 4 0 0 [.ref h] (layW w h 3 [] f n c) (.inl none) (layP w h 3 [] n (allK ltI 1 n (lineS n 30 0 0 f, c))) := by
  rw [allK_1]
  refine ct_of (by decide +kernel) (Nat.le_of_ble_eq_true rfl) ?_
  refine go_aload_n dX3_arrange_0 rfl ?_
  refine go_virt0 dX3_arrange_1 (c_lineUp l hh (Or.inr (Or.inr rfl)) hn) v_X3_43_3 rfl (layW_ob hh) rfl (Nat.le_of_ble_eq_true rfl) (Nat.le_of_ble_eq_true rfl) (Nat.le_of_ble_eq_true rfl) ?_
  refine go_aload_n dX3_arrange_4 rfl ?_
  refine go_virt0 dX3_arrange_5 (c_settleAll1 l hh hn) v_X3_46_3 rfl (layW_ob hh) rfl (Nat.le_of_ble_eq_true rfl) (Nat.le_of_ble_eq_true rfl) (Nat.le_of_ble_eq_true rfl) ?_
  exact go_return dX3_arrange_8 rfl
theorem c_arrange_2 (l : Launch) {w : MW} {h : Nat} {n : Nat} {f : Nat → Int32} {c : Int32} (hh : h + 1 < w.1) (hn : n ≤ 30) : Ct l (.code yX3_arrange cX3_arrange 1 none) yX3_arrange 4 0 0 [.ref h] (layW w h 0 [.int (bI true)] f n c) (.inl none) (layP w h 0 [.int (bI true)] n (allK ltI 2 n (lineS n 30 0 0 f, c))) := by
  rw [allK_2]
  refine ct_of (by decide +kernel) (Nat.le_of_ble_eq_true rfl) ?_
  refine go_aload_n dX3_arrange_0 rfl ?_
  refine go_virt0 dX3_arrange_1 (c_lineUp l hh (Or.inl rfl) hn) v_X3_43_0 rfl (layW_ob hh) rfl (Nat.le_of_ble_eq_true rfl) (Nat.le_of_ble_eq_true rfl) (Nat.le_of_ble_eq_true rfl) ?_
  refine go_aload_n dX3_arrange_4 rfl ?_
  refine go_virt0 dX3_arrange_5 (c_settleAll2 l hh hn) v_X3_46_0 rfl (layW_ob hh) rfl (Nat.le_of_ble_eq_true rfl) (Nat.le_of_ble_eq_true rfl) (Nat.le_of_ble_eq_true rfl) ?_
  exact go_return dX3_arrange_8 rfl
theorem c_arrange_3 (l : Launch) {w : MW} {h : Nat} {n : Nat} {f : Nat → Int32} {c : Int32} (hh : h + 1 < w.1) (hn : n ≤ 30) : Ct l (.code yX3_arrange cX3_arrange 1 none) yX3_arrange 4 0 0 [.ref h] (layW w h 0 [.int (bI false)] f n c) (.inl none) (layP w h 0 [.int (bI false)] n (allK ltI 3 n (lineS n 30 0 0 f, c))) := by
  rw [allK_3]
  refine ct_of (by decide +kernel) (Nat.le_of_ble_eq_true rfl) ?_
  refine go_aload_n dX3_arrange_0 rfl ?_
  refine go_virt0 dX3_arrange_1 (c_lineUp l hh (Or.inl rfl) hn) v_X3_43_0 rfl (layW_ob hh) rfl (Nat.le_of_ble_eq_true rfl) (Nat.le_of_ble_eq_true rfl) (Nat.le_of_ble_eq_true rfl) ?_
  refine go_aload_n dX3_arrange_4 rfl ?_
  refine go_virt0 dX3_arrange_5 (c_settleAll2 l hh hn) v_X3_46_0 rfl (layW_ob hh) rfl (Nat.le_of_ble_eq_true rfl) (Nat.le_of_ble_eq_true rfl) (Nat.le_of_ble_eq_true rfl) ?_
  exact go_return dX3_arrange_8 rfl
theorem c_copyFrom (l : Launch) {w : MW} {h ci : Nat} {xt : List Value} {f : Nat → Int32} {n : Nat} {c : Int32} (hh : h + 1 < w.1) (hci : ci = 0 ∨ ci = 2 ∨ ci = 3) {g cj : Nat} {xt2 : List Value} {f2 : Nat → Int32} {n2 : Nat} {c2 : Int32} (hcj : cj = 0 ∨ cj = 2 ∨ cj = 3) (ho2 : mm_ob w g cj (.ref (g + 1) :: .int (nI n2) :: .int c2 :: xt2)) (ha2 : mm_ar w (g + 1) .int (30, .inl f2)) (h1 : g ≠ h) (h2 : g ≠ h + 1) (h3 : g + 1 ≠ h) (h4 : g + 1 ≠ h + 1) : Ct l (.code yX3_copyFrom cX3_copyFrom 2 none) yX3_copyFrom 2 0 0 [.ref h, .ref g] (layW w h ci xt f n c) (.inl none) (layW w h ci xt (va_cpy f2 f 0 0 30) n2 c2) := by
  refine ct_of (by decide +kernel) (Nat.le_of_ble_eq_true rfl) ?_
  refine go_aload_n dX3_copyFrom_0 rfl ?_
  refine go_getfield dX3_copyFrom_1 (f_X3_9 hcj) (layW_obo ho2 h1 h2) rfl ?_
  refine go_iconst 0 dX3_copyFrom_4 (by decide) ?_
  refine go_aload_n dX3_copyFrom_5 rfl ?_
  refine go_getfield dX3_copyFrom_6 (f_X3_9 hci) (layW_ob hh) rfl ?_
  refine go_iconst 0 dX3_copyFrom_9 (by decide) ?_
  refine go_bipush 30 dX3_copyFrom_10 (by decide) ?_
  refine go_copy dX3_copyFrom_12 kl_X3_53 kv_copy ks_copy ki_System (layW_aro ha2 h3 h4) (layW_ar hh) (N := 30) rfl (Nat.le_refl _) (Nat.le_refl _) (by decide) (Nat.le_of_ble_eq_true rfl) rfl ?_
  rw [layW_upA]
  refine go_aload_n dX3_copyFrom_15 rfl ?_
  refine go_aload_n dX3_copyFrom_16 rfl ?_
  refine go_getfield dX3_copyFrom_17 (f_X3_15 hcj) (layW_obo ho2 h1 h2) rfl ?_
  refine go_putfield dX3_copyFrom_20 (p_X3_15 hci) (layW_ob hh) (by simp only [List.length_cons]; omega) (fun _ => ⟨rfl, rfl⟩) (fun _ z => nomatch z) ?_
  rw [layW_upN]
  refine go_aload_n dX3_copyFrom_23 rfl ?_
  refine go_aload_n dX3_copyFrom_24 rfl ?_
  refine go_getfield dX3_copyFrom_25 (f_X3_30 hcj) (layW_obo ho2 h1 h2) rfl ?_
  refine go_putfield dX3_copyFrom_28 (p_X3_30 hci) (layW_ob hh) (by simp only [List.length_cons]; omega) (fun _ => ⟨rfl, rfl⟩) (fun _ z => nomatch z) ?_
  rw [layW_upC]
  exact go_return dX3_copyFrom_31 rfl
