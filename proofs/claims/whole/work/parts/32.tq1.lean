theorem min5 {k : Nat} (h : k ≤ 5) : (if (5 : Int32) < nI (k + 1) then (5 : Int32) else nI (k + 1)) = nI (min (k + 1) 5) := by
  rcases (show k = 0 ∨ k = 1 ∨ k = 2 ∨ k = 3 ∨ k = 4 ∨ k = 5 by omega) with rfl | rfl | rfl | rfl | rfl | rfl <;> decide
theorem c_keep (l : Launch) {w : MW} {Q U : QU} {H : HS} {t : Nat → Nat} {ln : Nat} {s : PS} (hw : 74 ≤ w.1) (hx : H.2.1 < 5) (hk : H.2.2 ≤ 5) : Ct l (.code yX1_keep cX1_keep 3 none) yX1_keep 4 0 0 [.ref 19, .ref 1] (tqW w Q U H t ln s) (.inl none) (tqW w Q U (keepH Q H) t ln s) := by
  refine ct_of (by decide +kernel) (Nat.le_of_ble_eq_true rfl) ?_
  refine go_aload_n dX1_keep_0 rfl ?_
  refine go_getfield dX1_keep_1 f_X1_11_1 (tq_obh hw) rfl ?_
  refine go_aload_n dX1_keep_4 rfl ?_
  refine go_getfield dX1_keep_5 f_X1_18_1 (tq_obh hw) rfl ?_
  refine go_aaload H.2.1 dX1_keep_8 (tq_arh hw) rfl hx (by decide) ?_
  rw [rng_at hx]
  refine go_astore_n dX1_keep_9 (Nat.le_of_ble_eq_true rfl) rfl ?_
  refine go_aload_n dX1_keep_10 rfl ?_
  refine go_ifnull dX1_keep_11 ?_
  refine go_aload_n dX1_keep_14 rfl ?_
  refine go_aload_n dX1_keep_15 rfl ?_
  refine go_virt0 dX1_keep_16 (tq_cpr hx (c_qcopyFrom l (w := (tqW w Q U H t ln s)) (p := 1) (q := 21 + 9 * H.2.1) (P := Q) (Q := H.1 H.2.1) (by show 1 + 8 < w.1; omega) (by show 21 + 9 * H.2.1 + 8 < w.1; omega) (Or.inl (by omega)))) v_X1_22_4 rfl (tq_obr hw hx) rfl (Nat.le_of_ble_eq_true rfl) (Nat.le_of_ble_eq_true rfl) (Nat.le_of_ble_eq_true rfl) ?_
  refine go_aload_n dX1_keep_19 rfl ?_
  refine go_aload_n dX1_keep_20 rfl ?_
  refine go_getfield dX1_keep_21 f_X1_18_1 (tq_obh hw) rfl ?_
  refine go_iconst 1 dX1_keep_24 (by decide) ?_
  refine go_iadd dX1_keep_25 ?_
  refine go_iconst 5 dX1_keep_26 (by decide) ?_
  rw [a_k1]
  refine go_irem dX1_keep_27 (by decide) ?_
  refine go_top (.int (nI ((H.2.1 + 1) % 5))) (congrArg Value.int (pk_rem (a := H.2.1 + 1) (d := 5) (by omega) (by decide) (by decide))) ?_
  refine go_putfield dX1_keep_28 p_X1_18_1 (tq_obh hw) (Nat.le_of_ble_eq_true rfl) (fun _ => ⟨rfl, rfl⟩) (fun _ z => nomatch z) ?_
  refine go_w _ (tq_fh ((H.2.1 + 1) % 5) H.2.2) ?_
  refine go_aload_n dX1_keep_31 rfl ?_
  refine go_aload_n dX1_keep_32 rfl ?_
  refine go_getfield dX1_keep_33 f_X1_26_1 (tq_obh hw) rfl ?_
  refine go_iconst 1 dX1_keep_36 (by decide) ?_
  refine go_iadd dX1_keep_37 ?_
  refine go_iconst 5 dX1_keep_38 (by decide) ?_
  rw [a_k1]
  refine go_min dX1_keep_39 kl_X1_29 ks_J9_min_7cf53 ki_J9 kc_J9_min_7cf53 (Nat.le_of_ble_eq_true rfl) (Nat.le_of_ble_eq_true rfl) ?_
  rw [min5 hk]
  refine go_putfield dX1_keep_42 p_X1_26_1 (tq_obh hw) (Nat.le_of_ble_eq_true rfl) (fun _ => ⟨rfl, rfl⟩) (fun _ z => nomatch z) ?_
  refine go_w _ (tq_fh ((H.2.1 + 1) % 5) (min (H.2.2 + 1) 5)) ?_
  exact go_return dX1_keep_45 rfl
theorem c_restore (l : Launch) {w : MW} {Q U : QU} {H : HS} {t : Nat → Nat} {ln : Nat} {s : PS} (hw : 74 ≤ w.1) (hx : H.2.1 < 5) (hk : H.2.2 ≤ 5) (hk0 : 0 < H.2.2) : Ct l (.code yX1_restore cX1_restore 4 none) yX1_restore 4 0 0 [.ref 19, .ref 1] (tqW w Q U H t ln s) (.inl none) (tqW w (cpU (H.1 (lastN H)) Q) U (undoH H) t ln s) := by
  refine ct_of (by decide +kernel) (Nat.le_of_ble_eq_true rfl) ?_
  have hL : lastN H < 5 := Nat.mod_lt _ (by decide)
  refine go_aload_n dX1_restore_0 rfl ?_
  refine go_getfield dX1_restore_1 f_X1_18_1 (tq_obh hw) rfl ?_
  refine go_iconst 5 dX1_restore_4 (by decide) ?_
  refine go_iadd dX1_restore_5 ?_
  refine go_iconst 1 dX1_restore_6 (by decide) ?_
  refine go_isub dX1_restore_7 ?_
  refine go_iconst 5 dX1_restore_8 (by decide) ?_
  rw [show nI H.2.1 + 5 - 1 = nI (H.2.1 + 4) from by rw [show nI H.2.1 + 5 = nI (H.2.1 + 5) from nI_add _ 5]; exact nI_pred (H.2.1 + 4)]
  refine go_irem dX1_restore_9 (by decide) ?_
  refine go_top (.int (nI (lastN H))) (congrArg Value.int (pk_rem (a := H.2.1 + 4) (d := 5) (by omega) (by decide) (by decide))) ?_
  refine go_istore_n dX1_restore_10 (Nat.le_of_ble_eq_true rfl) rfl ?_
  refine go_aload_n dX1_restore_11 rfl ?_
  refine go_getfield dX1_restore_12 f_X1_11_1 (tq_obh hw) rfl ?_
  refine go_iload_n dX1_restore_15 rfl ?_
  refine go_aaload (lastN H) dX1_restore_16 (tq_arh hw) rfl hL (by decide) ?_
  rw [rng_at hL]
  refine go_astore_n dX1_restore_17 (Nat.le_of_ble_eq_true rfl) rfl ?_
  refine go_aload_n dX1_restore_18 rfl ?_
  refine go_getfield dX1_restore_19 f_X1_26_1 (tq_obh hw) rfl ?_
  refine go_if_le_f 49 dX1_restore_22 (by decide) (nI_nle hk0 (by omega)) ?_
  refine go_aload_n dX1_restore_25 rfl ?_
  refine go_ifnull dX1_restore_26 ?_
  refine go_aload_n dX1_restore_29 rfl ?_
  refine go_aload_n dX1_restore_30 rfl ?_
  refine go_virt0 dX1_restore_31 (tq_cpq hL (c_qcopyFrom l (w := (tqW w Q U H t ln s)) (p := 21 + 9 * lastN H) (q := 1) (P := H.1 (lastN H)) (Q := Q) (by show 21 + 9 * lastN H + 8 < w.1; omega) (by show 1 + 8 < w.1; omega) (Or.inr (by omega)))) v_X1_22_4 rfl (tq_ob1 hw) rfl (Nat.le_of_ble_eq_true rfl) (Nat.le_of_ble_eq_true rfl) (Nat.le_of_ble_eq_true rfl) ?_
  refine go_aload_n dX1_restore_34 rfl ?_
  refine go_iload_n dX1_restore_35 rfl ?_
  refine go_putfield dX1_restore_36 p_X1_18_1 (tq_obh hw) (Nat.le_of_ble_eq_true rfl) (fun _ => ⟨rfl, rfl⟩) (fun _ z => nomatch z) ?_
  refine go_w _ (tq_fh (lastN H) H.2.2) ?_
  refine go_aload_n dX1_restore_39 rfl ?_
  refine go_dup dX1_restore_40 rfl ?_
  refine go_getfield dX1_restore_41 f_X1_26_1 (tq_obh hw) rfl ?_
  refine go_iconst 1 dX1_restore_44 (by decide) ?_
  refine go_isub dX1_restore_45 ?_
  rw [show nI H.2.2 - 1 = nI (H.2.2 - 1) from pk_sub (b := 1) hk0]
  refine go_putfield dX1_restore_46 p_X1_26_1 (tq_obh hw) (Nat.le_of_ble_eq_true rfl) (fun _ => ⟨rfl, rfl⟩) (fun _ z => nomatch z) ?_
  refine go_w _ (tq_fh (lastN H) (H.2.2 - 1)) ?_
  exact go_return dX1_restore_49 rfl
