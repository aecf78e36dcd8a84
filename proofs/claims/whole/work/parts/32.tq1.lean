section ALQ
variable {l : Launch} {y : MethodName} {cc : ByteArray} {nL : Nat} {ret : Option FieldType} {hh : List (Nat × Nat × Nat × Nat)} {ext : Option (Nat × (Nat → Int32))} {Z : MZ} {d bc bs : Nat} {pc : Nat} {lv : List (Nat × Value)} {st : List Value} {w : MW}
theorem go_alenq {a n : Nat} {f : Nat → Option Nat} {ty : FieldType} (t0 : Nat) (ht : ∀ dA, (mm_tys dA)[t0]? = some (dA ty, ty)) (hd : decode cc pc = .ok (.arraylength, 1)) (ho : mm_ar w a ty (n, .inr (.inr (.inr (.inr f))))) (h : Go l y cc nL ret hh ext Z d bc bs (pc + 1) lv (.int (nI n) :: st) w) : Go l y cc nL ret hh ext Z d bc bs pc lv (.ref a :: st) w := by
  intro p e R s m args below meth c D dA A ad0 N0 C H locs cells slots ad ls h1 h2 h3 h4 h5 h6 h7 h8
  have hS := C.2.2.2.2.2.2.2.2.2.2.2.1
  exact va_alen C.1 C.2.1 hS.2.1 h3.1 a t0 (mm_arQ_at ho) (ht dA) rfl hd (h p e R s m args below meth c D dA A ad0 N0 C H locs cells slots ad ls h1 h2 h3 h4 h5 h6 h7 (mm_O.cons mm_okv_int h8.tail))
end ALQ
theorem min5 {k : Nat} (h : k ≤ 5) : (if (5 : Int32) < nI (k + 1) then (5 : Int32) else nI (k + 1)) = nI (min (k + 1) 5) := by
  rcases (show k = 0 ∨ k = 1 ∨ k = 2 ∨ k = 3 ∨ k = 4 ∨ k = 5 by omega) with rfl | rfl | rfl | rfl | rfl | rfl <;> decide
theorem c_slotAt (l : Launch) {w : MW} {Q U : QU} {H : HS} {t : Nat → Nat} {ln : Nat} {s : PS} (hw : 74 ≤ w.1) {j : Nat} (hj : j < 5) : Ct l (.code yX1_slotAt cX1_slotAt 2 (some (.object "TwoEndQueues$Queues"))) yX1_slotAt 0 0 0 [.ref 19, .int (nI j)] (tqW w Q U H t ln s) (.inl (some (.ref (21 + 9 * j)))) (tqW w Q U H t ln s) := by
  refine ct_of (by decide +kernel) (Nat.le_of_ble_eq_true rfl) ?_
  refine go_iload_n dX1_slotAt_0 rfl ?_
  refine go_if_lt_f 22 dX1_slotAt_1 (by decide) (nI_pos (by omega)) ?_
  refine go_iload_n dX1_slotAt_4 rfl ?_
  refine go_aload_n dX1_slotAt_5 rfl ?_
  refine go_getfield dX1_slotAt_6 f_X1_11_1 (tq_obh hw) rfl ?_
  refine go_alenq 3 (fun _ => rfl) dX1_slotAt_9 (tq_arh hw) ?_
  refine go_icmp_ge_f 22 dX1_slotAt_10 (by decide) (n_nle hj (by decide)) ?_
  refine go_aload_n dX1_slotAt_13 rfl ?_
  refine go_getfield dX1_slotAt_14 f_X1_11_1 (tq_obh hw) rfl ?_
  refine go_iload_n dX1_slotAt_17 rfl ?_
  refine go_aaload j dX1_slotAt_18 (tq_arh hw) rfl hj (by decide) ?_
  rw [rng_at hj]
  refine go_goto 23 dX1_slotAt_19 (by decide) ?_
  exact go_areturn dX1_slotAt_23 rfl
theorem c_keep (l : Launch) {w : MW} {Q U : QU} {H : HS} {t : Nat → Nat} {ln : Nat} {s : PS} (hw : 74 ≤ w.1) (hx : H.2.1 < 5) (hk : H.2.2 ≤ 5) : Ct l (.code yX1_keep cX1_keep 3 none) yX1_keep 4 0 0 [.ref 19, .ref 1] (tqW w Q U H t ln s) (.inl none) (tqW w Q U (keepH Q H) t ln s) := by
  refine ct_of (by decide +kernel) (Nat.le_of_ble_eq_true rfl) ?_
  refine go_aload_n dX1_keep_0 rfl ?_
  refine go_aload_n dX1_keep_1 rfl ?_
  refine go_getfield dX1_keep_2 f_X1_18_1 (tq_obh hw) rfl ?_
  refine go_virt1 dX1_keep_5 (c_slotAt l hw hx) v_X1_22_1 rfl (tq_obh hw) rfl (Nat.le_of_ble_eq_true rfl) (Nat.le_of_ble_eq_true rfl) (Nat.le_of_ble_eq_true rfl) ?_
  refine go_astore_n dX1_keep_8 (Nat.le_of_ble_eq_true rfl) rfl ?_
  refine go_aload_n dX1_keep_9 rfl ?_
  refine go_ifnull dX1_keep_10 ?_
  refine go_aload_n dX1_keep_13 rfl ?_
  refine go_aload_n dX1_keep_14 rfl ?_
  refine go_virt0 dX1_keep_15 (tq_cpr hx (c_qcopyFrom l (w := (tqW w Q U H t ln s)) (p := 1) (q := 21 + 9 * H.2.1) (P := Q) (Q := H.1 H.2.1) (by show 1 + 8 < w.1; omega) (by show 21 + 9 * H.2.1 + 8 < w.1; omega) (Or.inl (by omega)))) v_X1_26_4 rfl (tq_obr hw hx) rfl (Nat.le_of_ble_eq_true rfl) (Nat.le_of_ble_eq_true rfl) (Nat.le_of_ble_eq_true rfl) ?_
  refine go_aload_n dX1_keep_18 rfl ?_
  refine go_aload_n dX1_keep_19 rfl ?_
  refine go_getfield dX1_keep_20 f_X1_18_1 (tq_obh hw) rfl ?_
  refine go_iconst 1 dX1_keep_23 (by decide) ?_
  refine go_iadd dX1_keep_24 ?_
  refine go_iconst 5 dX1_keep_25 (by decide) ?_
  rw [a_k1]
  refine go_irem dX1_keep_26 (by decide) ?_
  refine go_top (.int (nI ((H.2.1 + 1) % 5))) (congrArg Value.int (pk_rem (a := H.2.1 + 1) (d := 5) (by omega) (by decide) (by decide))) ?_
  refine go_putfield dX1_keep_27 p_X1_18_1 (tq_obh hw) (Nat.le_of_ble_eq_true rfl) (fun _ => ⟨rfl, rfl⟩) (fun _ z => nomatch z) ?_
  refine go_w _ (tq_fh ((H.2.1 + 1) % 5) H.2.2) ?_
  refine go_aload_n dX1_keep_30 rfl ?_
  refine go_aload_n dX1_keep_31 rfl ?_
  refine go_getfield dX1_keep_32 f_X1_30_1 (tq_obh hw) rfl ?_
  refine go_iconst 1 dX1_keep_35 (by decide) ?_
  refine go_iadd dX1_keep_36 ?_
  refine go_iconst 5 dX1_keep_37 (by decide) ?_
  rw [a_k1]
  refine go_min dX1_keep_38 kl_X1_33 ks_J9_min_7cf53 ki_J9 kc_J9_min_7cf53 (Nat.le_of_ble_eq_true rfl) (Nat.le_of_ble_eq_true rfl) ?_
  rw [min5 hk]
  refine go_putfield dX1_keep_41 p_X1_30_1 (tq_obh hw) (Nat.le_of_ble_eq_true rfl) (fun _ => ⟨rfl, rfl⟩) (fun _ z => nomatch z) ?_
  refine go_w _ (tq_fh ((H.2.1 + 1) % 5) (min (H.2.2 + 1) 5)) ?_
  exact go_return dX1_keep_44 rfl
theorem c_restore (l : Launch) {w : MW} {Q U : QU} {H : HS} {t : Nat → Nat} {ln : Nat} {s : PS} (hw : 74 ≤ w.1) (hx : H.2.1 < 5) (hk : H.2.2 ≤ 5) (hk0 : 0 < H.2.2) : Ct l (.code yX1_restore cX1_restore 4 none) yX1_restore 4 0 0 [.ref 19, .ref 1] (tqW w Q U H t ln s) (.inl none) (tqW w (cpU (H.1 (lastN H)) Q) U (undoH H) t ln s) := by
  refine ct_of (by decide +kernel) (Nat.le_of_ble_eq_true rfl) ?_
  have hL : lastN H < 5 := Nat.mod_lt _ (by decide)
  refine go_aload_n dX1_restore_0 rfl ?_
  refine go_getfield dX1_restore_1 f_X1_18_1 (tq_obh hw) rfl ?_
  refine go_iconst 5 dX1_restore_4 (by decide) ?_
  refine go_iadd dX1_restore_5 ?_
  refine go_iconst 1 dX1_restore_6 (by decide) ?_
  refine go_isub dX1_restore_7 ?_
  refine go_iconst 5 dX1_restore_8 (by decide) ?_
  rw [show nI H.2.1 + 5 - 1 = nI (H.2.1 + 4) from by rw [show nI H.2.1 + 5 = nI (H.2.1 + 5) from nI_add _ 5]; exact nI_pred (H.2.1 + 4)]
  refine go_irem dX1_restore_9 (by decide) ?_
  refine go_top (.int (nI (lastN H))) (congrArg Value.int (pk_rem (a := H.2.1 + 4) (d := 5) (by omega) (by decide) (by decide))) ?_
  refine go_istore_n dX1_restore_10 (Nat.le_of_ble_eq_true rfl) rfl ?_
  refine go_aload_n dX1_restore_11 rfl ?_
  refine go_iload_n dX1_restore_12 rfl ?_
  refine go_virt1 dX1_restore_13 (c_slotAt l hw hL) v_X1_22_1 rfl (tq_obh hw) rfl (Nat.le_of_ble_eq_true rfl) (Nat.le_of_ble_eq_true rfl) (Nat.le_of_ble_eq_true rfl) ?_
  refine go_astore_n dX1_restore_16 (Nat.le_of_ble_eq_true rfl) rfl ?_
  refine go_aload_n dX1_restore_17 rfl ?_
  refine go_getfield dX1_restore_18 f_X1_30_1 (tq_obh hw) rfl ?_
  refine go_if_le_f 48 dX1_restore_21 (by decide) (nI_nle hk0 (by omega)) ?_
  refine go_aload_n dX1_restore_24 rfl ?_
  refine go_ifnull dX1_restore_25 ?_
  refine go_aload_n dX1_restore_28 rfl ?_
  refine go_aload_n dX1_restore_29 rfl ?_
  refine go_virt0 dX1_restore_30 (tq_cpq hL (c_qcopyFrom l (w := (tqW w Q U H t ln s)) (p := 21 + 9 * lastN H) (q := 1) (P := H.1 (lastN H)) (Q := Q) (by show 21 + 9 * lastN H + 8 < w.1; omega) (by show 1 + 8 < w.1; omega) (Or.inr (by omega)))) v_X1_26_4 rfl (tq_ob1 hw) rfl (Nat.le_of_ble_eq_true rfl) (Nat.le_of_ble_eq_true rfl) (Nat.le_of_ble_eq_true rfl) ?_
  refine go_aload_n dX1_restore_33 rfl ?_
  refine go_iload_n dX1_restore_34 rfl ?_
  refine go_putfield dX1_restore_35 p_X1_18_1 (tq_obh hw) (Nat.le_of_ble_eq_true rfl) (fun _ => ⟨rfl, rfl⟩) (fun _ z => nomatch z) ?_
  refine go_w _ (tq_fh (lastN H) H.2.2) ?_
  refine go_aload_n dX1_restore_38 rfl ?_
  refine go_dup dX1_restore_39 rfl ?_
  refine go_getfield dX1_restore_40 f_X1_30_1 (tq_obh hw) rfl ?_
  refine go_iconst 1 dX1_restore_43 (by decide) ?_
  refine go_isub dX1_restore_44 ?_
  rw [show nI H.2.2 - 1 = nI (H.2.2 - 1) from pk_sub (b := 1) hk0]
  refine go_putfield dX1_restore_45 p_X1_30_1 (tq_obh hw) (Nat.le_of_ble_eq_true rfl) (fun _ => ⟨rfl, rfl⟩) (fun _ z => nomatch z) ?_
  refine go_w _ (tq_fh (lastN H) (H.2.2 - 1)) ?_
  exact go_return dX1_restore_48 rfl
