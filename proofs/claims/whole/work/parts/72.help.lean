/-! the law's helpers: a call, or the number of its exception -/
def lw_hx (cc : ByteArray) (nL h : Nat) (v : Int32) : Prop := (∃ (k : Fin 4) (n : Int), decode cc h = .ok (.astore_n k, 1) ∧ (k : Nat) < nL ∧ decode cc (h + 1) = .ok (.iconst n, 1) ∧ Int32.ofInt n = v ∧ decode cc (h + 1 + 1) = .ok (.ireturn, 1)) ∨ ∃ (k : Nat) (n : Int), decode cc h = .ok (.astore k, 2) ∧ k < nL ∧ decode cc (h + 2) = .ok (.iconst n, 1) ∧ Int32.ofInt n = v ∧ decode cc (h + 2 + 1) = .ok (.ireturn, 1)
section CATCH
variable {l : Launch} {y : MethodName} {cc : ByteArray} {nL : Nat} {hh : List (Nat × Nat × Nat × Nat)} {ext : Option (Nat × (Nat → Int32))} {d bc bs : Nat} {pc : Nat} {lv : List (Nat × Value)} {w : MW}
theorem gox_catch {E : String} {v : Int32} (pre : List (Nat × Nat × Nat × Nat)) (x : Nat × Nat × Nat × Nat) (suf : List (Nat × Nat × Nat × Nat)) (hsp : hh = pre ++ x :: suf) (hpass : ∀ z ∈ pre, z.2.2.2 ≠ 0 ∧ ∃ nm, Cond.classLink y.cls z.2.2.2 nm ∈ mm_GW ∧ (E, nm) ∈ mm_ncs) (hcov : covers ⟨x.1, x.2.1, x.2.2.1, x.2.2.2⟩ pc = true) (h0 : x.2.2.2 ≠ 0) (hlink : Cond.classLink y.cls x.2.2.2 E ∈ mm_GW) (hcast : Cond.castable E E ∈ lw_tbl) (hx : lw_hx cc nL x.2.2.1 v) : GoX l y cc nL (some .int) hh ext (mm_Z (mm_eq (.inl (some (.int v))) w)) d bc bs pc lv E w := by
  intro p e R s m args below meth c D dA A ad0 N0 C H locs cells slots ad ls h1 h2 h3 h4 h5 h6 h7 q ce st g1 g2 g3
  have hS := C.2.2.2.2.2.2.2.2.2.2.2.1
  have hlocks : meth.locks = false := C.2.2.2.2.2.2.1
  refine vx_catch (own := y.cls) (name := E) C.2.2.2.2.1 (tableOf pre) ⟨x.1, x.2.1, x.2.2.1, x.2.2.2⟩ (tableOf suf) (by rw [C.2.2.2.2.2.2.2.1, hsp]; simp [tableOf]) ?_ hcov h0 (hS.1.hts _ hlink) (hS.1.2.1 _ hcast rfl) g1 g2 g3 ?_
  · intro z hz
    obtain ⟨z0, hz0, rfl⟩ := List.mem_map.mp hz
    obtain ⟨a1, nm, a2, a3⟩ := hpass z0 hz0
    exact Or.inr ⟨a1, nm, hS.1.hts _ a2, hS.1.2.2.2.2 _ a3⟩
  · rcases hx with ⟨k, n, d1, d2, d3, d4, d5⟩ | ⟨k, n, d1, d2, d3, d4, d5⟩
    · refine lv_astore_n C.1 C.2.1 d1 rfl h7.has d2 rfl (fun ls' _ => lv_iconst C.1 C.2.1 d3 d4 ?_)
      refine vx_ret (W.widen (k := R.cells) (n := R.slots) (by omega) (by omega) ?_)
      exact W.zret C.1 C.2.1 C.2.2.2.1 rfl (fun t ht hW => ⟨some (.int v), w, ad, rfl, ⟨rfl, rfl⟩, fun x hx => by cases hx; exact mm_okv_int, by rw [ht]; exact h3, h4, h6, h5.F ht⟩) h5.2.2 d5 hlocks
    · refine lv_astore C.1 C.2.1 d1 h7.has d2 rfl (fun ls' _ => lv_iconst C.1 C.2.1 d3 d4 ?_)
      refine vx_ret (W.widen (k := R.cells) (n := R.slots) (by omega) (by omega) ?_)
      exact W.zret C.1 C.2.1 C.2.2.2.1 rfl (fun t ht hW => ⟨some (.int v), w, ad, rfl, ⟨rfl, rfl⟩, fun x hx => by cases hx; exact mm_okv_int, by rw [ht]; exact h3, h4, h6, h5.F ht⟩) h5.2.2 d5 hlocks
end CATCH
theorem hy_insert (l : Launch) {W1 W2 : MW} {a0 : Int32} {v : Int32} {f : Nat → Int64} {fs : List Value} (hM : Ct l (.code yX7_insert cX7_insert 2 (some .int)) yX7_insert 7 0 0 [.ref 0, .int a0] W1 (.inl (some (.int v))) W2) (ho : mm_ob W1 0 6 fs) (hr : mm_ar W2 73 .long (1, .inr (.inl f))) : Ct l (.codeWith yL_insert cL_insert 4 (some .int) [(0, 9, 12, 13), (0, 9, 15, 15)]) yL_insert 8 0 0 [.ref 0, .int a0, .ref 73] W1 (.inl (some (.int 0))) (mm_up W2 73 (.inl (.long, 1, .inr (.inl (vp_updL f 0 v.toInt64))))) := by
  refine ct_ofH (by decide +kernel) (Nat.le_of_ble_eq_true rfl) ?_
  refine go_aload_n dL_insert_0 rfl ?_
  refine go_iconst 0 dL_insert_1 (by decide) ?_
  refine go_aload_n dL_insert_2 rfl ?_
  refine go_iload_n dL_insert_3 rfl ?_
  refine go_virt1 dL_insert_4 hM v_L_7_6 rfl ho rfl (Nat.le_of_ble_eq_true rfl) (Nat.le_of_ble_eq_true rfl) (Nat.le_of_ble_eq_true rfl) ?_
  refine go_i2l dL_insert_7 ?_
  refine go_lastore 0 dL_insert_8 hr rfl (by decide) (by decide) ?_
  refine go_goto 18 dL_insert_9 (by decide) ?_
  refine go_iconst 0 dL_insert_18 (by decide) ?_
  exact go_ireturn dL_insert_19 rfl rfl
theorem hn_insert_1 (l : Launch) {W1 W2 : MW} {a0 : Int32} {fs : List Value} (hM : Ct l (.code yX7_insert cX7_insert 2 (some .int)) yX7_insert 7 1 6 [.ref 0, .int a0] W1 (.inr "java/lang/IllegalArgumentException") W2) (ho : mm_ob W1 0 6 fs) : Ct l (.codeWith yL_insert cL_insert 4 (some .int) [(0, 9, 12, 13), (0, 9, 15, 15)]) yL_insert 8 1 6 [.ref 0, .int a0, .ref 73] W1 (.inl (some (.int 1))) W2 := by
  refine ct_ofH (by decide +kernel) (Nat.le_of_ble_eq_true rfl) ?_
  refine go_aload_n dL_insert_0 rfl ?_
  refine go_iconst 0 dL_insert_1 (by decide) ?_
  refine go_aload_n dL_insert_2 rfl ?_
  refine go_iload_n dL_insert_3 rfl ?_
  refine go_virt (mc := 1) (ms := 6) (bc := 0) (bs := 0) dL_insert_4 hM v_L_7_6 rfl ho rfl (Nat.le_of_ble_eq_true rfl) (Nat.le_of_ble_eq_true rfl) (Nat.le_of_ble_eq_true rfl) (fun v hv => by cases hv) (fun E hE => ?_)
  cases hE
  exact gox_catch [] (0, 9, 12, 13) [(0, 9, 15, 15)] rfl (fun z hz => by cases hz) (by decide) (by decide) kk_L_13 (mm_inl (i := 505) (by decide +kernel)) (Or.inl ⟨3, 1, dL_insert_12, (Nat.le_of_ble_eq_true rfl), dL_insert_13, by decide, dL_insert_14⟩)
theorem hn_insert_2 (l : Launch) {W1 W2 : MW} {a0 : Int32} {fs : List Value} (hM : Ct l (.code yX7_insert cX7_insert 2 (some .int)) yX7_insert 7 1 6 [.ref 0, .int a0] W1 (.inr "java/lang/IllegalStateException") W2) (ho : mm_ob W1 0 6 fs) : Ct l (.codeWith yL_insert cL_insert 4 (some .int) [(0, 9, 12, 13), (0, 9, 15, 15)]) yL_insert 8 1 6 [.ref 0, .int a0, .ref 73] W1 (.inl (some (.int 2))) W2 := by
  refine ct_ofH (by decide +kernel) (Nat.le_of_ble_eq_true rfl) ?_
  refine go_aload_n dL_insert_0 rfl ?_
  refine go_iconst 0 dL_insert_1 (by decide) ?_
  refine go_aload_n dL_insert_2 rfl ?_
  refine go_iload_n dL_insert_3 rfl ?_
  refine go_virt (mc := 1) (ms := 6) (bc := 0) (bs := 0) dL_insert_4 hM v_L_7_6 rfl ho rfl (Nat.le_of_ble_eq_true rfl) (Nat.le_of_ble_eq_true rfl) (Nat.le_of_ble_eq_true rfl) (fun v hv => by cases hv) (fun E hE => ?_)
  cases hE
  exact gox_catch [(0, 9, 12, 13)] (0, 9, 15, 15) [] rfl (fun z hz => by rw [List.mem_singleton.mp hz]; exact ⟨by decide, "java/lang/IllegalArgumentException", kk_L_13, by decide +kernel⟩) (by decide) (by decide) kk_L_15 (mm_inl (i := 573) (by decide +kernel)) (Or.inl ⟨3, 2, dL_insert_15, (Nat.le_of_ble_eq_true rfl), dL_insert_16, by decide, dL_insert_17⟩)
theorem hy_takeLeast (l : Launch) {W1 W2 : MW} {v : Int32} {f : Nat → Int64} {fs : List Value} (hM : Ct l (.code yX7_takeLeast cX7_takeLeast 2 (some .int)) yX7_takeLeast 7 0 0 [.ref 0] W1 (.inl (some (.int v))) W2) (ho : mm_ob W1 0 6 fs) (hr : mm_ar W2 73 .long (1, .inr (.inl f))) : Ct l (.codeWith yL_takeLeast cL_takeLeast 3 (some .int) [(0, 8, 11, 15)]) yL_takeLeast 8 0 0 [.ref 0, .ref 73] W1 (.inl (some (.int 0))) (mm_up W2 73 (.inl (.long, 1, .inr (.inl (vp_updL f 0 v.toInt64))))) := by
  refine ct_ofH (by decide +kernel) (Nat.le_of_ble_eq_true rfl) ?_
  refine go_aload_n dL_takeLeast_0 rfl ?_
  refine go_iconst 0 dL_takeLeast_1 (by decide) ?_
  refine go_aload_n dL_takeLeast_2 rfl ?_
  refine go_virt1 dL_takeLeast_3 hM v_L_17_6 rfl ho rfl (Nat.le_of_ble_eq_true rfl) (Nat.le_of_ble_eq_true rfl) (Nat.le_of_ble_eq_true rfl) ?_
  refine go_i2l dL_takeLeast_6 ?_
  refine go_lastore 0 dL_takeLeast_7 hr rfl (by decide) (by decide) ?_
  refine go_goto 14 dL_takeLeast_8 (by decide) ?_
  refine go_iconst 0 dL_takeLeast_14 (by decide) ?_
  exact go_ireturn dL_takeLeast_15 rfl rfl
theorem hn_takeLeast_1 (l : Launch) {W1 W2 : MW} {fs : List Value} (hM : Ct l (.code yX7_takeLeast cX7_takeLeast 2 (some .int)) yX7_takeLeast 7 1 6 [.ref 0] W1 (.inr "java/lang/IllegalStateException") W2) (ho : mm_ob W1 0 6 fs) : Ct l (.codeWith yL_takeLeast cL_takeLeast 3 (some .int) [(0, 8, 11, 15)]) yL_takeLeast 8 1 6 [.ref 0, .ref 73] W1 (.inl (some (.int 1))) W2 := by
  refine ct_ofH (by decide +kernel) (Nat.le_of_ble_eq_true rfl) ?_
  refine go_aload_n dL_takeLeast_0 rfl ?_
  refine go_iconst 0 dL_takeLeast_1 (by decide) ?_
  refine go_aload_n dL_takeLeast_2 rfl ?_
  refine go_virt (mc := 1) (ms := 6) (bc := 0) (bs := 0) dL_takeLeast_3 hM v_L_17_6 rfl ho rfl (Nat.le_of_ble_eq_true rfl) (Nat.le_of_ble_eq_true rfl) (Nat.le_of_ble_eq_true rfl) (fun v hv => by cases hv) (fun E hE => ?_)
  cases hE
  exact gox_catch [] (0, 8, 11, 15) [] rfl (fun z hz => by cases hz) (by decide) (by decide) kk_L_15 (mm_inl (i := 573) (by decide +kernel)) (Or.inl ⟨2, 1, dL_takeLeast_11, (Nat.le_of_ble_eq_true rfl), dL_takeLeast_12, by decide, dL_takeLeast_13⟩)
theorem hy_takeGreatest (l : Launch) {W1 W2 : MW} {v : Int32} {f : Nat → Int64} {fs : List Value} (hM : Ct l (.code yX7_takeGreatest cX7_takeGreatest 2 (some .int)) yX7_takeGreatest 7 0 0 [.ref 0] W1 (.inl (some (.int v))) W2) (ho : mm_ob W1 0 6 fs) (hr : mm_ar W2 73 .long (1, .inr (.inl f))) : Ct l (.codeWith yL_takeGreatest cL_takeGreatest 3 (some .int) [(0, 8, 11, 15)]) yL_takeGreatest 8 0 0 [.ref 0, .ref 73] W1 (.inl (some (.int 0))) (mm_up W2 73 (.inl (.long, 1, .inr (.inl (vp_updL f 0 v.toInt64))))) := by
  refine ct_ofH (by decide +kernel) (Nat.le_of_ble_eq_true rfl) ?_
  refine go_aload_n dL_takeGreatest_0 rfl ?_
  refine go_iconst 0 dL_takeGreatest_1 (by decide) ?_
  refine go_aload_n dL_takeGreatest_2 rfl ?_
  refine go_virt1 dL_takeGreatest_3 hM v_L_21_6 rfl ho rfl (Nat.le_of_ble_eq_true rfl) (Nat.le_of_ble_eq_true rfl) (Nat.le_of_ble_eq_true rfl) ?_
  refine go_i2l dL_takeGreatest_6 ?_
  refine go_lastore 0 dL_takeGreatest_7 hr rfl (by decide) (by decide) ?_
  refine go_goto 14 dL_takeGreatest_8 (by decide) ?_
  refine go_iconst 0 dL_takeGreatest_14 (by decide) ?_
  exact go_ireturn dL_takeGreatest_15 rfl rfl
theorem hn_takeGreatest_1 (l : Launch) {W1 W2 : MW} {fs : List Value} (hM : Ct l (.code yX7_takeGreatest cX7_takeGreatest 2 (some .int)) yX7_takeGreatest 7 1 6 [.ref 0] W1 (.inr "java/lang/IllegalStateException") W2) (ho : mm_ob W1 0 6 fs) : Ct l (.codeWith yL_takeGreatest cL_takeGreatest 3 (some .int) [(0, 8, 11, 15)]) yL_takeGreatest 8 1 6 [.ref 0, .ref 73] W1 (.inl (some (.int 1))) W2 := by
  refine ct_ofH (by decide +kernel) (Nat.le_of_ble_eq_true rfl) ?_
  refine go_aload_n dL_takeGreatest_0 rfl ?_
  refine go_iconst 0 dL_takeGreatest_1 (by decide) ?_
  refine go_aload_n dL_takeGreatest_2 rfl ?_
  refine go_virt (mc := 1) (ms := 6) (bc := 0) (bs := 0) dL_takeGreatest_3 hM v_L_21_6 rfl ho rfl (Nat.le_of_ble_eq_true rfl) (Nat.le_of_ble_eq_true rfl) (Nat.le_of_ble_eq_true rfl) (fun v hv => by cases hv) (fun E hE => ?_)
  cases hE
  exact gox_catch [] (0, 8, 11, 15) [] rfl (fun z hz => by cases hz) (by decide) (by decide) kk_L_15 (mm_inl (i := 573) (by decide +kernel)) (Or.inl ⟨2, 1, dL_takeGreatest_11, (Nat.le_of_ble_eq_true rfl), dL_takeGreatest_12, by decide, dL_takeGreatest_13⟩)
theorem hy_remove (l : Launch) {W1 W2 : MW} {a0 : Int32} {v : Int32} {f : Nat → Int64} {fs : List Value} (hM : Ct l (.code yX7_remove cX7_remove 3 (some .int)) yX7_remove 7 0 0 [.ref 0, .int a0] W1 (.inl (some (.int v))) W2) (ho : mm_ob W1 0 6 fs) (hr : mm_ar W2 73 .long (1, .inr (.inl f))) : Ct l (.codeWith yL_remove cL_remove 4 (some .int) [(0, 9, 12, 27)]) yL_remove 8 0 0 [.ref 0, .int a0, .ref 73] W1 (.inl (some (.int 0))) (mm_up W2 73 (.inl (.long, 1, .inr (.inl (vp_updL f 0 v.toInt64))))) := by
  refine ct_ofH (by decide +kernel) (Nat.le_of_ble_eq_true rfl) ?_
  refine go_aload_n dL_remove_0 rfl ?_
  refine go_iconst 0 dL_remove_1 (by decide) ?_
  refine go_aload_n dL_remove_2 rfl ?_
  refine go_iload_n dL_remove_3 rfl ?_
  refine go_virt1 dL_remove_4 hM v_L_24_6 rfl ho rfl (Nat.le_of_ble_eq_true rfl) (Nat.le_of_ble_eq_true rfl) (Nat.le_of_ble_eq_true rfl) ?_
  refine go_i2l dL_remove_7 ?_
  refine go_lastore 0 dL_remove_8 hr rfl (by decide) (by decide) ?_
  refine go_goto 15 dL_remove_9 (by decide) ?_
  refine go_iconst 0 dL_remove_15 (by decide) ?_
  exact go_ireturn dL_remove_16 rfl rfl
theorem hn_remove_1 (l : Launch) {W1 W2 : MW} {a0 : Int32} {fs : List Value} (hM : Ct l (.code yX7_remove cX7_remove 3 (some .int)) yX7_remove 7 1 6 [.ref 0, .int a0] W1 (.inr "java/lang/IndexOutOfBoundsException") W2) (ho : mm_ob W1 0 6 fs) : Ct l (.codeWith yL_remove cL_remove 4 (some .int) [(0, 9, 12, 27)]) yL_remove 8 1 6 [.ref 0, .int a0, .ref 73] W1 (.inl (some (.int 1))) W2 := by
  refine ct_ofH (by decide +kernel) (Nat.le_of_ble_eq_true rfl) ?_
  refine go_aload_n dL_remove_0 rfl ?_
  refine go_iconst 0 dL_remove_1 (by decide) ?_
  refine go_aload_n dL_remove_2 rfl ?_
  refine go_iload_n dL_remove_3 rfl ?_
  refine go_virt (mc := 1) (ms := 6) (bc := 0) (bs := 0) dL_remove_4 hM v_L_24_6 rfl ho rfl (Nat.le_of_ble_eq_true rfl) (Nat.le_of_ble_eq_true rfl) (Nat.le_of_ble_eq_true rfl) (fun v hv => by cases hv) (fun E hE => ?_)
  cases hE
  exact gox_catch [] (0, 9, 12, 27) [] rfl (fun z hz => by cases hz) (by decide) (by decide) kk_L_27 (mm_inl (i := 737) (by decide +kernel)) (Or.inl ⟨3, 1, dL_remove_12, (Nat.le_of_ble_eq_true rfl), dL_remove_13, by decide, dL_remove_14⟩)
theorem hy_change (l : Launch) {W1 W2 : MW} {a0 a1 : Int32} {v : Int32} {f : Nat → Int64} {fs : List Value} (hM : Ct l (.code yX7_change cX7_change 4 (some .int)) yX7_change 7 0 0 [.ref 0, .int a0, .int a1] W1 (.inl (some (.int v))) W2) (ho : mm_ob W1 0 6 fs) (hr : mm_ar W2 73 .long (1, .inr (.inl f))) : Ct l (.codeWith yL_change cL_change 5 (some .int) [(0, 10, 13, 27), (0, 10, 17, 13)]) yL_change 8 0 0 [.ref 0, .int a0, .int a1, .ref 73] W1 (.inl (some (.int 0))) (mm_up W2 73 (.inl (.long, 1, .inr (.inl (vp_updL f 0 v.toInt64))))) := by
  refine ct_ofH (by decide +kernel) (Nat.le_of_ble_eq_true rfl) ?_
  refine go_aload_n dL_change_0 rfl ?_
  refine go_iconst 0 dL_change_1 (by decide) ?_
  refine go_aload_n dL_change_2 rfl ?_
  refine go_iload_n dL_change_3 rfl ?_
  refine go_iload_n dL_change_4 rfl ?_
  refine go_virt1 dL_change_5 hM v_L_29_6 rfl ho rfl (Nat.le_of_ble_eq_true rfl) (Nat.le_of_ble_eq_true rfl) (Nat.le_of_ble_eq_true rfl) ?_
  refine go_i2l dL_change_8 ?_
  refine go_lastore 0 dL_change_9 hr rfl (by decide) (by decide) ?_
  refine go_goto 21 dL_change_10 (by decide) ?_
  refine go_iconst 0 dL_change_21 (by decide) ?_
  exact go_ireturn dL_change_22 rfl rfl
theorem hn_change_1 (l : Launch) {W1 W2 : MW} {a0 a1 : Int32} {fs : List Value} (hM : Ct l (.code yX7_change cX7_change 4 (some .int)) yX7_change 7 1 6 [.ref 0, .int a0, .int a1] W1 (.inr "java/lang/IndexOutOfBoundsException") W2) (ho : mm_ob W1 0 6 fs) : Ct l (.codeWith yL_change cL_change 5 (some .int) [(0, 10, 13, 27), (0, 10, 17, 13)]) yL_change 8 1 6 [.ref 0, .int a0, .int a1, .ref 73] W1 (.inl (some (.int 1))) W2 := by
  refine ct_ofH (by decide +kernel) (Nat.le_of_ble_eq_true rfl) ?_
  refine go_aload_n dL_change_0 rfl ?_
  refine go_iconst 0 dL_change_1 (by decide) ?_
  refine go_aload_n dL_change_2 rfl ?_
  refine go_iload_n dL_change_3 rfl ?_
  refine go_iload_n dL_change_4 rfl ?_
  refine go_virt (mc := 1) (ms := 6) (bc := 0) (bs := 0) dL_change_5 hM v_L_29_6 rfl ho rfl (Nat.le_of_ble_eq_true rfl) (Nat.le_of_ble_eq_true rfl) (Nat.le_of_ble_eq_true rfl) (fun v hv => by cases hv) (fun E hE => ?_)
  cases hE
  exact gox_catch [] (0, 10, 13, 27) [(0, 10, 17, 13)] rfl (fun z hz => by cases hz) (by decide) (by decide) kk_L_27 (mm_inl (i := 737) (by decide +kernel)) (Or.inr ⟨4, 1, dL_change_13, (Nat.le_of_ble_eq_true rfl), dL_change_15, by decide, dL_change_16⟩)
theorem hn_change_2 (l : Launch) {W1 W2 : MW} {a0 a1 : Int32} {fs : List Value} (hM : Ct l (.code yX7_change cX7_change 4 (some .int)) yX7_change 7 1 6 [.ref 0, .int a0, .int a1] W1 (.inr "java/lang/IllegalArgumentException") W2) (ho : mm_ob W1 0 6 fs) : Ct l (.codeWith yL_change cL_change 5 (some .int) [(0, 10, 13, 27), (0, 10, 17, 13)]) yL_change 8 1 6 [.ref 0, .int a0, .int a1, .ref 73] W1 (.inl (some (.int 2))) W2 := by
  refine ct_ofH (by decide +kernel) (Nat.le_of_ble_eq_true rfl) ?_
  refine go_aload_n dL_change_0 rfl ?_
  refine go_iconst 0 dL_change_1 (by decide) ?_
  refine go_aload_n dL_change_2 rfl ?_
  refine go_iload_n dL_change_3 rfl ?_
  refine go_iload_n dL_change_4 rfl ?_
  refine go_virt (mc := 1) (ms := 6) (bc := 0) (bs := 0) dL_change_5 hM v_L_29_6 rfl ho rfl (Nat.le_of_ble_eq_true rfl) (Nat.le_of_ble_eq_true rfl) (Nat.le_of_ble_eq_true rfl) (fun v hv => by cases hv) (fun E hE => ?_)
  cases hE
  exact gox_catch [(0, 10, 13, 27)] (0, 10, 17, 13) [] rfl (fun z hz => by rw [List.mem_singleton.mp hz]; exact ⟨by decide, "java/lang/IndexOutOfBoundsException", kk_L_27, by decide +kernel⟩) (by decide) (by decide) kk_L_13 (mm_inl (i := 505) (by decide +kernel)) (Or.inr ⟨4, 2, dL_change_17, (Nat.le_of_ble_eq_true rfl), dL_change_19, by decide, dL_change_20⟩)
theorem hy_key (l : Launch) {W1 W2 : MW} {a0 : Int32} {v : Int32} {f : Nat → Int64} {fs : List Value} (hM : Ct l (.code yX7_key cX7_key 2 (some .int)) yX7_key 7 0 0 [.ref 0, .int a0] W1 (.inl (some (.int v))) W2) (ho : mm_ob W1 0 6 fs) (hr : mm_ar W2 73 .long (1, .inr (.inl f))) : Ct l (.codeWith yL_key cL_key 4 (some .int) [(0, 9, 12, 27)]) yL_key 8 0 0 [.ref 0, .int a0, .ref 73] W1 (.inl (some (.int 0))) (mm_up W2 73 (.inl (.long, 1, .inr (.inl (vp_updL f 0 v.toInt64))))) := by
  refine ct_ofH (by decide +kernel) (Nat.le_of_ble_eq_true rfl) ?_
  refine go_aload_n dL_key_0 rfl ?_
  refine go_iconst 0 dL_key_1 (by decide) ?_
  refine go_aload_n dL_key_2 rfl ?_
  refine go_iload_n dL_key_3 rfl ?_
  refine go_virt1 dL_key_4 hM v_L_33_6 rfl ho rfl (Nat.le_of_ble_eq_true rfl) (Nat.le_of_ble_eq_true rfl) (Nat.le_of_ble_eq_true rfl) ?_
  refine go_i2l dL_key_7 ?_
  refine go_lastore 0 dL_key_8 hr rfl (by decide) (by decide) ?_
  refine go_goto 15 dL_key_9 (by decide) ?_
  refine go_iconst 0 dL_key_15 (by decide) ?_
  exact go_ireturn dL_key_16 rfl rfl
theorem hn_key_1 (l : Launch) {W1 W2 : MW} {a0 : Int32} {fs : List Value} (hM : Ct l (.code yX7_key cX7_key 2 (some .int)) yX7_key 7 1 6 [.ref 0, .int a0] W1 (.inr "java/lang/IndexOutOfBoundsException") W2) (ho : mm_ob W1 0 6 fs) : Ct l (.codeWith yL_key cL_key 4 (some .int) [(0, 9, 12, 27)]) yL_key 8 1 6 [.ref 0, .int a0, .ref 73] W1 (.inl (some (.int 1))) W2 := by
  refine ct_ofH (by decide +kernel) (Nat.le_of_ble_eq_true rfl) ?_
  refine go_aload_n dL_key_0 rfl ?_
  refine go_iconst 0 dL_key_1 (by decide) ?_
  refine go_aload_n dL_key_2 rfl ?_
  refine go_iload_n dL_key_3 rfl ?_
  refine go_virt (mc := 1) (ms := 6) (bc := 0) (bs := 0) dL_key_4 hM v_L_33_6 rfl ho rfl (Nat.le_of_ble_eq_true rfl) (Nat.le_of_ble_eq_true rfl) (Nat.le_of_ble_eq_true rfl) (fun v hv => by cases hv) (fun E hE => ?_)
  cases hE
  exact gox_catch [] (0, 9, 12, 27) [] rfl (fun z hz => by cases hz) (by decide) (by decide) kk_L_27 (mm_inl (i := 737) (by decide +kernel)) (Or.inl ⟨3, 1, dL_key_12, (Nat.le_of_ble_eq_true rfl), dL_key_13, by decide, dL_key_14⟩)
theorem hy_fill (l : Launch) {W1 W2 : MW} {a0 a1 : Int32} {v : Int32} {f : Nat → Int64} {fs : List Value} (hM : Ct l (.code yX7_fill cX7_fill 6 (some .int)) yX7_fill 6 0 0 [.ref 0, .int a0, .int a1] W1 (.inl (some (.int v))) W2) (ho : mm_ob W1 0 6 fs) (hr : mm_ar W2 73 .long (1, .inr (.inl f))) : Ct l (.codeWith yL_fill cL_fill 5 (some .int) [(0, 10, 13, 13), (0, 10, 17, 15)]) yL_fill 7 0 0 [.ref 0, .int a0, .int a1, .ref 73] W1 (.inl (some (.int 0))) (mm_up W2 73 (.inl (.long, 1, .inr (.inl (vp_updL f 0 v.toInt64))))) := by
  refine ct_ofH (by decide +kernel) (Nat.le_of_ble_eq_true rfl) ?_
  refine go_aload_n dL_fill_0 rfl ?_
  refine go_iconst 0 dL_fill_1 (by decide) ?_
  refine go_aload_n dL_fill_2 rfl ?_
  refine go_iload_n dL_fill_3 rfl ?_
  refine go_iload_n dL_fill_4 rfl ?_
  refine go_virt1 dL_fill_5 hM v_L_36_6 rfl ho rfl (Nat.le_of_ble_eq_true rfl) (Nat.le_of_ble_eq_true rfl) (Nat.le_of_ble_eq_true rfl) ?_
  refine go_i2l dL_fill_8 ?_
  refine go_lastore 0 dL_fill_9 hr rfl (by decide) (by decide) ?_
  refine go_goto 21 dL_fill_10 (by decide) ?_
  refine go_iconst 0 dL_fill_21 (by decide) ?_
  exact go_ireturn dL_fill_22 rfl rfl
theorem hn_fill_1 (l : Launch) {W1 W2 : MW} {a0 a1 : Int32} {fs : List Value} (hM : Ct l (.code yX7_fill cX7_fill 6 (some .int)) yX7_fill 6 1 6 [.ref 0, .int a0, .int a1] W1 (.inr "java/lang/IllegalArgumentException") W2) (ho : mm_ob W1 0 6 fs) : Ct l (.codeWith yL_fill cL_fill 5 (some .int) [(0, 10, 13, 13), (0, 10, 17, 15)]) yL_fill 7 1 6 [.ref 0, .int a0, .int a1, .ref 73] W1 (.inl (some (.int 1))) W2 := by
  refine ct_ofH (by decide +kernel) (Nat.le_of_ble_eq_true rfl) ?_
  refine go_aload_n dL_fill_0 rfl ?_
  refine go_iconst 0 dL_fill_1 (by decide) ?_
  refine go_aload_n dL_fill_2 rfl ?_
  refine go_iload_n dL_fill_3 rfl ?_
  refine go_iload_n dL_fill_4 rfl ?_
  refine go_virt (mc := 1) (ms := 6) (bc := 0) (bs := 0) dL_fill_5 hM v_L_36_6 rfl ho rfl (Nat.le_of_ble_eq_true rfl) (Nat.le_of_ble_eq_true rfl) (Nat.le_of_ble_eq_true rfl) (fun v hv => by cases hv) (fun E hE => ?_)
  cases hE
  exact gox_catch [] (0, 10, 13, 13) [(0, 10, 17, 15)] rfl (fun z hz => by cases hz) (by decide) (by decide) kk_L_13 (mm_inl (i := 505) (by decide +kernel)) (Or.inr ⟨4, 1, dL_fill_13, (Nat.le_of_ble_eq_true rfl), dL_fill_15, by decide, dL_fill_16⟩)
theorem hn_fill_2 (l : Launch) {W1 W2 : MW} {a0 a1 : Int32} {fs : List Value} (hM : Ct l (.code yX7_fill cX7_fill 6 (some .int)) yX7_fill 6 1 6 [.ref 0, .int a0, .int a1] W1 (.inr "java/lang/IllegalStateException") W2) (ho : mm_ob W1 0 6 fs) : Ct l (.codeWith yL_fill cL_fill 5 (some .int) [(0, 10, 13, 13), (0, 10, 17, 15)]) yL_fill 7 1 6 [.ref 0, .int a0, .int a1, .ref 73] W1 (.inl (some (.int 2))) W2 := by
  refine ct_ofH (by decide +kernel) (Nat.le_of_ble_eq_true rfl) ?_
  refine go_aload_n dL_fill_0 rfl ?_
  refine go_iconst 0 dL_fill_1 (by decide) ?_
  refine go_aload_n dL_fill_2 rfl ?_
  refine go_iload_n dL_fill_3 rfl ?_
  refine go_iload_n dL_fill_4 rfl ?_
  refine go_virt (mc := 1) (ms := 6) (bc := 0) (bs := 0) dL_fill_5 hM v_L_36_6 rfl ho rfl (Nat.le_of_ble_eq_true rfl) (Nat.le_of_ble_eq_true rfl) (Nat.le_of_ble_eq_true rfl) (fun v hv => by cases hv) (fun E hE => ?_)
  cases hE
  exact gox_catch [(0, 10, 13, 13)] (0, 10, 17, 15) [] rfl (fun z hz => by rw [List.mem_singleton.mp hz]; exact ⟨by decide, "java/lang/IllegalArgumentException", kk_L_13, by decide +kernel⟩) (by decide) (by decide) kk_L_15 (mm_inl (i := 573) (by decide +kernel)) (Or.inr ⟨4, 2, dL_fill_17, (Nat.le_of_ble_eq_true rfl), dL_fill_19, by decide, dL_fill_20⟩)
theorem hy_least (l : Launch) {W1 W2 : MW} {a0 : Int32} {v : Int32} {f : Nat → Int64} {fs : List Value} (hM : Ct l (.code yX7_least cX7_least 2 (some .int)) yX7_least 7 0 0 [.ref 0, .int a0] W1 (.inl (some (.int v))) W2) (ho : mm_ob W1 0 6 fs) (hr : mm_ar W2 73 .long (1, .inr (.inl f))) : Ct l (.codeWith yL_least cL_least 4 (some .int) [(0, 9, 12, 13)]) yL_least 8 0 0 [.ref 0, .int a0, .ref 73] W1 (.inl (some (.int 0))) (mm_up W2 73 (.inl (.long, 1, .inr (.inl (vp_updL f 0 v.toInt64))))) := by
  refine ct_ofH (by decide +kernel) (Nat.le_of_ble_eq_true rfl) ?_
  refine go_aload_n dL_least_0 rfl ?_
  refine go_iconst 0 dL_least_1 (by decide) ?_
  refine go_aload_n dL_least_2 rfl ?_
  refine go_iload_n dL_least_3 rfl ?_
  refine go_virt1 dL_least_4 hM v_L_39_6 rfl ho rfl (Nat.le_of_ble_eq_true rfl) (Nat.le_of_ble_eq_true rfl) (Nat.le_of_ble_eq_true rfl) ?_
  refine go_i2l dL_least_7 ?_
  refine go_lastore 0 dL_least_8 hr rfl (by decide) (by decide) ?_
  refine go_goto 15 dL_least_9 (by decide) ?_
  refine go_iconst 0 dL_least_15 (by decide) ?_
  exact go_ireturn dL_least_16 rfl rfl
theorem hn_least_1 (l : Launch) {W1 W2 : MW} {a0 : Int32} {fs : List Value} (hM : Ct l (.code yX7_least cX7_least 2 (some .int)) yX7_least 7 1 6 [.ref 0, .int a0] W1 (.inr "java/lang/IllegalArgumentException") W2) (ho : mm_ob W1 0 6 fs) : Ct l (.codeWith yL_least cL_least 4 (some .int) [(0, 9, 12, 13)]) yL_least 8 1 6 [.ref 0, .int a0, .ref 73] W1 (.inl (some (.int 1))) W2 := by
  refine ct_ofH (by decide +kernel) (Nat.le_of_ble_eq_true rfl) ?_
  refine go_aload_n dL_least_0 rfl ?_
  refine go_iconst 0 dL_least_1 (by decide) ?_
  refine go_aload_n dL_least_2 rfl ?_
  refine go_iload_n dL_least_3 rfl ?_
  refine go_virt (mc := 1) (ms := 6) (bc := 0) (bs := 0) dL_least_4 hM v_L_39_6 rfl ho rfl (Nat.le_of_ble_eq_true rfl) (Nat.le_of_ble_eq_true rfl) (Nat.le_of_ble_eq_true rfl) (fun v hv => by cases hv) (fun E hE => ?_)
  cases hE
  exact gox_catch [] (0, 9, 12, 13) [] rfl (fun z hz => by cases hz) (by decide) (by decide) kk_L_13 (mm_inl (i := 505) (by decide +kernel)) (Or.inl ⟨3, 1, dL_least_12, (Nat.le_of_ble_eq_true rfl), dL_least_13, by decide, dL_least_14⟩)
theorem hy_greatest (l : Launch) {W1 W2 : MW} {a0 : Int32} {v : Int32} {f : Nat → Int64} {fs : List Value} (hM : Ct l (.code yX7_greatest cX7_greatest 2 (some .int)) yX7_greatest 7 0 0 [.ref 0, .int a0] W1 (.inl (some (.int v))) W2) (ho : mm_ob W1 0 6 fs) (hr : mm_ar W2 73 .long (1, .inr (.inl f))) : Ct l (.codeWith yL_greatest cL_greatest 4 (some .int) [(0, 9, 12, 13)]) yL_greatest 8 0 0 [.ref 0, .int a0, .ref 73] W1 (.inl (some (.int 0))) (mm_up W2 73 (.inl (.long, 1, .inr (.inl (vp_updL f 0 v.toInt64))))) := by
  refine ct_ofH (by decide +kernel) (Nat.le_of_ble_eq_true rfl) ?_
  refine go_aload_n dL_greatest_0 rfl ?_
  refine go_iconst 0 dL_greatest_1 (by decide) ?_
  refine go_aload_n dL_greatest_2 rfl ?_
  refine go_iload_n dL_greatest_3 rfl ?_
  refine go_virt1 dL_greatest_4 hM v_L_42_6 rfl ho rfl (Nat.le_of_ble_eq_true rfl) (Nat.le_of_ble_eq_true rfl) (Nat.le_of_ble_eq_true rfl) ?_
  refine go_i2l dL_greatest_7 ?_
  refine go_lastore 0 dL_greatest_8 hr rfl (by decide) (by decide) ?_
  refine go_goto 15 dL_greatest_9 (by decide) ?_
  refine go_iconst 0 dL_greatest_15 (by decide) ?_
  exact go_ireturn dL_greatest_16 rfl rfl
theorem hn_greatest_1 (l : Launch) {W1 W2 : MW} {a0 : Int32} {fs : List Value} (hM : Ct l (.code yX7_greatest cX7_greatest 2 (some .int)) yX7_greatest 7 1 6 [.ref 0, .int a0] W1 (.inr "java/lang/IllegalArgumentException") W2) (ho : mm_ob W1 0 6 fs) : Ct l (.codeWith yL_greatest cL_greatest 4 (some .int) [(0, 9, 12, 13)]) yL_greatest 8 1 6 [.ref 0, .int a0, .ref 73] W1 (.inl (some (.int 1))) W2 := by
  refine ct_ofH (by decide +kernel) (Nat.le_of_ble_eq_true rfl) ?_
  refine go_aload_n dL_greatest_0 rfl ?_
  refine go_iconst 0 dL_greatest_1 (by decide) ?_
  refine go_aload_n dL_greatest_2 rfl ?_
  refine go_iload_n dL_greatest_3 rfl ?_
  refine go_virt (mc := 1) (ms := 6) (bc := 0) (bs := 0) dL_greatest_4 hM v_L_42_6 rfl ho rfl (Nat.le_of_ble_eq_true rfl) (Nat.le_of_ble_eq_true rfl) (Nat.le_of_ble_eq_true rfl) (fun v hv => by cases hv) (fun E hE => ?_)
  cases hE
  exact gox_catch [] (0, 9, 12, 13) [] rfl (fun z hz => by cases hz) (by decide) (by decide) kk_L_13 (mm_inl (i := 505) (by decide +kernel)) (Or.inl ⟨3, 1, dL_greatest_12, (Nat.le_of_ble_eq_true rfl), dL_greatest_13, by decide, dL_greatest_14⟩)
theorem hy_rank (l : Launch) {W1 W2 : MW} {a0 : Int32} {v : Int32} {f : Nat → Int64} {fs : List Value} (hM : Ct l (.code yX7_rank cX7_rank 2 (some .int)) yX7_rank 7 0 0 [.ref 0, .int a0] W1 (.inl (some (.int v))) W2) (ho : mm_ob W1 0 6 fs) (hr : mm_ar W2 73 .long (1, .inr (.inl f))) : Ct l (.codeWith yL_rank cL_rank 4 (some .int) [(0, 9, 12, 27)]) yL_rank 8 0 0 [.ref 0, .int a0, .ref 73] W1 (.inl (some (.int 0))) (mm_up W2 73 (.inl (.long, 1, .inr (.inl (vp_updL f 0 v.toInt64))))) := by
  refine ct_ofH (by decide +kernel) (Nat.le_of_ble_eq_true rfl) ?_
  refine go_aload_n dL_rank_0 rfl ?_
  refine go_iconst 0 dL_rank_1 (by decide) ?_
  refine go_aload_n dL_rank_2 rfl ?_
  refine go_iload_n dL_rank_3 rfl ?_
  refine go_virt1 dL_rank_4 hM v_L_45_6 rfl ho rfl (Nat.le_of_ble_eq_true rfl) (Nat.le_of_ble_eq_true rfl) (Nat.le_of_ble_eq_true rfl) ?_
  refine go_i2l dL_rank_7 ?_
  refine go_lastore 0 dL_rank_8 hr rfl (by decide) (by decide) ?_
  refine go_goto 15 dL_rank_9 (by decide) ?_
  refine go_iconst 0 dL_rank_15 (by decide) ?_
  exact go_ireturn dL_rank_16 rfl rfl
theorem hn_rank_1 (l : Launch) {W1 W2 : MW} {a0 : Int32} {fs : List Value} (hM : Ct l (.code yX7_rank cX7_rank 2 (some .int)) yX7_rank 7 1 6 [.ref 0, .int a0] W1 (.inr "java/lang/IndexOutOfBoundsException") W2) (ho : mm_ob W1 0 6 fs) : Ct l (.codeWith yL_rank cL_rank 4 (some .int) [(0, 9, 12, 27)]) yL_rank 8 1 6 [.ref 0, .int a0, .ref 73] W1 (.inl (some (.int 1))) W2 := by
  refine ct_ofH (by decide +kernel) (Nat.le_of_ble_eq_true rfl) ?_
  refine go_aload_n dL_rank_0 rfl ?_
  refine go_iconst 0 dL_rank_1 (by decide) ?_
  refine go_aload_n dL_rank_2 rfl ?_
  refine go_iload_n dL_rank_3 rfl ?_
  refine go_virt (mc := 1) (ms := 6) (bc := 0) (bs := 0) dL_rank_4 hM v_L_45_6 rfl ho rfl (Nat.le_of_ble_eq_true rfl) (Nat.le_of_ble_eq_true rfl) (Nat.le_of_ble_eq_true rfl) (fun v hv => by cases hv) (fun E hE => ?_)
  cases hE
  exact gox_catch [] (0, 9, 12, 27) [] rfl (fun z hz => by cases hz) (by decide) (by decide) kk_L_27 (mm_inl (i := 737) (by decide +kernel)) (Or.inl ⟨3, 1, dL_rank_12, (Nat.le_of_ble_eq_true rfl), dL_rank_13, by decide, dL_rank_14⟩)
theorem hy_at (l : Launch) {W1 W2 : MW} {a0 a1 : Int32} {v : Int32} {f : Nat → Int64} {fs : List Value} (hM : Ct l (.code yX7_at cX7_at 3 (some .int)) yX7_at 7 0 0 [.ref 0, .int a0, .int a1] W1 (.inl (some (.int v))) W2) (ho : mm_ob W1 0 6 fs) (hr : mm_ar W2 73 .long (1, .inr (.inl f))) : Ct l (.codeWith yL_at cL_at 5 (some .int) [(0, 10, 13, 13)]) yL_at 8 0 0 [.ref 0, .int a0, .int a1, .ref 73] W1 (.inl (some (.int 0))) (mm_up W2 73 (.inl (.long, 1, .inr (.inl (vp_updL f 0 v.toInt64))))) := by
  refine ct_ofH (by decide +kernel) (Nat.le_of_ble_eq_true rfl) ?_
  refine go_aload_n dL_at_0 rfl ?_
  refine go_iconst 0 dL_at_1 (by decide) ?_
  refine go_aload_n dL_at_2 rfl ?_
  refine go_iload_n dL_at_3 rfl ?_
  refine go_iload_n dL_at_4 rfl ?_
  refine go_virt1 dL_at_5 hM v_L_48_6 rfl ho rfl (Nat.le_of_ble_eq_true rfl) (Nat.le_of_ble_eq_true rfl) (Nat.le_of_ble_eq_true rfl) ?_
  refine go_i2l dL_at_8 ?_
  refine go_lastore 0 dL_at_9 hr rfl (by decide) (by decide) ?_
  refine go_goto 17 dL_at_10 (by decide) ?_
  refine go_iconst 0 dL_at_17 (by decide) ?_
  exact go_ireturn dL_at_18 rfl rfl
theorem hn_at_1 (l : Launch) {W1 W2 : MW} {a0 a1 : Int32} {fs : List Value} (hM : Ct l (.code yX7_at cX7_at 3 (some .int)) yX7_at 7 1 6 [.ref 0, .int a0, .int a1] W1 (.inr "java/lang/IllegalArgumentException") W2) (ho : mm_ob W1 0 6 fs) : Ct l (.codeWith yL_at cL_at 5 (some .int) [(0, 10, 13, 13)]) yL_at 8 1 6 [.ref 0, .int a0, .int a1, .ref 73] W1 (.inl (some (.int 1))) W2 := by
  refine ct_ofH (by decide +kernel) (Nat.le_of_ble_eq_true rfl) ?_
  refine go_aload_n dL_at_0 rfl ?_
  refine go_iconst 0 dL_at_1 (by decide) ?_
  refine go_aload_n dL_at_2 rfl ?_
  refine go_iload_n dL_at_3 rfl ?_
  refine go_iload_n dL_at_4 rfl ?_
  refine go_virt (mc := 1) (ms := 6) (bc := 0) (bs := 0) dL_at_5 hM v_L_48_6 rfl ho rfl (Nat.le_of_ble_eq_true rfl) (Nat.le_of_ble_eq_true rfl) (Nat.le_of_ble_eq_true rfl) (fun v hv => by cases hv) (fun E hE => ?_)
  cases hE
  exact gox_catch [] (0, 10, 13, 13) [] rfl (fun z hz => by cases hz) (by decide) (by decide) kk_L_13 (mm_inl (i := 505) (by decide +kernel)) (Or.inr ⟨4, 1, dL_at_13, (Nat.le_of_ble_eq_true rfl), dL_at_15, by decide, dL_at_16⟩)
theorem hy_where (l : Launch) {W1 W2 : MW} {a0 a1 : Int32} {v : Int32} {f : Nat → Int64} {fs : List Value} (hM : Ct l (.code yX7_where cX7_where 3 (some .int)) yX7_where 7 0 0 [.ref 0, .int a0, .int a1] W1 (.inl (some (.int v))) W2) (ho : mm_ob W1 0 6 fs) (hr : mm_ar W2 73 .long (1, .inr (.inl f))) : Ct l (.codeWith yL_where cL_where 5 (some .int) [(0, 10, 13, 13), (0, 10, 17, 27)]) yL_where 8 0 0 [.ref 0, .int a0, .int a1, .ref 73] W1 (.inl (some (.int 0))) (mm_up W2 73 (.inl (.long, 1, .inr (.inl (vp_updL f 0 v.toInt64))))) := by
  refine ct_ofH (by decide +kernel) (Nat.le_of_ble_eq_true rfl) ?_
  refine go_aload_n dL_where_0 rfl ?_
  refine go_iconst 0 dL_where_1 (by decide) ?_
  refine go_aload_n dL_where_2 rfl ?_
  refine go_iload_n dL_where_3 rfl ?_
  refine go_iload_n dL_where_4 rfl ?_
  refine go_virt1 dL_where_5 hM v_L_51_6 rfl ho rfl (Nat.le_of_ble_eq_true rfl) (Nat.le_of_ble_eq_true rfl) (Nat.le_of_ble_eq_true rfl) ?_
  refine go_i2l dL_where_8 ?_
  refine go_lastore 0 dL_where_9 hr rfl (by decide) (by decide) ?_
  refine go_goto 21 dL_where_10 (by decide) ?_
  refine go_iconst 0 dL_where_21 (by decide) ?_
  exact go_ireturn dL_where_22 rfl rfl
theorem hn_where_1 (l : Launch) {W1 W2 : MW} {a0 a1 : Int32} {fs : List Value} (hM : Ct l (.code yX7_where cX7_where 3 (some .int)) yX7_where 7 1 6 [.ref 0, .int a0, .int a1] W1 (.inr "java/lang/IllegalArgumentException") W2) (ho : mm_ob W1 0 6 fs) : Ct l (.codeWith yL_where cL_where 5 (some .int) [(0, 10, 13, 13), (0, 10, 17, 27)]) yL_where 8 1 6 [.ref 0, .int a0, .int a1, .ref 73] W1 (.inl (some (.int 1))) W2 := by
  refine ct_ofH (by decide +kernel) (Nat.le_of_ble_eq_true rfl) ?_
  refine go_aload_n dL_where_0 rfl ?_
  refine go_iconst 0 dL_where_1 (by decide) ?_
  refine go_aload_n dL_where_2 rfl ?_
  refine go_iload_n dL_where_3 rfl ?_
  refine go_iload_n dL_where_4 rfl ?_
  refine go_virt (mc := 1) (ms := 6) (bc := 0) (bs := 0) dL_where_5 hM v_L_51_6 rfl ho rfl (Nat.le_of_ble_eq_true rfl) (Nat.le_of_ble_eq_true rfl) (Nat.le_of_ble_eq_true rfl) (fun v hv => by cases hv) (fun E hE => ?_)
  cases hE
  exact gox_catch [] (0, 10, 13, 13) [(0, 10, 17, 27)] rfl (fun z hz => by cases hz) (by decide) (by decide) kk_L_13 (mm_inl (i := 505) (by decide +kernel)) (Or.inr ⟨4, 1, dL_where_13, (Nat.le_of_ble_eq_true rfl), dL_where_15, by decide, dL_where_16⟩)
theorem hn_where_2 (l : Launch) {W1 W2 : MW} {a0 a1 : Int32} {fs : List Value} (hM : Ct l (.code yX7_where cX7_where 3 (some .int)) yX7_where 7 1 6 [.ref 0, .int a0, .int a1] W1 (.inr "java/lang/IndexOutOfBoundsException") W2) (ho : mm_ob W1 0 6 fs) : Ct l (.codeWith yL_where cL_where 5 (some .int) [(0, 10, 13, 13), (0, 10, 17, 27)]) yL_where 8 1 6 [.ref 0, .int a0, .int a1, .ref 73] W1 (.inl (some (.int 2))) W2 := by
  refine ct_ofH (by decide +kernel) (Nat.le_of_ble_eq_true rfl) ?_
  refine go_aload_n dL_where_0 rfl ?_
  refine go_iconst 0 dL_where_1 (by decide) ?_
  refine go_aload_n dL_where_2 rfl ?_
  refine go_iload_n dL_where_3 rfl ?_
  refine go_iload_n dL_where_4 rfl ?_
  refine go_virt (mc := 1) (ms := 6) (bc := 0) (bs := 0) dL_where_5 hM v_L_51_6 rfl ho rfl (Nat.le_of_ble_eq_true rfl) (Nat.le_of_ble_eq_true rfl) (Nat.le_of_ble_eq_true rfl) (fun v hv => by cases hv) (fun E hE => ?_)
  cases hE
  exact gox_catch [(0, 10, 13, 13)] (0, 10, 17, 27) [] rfl (fun z hz => by rw [List.mem_singleton.mp hz]; exact ⟨by decide, "java/lang/IllegalArgumentException", kk_L_13, by decide +kernel⟩) (by decide) (by decide) kk_L_27 (mm_inl (i := 737) (by decide +kernel)) (Or.inr ⟨4, 2, dL_where_17, (Nat.le_of_ble_eq_true rfl), dL_where_19, by decide, dL_where_20⟩)
theorem hy_violations (l : Launch) {W1 W2 : MW} {a0 : Int32} {v : Int32} {f : Nat → Int64} {fs : List Value} (hM : Ct l (.code yX7_violations cX7_violations 2 (some .int)) yX7_violations 7 0 0 [.ref 0, .int a0] W1 (.inl (some (.int v))) W2) (ho : mm_ob W1 0 6 fs) (hr : mm_ar W2 73 .long (1, .inr (.inl f))) : Ct l (.codeWith yL_violations cL_violations 4 (some .int) [(0, 9, 12, 13)]) yL_violations 8 0 0 [.ref 0, .int a0, .ref 73] W1 (.inl (some (.int 0))) (mm_up W2 73 (.inl (.long, 1, .inr (.inl (vp_updL f 0 v.toInt64))))) := by
  refine ct_ofH (by decide +kernel) (Nat.le_of_ble_eq_true rfl) ?_
  refine go_aload_n dL_violations_0 rfl ?_
  refine go_iconst 0 dL_violations_1 (by decide) ?_
  refine go_aload_n dL_violations_2 rfl ?_
  refine go_iload_n dL_violations_3 rfl ?_
  refine go_virt1 dL_violations_4 hM v_L_54_6 rfl ho rfl (Nat.le_of_ble_eq_true rfl) (Nat.le_of_ble_eq_true rfl) (Nat.le_of_ble_eq_true rfl) ?_
  refine go_i2l dL_violations_7 ?_
  refine go_lastore 0 dL_violations_8 hr rfl (by decide) (by decide) ?_
  refine go_goto 15 dL_violations_9 (by decide) ?_
  refine go_iconst 0 dL_violations_15 (by decide) ?_
  exact go_ireturn dL_violations_16 rfl rfl
theorem hn_violations_1 (l : Launch) {W1 W2 : MW} {a0 : Int32} {fs : List Value} (hM : Ct l (.code yX7_violations cX7_violations 2 (some .int)) yX7_violations 7 1 6 [.ref 0, .int a0] W1 (.inr "java/lang/IllegalArgumentException") W2) (ho : mm_ob W1 0 6 fs) : Ct l (.codeWith yL_violations cL_violations 4 (some .int) [(0, 9, 12, 13)]) yL_violations 8 1 6 [.ref 0, .int a0, .ref 73] W1 (.inl (some (.int 1))) W2 := by
  refine ct_ofH (by decide +kernel) (Nat.le_of_ble_eq_true rfl) ?_
  refine go_aload_n dL_violations_0 rfl ?_
  refine go_iconst 0 dL_violations_1 (by decide) ?_
  refine go_aload_n dL_violations_2 rfl ?_
  refine go_iload_n dL_violations_3 rfl ?_
  refine go_virt (mc := 1) (ms := 6) (bc := 0) (bs := 0) dL_violations_4 hM v_L_54_6 rfl ho rfl (Nat.le_of_ble_eq_true rfl) (Nat.le_of_ble_eq_true rfl) (Nat.le_of_ble_eq_true rfl) (fun v hv => by cases hv) (fun E hE => ?_)
  cases hE
  exact gox_catch [] (0, 9, 12, 13) [] rfl (fun z hz => by cases hz) (by decide) (by decide) kk_L_13 (mm_inl (i := 505) (by decide +kernel)) (Or.inl ⟨3, 1, dL_violations_12, (Nat.le_of_ble_eq_true rfl), dL_violations_13, by decide, dL_violations_14⟩)
theorem hy_disturb (l : Launch) {W1 W2 : MW} {a0 a1 a2 : Int32} {v : Int32} {f : Nat → Int64} {fs : List Value} (hM : Ct l (.code yX7_disturb cX7_disturb 4 (some .int)) yX7_disturb 7 0 0 [.ref 0, .int a0, .int a1, .int a2] W1 (.inl (some (.int v))) W2) (ho : mm_ob W1 0 6 fs) (hr : mm_ar W2 73 .long (1, .inr (.inl f))) : Ct l (.codeWith yL_disturb cL_disturb 6 (some .int) [(0, 12, 15, 13), (0, 12, 19, 27)]) yL_disturb 8 0 0 [.ref 0, .int a0, .int a1, .int a2, .ref 73] W1 (.inl (some (.int 0))) (mm_up W2 73 (.inl (.long, 1, .inr (.inl (vp_updL f 0 v.toInt64))))) := by
  refine ct_ofH (by decide +kernel) (Nat.le_of_ble_eq_true rfl) ?_
  refine go_aload dL_disturb_0 rfl ?_
  refine go_iconst 0 dL_disturb_2 (by decide) ?_
  refine go_aload_n dL_disturb_3 rfl ?_
  refine go_iload_n dL_disturb_4 rfl ?_
  refine go_iload_n dL_disturb_5 rfl ?_
  refine go_iload_n dL_disturb_6 rfl ?_
  refine go_virt1 dL_disturb_7 hM v_L_57_6 rfl ho rfl (Nat.le_of_ble_eq_true rfl) (Nat.le_of_ble_eq_true rfl) (Nat.le_of_ble_eq_true rfl) ?_
  refine go_i2l dL_disturb_10 ?_
  refine go_lastore 0 dL_disturb_11 hr rfl (by decide) (by decide) ?_
  refine go_goto 23 dL_disturb_12 (by decide) ?_
  refine go_iconst 0 dL_disturb_23 (by decide) ?_
  exact go_ireturn dL_disturb_24 rfl rfl
theorem hn_disturb_1 (l : Launch) {W1 W2 : MW} {a0 a1 a2 : Int32} {fs : List Value} (hM : Ct l (.code yX7_disturb cX7_disturb 4 (some .int)) yX7_disturb 7 1 6 [.ref 0, .int a0, .int a1, .int a2] W1 (.inr "java/lang/IllegalArgumentException") W2) (ho : mm_ob W1 0 6 fs) : Ct l (.codeWith yL_disturb cL_disturb 6 (some .int) [(0, 12, 15, 13), (0, 12, 19, 27)]) yL_disturb 8 1 6 [.ref 0, .int a0, .int a1, .int a2, .ref 73] W1 (.inl (some (.int 1))) W2 := by
  refine ct_ofH (by decide +kernel) (Nat.le_of_ble_eq_true rfl) ?_
  refine go_aload dL_disturb_0 rfl ?_
  refine go_iconst 0 dL_disturb_2 (by decide) ?_
  refine go_aload_n dL_disturb_3 rfl ?_
  refine go_iload_n dL_disturb_4 rfl ?_
  refine go_iload_n dL_disturb_5 rfl ?_
  refine go_iload_n dL_disturb_6 rfl ?_
  refine go_virt (mc := 1) (ms := 6) (bc := 0) (bs := 0) dL_disturb_7 hM v_L_57_6 rfl ho rfl (Nat.le_of_ble_eq_true rfl) (Nat.le_of_ble_eq_true rfl) (Nat.le_of_ble_eq_true rfl) (fun v hv => by cases hv) (fun E hE => ?_)
  cases hE
  exact gox_catch [] (0, 12, 15, 13) [(0, 12, 19, 27)] rfl (fun z hz => by cases hz) (by decide) (by decide) kk_L_13 (mm_inl (i := 505) (by decide +kernel)) (Or.inr ⟨5, 1, dL_disturb_15, (Nat.le_of_ble_eq_true rfl), dL_disturb_17, by decide, dL_disturb_18⟩)
theorem hn_disturb_2 (l : Launch) {W1 W2 : MW} {a0 a1 a2 : Int32} {fs : List Value} (hM : Ct l (.code yX7_disturb cX7_disturb 4 (some .int)) yX7_disturb 7 1 6 [.ref 0, .int a0, .int a1, .int a2] W1 (.inr "java/lang/IndexOutOfBoundsException") W2) (ho : mm_ob W1 0 6 fs) : Ct l (.codeWith yL_disturb cL_disturb 6 (some .int) [(0, 12, 15, 13), (0, 12, 19, 27)]) yL_disturb 8 1 6 [.ref 0, .int a0, .int a1, .int a2, .ref 73] W1 (.inl (some (.int 2))) W2 := by
  refine ct_ofH (by decide +kernel) (Nat.le_of_ble_eq_true rfl) ?_
  refine go_aload dL_disturb_0 rfl ?_
  refine go_iconst 0 dL_disturb_2 (by decide) ?_
  refine go_aload_n dL_disturb_3 rfl ?_
  refine go_iload_n dL_disturb_4 rfl ?_
  refine go_iload_n dL_disturb_5 rfl ?_
  refine go_iload_n dL_disturb_6 rfl ?_
  refine go_virt (mc := 1) (ms := 6) (bc := 0) (bs := 0) dL_disturb_7 hM v_L_57_6 rfl ho rfl (Nat.le_of_ble_eq_true rfl) (Nat.le_of_ble_eq_true rfl) (Nat.le_of_ble_eq_true rfl) (fun v hv => by cases hv) (fun E hE => ?_)
  cases hE
  exact gox_catch [(0, 12, 15, 13)] (0, 12, 19, 27) [] rfl (fun z hz => by rw [List.mem_singleton.mp hz]; exact ⟨by decide, "java/lang/IllegalArgumentException", kk_L_13, by decide +kernel⟩) (by decide) (by decide) kk_L_27 (mm_inl (i := 737) (by decide +kernel)) (Or.inr ⟨5, 2, dL_disturb_19, (Nat.le_of_ble_eq_true rfl), dL_disturb_21, by decide, dL_disturb_22⟩)
theorem hy_level (l : Launch) {W1 W2 : MW} {a0 : Int32} {v : Int32} {f : Nat → Int64} {fs : List Value} (hM : Ct l (.code yX7_level cX7_level 2 (some .int)) yX7_level 6 0 0 [.ref 0, .int a0] W1 (.inl (some (.int v))) W2) (ho : mm_ob W1 0 6 fs) (hr : mm_ar W2 73 .long (1, .inr (.inl f))) : Ct l (.codeWith yL_level cL_level 4 (some .int) [(0, 9, 12, 13)]) yL_level 7 0 0 [.ref 0, .int a0, .ref 73] W1 (.inl (some (.int 0))) (mm_up W2 73 (.inl (.long, 1, .inr (.inl (vp_updL f 0 v.toInt64))))) := by
  refine ct_ofH (by decide +kernel) (Nat.le_of_ble_eq_true rfl) ?_
  refine go_aload_n dL_level_0 rfl ?_
  refine go_iconst 0 dL_level_1 (by decide) ?_
  refine go_aload_n dL_level_2 rfl ?_
  refine go_iload_n dL_level_3 rfl ?_
  refine go_virt1 dL_level_4 hM v_L_61_6 rfl ho rfl (Nat.le_of_ble_eq_true rfl) (Nat.le_of_ble_eq_true rfl) (Nat.le_of_ble_eq_true rfl) ?_
  refine go_i2l dL_level_7 ?_
  refine go_lastore 0 dL_level_8 hr rfl (by decide) (by decide) ?_
  refine go_goto 15 dL_level_9 (by decide) ?_
  refine go_iconst 0 dL_level_15 (by decide) ?_
  exact go_ireturn dL_level_16 rfl rfl
theorem hn_level_1 (l : Launch) {W1 W2 : MW} {a0 : Int32} {fs : List Value} (hM : Ct l (.code yX7_level cX7_level 2 (some .int)) yX7_level 6 1 6 [.ref 0, .int a0] W1 (.inr "java/lang/IllegalArgumentException") W2) (ho : mm_ob W1 0 6 fs) : Ct l (.codeWith yL_level cL_level 4 (some .int) [(0, 9, 12, 13)]) yL_level 7 1 6 [.ref 0, .int a0, .ref 73] W1 (.inl (some (.int 1))) W2 := by
  refine ct_ofH (by decide +kernel) (Nat.le_of_ble_eq_true rfl) ?_
  refine go_aload_n dL_level_0 rfl ?_
  refine go_iconst 0 dL_level_1 (by decide) ?_
  refine go_aload_n dL_level_2 rfl ?_
  refine go_iload_n dL_level_3 rfl ?_
  refine go_virt (mc := 1) (ms := 6) (bc := 0) (bs := 0) dL_level_4 hM v_L_61_6 rfl ho rfl (Nat.le_of_ble_eq_true rfl) (Nat.le_of_ble_eq_true rfl) (Nat.le_of_ble_eq_true rfl) (fun v hv => by cases hv) (fun E hE => ?_)
  cases hE
  exact gox_catch [] (0, 9, 12, 13) [] rfl (fun z hz => by cases hz) (by decide) (by decide) kk_L_13 (mm_inl (i := 505) (by decide +kernel)) (Or.inl ⟨3, 1, dL_level_12, (Nat.le_of_ble_eq_true rfl), dL_level_13, by decide, dL_level_14⟩)
theorem hy_ancestors (l : Launch) {W1 W2 : MW} {a0 : Int32} {v : Int32} {f : Nat → Int64} {fs : List Value} (hM : Ct l (.code yX7_ancestors cX7_ancestors 2 (some .int)) yX7_ancestors 7 0 0 [.ref 0, .int a0] W1 (.inl (some (.int v))) W2) (ho : mm_ob W1 0 6 fs) (hr : mm_ar W2 73 .long (1, .inr (.inl f))) : Ct l (.codeWith yL_ancestors cL_ancestors 4 (some .int) [(0, 9, 12, 27)]) yL_ancestors 8 0 0 [.ref 0, .int a0, .ref 73] W1 (.inl (some (.int 0))) (mm_up W2 73 (.inl (.long, 1, .inr (.inl (vp_updL f 0 v.toInt64))))) := by
  refine ct_ofH (by decide +kernel) (Nat.le_of_ble_eq_true rfl) ?_
  refine go_aload_n dL_ancestors_0 rfl ?_
  refine go_iconst 0 dL_ancestors_1 (by decide) ?_
  refine go_aload_n dL_ancestors_2 rfl ?_
  refine go_iload_n dL_ancestors_3 rfl ?_
  refine go_virt1 dL_ancestors_4 hM v_L_64_6 rfl ho rfl (Nat.le_of_ble_eq_true rfl) (Nat.le_of_ble_eq_true rfl) (Nat.le_of_ble_eq_true rfl) ?_
  refine go_i2l dL_ancestors_7 ?_
  refine go_lastore 0 dL_ancestors_8 hr rfl (by decide) (by decide) ?_
  refine go_goto 15 dL_ancestors_9 (by decide) ?_
  refine go_iconst 0 dL_ancestors_15 (by decide) ?_
  exact go_ireturn dL_ancestors_16 rfl rfl
theorem hn_ancestors_1 (l : Launch) {W1 W2 : MW} {a0 : Int32} {fs : List Value} (hM : Ct l (.code yX7_ancestors cX7_ancestors 2 (some .int)) yX7_ancestors 7 1 6 [.ref 0, .int a0] W1 (.inr "java/lang/IndexOutOfBoundsException") W2) (ho : mm_ob W1 0 6 fs) : Ct l (.codeWith yL_ancestors cL_ancestors 4 (some .int) [(0, 9, 12, 27)]) yL_ancestors 8 1 6 [.ref 0, .int a0, .ref 73] W1 (.inl (some (.int 1))) W2 := by
  refine ct_ofH (by decide +kernel) (Nat.le_of_ble_eq_true rfl) ?_
  refine go_aload_n dL_ancestors_0 rfl ?_
  refine go_iconst 0 dL_ancestors_1 (by decide) ?_
  refine go_aload_n dL_ancestors_2 rfl ?_
  refine go_iload_n dL_ancestors_3 rfl ?_
  refine go_virt (mc := 1) (ms := 6) (bc := 0) (bs := 0) dL_ancestors_4 hM v_L_64_6 rfl ho rfl (Nat.le_of_ble_eq_true rfl) (Nat.le_of_ble_eq_true rfl) (Nat.le_of_ble_eq_true rfl) (fun v hv => by cases hv) (fun E hE => ?_)
  cases hE
  exact gox_catch [] (0, 9, 12, 27) [] rfl (fun z hz => by cases hz) (by decide) (by decide) kk_L_27 (mm_inl (i := 737) (by decide +kernel)) (Or.inl ⟨3, 1, dL_ancestors_12, (Nat.le_of_ble_eq_true rfl), dL_ancestors_13, by decide, dL_ancestors_14⟩)
theorem hy_comparisons (l : Launch) {W1 W2 : MW} {a0 : Int32} {v : Int32} {f : Nat → Int64} {fs : List Value} (hM : Ct l (.code yX7_comparisons cX7_comparisons 2 (some .int)) yX7_comparisons 7 0 0 [.ref 0, .int a0] W1 (.inl (some (.int v))) W2) (ho : mm_ob W1 0 6 fs) (hr : mm_ar W2 73 .long (1, .inr (.inl f))) : Ct l (.codeWith yL_comparisons cL_comparisons 4 (some .int) [(0, 9, 12, 13)]) yL_comparisons 8 0 0 [.ref 0, .int a0, .ref 73] W1 (.inl (some (.int 0))) (mm_up W2 73 (.inl (.long, 1, .inr (.inl (vp_updL f 0 v.toInt64))))) := by
  refine ct_ofH (by decide +kernel) (Nat.le_of_ble_eq_true rfl) ?_
  refine go_aload_n dL_comparisons_0 rfl ?_
  refine go_iconst 0 dL_comparisons_1 (by decide) ?_
  refine go_aload_n dL_comparisons_2 rfl ?_
  refine go_iload_n dL_comparisons_3 rfl ?_
  refine go_virt1 dL_comparisons_4 hM v_L_67_6 rfl ho rfl (Nat.le_of_ble_eq_true rfl) (Nat.le_of_ble_eq_true rfl) (Nat.le_of_ble_eq_true rfl) ?_
  refine go_i2l dL_comparisons_7 ?_
  refine go_lastore 0 dL_comparisons_8 hr rfl (by decide) (by decide) ?_
  refine go_goto 15 dL_comparisons_9 (by decide) ?_
  refine go_iconst 0 dL_comparisons_15 (by decide) ?_
  exact go_ireturn dL_comparisons_16 rfl rfl
theorem hn_comparisons_1 (l : Launch) {W1 W2 : MW} {a0 : Int32} {fs : List Value} (hM : Ct l (.code yX7_comparisons cX7_comparisons 2 (some .int)) yX7_comparisons 7 1 6 [.ref 0, .int a0] W1 (.inr "java/lang/IllegalArgumentException") W2) (ho : mm_ob W1 0 6 fs) : Ct l (.codeWith yL_comparisons cL_comparisons 4 (some .int) [(0, 9, 12, 13)]) yL_comparisons 8 1 6 [.ref 0, .int a0, .ref 73] W1 (.inl (some (.int 1))) W2 := by
  refine ct_ofH (by decide +kernel) (Nat.le_of_ble_eq_true rfl) ?_
  refine go_aload_n dL_comparisons_0 rfl ?_
  refine go_iconst 0 dL_comparisons_1 (by decide) ?_
  refine go_aload_n dL_comparisons_2 rfl ?_
  refine go_iload_n dL_comparisons_3 rfl ?_
  refine go_virt (mc := 1) (ms := 6) (bc := 0) (bs := 0) dL_comparisons_4 hM v_L_67_6 rfl ho rfl (Nat.le_of_ble_eq_true rfl) (Nat.le_of_ble_eq_true rfl) (Nat.le_of_ble_eq_true rfl) (fun v hv => by cases hv) (fun E hE => ?_)
  cases hE
  exact gox_catch [] (0, 9, 12, 13) [] rfl (fun z hz => by cases hz) (by decide) (by decide) kk_L_13 (mm_inl (i := 505) (by decide +kernel)) (Or.inl ⟨3, 1, dL_comparisons_12, (Nat.le_of_ble_eq_true rfl), dL_comparisons_13, by decide, dL_comparisons_14⟩)
theorem hy_wouldNeed (l : Launch) {W1 W2 : MW} {a0 a1 a2 : Int32} {v : Int32} {f : Nat → Int64} {fs : List Value} (hM : Ct l (.code yX7_wouldNeed cX7_wouldNeed 4 (some .int)) yX7_wouldNeed 7 0 0 [.ref 0, .int a0, .int a1, .int a2] W1 (.inl (some (.int v))) W2) (ho : mm_ob W1 0 6 fs) (hr : mm_ar W2 73 .long (1, .inr (.inl f))) : Ct l (.codeWith yL_wouldNeed cL_wouldNeed 6 (some .int) [(0, 12, 15, 13)]) yL_wouldNeed 8 0 0 [.ref 0, .int a0, .int a1, .int a2, .ref 73] W1 (.inl (some (.int 0))) (mm_up W2 73 (.inl (.long, 1, .inr (.inl (vp_updL f 0 v.toInt64))))) := by
  refine ct_ofH (by decide +kernel) (Nat.le_of_ble_eq_true rfl) ?_
  refine go_aload dL_wouldNeed_0 rfl ?_
  refine go_iconst 0 dL_wouldNeed_2 (by decide) ?_
  refine go_aload_n dL_wouldNeed_3 rfl ?_
  refine go_iload_n dL_wouldNeed_4 rfl ?_
  refine go_iload_n dL_wouldNeed_5 rfl ?_
  refine go_iload_n dL_wouldNeed_6 rfl ?_
  refine go_virt1 dL_wouldNeed_7 hM v_L_70_6 rfl ho rfl (Nat.le_of_ble_eq_true rfl) (Nat.le_of_ble_eq_true rfl) (Nat.le_of_ble_eq_true rfl) ?_
  refine go_i2l dL_wouldNeed_10 ?_
  refine go_lastore 0 dL_wouldNeed_11 hr rfl (by decide) (by decide) ?_
  refine go_goto 19 dL_wouldNeed_12 (by decide) ?_
  refine go_iconst 0 dL_wouldNeed_19 (by decide) ?_
  exact go_ireturn dL_wouldNeed_20 rfl rfl
theorem hn_wouldNeed_1 (l : Launch) {W1 W2 : MW} {a0 a1 a2 : Int32} {fs : List Value} (hM : Ct l (.code yX7_wouldNeed cX7_wouldNeed 4 (some .int)) yX7_wouldNeed 7 1 6 [.ref 0, .int a0, .int a1, .int a2] W1 (.inr "java/lang/IllegalArgumentException") W2) (ho : mm_ob W1 0 6 fs) : Ct l (.codeWith yL_wouldNeed cL_wouldNeed 6 (some .int) [(0, 12, 15, 13)]) yL_wouldNeed 8 1 6 [.ref 0, .int a0, .int a1, .int a2, .ref 73] W1 (.inl (some (.int 1))) W2 := by
  refine ct_ofH (by decide +kernel) (Nat.le_of_ble_eq_true rfl) ?_
  refine go_aload dL_wouldNeed_0 rfl ?_
  refine go_iconst 0 dL_wouldNeed_2 (by decide) ?_
  refine go_aload_n dL_wouldNeed_3 rfl ?_
  refine go_iload_n dL_wouldNeed_4 rfl ?_
  refine go_iload_n dL_wouldNeed_5 rfl ?_
  refine go_iload_n dL_wouldNeed_6 rfl ?_
  refine go_virt (mc := 1) (ms := 6) (bc := 0) (bs := 0) dL_wouldNeed_7 hM v_L_70_6 rfl ho rfl (Nat.le_of_ble_eq_true rfl) (Nat.le_of_ble_eq_true rfl) (Nat.le_of_ble_eq_true rfl) (fun v hv => by cases hv) (fun E hE => ?_)
  cases hE
  exact gox_catch [] (0, 12, 15, 13) [] rfl (fun z hz => by cases hz) (by decide) (by decide) kk_L_13 (mm_inl (i := 505) (by decide +kernel)) (Or.inr ⟨5, 1, dL_wouldNeed_15, (Nat.le_of_ble_eq_true rfl), dL_wouldNeed_17, by decide, dL_wouldNeed_18⟩)
theorem hy_sortingNeeds (l : Launch) {W1 W2 : MW} {a0 : Int32} {v : Int32} {f : Nat → Int64} {fs : List Value} (hM : Ct l (.code yX7_sortingNeeds cX7_sortingNeeds 3 (some .int)) yX7_sortingNeeds 7 0 0 [.ref 0, .int a0] W1 (.inl (some (.int v))) W2) (ho : mm_ob W1 0 6 fs) (hr : mm_ar W2 73 .long (1, .inr (.inl f))) : Ct l (.codeWith yL_sortingNeeds cL_sortingNeeds 4 (some .int) [(0, 9, 12, 13)]) yL_sortingNeeds 8 0 0 [.ref 0, .int a0, .ref 73] W1 (.inl (some (.int 0))) (mm_up W2 73 (.inl (.long, 1, .inr (.inl (vp_updL f 0 v.toInt64))))) := by
  refine ct_ofH (by decide +kernel) (Nat.le_of_ble_eq_true rfl) ?_
  refine go_aload_n dL_sortingNeeds_0 rfl ?_
  refine go_iconst 0 dL_sortingNeeds_1 (by decide) ?_
  refine go_aload_n dL_sortingNeeds_2 rfl ?_
  refine go_iload_n dL_sortingNeeds_3 rfl ?_
  refine go_virt1 dL_sortingNeeds_4 hM v_L_73_6 rfl ho rfl (Nat.le_of_ble_eq_true rfl) (Nat.le_of_ble_eq_true rfl) (Nat.le_of_ble_eq_true rfl) ?_
  refine go_i2l dL_sortingNeeds_7 ?_
  refine go_lastore 0 dL_sortingNeeds_8 hr rfl (by decide) (by decide) ?_
  refine go_goto 15 dL_sortingNeeds_9 (by decide) ?_
  refine go_iconst 0 dL_sortingNeeds_15 (by decide) ?_
  exact go_ireturn dL_sortingNeeds_16 rfl rfl
theorem hn_sortingNeeds_1 (l : Launch) {W1 W2 : MW} {a0 : Int32} {fs : List Value} (hM : Ct l (.code yX7_sortingNeeds cX7_sortingNeeds 3 (some .int)) yX7_sortingNeeds 7 1 6 [.ref 0, .int a0] W1 (.inr "java/lang/IllegalArgumentException") W2) (ho : mm_ob W1 0 6 fs) : Ct l (.codeWith yL_sortingNeeds cL_sortingNeeds 4 (some .int) [(0, 9, 12, 13)]) yL_sortingNeeds 8 1 6 [.ref 0, .int a0, .ref 73] W1 (.inl (some (.int 1))) W2 := by
  refine ct_ofH (by decide +kernel) (Nat.le_of_ble_eq_true rfl) ?_
  refine go_aload_n dL_sortingNeeds_0 rfl ?_
  refine go_iconst 0 dL_sortingNeeds_1 (by decide) ?_
  refine go_aload_n dL_sortingNeeds_2 rfl ?_
  refine go_iload_n dL_sortingNeeds_3 rfl ?_
  refine go_virt (mc := 1) (ms := 6) (bc := 0) (bs := 0) dL_sortingNeeds_4 hM v_L_73_6 rfl ho rfl (Nat.le_of_ble_eq_true rfl) (Nat.le_of_ble_eq_true rfl) (Nat.le_of_ble_eq_true rfl) (fun v hv => by cases hv) (fun E hE => ?_)
  cases hE
  exact gox_catch [] (0, 9, 12, 13) [] rfl (fun z hz => by cases hz) (by decide) (by decide) kk_L_13 (mm_inl (i := 505) (by decide +kernel)) (Or.inl ⟨3, 1, dL_sortingNeeds_12, (Nat.le_of_ble_eq_true rfl), dL_sortingNeeds_13, by decide, dL_sortingNeeds_14⟩)
theorem hy_type (l : Launch) {W1 W2 : MW} {a0 : Int32} {v : Int32} {f : Nat → Int64} {fs : List Value} (hM : Ct l (.code yX7_type cX7_type 2 (some .int)) yX7_type 6 0 0 [.ref 0, .int a0] W1 (.inl (some (.int v))) W2) (ho : mm_ob W1 0 6 fs) (hr : mm_ar W2 73 .long (1, .inr (.inl f))) : Ct l (.codeWith yL_type cL_type 4 (some .int) [(0, 9, 12, 13), (0, 9, 15, 15)]) yL_type 7 0 0 [.ref 0, .int a0, .ref 73] W1 (.inl (some (.int 0))) (mm_up W2 73 (.inl (.long, 1, .inr (.inl (vp_updL f 0 v.toInt64))))) := by
  refine ct_ofH (by decide +kernel) (Nat.le_of_ble_eq_true rfl) ?_
  refine go_aload_n dL_type_0 rfl ?_
  refine go_iconst 0 dL_type_1 (by decide) ?_
  refine go_aload_n dL_type_2 rfl ?_
  refine go_iload_n dL_type_3 rfl ?_
  refine go_virt1 dL_type_4 hM v_L_76_6 rfl ho rfl (Nat.le_of_ble_eq_true rfl) (Nat.le_of_ble_eq_true rfl) (Nat.le_of_ble_eq_true rfl) ?_
  refine go_i2l dL_type_7 ?_
  refine go_lastore 0 dL_type_8 hr rfl (by decide) (by decide) ?_
  refine go_goto 18 dL_type_9 (by decide) ?_
  refine go_iconst 0 dL_type_18 (by decide) ?_
  exact go_ireturn dL_type_19 rfl rfl
theorem hn_type_1 (l : Launch) {W1 W2 : MW} {a0 : Int32} {fs : List Value} (hM : Ct l (.code yX7_type cX7_type 2 (some .int)) yX7_type 6 1 6 [.ref 0, .int a0] W1 (.inr "java/lang/IllegalArgumentException") W2) (ho : mm_ob W1 0 6 fs) : Ct l (.codeWith yL_type cL_type 4 (some .int) [(0, 9, 12, 13), (0, 9, 15, 15)]) yL_type 7 1 6 [.ref 0, .int a0, .ref 73] W1 (.inl (some (.int 1))) W2 := by
  refine ct_ofH (by decide +kernel) (Nat.le_of_ble_eq_true rfl) ?_
  refine go_aload_n dL_type_0 rfl ?_
  refine go_iconst 0 dL_type_1 (by decide) ?_
  refine go_aload_n dL_type_2 rfl ?_
  refine go_iload_n dL_type_3 rfl ?_
  refine go_virt (mc := 1) (ms := 6) (bc := 0) (bs := 0) dL_type_4 hM v_L_76_6 rfl ho rfl (Nat.le_of_ble_eq_true rfl) (Nat.le_of_ble_eq_true rfl) (Nat.le_of_ble_eq_true rfl) (fun v hv => by cases hv) (fun E hE => ?_)
  cases hE
  exact gox_catch [] (0, 9, 12, 13) [(0, 9, 15, 15)] rfl (fun z hz => by cases hz) (by decide) (by decide) kk_L_13 (mm_inl (i := 505) (by decide +kernel)) (Or.inl ⟨3, 1, dL_type_12, (Nat.le_of_ble_eq_true rfl), dL_type_13, by decide, dL_type_14⟩)
theorem hn_type_2 (l : Launch) {W1 W2 : MW} {a0 : Int32} {fs : List Value} (hM : Ct l (.code yX7_type cX7_type 2 (some .int)) yX7_type 6 1 6 [.ref 0, .int a0] W1 (.inr "java/lang/IllegalStateException") W2) (ho : mm_ob W1 0 6 fs) : Ct l (.codeWith yL_type cL_type 4 (some .int) [(0, 9, 12, 13), (0, 9, 15, 15)]) yL_type 7 1 6 [.ref 0, .int a0, .ref 73] W1 (.inl (some (.int 2))) W2 := by
  refine ct_ofH (by decide +kernel) (Nat.le_of_ble_eq_true rfl) ?_
  refine go_aload_n dL_type_0 rfl ?_
  refine go_iconst 0 dL_type_1 (by decide) ?_
  refine go_aload_n dL_type_2 rfl ?_
  refine go_iload_n dL_type_3 rfl ?_
  refine go_virt (mc := 1) (ms := 6) (bc := 0) (bs := 0) dL_type_4 hM v_L_76_6 rfl ho rfl (Nat.le_of_ble_eq_true rfl) (Nat.le_of_ble_eq_true rfl) (Nat.le_of_ble_eq_true rfl) (fun v hv => by cases hv) (fun E hE => ?_)
  cases hE
  exact gox_catch [(0, 9, 12, 13)] (0, 9, 15, 15) [] rfl (fun z hz => by rw [List.mem_singleton.mp hz]; exact ⟨by decide, "java/lang/IllegalArgumentException", kk_L_13, by decide +kernel⟩) (by decide) (by decide) kk_L_15 (mm_inl (i := 573) (by decide +kernel)) (Or.inl ⟨3, 2, dL_type_15, (Nat.le_of_ble_eq_true rfl), dL_type_16, by decide, dL_type_17⟩)
theorem hy_run (l : Launch) {W1 W2 : MW} {v : Int32} {f : Nat → Int64} {fs : List Value} (hM : Ct l (.code yX7_run cX7_run 3 (some .int)) yX7_run 7 0 0 [.ref 0] W1 (.inl (some (.int v))) W2) (ho : mm_ob W1 0 6 fs) (hr : mm_ar W2 73 .long (1, .inr (.inl f))) : Ct l (.codeWith yL_run cL_run 3 (some .int) [(0, 8, 11, 13)]) yL_run 8 0 0 [.ref 0, .ref 73] W1 (.inl (some (.int 0))) (mm_up W2 73 (.inl (.long, 1, .inr (.inl (vp_updL f 0 v.toInt64))))) := by
  refine ct_ofH (by decide +kernel) (Nat.le_of_ble_eq_true rfl) ?_
  refine go_aload_n dL_run_0 rfl ?_
  refine go_iconst 0 dL_run_1 (by decide) ?_
  refine go_aload_n dL_run_2 rfl ?_
  refine go_virt1 dL_run_3 hM v_L_79_6 rfl ho rfl (Nat.le_of_ble_eq_true rfl) (Nat.le_of_ble_eq_true rfl) (Nat.le_of_ble_eq_true rfl) ?_
  refine go_i2l dL_run_6 ?_
  refine go_lastore 0 dL_run_7 hr rfl (by decide) (by decide) ?_
  refine go_goto 14 dL_run_8 (by decide) ?_
  refine go_iconst 0 dL_run_14 (by decide) ?_
  exact go_ireturn dL_run_15 rfl rfl
theorem hn_run_1 (l : Launch) {W1 W2 : MW} {fs : List Value} (hM : Ct l (.code yX7_run cX7_run 3 (some .int)) yX7_run 7 1 6 [.ref 0] W1 (.inr "java/lang/IllegalArgumentException") W2) (ho : mm_ob W1 0 6 fs) : Ct l (.codeWith yL_run cL_run 3 (some .int) [(0, 8, 11, 13)]) yL_run 8 1 6 [.ref 0, .ref 73] W1 (.inl (some (.int 1))) W2 := by
  refine ct_ofH (by decide +kernel) (Nat.le_of_ble_eq_true rfl) ?_
  refine go_aload_n dL_run_0 rfl ?_
  refine go_iconst 0 dL_run_1 (by decide) ?_
  refine go_aload_n dL_run_2 rfl ?_
  refine go_virt (mc := 1) (ms := 6) (bc := 0) (bs := 0) dL_run_3 hM v_L_79_6 rfl ho rfl (Nat.le_of_ble_eq_true rfl) (Nat.le_of_ble_eq_true rfl) (Nat.le_of_ble_eq_true rfl) (fun v hv => by cases hv) (fun E hE => ?_)
  cases hE
  exact gox_catch [] (0, 8, 11, 13) [] rfl (fun z hz => by cases hz) (by decide) (by decide) kk_L_13 (mm_inl (i := 505) (by decide +kernel)) (Or.inl ⟨2, 1, dL_run_11, (Nat.le_of_ble_eq_true rfl), dL_run_12, by decide, dL_run_13⟩)
theorem hy_undo (l : Launch) {W1 W2 : MW} {v : Int32} {f : Nat → Int64} {fs : List Value} (hM : Ct l (.code yX7_undo cX7_undo 1 (some .int)) yX7_undo 6 0 0 [.ref 0] W1 (.inl (some (.int v))) W2) (ho : mm_ob W1 0 6 fs) (hr : mm_ar W2 73 .long (1, .inr (.inl f))) : Ct l (.codeWith yL_undo cL_undo 3 (some .int) [(0, 8, 11, 15)]) yL_undo 7 0 0 [.ref 0, .ref 73] W1 (.inl (some (.int 0))) (mm_up W2 73 (.inl (.long, 1, .inr (.inl (vp_updL f 0 v.toInt64))))) := by
  refine ct_ofH (by decide +kernel) (Nat.le_of_ble_eq_true rfl) ?_
  refine go_aload_n dL_undo_0 rfl ?_
  refine go_iconst 0 dL_undo_1 (by decide) ?_
  refine go_aload_n dL_undo_2 rfl ?_
  refine go_virt1 dL_undo_3 hM v_L_82_6 rfl ho rfl (Nat.le_of_ble_eq_true rfl) (Nat.le_of_ble_eq_true rfl) (Nat.le_of_ble_eq_true rfl) ?_
  refine go_i2l dL_undo_6 ?_
  refine go_lastore 0 dL_undo_7 hr rfl (by decide) (by decide) ?_
  refine go_goto 14 dL_undo_8 (by decide) ?_
  refine go_iconst 0 dL_undo_14 (by decide) ?_
  exact go_ireturn dL_undo_15 rfl rfl
theorem hn_undo_1 (l : Launch) {W1 W2 : MW} {fs : List Value} (hM : Ct l (.code yX7_undo cX7_undo 1 (some .int)) yX7_undo 6 1 6 [.ref 0] W1 (.inr "java/lang/IllegalStateException") W2) (ho : mm_ob W1 0 6 fs) : Ct l (.codeWith yL_undo cL_undo 3 (some .int) [(0, 8, 11, 15)]) yL_undo 7 1 6 [.ref 0, .ref 73] W1 (.inl (some (.int 1))) W2 := by
  refine ct_ofH (by decide +kernel) (Nat.le_of_ble_eq_true rfl) ?_
  refine go_aload_n dL_undo_0 rfl ?_
  refine go_iconst 0 dL_undo_1 (by decide) ?_
  refine go_aload_n dL_undo_2 rfl ?_
  refine go_virt (mc := 1) (ms := 6) (bc := 0) (bs := 0) dL_undo_3 hM v_L_82_6 rfl ho rfl (Nat.le_of_ble_eq_true rfl) (Nat.le_of_ble_eq_true rfl) (Nat.le_of_ble_eq_true rfl) (fun v hv => by cases hv) (fun E hE => ?_)
  cases hE
  exact gox_catch [] (0, 8, 11, 15) [] rfl (fun z hz => by cases hz) (by decide) (by decide) kk_L_15 (mm_inl (i := 573) (by decide +kernel)) (Or.inl ⟨2, 1, dL_undo_11, (Nat.le_of_ble_eq_true rfl), dL_undo_12, by decide, dL_undo_13⟩)
