def brkV (Q : QU) (k : Nat) : Nat := brkK ltI k (Q k).1 (Q k).2.1
theorem cq_brk0 (l : Launch) {w : MW} {q : Nat} {Q : QU} (hq : q + 8 < w.1) (hn : (Q 0).1 ≤ 30) : Ct l (.code yX2_brokenPairs cX2_brokenPairs 3 (some .int)) yX2_brokenPairs 2 0 0 [.ref (q + 1)] (quW w q Q) (.inl (some (.int (nI (brkV Q 0))))) (quW w q Q) := ct_w (c_broken0 l (w := quW w q Q) (h := q + 1 + 2 * 0) (by show q + 1 + 2 * 0 + 1 < w.1; omega) hn) (quW_lay (k := 0) (by decide)) (quW_lay (k := 0) (by decide)) rfl
theorem cq_brk1 (l : Launch) {w : MW} {q : Nat} {Q : QU} (hq : q + 8 < w.1) (hn : (Q 1).1 ≤ 30) : Ct l (.code yX4_brokenPairs cX4_brokenPairs 6 (some .int)) yX4_brokenPairs 2 0 0 [.ref (q + 3)] (quW w q Q) (.inl (some (.int (nI (brkV Q 1))))) (quW w q Q) := ct_w (c_broken1 l (w := quW w q Q) (h := q + 1 + 2 * 1) (by show q + 1 + 2 * 1 + 1 < w.1; omega) hn) (quW_lay (k := 1) (by decide)) (quW_lay (k := 1) (by decide)) (by rw [brk1_max]; rfl)
theorem cq_brk2 (l : Launch) {w : MW} {q : Nat} {Q : QU} (hq : q + 8 < w.1) (hn : (Q 2).1 ≤ 30) : Ct l (.code yX0_brokenPairs cX0_brokenPairs 5 (some .int)) yX0_brokenPairs 2 0 0 [.ref (q + 5)] (quW w q Q) (.inl (some (.int (nI (brkV Q 2))))) (quW w q Q) := ct_w (c_broken2 l (w := quW w q Q) (h := q + 1 + 2 * 2) (by show q + 1 + 2 * 2 + 1 < w.1; omega) hn) (quW_lay (k := 2) (by decide)) (quW_lay (k := 2) (by decide)) (by rw [brk2_max]; rfl)
theorem cq_brk3 (l : Launch) {w : MW} {q : Nat} {Q : QU} (hq : q + 8 < w.1) (hn : (Q 3).1 ≤ 30) : Ct l (.code yX0_brokenPairs cX0_brokenPairs 5 (some .int)) yX0_brokenPairs 2 0 0 [.ref (q + 7)] (quW w q Q) (.inl (some (.int (nI (brkV Q 3))))) (quW w q Q) := ct_w (c_broken2 l (w := quW w q Q) (h := q + 1 + 2 * 3) (by show q + 1 + 2 * 3 + 1 < w.1; omega) hn) (quW_lay (k := 3) (by decide)) (quW_lay (k := 3) (by decide)) (by rw [brk2_max]; rfl)
theorem cq_abv2 (l : Launch) {w : MW} {q : Nat} {Q : QU} (hq : q + 8 < w.1) (hn : (Q 2).1 ≤ 30) {x : Int32} (hx : fndN (Q 2).2.1 (Q 2).1 x < (Q 2).1) : Ct l (.code yX0_handlesAbove cX0_handlesAbove 4 (some .int)) yX0_handlesAbove 3 0 0 [.ref (q + 5), .int x] (quW w q Q) (.inl (some (.int (abS (Q 2).2.1 30 (fndN (Q 2).2.1 (Q 2).1 x) 0)))) (quW w q Q) := ct_w (c_above l (w := quW w q Q) (h := q + 1 + 2 * 2) (by show q + 1 + 2 * 2 + 1 < w.1; omega) hn hx) (quW_lay (k := 2) (by decide)) (quW_lay (k := 2) (by decide)) rfl
theorem cq_abv3 (l : Launch) {w : MW} {q : Nat} {Q : QU} (hq : q + 8 < w.1) (hn : (Q 3).1 ≤ 30) {x : Int32} (hx : fndN (Q 3).2.1 (Q 3).1 x < (Q 3).1) : Ct l (.code yX0_handlesAbove cX0_handlesAbove 4 (some .int)) yX0_handlesAbove 3 0 0 [.ref (q + 7), .int x] (quW w q Q) (.inl (some (.int (abS (Q 3).2.1 30 (fndN (Q 3).2.1 (Q 3).1 x) 0)))) (quW w q Q) := ct_w (c_above l (w := quW w q Q) (h := q + 1 + 2 * 3) (by show q + 1 + 2 * 3 + 1 < w.1; omega) hn hx) (quW_lay (k := 3) (by decide)) (quW_lay (k := 3) (by decide)) rfl
theorem go_brk {l : Launch} {y : MethodName} {cc : ByteArray} {nL : Nat} {ret : Option FieldType} {hh : List (Nat × Nat × Nat × Nat)} {ext : Option (Nat × (Nat → Int32))} {Z : MZ} {d bc bs : Nat} {pc : Nat} {lv : List (Nat × Value)} {st rest : List Value} {w : MW} {Q U : QU} {H : HS} {t : Nat → Nat} {ln : Nat} {s : PS} (hw : 74 ≤ w.1) (hI : ∀ k, k < 4 → (Q k).1 ≤ 30) {k : Nat} (hk : k < 4) (hy : y.cls = RX7) (hd : decode cc pc = .ok (.invokevirtual 136, 3)) (hst : st = .ref (1 + 1 + 2 * k) :: rest) (hcat : (rest.map fun v => v.category).sum ≤ 8) (hdp : 3 ≤ d) (h : Go l y cc nL ret hh ext Z d bc bs (pc + 3) lv (.int (nI (brkV Q k)) :: rest) (tqW w Q U H t ln s)) : Go l y cc nL ret hh ext Z d bc bs pc lv st (tqW w Q U H t ln s) := by
  rcases (show k = 0 ∨ k = 1 ∨ k = 2 ∨ k = 3 by omega) with rfl | rfl | rfl | rfl
  · exact go_virt1 hd (tq_1 (cq_brk0 l (by show 1 + 8 < w.1; omega) (hI 0 (by decide)))) (hy.symm ▸ v_X7_136_2) rfl (tq_obk hw (k := 0) (by decide) rfl rfl) hst hcat hdp (Nat.le_of_ble_eq_true rfl) h
  · exact go_virt1 hd (tq_1 (cq_brk1 l (by show 1 + 8 < w.1; omega) (hI 1 (by decide)))) (hy.symm ▸ v_X7_136_3) rfl (tq_obk hw (k := 1) (by decide) rfl rfl) hst hcat hdp (Nat.le_of_ble_eq_true rfl) h
  · exact go_virt1 hd (tq_1 (cq_brk2 l (by show 1 + 8 < w.1; omega) (hI 2 (by decide)))) (hy.symm ▸ v_X7_136_0) rfl (tq_obk hw (k := 2) (by decide) rfl rfl) hst hcat hdp (Nat.le_of_ble_eq_true rfl) h
  · exact go_virt1 hd (tq_1 (cq_brk3 l (by show 1 + 8 < w.1; omega) (hI 3 (by decide)))) (hy.symm ▸ v_X7_136_0) rfl (tq_obk hw (k := 3) (by decide) rfl rfl) hst hcat hdp (Nat.le_of_ble_eq_true rfl) h
theorem go_ldcw {l : Launch} {y : MethodName} {cc : ByteArray} {nL : Nat} {ret : Option FieldType} {hh : List (Nat × Nat × Nat × Nat)} {ext : Option (Nat × (Nat → Int32))} {Z : MZ} {d bc bs : Nat} {pc : Nat} {lv : List (Nat × Value)} {st : List Value} {w : MW} {idx : Nat} {v : Int32} (hd : decode cc pc = .ok (.ldc_w idx, 3)) (hv : Cond.constant y.cls idx v ∈ mm_GW) (h : Go l y cc nL ret hh ext Z d bc bs (pc + 3) lv (.int v :: st) w) : Go l y cc nL ret hh ext Z d bc bs pc lv st w := by
  intro p e R s m args below meth c D dA A ad0 N0 C H locs cells slots ad ls h1 h2 h3 h4 h5 h6 h7 h8
  exact lv_ldcw C.1 C.2.1 C.2.2.2.2.1 (C.2.2.2.2.2.2.2.2.2.2.2.1.1.hts _ hv) hd (h p e R s m args below meth c D dA A ad0 N0 C H locs cells slots ad ls h1 h2 h3 h4 h5 h6 h7 (mm_O.cons mm_okv_int h8))
def shr (x z : Int32) : Int32 := (x.toUInt32 >>> (z.toUInt32 &&& Int32.toUInt32 31)).toInt32
def bc1 (x : Int32) : Int32 := x - (shr x 1 &&& 1431655765)
def bc2 (x : Int32) : Int32 := (x &&& 858993459) + (shr x 2 &&& 858993459)
def bc3 (x : Int32) : Int32 := (x + shr x 4) &&& 252645135
def bc4 (x : Int32) : Int32 := x + shr x 8
def bc5 (x : Int32) : Int32 := x + shr x 16
def bitC (x : Int32) : Int32 := bc5 (bc4 (bc3 (bc2 (bc1 x)))) &&& 63
def lesV (Q : QU) (x : Int32) : Int32 := nI (lesS ltI (Q 0).2.1 ((Q 0).2.1 (fndN (Q 0).2.1 (Q 0).1 x)) (Q 0).1 0)
def rkS (Q : QU) (x : Int32) : Nat → Nat → Int32
  | 0, _ => -1
  | u + 1, i => if hasB Q (nI i) = true ∧ lesV Q (nI i) = x then nI i else rkS Q x u (i + 1)
def keyV (Q : QU) (x : Int32) : Int32 := (Q 0).2.1 (fndN (Q 0).2.1 (Q 0).1 x) >>> (5 &&& 31)
def btS (Q : QU) (lo hi : Int32) : Nat → Nat → Nat → Nat
  | 0, _, b => b
  | u + 1, i, b => btS Q lo hi u (i + 1) (if hasB Q (nI i) = true ∧ lo ≤ keyV Q (nI i) ∧ keyV Q (nI i) ≤ hi then b + 1 else b)
def fewS (Q : QU) : Nat → Nat → Nat → Nat
  | 0, _, b => b
  | u + 1, i, b => fewS Q u (i + 1) (if cntV Q i < cntV Q b then i else b)
theorem c_violations_y (l : Launch) {w : MW} {Q U : QU} {H : HS} {t : Nat → Nat} {ln : Nat} {s : PS} (hw : 74 ≤ w.1) (hI : qI Q) {k : Nat} (h : k < 4) : Ct l (.code yX7_violations cX7_violations 2 (some .int)) yX7_violations 7 0 0 [.ref 0, .int (nI k)] (tqW w Q U H t ln s) (.inl (some (.int (nI (brkV Q k))))) (tqW w Q U H t ln s) := by
  refine ct_of (by decide +kernel) (Nat.le_of_ble_eq_true rfl) ?_
  refine go_iload_n dX7_violations_0 rfl ?_
  refine go_stat0 dX7_violations_1 (c_reqLayout_y l h) s_X7_121 kc_X7_requireLayout rfl rfl (Nat.le_of_ble_eq_true rfl) (Nat.le_of_ble_eq_true rfl) (Nat.le_of_ble_eq_true rfl) ?_
  refine go_aload_n dX7_violations_4 rfl ?_
  refine go_getfield dX7_violations_5 f_X7_10_6 (tq_ob hw) rfl ?_
  refine go_iload_n dX7_violations_8 rfl ?_
  refine go_virt1 dX7_violations_9 (tq_1 (c_layout l (by show 1 + 8 < w.1; omega) (k := k) h)) v_X7_124_4 rfl (tq_ob1 hw) rfl (Nat.le_of_ble_eq_true rfl) (Nat.le_of_ble_eq_true rfl) (Nat.le_of_ble_eq_true rfl) ?_
  refine go_brk hw (fun k z => by rw [hI.1 k z]; exact hI.2.1) h rfl dX7_violations_12 rfl (Nat.le_of_ble_eq_true rfl) (Nat.le_of_ble_eq_true rfl) ?_
  exact go_ireturn dX7_violations_15 rfl rfl
theorem c_violations_n (l : Launch) {w : MW} {Q U : QU} {H : HS} {t : Nat → Nat} {ln : Nat} {s : PS} (hw : 74 ≤ w.1) {x : Int32} (h : x < 0 ∨ 4 ≤ x) : Ct l (.code yX7_violations cX7_violations 2 (some .int)) yX7_violations 7 1 6 [.ref 0, .int x] (tqW w Q U H t ln s) (.inr "java/lang/IllegalArgumentException") (tqW w Q U H t ln s) := by
  refine ct_of (by decide +kernel) (Nat.le_of_ble_eq_true rfl) ?_
  refine go_iload_n dX7_violations_0 rfl ?_
  exact go_thrS (bc := 0) (bs := 0) dX7_violations_1 (c_reqLayout_n l h) s_X7_121 kc_X7_requireLayout rfl rfl (Nat.le_of_ble_eq_true rfl) (Nat.le_of_ble_eq_true rfl) (Nat.le_of_ble_eq_true rfl)
theorem c_disturb_y (l : Launch) {w : MW} {Q U : QU} {H : HS} {t : Nat → Nat} {ln : Nat} {s : PS} (hw : 74 ≤ w.1) (hI : qI Q) (hx : H.2.1 < 5) (hk : H.2.2 ≤ 5) {k i j : Nat} (h : k < 4) (hi : i < (Q 0).1) (hj : j < (Q 0).1) : Ct l (.code yX7_disturb cX7_disturb 4 (some .int)) yX7_disturb 7 0 0 [.ref 0, .int (nI k), .int (nI i), .int (nI j)] (tqW w Q U H t ln s) (.inl (some (.int (nI (brkV (va_up Q k ((Q k).1, sw (Q k).2.1 i j, (Q k).2.2)) k))))) (tqW w (va_up Q k ((Q k).1, sw (Q k).2.1 i j, (Q k).2.2)) U (keepH Q H) t ln s) := by
  refine ct_of (by decide +kernel) (Nat.le_of_ble_eq_true rfl) ?_
  have hD : ∀ m, m < 4 → ((va_up Q k ((Q k).1, sw (Q k).2.1 i j, (Q k).2.2)) m).1 ≤ 30 := by
    intro m hm
    have := hI.1 m hm
    have := hI.1 k h
    have := hI.2.1
    by_cases e : m = k
    · simp [va_up, e]; omega
    · simp [va_up, e]; omega
  refine go_iload_n dX7_disturb_0 rfl ?_
  refine go_stat0 dX7_disturb_1 (c_reqLayout_y l h) s_X7_121 kc_X7_requireLayout rfl rfl (Nat.le_of_ble_eq_true rfl) (Nat.le_of_ble_eq_true rfl) (Nat.le_of_ble_eq_true rfl) ?_
  refine go_aload_n dX7_disturb_4 rfl ?_
  refine go_iload_n dX7_disturb_5 rfl ?_
  refine go_virt0 dX7_disturb_6 (c_reqPos_y l hw hI.2.1 hi) v_X7_139_6 rfl (tq_ob hw) rfl (Nat.le_of_ble_eq_true rfl) (Nat.le_of_ble_eq_true rfl) (Nat.le_of_ble_eq_true rfl) ?_
  refine go_aload_n dX7_disturb_9 rfl ?_
  refine go_iload_n dX7_disturb_10 rfl ?_
  refine go_virt0 dX7_disturb_11 (c_reqPos_y l hw hI.2.1 hj) v_X7_139_6 rfl (tq_ob hw) rfl (Nat.le_of_ble_eq_true rfl) (Nat.le_of_ble_eq_true rfl) (Nat.le_of_ble_eq_true rfl) ?_
  refine go_aload_n dX7_disturb_14 rfl ?_
  refine go_getfield dX7_disturb_15 f_X7_22_6 (tq_ob hw) rfl ?_
  refine go_aload_n dX7_disturb_18 rfl ?_
  refine go_getfield dX7_disturb_19 f_X7_10_6 (tq_ob hw) rfl ?_
  refine go_virt0 dX7_disturb_22 (c_keep l hw hx hk) v_X7_48_1 rfl (tq_obh hw) rfl (Nat.le_of_ble_eq_true rfl) (Nat.le_of_ble_eq_true rfl) (Nat.le_of_ble_eq_true rfl) ?_
  refine go_aload_n dX7_disturb_25 rfl ?_
  refine go_getfield dX7_disturb_26 f_X7_10_6 (tq_ob hw) rfl ?_
  refine go_iload_n dX7_disturb_29 rfl ?_
  refine go_virt1 dX7_disturb_30 (tq_1 (c_layout l (by show 1 + 8 < w.1; omega) (k := k) h)) v_X7_124_4 rfl (tq_ob1 hw) rfl (Nat.le_of_ble_eq_true rfl) (Nat.le_of_ble_eq_true rfl) (Nat.le_of_ble_eq_true rfl) ?_
  refine go_iload_n dX7_disturb_33 rfl ?_
  refine go_iload_n dX7_disturb_34 rfl ?_
  refine go_virt0 dX7_disturb_35 (tq_1 (cq_exchange l (by show 1 + 8 < w.1; omega) h (by rw [hI.1 k h]; exact hI.2.1) rfl (by rw [hI.1 k h]; exact hi) (by rw [hI.1 k h]; exact hj))) (v_X7_142 kci_ok) rfl (tq_obk hw h (by omega) rfl) rfl (Nat.le_of_ble_eq_true rfl) (Nat.le_of_ble_eq_true rfl) (Nat.le_of_ble_eq_true rfl) ?_
  refine go_aload_n dX7_disturb_38 rfl ?_
  refine go_getfield dX7_disturb_39 f_X7_10_6 (tq_ob hw) rfl ?_
  refine go_iload_n dX7_disturb_42 rfl ?_
  refine go_virt1 dX7_disturb_43 (tq_1 (c_layout l (by show 1 + 8 < w.1; omega) (k := k) h)) v_X7_124_4 rfl (tq_ob1 hw) rfl (Nat.le_of_ble_eq_true rfl) (Nat.le_of_ble_eq_true rfl) (Nat.le_of_ble_eq_true rfl) ?_
  refine go_brk hw hD h rfl dX7_disturb_46 rfl (Nat.le_of_ble_eq_true rfl) (Nat.le_of_ble_eq_true rfl) ?_
  exact go_ireturn dX7_disturb_49 rfl rfl
theorem c_disturb_n1 (l : Launch) {w : MW} {Q U : QU} {H : HS} {t : Nat → Nat} {ln : Nat} {s : PS} (hw : 74 ≤ w.1) {x : Int32} (h : x < 0 ∨ 4 ≤ x) {i j : Int32} : Ct l (.code yX7_disturb cX7_disturb 4 (some .int)) yX7_disturb 7 1 6 [.ref 0, .int x, .int i, .int j] (tqW w Q U H t ln s) (.inr "java/lang/IllegalArgumentException") (tqW w Q U H t ln s) := by
  refine ct_of (by decide +kernel) (Nat.le_of_ble_eq_true rfl) ?_
  refine go_iload_n dX7_disturb_0 rfl ?_
  exact go_thrS (bc := 0) (bs := 0) dX7_disturb_1 (c_reqLayout_n l h) s_X7_121 kc_X7_requireLayout rfl rfl (Nat.le_of_ble_eq_true rfl) (Nat.le_of_ble_eq_true rfl) (Nat.le_of_ble_eq_true rfl)
theorem c_disturb_n2 (l : Launch) {w : MW} {Q U : QU} {H : HS} {t : Nat → Nat} {ln : Nat} {s : PS} (hw : 74 ≤ w.1) {k : Nat} (h : k < 4) {i j : Int32} (hi : i < 0 ∨ nI (Q 0).1 ≤ i) : Ct l (.code yX7_disturb cX7_disturb 4 (some .int)) yX7_disturb 7 1 6 [.ref 0, .int (nI k), .int i, .int j] (tqW w Q U H t ln s) (.inr "java/lang/IndexOutOfBoundsException") (tqW w Q U H t ln s) := by
  refine ct_of (by decide +kernel) (Nat.le_of_ble_eq_true rfl) ?_
  refine go_iload_n dX7_disturb_0 rfl ?_
  refine go_stat0 dX7_disturb_1 (c_reqLayout_y l h) s_X7_121 kc_X7_requireLayout rfl rfl (Nat.le_of_ble_eq_true rfl) (Nat.le_of_ble_eq_true rfl) (Nat.le_of_ble_eq_true rfl) ?_
  refine go_aload_n dX7_disturb_4 rfl ?_
  refine go_iload_n dX7_disturb_5 rfl ?_
  exact go_thrV (bc := 0) (bs := 0) dX7_disturb_6 (c_reqPos_n l hw hi) v_X7_139_6 rfl (tq_ob hw) rfl (Nat.le_of_ble_eq_true rfl) (Nat.le_of_ble_eq_true rfl) (Nat.le_of_ble_eq_true rfl)
theorem c_disturb_n3 (l : Launch) {w : MW} {Q U : QU} {H : HS} {t : Nat → Nat} {ln : Nat} {s : PS} (hw : 74 ≤ w.1) (hn : (Q 0).1 ≤ 30) {k i : Nat} (h : k < 4) {j : Int32} (hi : i < (Q 0).1) (hj : j < 0 ∨ nI (Q 0).1 ≤ j) : Ct l (.code yX7_disturb cX7_disturb 4 (some .int)) yX7_disturb 7 1 6 [.ref 0, .int (nI k), .int (nI i), .int j] (tqW w Q U H t ln s) (.inr "java/lang/IndexOutOfBoundsException") (tqW w Q U H t ln s) := by
  refine ct_of (by decide +kernel) (Nat.le_of_ble_eq_true rfl) ?_
  refine go_iload_n dX7_disturb_0 rfl ?_
  refine go_stat0 dX7_disturb_1 (c_reqLayout_y l h) s_X7_121 kc_X7_requireLayout rfl rfl (Nat.le_of_ble_eq_true rfl) (Nat.le_of_ble_eq_true rfl) (Nat.le_of_ble_eq_true rfl) ?_
  refine go_aload_n dX7_disturb_4 rfl ?_
  refine go_iload_n dX7_disturb_5 rfl ?_
  refine go_virt0 dX7_disturb_6 (c_reqPos_y l hw hn hi) v_X7_139_6 rfl (tq_ob hw) rfl (Nat.le_of_ble_eq_true rfl) (Nat.le_of_ble_eq_true rfl) (Nat.le_of_ble_eq_true rfl) ?_
  refine go_aload_n dX7_disturb_9 rfl ?_
  refine go_iload_n dX7_disturb_10 rfl ?_
  exact go_thrV (bc := 0) (bs := 0) dX7_disturb_11 (c_reqPos_n l hw hj) v_X7_139_6 rfl (tq_ob hw) rfl (Nat.le_of_ble_eq_true rfl) (Nat.le_of_ble_eq_true rfl) (Nat.le_of_ble_eq_true rfl)
theorem c_bitC (l : Launch) {w : MW} {x : Int32} : Ct l (.code yJ6_bitCount_0f7a4 cJ6_bitCount_0f7a4 1 (some .int)) yJ6_bitCount_0f7a4 0 0 0 [.int x] w (.inl (some (.int (bitC x)))) w := by
  refine ct_of (by decide +kernel) (Nat.le_of_ble_eq_true rfl) ?_
  refine go_iload_n dJ6_bitCount_0f7a4_0 rfl ?_
  refine go_iload_n dJ6_bitCount_0f7a4_1 rfl ?_
  refine go_iconst 1 dJ6_bitCount_0f7a4_2 (by decide) ?_
  refine go_iushr dJ6_bitCount_0f7a4_3 rfl ?_
  refine go_ldcw dJ6_bitCount_0f7a4_4 kd_J6_265 ?_
  refine go_iand dJ6_bitCount_0f7a4_7 ?_
  refine go_isub dJ6_bitCount_0f7a4_8 ?_
  refine go_istore_n dJ6_bitCount_0f7a4_9 (Nat.le_of_ble_eq_true rfl) rfl ?_
  refine go_iload_n dJ6_bitCount_0f7a4_10 rfl ?_
  refine go_ldcw dJ6_bitCount_0f7a4_11 kd_J6_266 ?_
  refine go_iand dJ6_bitCount_0f7a4_14 ?_
  refine go_iload_n dJ6_bitCount_0f7a4_15 rfl ?_
  refine go_iconst 2 dJ6_bitCount_0f7a4_16 (by decide) ?_
  refine go_iushr dJ6_bitCount_0f7a4_17 rfl ?_
  refine go_ldcw dJ6_bitCount_0f7a4_18 kd_J6_266 ?_
  refine go_iand dJ6_bitCount_0f7a4_21 ?_
  refine go_iadd dJ6_bitCount_0f7a4_22 ?_
  refine go_istore_n dJ6_bitCount_0f7a4_23 (Nat.le_of_ble_eq_true rfl) rfl ?_
  refine go_iload_n dJ6_bitCount_0f7a4_24 rfl ?_
  refine go_iload_n dJ6_bitCount_0f7a4_25 rfl ?_
  refine go_iconst 4 dJ6_bitCount_0f7a4_26 (by decide) ?_
  refine go_iushr dJ6_bitCount_0f7a4_27 rfl ?_
  refine go_iadd dJ6_bitCount_0f7a4_28 ?_
  refine go_ldcw dJ6_bitCount_0f7a4_29 kd_J6_267 ?_
  refine go_iand dJ6_bitCount_0f7a4_32 ?_
  refine go_istore_n dJ6_bitCount_0f7a4_33 (Nat.le_of_ble_eq_true rfl) rfl ?_
  refine go_iload_n dJ6_bitCount_0f7a4_34 rfl ?_
  refine go_iload_n dJ6_bitCount_0f7a4_35 rfl ?_
  refine go_bipush 8 dJ6_bitCount_0f7a4_36 (by decide) ?_
  refine go_iushr dJ6_bitCount_0f7a4_38 rfl ?_
  refine go_iadd dJ6_bitCount_0f7a4_39 ?_
  refine go_istore_n dJ6_bitCount_0f7a4_40 (Nat.le_of_ble_eq_true rfl) rfl ?_
  refine go_iload_n dJ6_bitCount_0f7a4_41 rfl ?_
  refine go_iload_n dJ6_bitCount_0f7a4_42 rfl ?_
  refine go_bipush 16 dJ6_bitCount_0f7a4_43 (by decide) ?_
  refine go_iushr dJ6_bitCount_0f7a4_45 rfl ?_
  refine go_iadd dJ6_bitCount_0f7a4_46 ?_
  refine go_istore_n dJ6_bitCount_0f7a4_47 (Nat.le_of_ble_eq_true rfl) rfl ?_
  refine go_iload_n dJ6_bitCount_0f7a4_48 rfl ?_
  refine go_bipush 63 dJ6_bitCount_0f7a4_49 (by decide) ?_
  refine go_iand dJ6_bitCount_0f7a4_51 ?_
  exact go_ireturn dJ6_bitCount_0f7a4_52 rfl rfl
theorem c_anc_y (l : Launch) {w : MW} {Q U : QU} {H : HS} {t : Nat → Nat} {ln : Nat} {s : PS} (hw : 74 ≤ w.1) (hI : qI Q) {x : Int32} (h : hasB Q x = true) : Ct l (.code yX7_ancestors cX7_ancestors 2 (some .int)) yX7_ancestors 7 0 0 [.ref 0, .int x] (tqW w Q U H t ln s) (.inl (some (.int (bitC (abS (Q 2).2.1 30 (fndN (Q 2).2.1 (Q 2).1 x) 0 &&& abS (Q 3).2.1 30 (fndN (Q 3).2.1 (Q 3).1 x) 0))))) (tqW w Q U H t ln s) := by
  refine ct_of (by decide +kernel) (Nat.le_of_ble_eq_true rfl) ?_
  refine go_aload_n dX7_ancestors_0 rfl ?_
  refine go_iload_n dX7_ancestors_1 rfl ?_
  refine go_virt0 dX7_ancestors_2 (c_reqItem_y l hw hI.2.1 h) v_X7_69_6 rfl (tq_ob hw) rfl (Nat.le_of_ble_eq_true rfl) (Nat.le_of_ble_eq_true rfl) (Nat.le_of_ble_eq_true rfl) ?_
  refine go_aload_n dX7_ancestors_5 rfl ?_
  refine go_getfield dX7_ancestors_6 f_X7_10_6 (tq_ob hw) rfl ?_
  refine go_getfield dX7_ancestors_9 f_X7_153_4 (tq_ob1 hw) rfl ?_
  refine go_iload_n dX7_ancestors_12 rfl ?_
  refine go_virt1 dX7_ancestors_13 (tq_1 (cq_abv2 l (by show 1 + 8 < w.1; omega) (by rw [hI.1 2 (by decide)]; exact hI.2.1) (hI.2.2 _ (of_decide_eq_true h) 2 (by decide)))) v_X7_157_0 rfl (tq_obk hw (k := 2) (by decide) rfl rfl) rfl (Nat.le_of_ble_eq_true rfl) (Nat.le_of_ble_eq_true rfl) (Nat.le_of_ble_eq_true rfl) ?_
  refine go_aload_n dX7_ancestors_16 rfl ?_
  refine go_getfield dX7_ancestors_17 f_X7_10_6 (tq_ob hw) rfl ?_
  refine go_getfield dX7_ancestors_20 f_X7_162_4 (tq_ob1 hw) rfl ?_
  refine go_iload_n dX7_ancestors_23 rfl ?_
  refine go_virt1 dX7_ancestors_24 (tq_1 (cq_abv3 l (by show 1 + 8 < w.1; omega) (by rw [hI.1 3 (by decide)]; exact hI.2.1) (hI.2.2 _ (of_decide_eq_true h) 3 (by decide)))) v_X7_157_0 rfl (tq_obk hw (k := 3) (by decide) rfl rfl) rfl (Nat.le_of_ble_eq_true rfl) (Nat.le_of_ble_eq_true rfl) (Nat.le_of_ble_eq_true rfl) ?_
  refine go_iand dX7_ancestors_27 ?_
  refine go_stat1 dX7_ancestors_28 (c_bitC l) s_X7_165 kc_J6_bitCount_0f7a4 rfl rfl (Nat.le_of_ble_eq_true rfl) (Nat.le_of_ble_eq_true rfl) (Nat.le_of_ble_eq_true rfl) ?_
  exact go_ireturn dX7_ancestors_31 rfl rfl
theorem c_anc_n (l : Launch) {w : MW} {Q U : QU} {H : HS} {t : Nat → Nat} {ln : Nat} {s : PS} (hw : 74 ≤ w.1) (hn : (Q 0).1 ≤ 30) {x : Int32} (h : hasB Q x = false) : Ct l (.code yX7_ancestors cX7_ancestors 2 (some .int)) yX7_ancestors 7 1 6 [.ref 0, .int x] (tqW w Q U H t ln s) (.inr "java/lang/IndexOutOfBoundsException") (tqW w Q U H t ln s) := by
  refine ct_of (by decide +kernel) (Nat.le_of_ble_eq_true rfl) ?_
  refine go_aload_n dX7_ancestors_0 rfl ?_
  refine go_iload_n dX7_ancestors_1 rfl ?_
  exact go_thrV (bc := 0) (bs := 0) dX7_ancestors_2 (c_reqItem_n l hw hn h) v_X7_69_6 rfl (tq_ob hw) rfl (Nat.le_of_ble_eq_true rfl) (Nat.le_of_ble_eq_true rfl) (Nat.le_of_ble_eq_true rfl)
theorem c_wouldNeed_y (l : Launch) {w : MW} {Q U : QU} {H : HS} {t : Nat → Nat} {ln : Nat} {s : PS} (hw : 74 ≤ w.1) (hU : qI (cpU Q U)) {k cmd : Nat} (h : k < 3) (hc : cmd ≤ 4) {x : Int32} (hp : posB (cpU Q U) cmd x x = true) : Ct l (.code yX7_wouldNeed cX7_wouldNeed 4 (some .int)) yX7_wouldNeed 7 0 0 [.ref 0, .int (nI k), .int (nI cmd), .int x] (tqW w Q U H t ln s) (.inl (some (.int (cntV (crySt (cpU Q U) cmd x x) k - cntV Q k)))) (tqW w Q (crySt (cpU Q U) cmd x x) H t ln s) := by
  refine ct_of (by decide +kernel) (Nat.le_of_ble_eq_true rfl) ?_
  refine go_iload_n dX7_wouldNeed_0 rfl ?_
  refine go_stat0 dX7_wouldNeed_1 (c_reqQueue_y l h) s_X7_111 kc_X7_requireQueue rfl rfl (Nat.le_of_ble_eq_true rfl) (Nat.le_of_ble_eq_true rfl) (Nat.le_of_ble_eq_true rfl) ?_
  refine go_iload_n dX7_wouldNeed_4 rfl ?_
  refine go_if_lt_f 13 dX7_wouldNeed_5 (by decide) (nI_pos (by omega)) ?_
  refine go_iload_n dX7_wouldNeed_8 rfl ?_
  refine go_iconst 4 dX7_wouldNeed_9 (by decide) ?_
  refine go_icmp_le_t 23 dX7_wouldNeed_10 (by decide) (nI_le (b := 4) (by omega) (by decide)) ?_
  refine go_aload_n dX7_wouldNeed_23 rfl ?_
  refine go_getfield dX7_wouldNeed_24 f_X7_16_6 (tq_ob hw) rfl ?_
  refine go_aload_n dX7_wouldNeed_27 rfl ?_
  refine go_getfield dX7_wouldNeed_28 f_X7_10_6 (tq_ob hw) rfl ?_
  refine go_virt0 dX7_wouldNeed_31 (tq_cp10 (c_qcopyFrom l (p := 1) (q := 10) (P := Q) (Q := U) (by show 1 + 8 < w.1; omega) (by show 10 + 8 < w.1; omega) (Or.inl (by omega)))) v_X7_178_4 rfl (tq_ob10 hw) rfl (Nat.le_of_ble_eq_true rfl) (Nat.le_of_ble_eq_true rfl) (Nat.le_of_ble_eq_true rfl) ?_
  refine go_aload_n dX7_wouldNeed_34 rfl ?_
  refine go_getfield dX7_wouldNeed_35 f_X7_16_6 (tq_ob hw) rfl ?_
  refine go_iload_n dX7_wouldNeed_38 rfl ?_
  refine go_iload_n dX7_wouldNeed_39 rfl ?_
  refine go_iload_n dX7_wouldNeed_40 rfl ?_
  refine go_virt1 dX7_wouldNeed_41 (tq_10 (c_carryOut l (by show 10 + 8 < w.1; omega) hU (cmd := cmd) (by omega) (hd := x) (ky := x))) v_X7_62_4 rfl (tq_ob10 hw) rfl (Nat.le_of_ble_eq_true rfl) (Nat.le_of_ble_eq_true rfl) (Nat.le_of_ble_eq_true rfl) ?_
  refine go_if_ne_t 49 dX7_wouldNeed_44 (by decide) (by rw [hp]; decide) ?_
  refine go_aload_n dX7_wouldNeed_49 rfl ?_
  refine go_getfield dX7_wouldNeed_50 f_X7_16_6 (tq_ob hw) rfl ?_
  refine go_iload_n dX7_wouldNeed_53 rfl ?_
  refine go_virt1 dX7_wouldNeed_54 (tq_10 (c_countedIn l (by show 10 + 8 < w.1; omega) h)) v_X7_170_4 rfl (tq_ob10 hw) rfl (Nat.le_of_ble_eq_true rfl) (Nat.le_of_ble_eq_true rfl) (Nat.le_of_ble_eq_true rfl) ?_
  refine go_aload_n dX7_wouldNeed_57 rfl ?_
  refine go_getfield dX7_wouldNeed_58 f_X7_10_6 (tq_ob hw) rfl ?_
  refine go_iload_n dX7_wouldNeed_61 rfl ?_
  refine go_virt1 dX7_wouldNeed_62 (tq_1 (c_countedIn l (by show 1 + 8 < w.1; omega) h)) v_X7_170_4 rfl (tq_ob1 hw) rfl (Nat.le_of_ble_eq_true rfl) (Nat.le_of_ble_eq_true rfl) (Nat.le_of_ble_eq_true rfl) ?_
  refine go_isub dX7_wouldNeed_65 ?_
  exact go_ireturn dX7_wouldNeed_66 rfl rfl
theorem c_wouldNeed_0 (l : Launch) {w : MW} {Q U : QU} {H : HS} {t : Nat → Nat} {ln : Nat} {s : PS} (hw : 74 ≤ w.1) (hU : qI (cpU Q U)) {k cmd : Nat} (h : k < 3) (hc : cmd ≤ 4) {x : Int32} (hp : posB (cpU Q U) cmd x x = false) : Ct l (.code yX7_wouldNeed cX7_wouldNeed 4 (some .int)) yX7_wouldNeed 7 0 0 [.ref 0, .int (nI k), .int (nI cmd), .int x] (tqW w Q U H t ln s) (.inl (some (.int (-1)))) (tqW w Q (crySt (cpU Q U) cmd x x) H t ln s) := by
  refine ct_of (by decide +kernel) (Nat.le_of_ble_eq_true rfl) ?_
  refine go_iload_n dX7_wouldNeed_0 rfl ?_
  refine go_stat0 dX7_wouldNeed_1 (c_reqQueue_y l h) s_X7_111 kc_X7_requireQueue rfl rfl (Nat.le_of_ble_eq_true rfl) (Nat.le_of_ble_eq_true rfl) (Nat.le_of_ble_eq_true rfl) ?_
  refine go_iload_n dX7_wouldNeed_4 rfl ?_
  refine go_if_lt_f 13 dX7_wouldNeed_5 (by decide) (nI_pos (by omega)) ?_
  refine go_iload_n dX7_wouldNeed_8 rfl ?_
  refine go_iconst 4 dX7_wouldNeed_9 (by decide) ?_
  refine go_icmp_le_t 23 dX7_wouldNeed_10 (by decide) (nI_le (b := 4) (by omega) (by decide)) ?_
  refine go_aload_n dX7_wouldNeed_23 rfl ?_
  refine go_getfield dX7_wouldNeed_24 f_X7_16_6 (tq_ob hw) rfl ?_
  refine go_aload_n dX7_wouldNeed_27 rfl ?_
  refine go_getfield dX7_wouldNeed_28 f_X7_10_6 (tq_ob hw) rfl ?_
  refine go_virt0 dX7_wouldNeed_31 (tq_cp10 (c_qcopyFrom l (p := 1) (q := 10) (P := Q) (Q := U) (by show 1 + 8 < w.1; omega) (by show 10 + 8 < w.1; omega) (Or.inl (by omega)))) v_X7_178_4 rfl (tq_ob10 hw) rfl (Nat.le_of_ble_eq_true rfl) (Nat.le_of_ble_eq_true rfl) (Nat.le_of_ble_eq_true rfl) ?_
  refine go_aload_n dX7_wouldNeed_34 rfl ?_
  refine go_getfield dX7_wouldNeed_35 f_X7_16_6 (tq_ob hw) rfl ?_
  refine go_iload_n dX7_wouldNeed_38 rfl ?_
  refine go_iload_n dX7_wouldNeed_39 rfl ?_
  refine go_iload_n dX7_wouldNeed_40 rfl ?_
  refine go_virt1 dX7_wouldNeed_41 (tq_10 (c_carryOut l (by show 10 + 8 < w.1; omega) hU (cmd := cmd) (by omega) (hd := x) (ky := x))) v_X7_62_4 rfl (tq_ob10 hw) rfl (Nat.le_of_ble_eq_true rfl) (Nat.le_of_ble_eq_true rfl) (Nat.le_of_ble_eq_true rfl) ?_
  refine go_if_ne_f 49 dX7_wouldNeed_44 (by decide) (by rw [hp]; rfl) ?_
  refine go_iconst (-1) dX7_wouldNeed_47 (by decide) ?_
  exact go_ireturn dX7_wouldNeed_48 rfl rfl
theorem c_wouldNeed_n1 (l : Launch) {w : MW} {Q U : QU} {H : HS} {t : Nat → Nat} {ln : Nat} {s : PS} (hw : 74 ≤ w.1) {x a b : Int32} (h : x < 0 ∨ 3 ≤ x) : Ct l (.code yX7_wouldNeed cX7_wouldNeed 4 (some .int)) yX7_wouldNeed 7 1 6 [.ref 0, .int x, .int a, .int b] (tqW w Q U H t ln s) (.inr "java/lang/IllegalArgumentException") (tqW w Q U H t ln s) := by
  refine ct_of (by decide +kernel) (Nat.le_of_ble_eq_true rfl) ?_
  refine go_iload_n dX7_wouldNeed_0 rfl ?_
  exact go_thrS (bc := 0) (bs := 0) dX7_wouldNeed_1 (c_reqQueue_n l h) s_X7_111 kc_X7_requireQueue rfl rfl (Nat.le_of_ble_eq_true rfl) (Nat.le_of_ble_eq_true rfl) (Nat.le_of_ble_eq_true rfl)
theorem c_wouldNeed_n2 (l : Launch) {w : MW} {Q U : QU} {H : HS} {t : Nat → Nat} {ln : Nat} {s : PS} (hw : 74 ≤ w.1) {k : Nat} (h : k < 3) {a b : Int32} (ha : a < 0 ∨ 4 < a) : Ct l (.code yX7_wouldNeed cX7_wouldNeed 4 (some .int)) yX7_wouldNeed 7 1 6 [.ref 0, .int (nI k), .int a, .int b] (tqW w Q U H t ln s) (.inr "java/lang/IllegalArgumentException") (tqW w Q U H t ln s) := by
  refine ct_of (by decide +kernel) (Nat.le_of_ble_eq_true rfl) ?_
  by_cases h0 : a < 0
  · skip
    refine go_iload_n dX7_wouldNeed_0 rfl ?_
    refine go_stat0 dX7_wouldNeed_1 (c_reqQueue_y l h) s_X7_111 kc_X7_requireQueue rfl rfl (Nat.le_of_ble_eq_true rfl) (Nat.le_of_ble_eq_true rfl) (Nat.le_of_ble_eq_true rfl) ?_
    refine go_iload_n dX7_wouldNeed_4 rfl ?_
    refine go_if_lt_t 13 dX7_wouldNeed_5 (by decide) (h0) ?_
    exact go_throw (bc := 0) (bs := 0) t_X7_176 dX7_wouldNeed_13 dX7_wouldNeed_16 dX7_wouldNeed_17 dX7_wouldNeed_19 dX7_wouldNeed_22 (Nat.le_of_ble_eq_true rfl)
  · skip
    refine go_iload_n dX7_wouldNeed_0 rfl ?_
    refine go_stat0 dX7_wouldNeed_1 (c_reqQueue_y l h) s_X7_111 kc_X7_requireQueue rfl rfl (Nat.le_of_ble_eq_true rfl) (Nat.le_of_ble_eq_true rfl) (Nat.le_of_ble_eq_true rfl) ?_
    refine go_iload_n dX7_wouldNeed_4 rfl ?_
    refine go_if_lt_f 13 dX7_wouldNeed_5 (by decide) (h0) ?_
    refine go_iload_n dX7_wouldNeed_8 rfl ?_
    refine go_iconst 4 dX7_wouldNeed_9 (by decide) ?_
    refine go_icmp_le_f 23 dX7_wouldNeed_10 (by decide) (Int32.not_le.mpr (ha.resolve_left h0)) ?_
    exact go_throw (bc := 0) (bs := 0) t_X7_176 dX7_wouldNeed_13 dX7_wouldNeed_16 dX7_wouldNeed_17 dX7_wouldNeed_19 dX7_wouldNeed_22 (Nat.le_of_ble_eq_true rfl)
theorem c_ranked_2 (l : Launch) {w : MW} {Q U : QU} {H : HS} {t : Nat → Nat} {ln : Nat} {s : PS} (hw : 74 ≤ w.1) (hI : qI Q) {x : Int32} : ∀ (u i : Nat) (r : Int32), u + i = 30 → r = rkS Q x u i → Go l yX7_ranked cX7_ranked 3 (some .int) [] none (mm_Z (mm_eq (.inl (some (.int r))) (tqW w Q U H t ln s))) 4 0 0 2 [(0, .ref 0), (1, .int x), (2, .int (nI i))] [] (tqW w Q U H t ln s) := by
  intro u
  induction u with
  | zero =>
    intro i r hi hr
    rw [hr, rkS]
    refine go_iload_n dX7_ranked_2 rfl ?_
    refine go_bipush 30 dX7_ranked_3 (by decide) ?_
    refine go_icmp_ge_t 39 dX7_ranked_5 (by decide) (nI_le (a := 30) (by omega) (by omega)) ?_
    refine go_iconst (-1) dX7_ranked_39 (by decide) ?_
    exact go_ireturn dX7_ranked_40 rfl rfl
  | succ u ih =>
    intro i r hi hr
    refine go_iload_n dX7_ranked_2 rfl ?_
    refine go_bipush 30 dX7_ranked_3 (by decide) ?_
    refine go_icmp_ge_f 39 dX7_ranked_5 (by decide) (n_nle (a := 30) (by omega) (by decide)) ?_
    refine go_aload_n dX7_ranked_8 rfl ?_
    refine go_getfield dX7_ranked_9 f_X7_10_6 (tq_ob hw) rfl ?_
    refine go_iload_n dX7_ranked_12 rfl ?_
    refine go_virt1 dX7_ranked_13 (tq_1 (c_has l (by show 1 + 8 < w.1; omega) hI.2.1)) v_X7_114_4 rfl (tq_ob1 hw) rfl (Nat.le_of_ble_eq_true rfl) (Nat.le_of_ble_eq_true rfl) (Nat.le_of_ble_eq_true rfl) ?_
    refine go_if_eq 33 dX7_ranked_16 (by decide) (fun q16 => ?_) (fun q16 => ?_)
    · have e : ¬ (hasB Q (nI i) = true ∧ lesV Q (nI i) = x) := fun z => bI_ff q16 z.1
      refine go_iinc dX7_ranked_33 rfl (Nat.le_of_ble_eq_true rfl) rfl (show _ = _ + 1 from rfl) ?_
      rw [a_k1]
      refine go_goto 2 dX7_ranked_36 (by decide) ?_
      exact go_sub [(0, .ref 0), (1, .int x), (2, .int (nI (i + 1)))] ⟨rfl, rfl, rfl, trivial⟩ (ih (i + 1) r (by omega) (by rw [hr, rkS, if_neg e]))
    · refine go_aload_n dX7_ranked_19 rfl ?_
      refine go_getfield dX7_ranked_20 f_X7_10_6 (tq_ob hw) rfl ?_
      refine go_iload_n dX7_ranked_23 rfl ?_
      refine go_virt1 dX7_ranked_24 (tq_1 (c_countLess l (by show 1 + 8 < w.1; omega) hI.2.1 (of_decide_eq_true (bI_ne.mp q16)))) v_X7_118_4 rfl (tq_ob1 hw) rfl (Nat.le_of_ble_eq_true rfl) (Nat.le_of_ble_eq_true rfl) (Nat.le_of_ble_eq_true rfl) ?_
      refine go_iload_n dX7_ranked_27 rfl ?_
      refine go_icmp_ne 33 dX7_ranked_28 (by decide) (fun q28 => ?_) (fun q28 => ?_)
      · have e : ¬ (hasB Q (nI i) = true ∧ lesV Q (nI i) = x) := fun z => q28 z.2
        refine go_iinc dX7_ranked_33 rfl (Nat.le_of_ble_eq_true rfl) rfl (show _ = _ + 1 from rfl) ?_
        rw [a_k1]
        refine go_goto 2 dX7_ranked_36 (by decide) ?_
        exact go_sub [(0, .ref 0), (1, .int x), (2, .int (nI (i + 1)))] ⟨rfl, rfl, rfl, trivial⟩ (ih (i + 1) r (by omega) (by rw [hr, rkS, if_neg e]))
      · have e : hasB Q (nI i) = true ∧ lesV Q (nI i) = x := ⟨bI_ne.mp q16, q28⟩
        rw [hr, rkS, if_pos e]
        refine go_iload_n dX7_ranked_31 rfl ?_
        exact go_ireturn dX7_ranked_32 rfl rfl
theorem c_ranked (l : Launch) {w : MW} {Q U : QU} {H : HS} {t : Nat → Nat} {ln : Nat} {s : PS} (hw : 74 ≤ w.1) (hI : qI Q) {x : Int32} : Ct l (.code yX7_ranked cX7_ranked 3 (some .int)) yX7_ranked 4 0 0 [.ref 0, .int x] (tqW w Q U H t ln s) (.inl (some (.int (rkS Q x 30 0)))) (tqW w Q U H t ln s) := by
  refine ct_of (by decide +kernel) (Nat.le_of_ble_eq_true rfl) ?_
  refine go_iconst 0 dX7_ranked_0 (by decide) ?_
  refine go_istore_n dX7_ranked_1 (Nat.le_of_ble_eq_true rfl) rfl ?_
  exact go_sub [(0, .ref 0), (1, .int x), (2, .int (nI 0))] ⟨rfl, rfl, rfl, trivial⟩ (c_ranked_2 l hw hI 30 0 _ rfl rfl)
theorem c_between_5 (l : Launch) {w : MW} {Q U : QU} {H : HS} {t : Nat → Nat} {ln : Nat} {s : PS} (hw : 74 ≤ w.1) (hI : qI Q) {lo hi : Int32} : ∀ (u i b r : Nat), u + i = 30 → r = btS Q lo hi u i b → Go l yX7_between cX7_between 5 (some .int) [] none (mm_Z (mm_eq (.inl (some (.int (nI r)))) (tqW w Q U H t ln s))) 4 0 0 5 [(0, .ref 0), (1, .int lo), (2, .int hi), (3, .int (nI b)), (4, .int (nI i))] [] (tqW w Q U H t ln s) := by
  intro u
  induction u with
  | zero =>
    intro i b r hi hr
    rw [hr, btS]
    refine go_iload dX7_between_5 rfl ?_
    refine go_bipush 30 dX7_between_7 (by decide) ?_
    refine go_icmp_ge_t 59 dX7_between_9 (by decide) (nI_le (a := 30) (by omega) (by omega)) ?_
    refine go_iload_n dX7_between_59 rfl ?_
    exact go_ireturn dX7_between_60 rfl rfl
  | succ u ih =>
    intro i b r hu hr
    refine go_iload dX7_between_5 rfl ?_
    refine go_bipush 30 dX7_between_7 (by decide) ?_
    refine go_icmp_ge_f 59 dX7_between_9 (by decide) (n_nle (a := 30) (by omega) (by decide)) ?_
    refine go_aload_n dX7_between_12 rfl ?_
    refine go_getfield dX7_between_13 f_X7_10_6 (tq_ob hw) rfl ?_
    refine go_iload dX7_between_16 rfl ?_
    refine go_virt1 dX7_between_18 (tq_1 (c_has l (by show 1 + 8 < w.1; omega) hI.2.1)) v_X7_114_4 rfl (tq_ob1 hw) rfl (Nat.le_of_ble_eq_true rfl) (Nat.le_of_ble_eq_true rfl) (Nat.le_of_ble_eq_true rfl) ?_
    refine go_if_eq 53 dX7_between_21 (by decide) (fun q21 => ?_) (fun q21 => ?_)
    · have e : ¬ (hasB Q (nI i) = true ∧ lo ≤ keyV Q (nI i) ∧ keyV Q (nI i) ≤ hi) := fun z => bI_ff q21 z.1
      refine go_iinc dX7_between_53 rfl (Nat.le_of_ble_eq_true rfl) rfl (show _ = _ + 1 from rfl) ?_
      rw [a_k1]
      refine go_goto 5 dX7_between_56 (by decide) ?_
      exact go_sub [(0, .ref 0), (1, .int lo), (2, .int hi), (3, .int (nI b)), (4, .int (nI (i + 1)))] ⟨rfl, rfl, rfl, rfl, rfl, trivial⟩ (ih (i + 1) b r (by omega) (by rw [hr, btS, if_neg e]))
    · refine go_aload_n dX7_between_24 rfl ?_
      refine go_getfield dX7_between_25 f_X7_10_6 (tq_ob hw) rfl ?_
      refine go_iload dX7_between_28 rfl ?_
      refine go_virt1 dX7_between_30 (tq_1 (c_keyOf l (by show 1 + 8 < w.1; omega) hI.2.1 (of_decide_eq_true (bI_ne.mp q21)))) v_X7_72_4 rfl (tq_ob1 hw) rfl (Nat.le_of_ble_eq_true rfl) (Nat.le_of_ble_eq_true rfl) (Nat.le_of_ble_eq_true rfl) ?_
      refine go_iload_n dX7_between_33 rfl ?_
      refine go_icmp_lt 53 dX7_between_34 (by decide) (fun q34 => ?_) (fun q34 => ?_)
      · have e : ¬ (hasB Q (nI i) = true ∧ lo ≤ keyV Q (nI i) ∧ keyV Q (nI i) ≤ hi) := fun z => absurd z.2.1 (Int32.not_le.mpr q34)
        refine go_iinc dX7_between_53 rfl (Nat.le_of_ble_eq_true rfl) rfl (show _ = _ + 1 from rfl) ?_
        rw [a_k1]
        refine go_goto 5 dX7_between_56 (by decide) ?_
        exact go_sub [(0, .ref 0), (1, .int lo), (2, .int hi), (3, .int (nI b)), (4, .int (nI (i + 1)))] ⟨rfl, rfl, rfl, rfl, rfl, trivial⟩ (ih (i + 1) b r (by omega) (by rw [hr, btS, if_neg e]))
      · refine go_aload_n dX7_between_37 rfl ?_
        refine go_getfield dX7_between_38 f_X7_10_6 (tq_ob hw) rfl ?_
        refine go_iload dX7_between_41 rfl ?_
        refine go_virt1 dX7_between_43 (tq_1 (c_keyOf l (by show 1 + 8 < w.1; omega) hI.2.1 (of_decide_eq_true (bI_ne.mp q21)))) v_X7_72_4 rfl (tq_ob1 hw) rfl (Nat.le_of_ble_eq_true rfl) (Nat.le_of_ble_eq_true rfl) (Nat.le_of_ble_eq_true rfl) ?_
        refine go_iload_n dX7_between_46 rfl ?_
        refine go_icmp_gt 53 dX7_between_47 (by decide) (fun q47 => ?_) (fun q47 => ?_)
        · have e : ¬ (hasB Q (nI i) = true ∧ lo ≤ keyV Q (nI i) ∧ keyV Q (nI i) ≤ hi) := fun z => absurd z.2.2 (Int32.not_le.mpr q47)
          refine go_iinc dX7_between_53 rfl (Nat.le_of_ble_eq_true rfl) rfl (show _ = _ + 1 from rfl) ?_
          rw [a_k1]
          refine go_goto 5 dX7_between_56 (by decide) ?_
          exact go_sub [(0, .ref 0), (1, .int lo), (2, .int hi), (3, .int (nI b)), (4, .int (nI (i + 1)))] ⟨rfl, rfl, rfl, rfl, rfl, trivial⟩ (ih (i + 1) b r (by omega) (by rw [hr, btS, if_neg e]))
        · have e : (hasB Q (nI i) = true ∧ lo ≤ keyV Q (nI i) ∧ keyV Q (nI i) ≤ hi) := ⟨bI_ne.mp q21, Int32.not_lt.mp q34, Int32.not_lt.mp q47⟩
          refine go_iinc dX7_between_50 rfl (Nat.le_of_ble_eq_true rfl) rfl (show _ = _ + 1 from rfl) ?_
          rw [a_k1]
          refine go_iinc dX7_between_53 rfl (Nat.le_of_ble_eq_true rfl) rfl (show _ = _ + 1 from rfl) ?_
          rw [a_k1]
          refine go_goto 5 dX7_between_56 (by decide) ?_
          exact go_sub [(0, .ref 0), (1, .int lo), (2, .int hi), (3, .int (nI (b + 1))), (4, .int (nI (i + 1)))] ⟨rfl, rfl, rfl, rfl, rfl, trivial⟩ (ih (i + 1) (b + 1) r (by omega) (by rw [hr, btS, if_pos e]))
theorem c_between (l : Launch) {w : MW} {Q U : QU} {H : HS} {t : Nat → Nat} {ln : Nat} {s : PS} (hw : 74 ≤ w.1) (hI : qI Q) {lo hi : Int32} : Ct l (.code yX7_between cX7_between 5 (some .int)) yX7_between 4 0 0 [.ref 0, .int lo, .int hi] (tqW w Q U H t ln s) (.inl (some (.int (nI (btS Q lo hi 30 0 0))))) (tqW w Q U H t ln s) := by
  refine ct_of (by decide +kernel) (Nat.le_of_ble_eq_true rfl) ?_
  refine go_iconst 0 dX7_between_0 (by decide) ?_
  refine go_istore_n dX7_between_1 (Nat.le_of_ble_eq_true rfl) rfl ?_
  refine go_iconst 0 dX7_between_2 (by decide) ?_
  refine go_istore dX7_between_3 (Nat.le_of_ble_eq_true rfl) rfl ?_
  exact go_sub [(0, .ref 0), (1, .int lo), (2, .int hi), (3, .int (nI 0)), (4, .int (nI 0))] ⟨rfl, rfl, rfl, rfl, rfl, trivial⟩ (c_between_5 l hw hI 30 0 0 _ rfl rfl)
theorem c_fewest_4 (l : Launch) {w : MW} {Q U : QU} {H : HS} {t : Nat → Nat} {ln : Nat} {s : PS} (hw : 74 ≤ w.1) : ∀ (u i b r : Nat), u + i = 3 → b < 3 → r = fewS Q u i b → Go l yX7_fewest cX7_fewest 3 (some .int) [] none (mm_Z (mm_eq (.inl (some (.int (nI r)))) (tqW w Q U H t ln s))) 2 0 0 4 [(0, .ref 0), (1, .int (nI b)), (2, .int (nI i))] [] (tqW w Q U H t ln s) := by
  intro u
  induction u with
  | zero =>
    intro i b r hi hb hr
    rw [hr, fewS]
    refine go_iload_n dX7_fewest_4 rfl ?_
    refine go_iconst 3 dX7_fewest_5 (by decide) ?_
    refine go_icmp_ge_t 36 dX7_fewest_6 (by decide) (nI_le (a := 3) (by omega) (by omega)) ?_
    refine go_iload_n dX7_fewest_36 rfl ?_
    exact go_ireturn dX7_fewest_37 rfl rfl
  | succ u ih =>
    intro i b r hu hb hr
    refine go_iload_n dX7_fewest_4 rfl ?_
    refine go_iconst 3 dX7_fewest_5 (by decide) ?_
    refine go_icmp_ge_f 36 dX7_fewest_6 (by decide) (n_nle (a := 3) (by omega) (by decide)) ?_
    refine go_aload_n dX7_fewest_9 rfl ?_
    refine go_getfield dX7_fewest_10 f_X7_10_6 (tq_ob hw) rfl ?_
    refine go_iload_n dX7_fewest_13 rfl ?_
    refine go_virt1 dX7_fewest_14 (tq_1 (c_countedIn l (by show 1 + 8 < w.1; omega) (k := i) (by omega))) v_X7_170_4 rfl (tq_ob1 hw) rfl (Nat.le_of_ble_eq_true rfl) (Nat.le_of_ble_eq_true rfl) (Nat.le_of_ble_eq_true rfl) ?_
    refine go_aload_n dX7_fewest_17 rfl ?_
    refine go_getfield dX7_fewest_18 f_X7_10_6 (tq_ob hw) rfl ?_
    refine go_iload_n dX7_fewest_21 rfl ?_
    refine go_virt1 dX7_fewest_22 (tq_1 (c_countedIn l (by show 1 + 8 < w.1; omega) (k := b) hb)) v_X7_170_4 rfl (tq_ob1 hw) rfl (Nat.le_of_ble_eq_true rfl) (Nat.le_of_ble_eq_true rfl) (Nat.le_of_ble_eq_true rfl) ?_
    refine go_icmp_ge 30 dX7_fewest_25 (by decide) (fun q25 => ?_) (fun q25 => ?_)
    · have e := Int32.not_lt.mpr q25
      refine go_iinc dX7_fewest_30 rfl (Nat.le_of_ble_eq_true rfl) rfl (show _ = _ + 1 from rfl) ?_
      rw [a_k1]
      refine go_goto 4 dX7_fewest_33 (by decide) ?_
      exact go_sub [(0, .ref 0), (1, .int (nI b)), (2, .int (nI (i + 1)))] ⟨rfl, rfl, rfl, trivial⟩ (ih (i + 1) b r (by omega) (by omega) (by rw [hr, fewS, if_neg e]))
    · have f := Int32.not_le.mp q25
      refine go_iload_n dX7_fewest_28 rfl ?_
      refine go_istore_n dX7_fewest_29 (Nat.le_of_ble_eq_true rfl) rfl ?_
      refine go_iinc dX7_fewest_30 rfl (Nat.le_of_ble_eq_true rfl) rfl (show _ = _ + 1 from rfl) ?_
      rw [a_k1]
      refine go_goto 4 dX7_fewest_33 (by decide) ?_
      exact go_sub [(0, .ref 0), (1, .int (nI i)), (2, .int (nI (i + 1)))] ⟨rfl, rfl, rfl, trivial⟩ (ih (i + 1) i r (by omega) (by omega) (by rw [hr, fewS, if_pos f]))
theorem c_fewest (l : Launch) {w : MW} {Q U : QU} {H : HS} {t : Nat → Nat} {ln : Nat} {s : PS} (hw : 74 ≤ w.1) : Ct l (.code yX7_fewest cX7_fewest 3 (some .int)) yX7_fewest 2 0 0 [.ref 0] (tqW w Q U H t ln s) (.inl (some (.int (nI (fewS Q 2 1 0))))) (tqW w Q U H t ln s) := by
  refine ct_of (by decide +kernel) (Nat.le_of_ble_eq_true rfl) ?_
  refine go_iconst 0 dX7_fewest_0 (by decide) ?_
  refine go_istore_n dX7_fewest_1 (Nat.le_of_ble_eq_true rfl) rfl ?_
  refine go_iconst 1 dX7_fewest_2 (by decide) ?_
  refine go_istore_n dX7_fewest_3 (Nat.le_of_ble_eq_true rfl) rfl ?_
  exact go_sub [(0, .ref 0), (1, .int (nI 0)), (2, .int (nI 1))] ⟨rfl, rfl, rfl, trivial⟩ (c_fewest_4 l hw 2 1 0 _ rfl (by decide) rfl)
