def rngP (j : Nat) : Nat → Option Nat := fun i => if i < j then some (21 + 9 * i) else none
def hsW (w : MW) (j : Nat) : MW := (21 + 9 * j, fun a => if a = 19 then .inr (1, [.ref 20, .int 0, .int 0]) else if a = 20 then .inl (.object RX5, 5, .inr (.inr (.inr (.inr (rngP j))))) else if 21 ≤ a ∧ a < 21 + 9 * j then (quW w (21 + 9 * ((a - 21) / 9)) Q0).2 a else w.2 a)
theorem hsW_ob {w : MW} {j : Nat} : mm_ob (hsW w j) 19 1 [.ref 20, .int 0, .int 0] := ⟨by show 19 < 21 + 9 * j; omega, rfl⟩
theorem hsW_ar {w : MW} {j : Nat} : mm_ar (hsW w j) 20 (.object RX5) (5, .inr (.inr (.inr (.inr (rngP j))))) := ⟨by show 20 < 21 + 9 * j; omega, rfl⟩
theorem psh_ar {w : MW} {c : MC} {a : Nat} {ty : FieldType} {x : vp_A} (h : mm_ar w a ty x) : mm_ar (psh w c) a ty x := by
  have e : ¬ a = w.1 := Nat.ne_of_lt h.1
  exact ⟨Nat.lt_succ_of_lt h.1, by show va_up w.2 w.1 c a = _; simp [va_up, e, h.2]⟩
theorem rngP_s {j : Nat} : va_up (rngP j) j (some (21 + 9 * j)) = rngP (j + 1) := by
  funext i
  unfold rngP
  by_cases e : i = j
  · subst e; simp [va_up]
  · simp only [va_up, if_neg e]
    by_cases h : i < j
    · rw [if_pos h, if_pos (by omega)]
    · rw [if_neg h, if_neg (by omega)]
theorem hsW_s {w : MW} {j : Nat} {c0 : MC} : mm_up (quW (21 + 9 * j + 9, (psh (hsW w j) c0).2) (21 + 9 * j) Q0) 20 (.inl (.object RX5, 5, .inr (.inr (.inr (.inr (va_up (rngP j) j (some (21 + 9 * j)))))))) = hsW w (j + 1) := by
  rw [rngP_s]
  refine Prod.ext (by show 21 + 9 * j + 9 = 21 + 9 * (j + 1); omega) (funext fun a => ?_)
  show va_up (quW (21 + 9 * j + 9, (psh (hsW w j) c0).2) (21 + 9 * j) Q0).2 20 _ a = (if a = 19 then _ else if a = 20 then _ else if 21 ≤ a ∧ a < 21 + 9 * (j + 1) then (quW w (21 + 9 * ((a - 21) / 9)) Q0).2 a else w.2 a)
  by_cases e20 : a = 20
  · rw [if_neg (by omega), if_pos e20]
    simp [va_up, e20]
  · simp only [va_up, if_neg e20]
    by_cases h : 21 + 9 * j ≤ a ∧ a ≤ 21 + 9 * j + 8
    · rw [if_neg (by omega), if_pos (by omega), show (a - 21) / 9 = j by omega]
      exact quW_in h.1 h.2
    · rw [quW_get (by omega)]
      show va_up (hsW w j).2 (21 + 9 * j) c0 a = _
      have e : ¬ a = 21 + 9 * j := by omega
      simp only [va_up, if_neg e]
      show (if a = 19 then _ else if a = 20 then _ else if 21 ≤ a ∧ a < 21 + 9 * j then (quW w (21 + 9 * ((a - 21) / 9)) Q0).2 a else w.2 a) = _
      by_cases e19 : a = 19
      · rw [if_pos e19, if_pos e19]
      · rw [if_neg e19, if_neg e19, if_neg e20]
        by_cases h2 : 21 ≤ a ∧ a < 21 + 9 * j
        · rw [if_pos h2, if_pos (by omega)]
        · rw [if_neg h2, if_neg (by omega)]
theorem c_i1_5 (l : Launch) {w : MW} : Go l yX1_init cX1_init 2 none [] none (mm_Z (mm_eq (.inl none) (hsW w 5))) 4 0 0 14 [(0, .ref 19), (1, .int (nI 5))] [] (hsW w 5) := by
  refine go_iload_n dX1_init_14 rfl ?_
  refine go_iconst 5 dX1_init_15 (by decide) ?_
  refine go_icmp_ge_t 38 dX1_init_16 (by decide) (by decide) ?_
  exact go_return dX1_init_38 rfl
theorem c_i1_4 (l : Launch) {w : MW} : Go l yX1_init cX1_init 2 none [] none (mm_Z (mm_eq (.inl none) (hsW w 5))) 4 9 138 14 [(0, .ref 19), (1, .int (nI 4))] [] (hsW w 4) := by
  refine go_iload_n dX1_init_14 rfl ?_
  refine go_iconst 5 dX1_init_15 (by decide) ?_
  refine go_icmp_ge_f 38 dX1_init_16 (by decide) (by decide) ?_
  refine go_aload_n dX1_init_19 rfl ?_
  refine go_getfield dX1_init_20 f_X1_11_1 hsW_ob rfl ?_
  refine go_iload_n dX1_init_23 rfl ?_
  refine go_new (bc := 8) (bs := 134) dX1_init_24 w_X1_9 (by show 21 + 9 * 4 < mm_XT; decide) ?_
  refine go_dup dX1_init_27 rfl ?_
  refine go_w (psh (hsW w 4) (.inr (4, [.null, .null, .null, .null]))) rfl ?_
  refine go_spec (mc := 8) (ms := 134) (bc := 0) (bs := 0) dX1_init_28 (c_i5 l (w := psh (hsW w 4) (.inr (4, [.null, .null, .null, .null]))) (q := 21 + 9 * 4) rfl psh_new.2 (by decide)) n_X1_17 rfl rfl (Nat.le_of_ble_eq_true rfl) (Nat.le_of_ble_eq_true rfl) (Nat.le_of_ble_eq_true rfl) (fun v hv => ?_) (fun E hE => by cases hE)
  cases hv
  refine go_aastore 4 dX1_init_31 (n := 5) (f := rngP 4) ⟨by show 20 < 21 + 9 * 4 + 9; omega, (quW_get (Or.inl (by decide))).trans (psh_ar (w := hsW w 4) (c := .inr (4, [.null, .null, .null, .null])) hsW_ar).2⟩ (b := 21 + 9 * 4) (quW_ob (by show 21 + 9 * 4 + 8 < 21 + 9 * 4 + 9; omega)) rfl (by decide) (by decide) ?_
  refine go_w (hsW w 5) (hsW_s (w := w) (j := 4) (c0 := .inr (4, [.null, .null, .null, .null]))) ?_
  refine go_iinc dX1_init_32 rfl (Nat.le_of_ble_eq_true rfl) rfl (show _ = _ + 1 from rfl) ?_
  refine go_goto 14 dX1_init_35 (by decide) ?_
  exact go_sub [(0, .ref 19), (1, .int (nI 5))] ⟨rfl, rfl, trivial⟩ (c_i1_5 l)
theorem c_i1_3 (l : Launch) {w : MW} : Go l yX1_init cX1_init 2 none [] none (mm_Z (mm_eq (.inl none) (hsW w 5))) 4 18 276 14 [(0, .ref 19), (1, .int (nI 3))] [] (hsW w 3) := by
  refine go_iload_n dX1_init_14 rfl ?_
  refine go_iconst 5 dX1_init_15 (by decide) ?_
  refine go_icmp_ge_f 38 dX1_init_16 (by decide) (by decide) ?_
  refine go_aload_n dX1_init_19 rfl ?_
  refine go_getfield dX1_init_20 f_X1_11_1 hsW_ob rfl ?_
  refine go_iload_n dX1_init_23 rfl ?_
  refine go_new (bc := 17) (bs := 272) dX1_init_24 w_X1_9 (by show 21 + 9 * 3 < mm_XT; decide) ?_
  refine go_dup dX1_init_27 rfl ?_
  refine go_w (psh (hsW w 3) (.inr (4, [.null, .null, .null, .null]))) rfl ?_
  refine go_spec (mc := 8) (ms := 134) (bc := 9) (bs := 138) dX1_init_28 (c_i5 l (w := psh (hsW w 3) (.inr (4, [.null, .null, .null, .null]))) (q := 21 + 9 * 3) rfl psh_new.2 (by decide)) n_X1_17 rfl rfl (Nat.le_of_ble_eq_true rfl) (Nat.le_of_ble_eq_true rfl) (Nat.le_of_ble_eq_true rfl) (fun v hv => ?_) (fun E hE => by cases hE)
  cases hv
  refine go_aastore 3 dX1_init_31 (n := 5) (f := rngP 3) ⟨by show 20 < 21 + 9 * 3 + 9; omega, (quW_get (Or.inl (by decide))).trans (psh_ar (w := hsW w 3) (c := .inr (4, [.null, .null, .null, .null])) hsW_ar).2⟩ (b := 21 + 9 * 3) (quW_ob (by show 21 + 9 * 3 + 8 < 21 + 9 * 3 + 9; omega)) rfl (by decide) (by decide) ?_
  refine go_w (hsW w 4) (hsW_s (w := w) (j := 3) (c0 := .inr (4, [.null, .null, .null, .null]))) ?_
  refine go_iinc dX1_init_32 rfl (Nat.le_of_ble_eq_true rfl) rfl (show _ = _ + 1 from rfl) ?_
  refine go_goto 14 dX1_init_35 (by decide) ?_
  exact go_sub [(0, .ref 19), (1, .int (nI 4))] ⟨rfl, rfl, trivial⟩ (c_i1_4 l)
theorem c_i1_2 (l : Launch) {w : MW} : Go l yX1_init cX1_init 2 none [] none (mm_Z (mm_eq (.inl none) (hsW w 5))) 4 27 414 14 [(0, .ref 19), (1, .int (nI 2))] [] (hsW w 2) := by
  refine go_iload_n dX1_init_14 rfl ?_
  refine go_iconst 5 dX1_init_15 (by decide) ?_
  refine go_icmp_ge_f 38 dX1_init_16 (by decide) (by decide) ?_
  refine go_aload_n dX1_init_19 rfl ?_
  refine go_getfield dX1_init_20 f_X1_11_1 hsW_ob rfl ?_
  refine go_iload_n dX1_init_23 rfl ?_
  refine go_new (bc := 26) (bs := 410) dX1_init_24 w_X1_9 (by show 21 + 9 * 2 < mm_XT; decide) ?_
  refine go_dup dX1_init_27 rfl ?_
  refine go_w (psh (hsW w 2) (.inr (4, [.null, .null, .null, .null]))) rfl ?_
  refine go_spec (mc := 8) (ms := 134) (bc := 18) (bs := 276) dX1_init_28 (c_i5 l (w := psh (hsW w 2) (.inr (4, [.null, .null, .null, .null]))) (q := 21 + 9 * 2) rfl psh_new.2 (by decide)) n_X1_17 rfl rfl (Nat.le_of_ble_eq_true rfl) (Nat.le_of_ble_eq_true rfl) (Nat.le_of_ble_eq_true rfl) (fun v hv => ?_) (fun E hE => by cases hE)
  cases hv
  refine go_aastore 2 dX1_init_31 (n := 5) (f := rngP 2) ⟨by show 20 < 21 + 9 * 2 + 9; omega, (quW_get (Or.inl (by decide))).trans (psh_ar (w := hsW w 2) (c := .inr (4, [.null, .null, .null, .null])) hsW_ar).2⟩ (b := 21 + 9 * 2) (quW_ob (by show 21 + 9 * 2 + 8 < 21 + 9 * 2 + 9; omega)) rfl (by decide) (by decide) ?_
  refine go_w (hsW w 3) (hsW_s (w := w) (j := 2) (c0 := .inr (4, [.null, .null, .null, .null]))) ?_
  refine go_iinc dX1_init_32 rfl (Nat.le_of_ble_eq_true rfl) rfl (show _ = _ + 1 from rfl) ?_
  refine go_goto 14 dX1_init_35 (by decide) ?_
  exact go_sub [(0, .ref 19), (1, .int (nI 3))] ⟨rfl, rfl, trivial⟩ (c_i1_3 l)
theorem c_i1_1 (l : Launch) {w : MW} : Go l yX1_init cX1_init 2 none [] none (mm_Z (mm_eq (.inl none) (hsW w 5))) 4 36 552 14 [(0, .ref 19), (1, .int (nI 1))] [] (hsW w 1) := by
  refine go_iload_n dX1_init_14 rfl ?_
  refine go_iconst 5 dX1_init_15 (by decide) ?_
  refine go_icmp_ge_f 38 dX1_init_16 (by decide) (by decide) ?_
  refine go_aload_n dX1_init_19 rfl ?_
  refine go_getfield dX1_init_20 f_X1_11_1 hsW_ob rfl ?_
  refine go_iload_n dX1_init_23 rfl ?_
  refine go_new (bc := 35) (bs := 548) dX1_init_24 w_X1_9 (by show 21 + 9 * 1 < mm_XT; decide) ?_
  refine go_dup dX1_init_27 rfl ?_
  refine go_w (psh (hsW w 1) (.inr (4, [.null, .null, .null, .null]))) rfl ?_
  refine go_spec (mc := 8) (ms := 134) (bc := 27) (bs := 414) dX1_init_28 (c_i5 l (w := psh (hsW w 1) (.inr (4, [.null, .null, .null, .null]))) (q := 21 + 9 * 1) rfl psh_new.2 (by decide)) n_X1_17 rfl rfl (Nat.le_of_ble_eq_true rfl) (Nat.le_of_ble_eq_true rfl) (Nat.le_of_ble_eq_true rfl) (fun v hv => ?_) (fun E hE => by cases hE)
  cases hv
  refine go_aastore 1 dX1_init_31 (n := 5) (f := rngP 1) ⟨by show 20 < 21 + 9 * 1 + 9; omega, (quW_get (Or.inl (by decide))).trans (psh_ar (w := hsW w 1) (c := .inr (4, [.null, .null, .null, .null])) hsW_ar).2⟩ (b := 21 + 9 * 1) (quW_ob (by show 21 + 9 * 1 + 8 < 21 + 9 * 1 + 9; omega)) rfl (by decide) (by decide) ?_
  refine go_w (hsW w 2) (hsW_s (w := w) (j := 1) (c0 := .inr (4, [.null, .null, .null, .null]))) ?_
  refine go_iinc dX1_init_32 rfl (Nat.le_of_ble_eq_true rfl) rfl (show _ = _ + 1 from rfl) ?_
  refine go_goto 14 dX1_init_35 (by decide) ?_
  exact go_sub [(0, .ref 19), (1, .int (nI 2))] ⟨rfl, rfl, trivial⟩ (c_i1_2 l)
theorem c_i1_0 (l : Launch) {w : MW} : Go l yX1_init cX1_init 2 none [] none (mm_Z (mm_eq (.inl none) (hsW w 5))) 4 45 690 14 [(0, .ref 19), (1, .int (nI 0))] [] (hsW w 0) := by
  refine go_iload_n dX1_init_14 rfl ?_
  refine go_iconst 5 dX1_init_15 (by decide) ?_
  refine go_icmp_ge_f 38 dX1_init_16 (by decide) (by decide) ?_
  refine go_aload_n dX1_init_19 rfl ?_
  refine go_getfield dX1_init_20 f_X1_11_1 hsW_ob rfl ?_
  refine go_iload_n dX1_init_23 rfl ?_
  refine go_new (bc := 44) (bs := 686) dX1_init_24 w_X1_9 (by show 21 + 9 * 0 < mm_XT; decide) ?_
  refine go_dup dX1_init_27 rfl ?_
  refine go_w (psh (hsW w 0) (.inr (4, [.null, .null, .null, .null]))) rfl ?_
  refine go_spec (mc := 8) (ms := 134) (bc := 36) (bs := 552) dX1_init_28 (c_i5 l (w := psh (hsW w 0) (.inr (4, [.null, .null, .null, .null]))) (q := 21 + 9 * 0) rfl psh_new.2 (by decide)) n_X1_17 rfl rfl (Nat.le_of_ble_eq_true rfl) (Nat.le_of_ble_eq_true rfl) (Nat.le_of_ble_eq_true rfl) (fun v hv => ?_) (fun E hE => by cases hE)
  cases hv
  refine go_aastore 0 dX1_init_31 (n := 5) (f := rngP 0) ⟨by show 20 < 21 + 9 * 0 + 9; omega, (quW_get (Or.inl (by decide))).trans (psh_ar (w := hsW w 0) (c := .inr (4, [.null, .null, .null, .null])) hsW_ar).2⟩ (b := 21 + 9 * 0) (quW_ob (by show 21 + 9 * 0 + 8 < 21 + 9 * 0 + 9; omega)) rfl (by decide) (by decide) ?_
  refine go_w (hsW w 1) (hsW_s (w := w) (j := 0) (c0 := .inr (4, [.null, .null, .null, .null]))) ?_
  refine go_iinc dX1_init_32 rfl (Nat.le_of_ble_eq_true rfl) rfl (show _ = _ + 1 from rfl) ?_
  refine go_goto 14 dX1_init_35 (by decide) ?_
  exact go_sub [(0, .ref 19), (1, .int (nI 1))] ⟨rfl, rfl, trivial⟩ (c_i1_1 l)
theorem c_i1 (l : Launch) {w : MW} (hw : w.1 = 20) (ho : mm_ob w 19 1 [.null, .int 0, .int 0]) : Ct l (.code yX1_init cX1_init 2 none) yX1_init 4 46 695 [.ref 19] w (.inl none) (hsW w 5) := by
  refine ct_of (by decide +kernel) (Nat.le_of_ble_eq_true rfl) ?_
  refine go_aload_n dX1_init_0 rfl ?_
  refine go_objInit dX1_init_1 kl_X1_3 kn_object kc_object (Nat.le_of_ble_eq_true rfl) (Nat.le_of_ble_eq_true rfl) ?_
  refine go_aload_n dX1_init_4 rfl ?_
  refine go_iconst 5 dX1_init_5 (by decide) ?_
  refine go_anewarray (bc := 45) (bs := 690) (N := 5) dX1_init_6 kk_X1_9 (by decide) (by decide) (by decide) (by rw [hw]; decide) ?_
  refine go_w (psh w (.inl (.object RX5, 5, .inr (.inr (.inr (.inr (fun _ => none))))))) rfl ?_
  refine go_putfinal dX1_init_9 p_X1_11_1 rfl (psh_ob ho) (Nat.le_of_ble_eq_true rfl) (fun _ => ⟨rfl, rfl⟩) (okf_n (Nat.lt_succ_self _)) ?_
  refine go_w (hsW w 0) ?_ ?_
  · refine Prod.ext (by show w.1 + 1 = 21; omega) (funext fun a => ?_)
    show va_up (va_up w.2 w.1 _) 19 _ a = (if a = 19 then _ else if a = 20 then _ else if 21 ≤ a ∧ a < 21 + 9 * 0 then _ else w.2 a)
    rw [hw]
    by_cases e1 : a = 19
    · rw [if_pos e1]
      simp [va_up, e1]
    · rw [if_neg e1]
      by_cases e2 : a = 20
      · rw [if_pos e2]
        simp only [va_up, if_neg e1, if_pos e2]
        rfl
      · rw [if_neg e2, if_neg (by omega)]
        simp only [va_up, if_neg e1, if_neg e2]
  · refine go_iconst 0 dX1_init_12 (by decide) ?_
    refine go_istore_n dX1_init_13 (Nat.le_of_ble_eq_true rfl) rfl ?_
    exact go_sub [(0, .ref 19), (1, .int (nI 0))] ⟨rfl, rfl, trivial⟩ (c_i1_0 l)
def H0 : HS := (fun _ => Q0, 0, 0)
def tq0 (w : MW) : MW := tqW w Q0 Q0 H0 (fun _ => 0) 0 (0, 0, 0, 0, 0)
def tqN (w : MW) (N : Nat) (fs : List Value) : MW := (N, fun a => if a = 0 then .inr (6, fs) else if a < N then (tq0 w).2 a else w.2 a)
theorem tqN_ob {w : MW} {N : Nat} {fs : List Value} (hN : 0 < N) : mm_ob (tqN w N fs) 0 6 fs := ⟨hN, rfl⟩
theorem tq0_a {w : MW} {a : Nat} (h1 : 1 ≤ a) (h2 : a ≤ 9) : (tq0 w).2 a = (quW w 1 Q0).2 a := by
  show (if a = 0 then _ else if a ≤ 9 then _ else _) = _
  rw [if_neg (by omega), if_pos h2]
theorem tq0_b {w : MW} {a : Nat} (h1 : 10 ≤ a) (h2 : a ≤ 18) : (tq0 w).2 a = (quW w 10 Q0).2 a := by
  show (if a = 0 then _ else if a ≤ 9 then _ else if a ≤ 18 then _ else _) = _
  rw [if_neg (by omega), if_neg (by omega), if_pos h2]
theorem tq0_c {w : MW} : (tq0 w).2 19 = .inr (1, [.ref 20, .int 0, .int 0]) := rfl
theorem tq0_d {w : MW} : (tq0 w).2 20 = .inl (.object RX5, 5, .inr (.inr (.inr (.inr (rngP 5))))) := rfl
theorem tq0_e {w : MW} {a : Nat} (h1 : 21 ≤ a) (h2 : a ≤ 65) : (tq0 w).2 a = (quW w (21 + 9 * ((a - 21) / 9)) Q0).2 a := by
  unfold tq0
  rw [tq_in h1, if_pos h2]
  rfl
theorem tq0_f {w : MW} {a : Nat} (h1 : 66 ≤ a) (h2 : a ≤ 67) : (tq0 w).2 a = (scW w 66 (fun _ => 0) 0 (0, 0, 0, 0, 0)).2 a := by
  unfold tq0
  rw [tq_in (by omega), if_neg (by omega), if_pos h2]
theorem tqN_q {w : MW} {q N : Nat} {fs fs2 : List Value} {c0 : MC} (hN : N = q) (hq : q = 1 ∨ q = 10) : mm_up (quW (q + 9, (psh (tqN w N fs) c0).2) q Q0) 0 (.inr (6, fs2)) = tqN w (q + 9) fs2 := by
  subst hN
  refine Prod.ext rfl (funext fun a => ?_)
  show va_up (quW (N + 9, (psh (tqN w N fs) c0).2) N Q0).2 0 _ a = (if a = 0 then _ else if a < N + 9 then (tq0 w).2 a else w.2 a)
  by_cases e0 : a = 0
  · rw [if_pos e0]; simp [va_up, e0]
  · rw [if_neg e0]
    simp only [va_up, if_neg e0]
    by_cases h : N ≤ a ∧ a ≤ N + 8
    · rw [if_pos (by omega), quW_in (w' := w) h.1 h.2]
      rcases hq with e | e
      · subst e; exact (tq0_a h.1 h.2).symm
      · subst e; exact (tq0_b h.1 h.2).symm
    · rw [quW_get (by omega)]
      show va_up (tqN w N fs).2 N c0 a = _
      have e : ¬ a = N := by omega
      simp only [va_up, if_neg e]
      show (if a = 0 then _ else if a < N then (tq0 w).2 a else w.2 a) = _
      rw [if_neg e0]
      by_cases h2 : a < N
      · rw [if_pos h2, if_pos (by omega)]
      · rw [if_neg h2, if_neg (by omega)]
theorem tqN_h {w : MW} {fs fs2 : List Value} {c0 : MC} : mm_up (hsW (psh (tqN w 19 fs) c0) 5) 0 (.inr (6, fs2)) = tqN w 66 fs2 := by
  refine Prod.ext rfl (funext fun a => ?_)
  show va_up (hsW (psh (tqN w 19 fs) c0) 5).2 0 _ a = (if a = 0 then _ else if a < 66 then (tq0 w).2 a else w.2 a)
  by_cases e0 : a = 0
  · rw [if_pos e0]; simp [va_up, e0]
  · rw [if_neg e0]
    simp only [va_up, if_neg e0]
    show (if a = 19 then _ else if a = 20 then _ else if 21 ≤ a ∧ a < 21 + 9 * 5 then (quW (psh (tqN w 19 fs) c0) (21 + 9 * ((a - 21) / 9)) Q0).2 a else va_up (tqN w 19 fs).2 19 c0 a) = _
    by_cases e19 : a = 19
    · rw [if_pos e19, if_pos (by omega), e19, tq0_c]
    · rw [if_neg e19]
      by_cases e20 : a = 20
      · rw [if_pos e20, if_pos (by omega), e20, tq0_d]
      · rw [if_neg e20]
        by_cases h : 21 ≤ a ∧ a < 21 + 9 * 5
        · rw [if_pos h, if_pos (by omega), tq0_e h.1 (by omega)]
          exact quW_in (by omega) (by omega)
        · rw [if_neg h]
          simp only [va_up, if_neg e19]
          show (if a = 0 then _ else if a < 19 then (tq0 w).2 a else w.2 a) = _
          rw [if_neg e0]
          by_cases h2 : a < 19
          · rw [if_pos h2, if_pos (by omega)]
          · rw [if_neg h2, if_neg (by omega)]
theorem tqN_s {w : MW} {fs : List Value} {c0 : MC} : mm_up (scW (68, (psh (tqN w 66 fs) c0).2) 66 (fun _ => 0) 0 (0, 0, 0, 0, 0)) 0 (.inr (6, [.ref 1, .ref 10, .ref 19, .ref 66])) = tq0 (68, w.2) := by
  refine Prod.ext rfl (funext fun a => ?_)
  show va_up (scW (68, (psh (tqN w 66 fs) c0).2) 66 (fun _ => 0) 0 (0, 0, 0, 0, 0)).2 0 _ a = _
  by_cases e0 : a = 0
  · subst e0
    simp only [va_up, if_true]
    rfl
  · simp only [va_up, if_neg e0]
    by_cases h : 66 ≤ a ∧ a ≤ 67
    · rw [tq0_f h.1 h.2]
      exact scW_in (by omega)
    · rw [scW_get (by omega) (by omega)]
      show va_up (tqN w 66 fs).2 66 c0 a = _
      have e : ¬ a = 66 := by omega
      simp only [va_up, if_neg e]
      show (if a = 0 then _ else if a < 66 then (tq0 w).2 a else w.2 a) = _
      rw [if_neg e0]
      by_cases h2 : a < 66
      · rw [if_pos h2]
        by_cases h3 : a ≤ 9
        · rw [tq0_a (by omega) h3, tq0_a (by omega) h3]
          exact quW_in (by omega) (by omega)
        · by_cases h4 : a ≤ 18
          · rw [tq0_b (by omega) h4, tq0_b (by omega) h4]
            exact quW_in (by omega) (by omega)
          · by_cases h5 : a = 19
            · rw [h5, tq0_c, tq0_c]
            · by_cases h6 : a = 20
              · rw [h6, tq0_d, tq0_d]
              · rw [tq0_e (by omega) (by omega), tq0_e (by omega) (by omega)]
                exact quW_in (by omega) (by omega)
      · rw [if_neg h2]
        unfold tq0
        rw [tq_in (by omega), if_neg (by omega), if_neg (by omega)]
theorem tqN_1 {w : MW} (hw : w.1 = 1) (ho : w.2 0 = .inr (6, [.null, .null, .null, .null])) : tqN w 1 [.null, .null, .null, .null] = w := by
  refine Prod.ext hw.symm (funext fun a => ?_)
  show (if a = 0 then _ else if a < 1 then _ else w.2 a) = w.2 a
  by_cases e : a = 0
  · rw [if_pos e, e, ho]
  · rw [if_neg e, if_neg (by omega)]
theorem c_i7 (l : Launch) {w : MW} (hw : w.1 = 1) (ho : w.2 0 = .inr (6, [.null, .null, .null, .null])) : Ct l (.code yX7_init cX7_init 1 none) yX7_init 5 67 1101 [.ref 0] w (.inl none) (tq0 (68, w.2)) := by
  refine ct_of (by decide +kernel) (Nat.le_of_ble_eq_true rfl) ?_
  refine go_aload_n dX7_init_0 rfl ?_
  refine go_objInit dX7_init_1 kl_X7_1 kn_object kc_object (Nat.le_of_ble_eq_true rfl) (Nat.le_of_ble_eq_true rfl) ?_
  refine go_w (tqN w 1 [.null, .null, .null, .null]) (tqN_1 hw ho).symm ?_
  refine go_aload_n dX7_init_4 rfl ?_
  refine go_new (bc := 66) (bs := 1097) dX7_init_5 w_X7_7 (by show 1 < mm_XT; decide) ?_
  refine go_dup dX7_init_8 rfl ?_
  refine go_w (psh (tqN w 1 [.null, .null, .null, .null]) (.inr (4, [.null, .null, .null, .null]))) rfl ?_
  refine go_spec (mc := 8) (ms := 134) (bc := 58) (bs := 963) dX7_init_9 (c_i5 l (w := psh (tqN w 1 [.null, .null, .null, .null]) (.inr (4, [.null, .null, .null, .null]))) (q := 1) rfl psh_new.2 (by decide)) n_X7_9 rfl rfl (Nat.le_of_ble_eq_true rfl) (Nat.le_of_ble_eq_true rfl) (Nat.le_of_ble_eq_true rfl) (fun v hv => ?_) (fun E hE => by cases hE)
  cases hv
  refine go_putfinal dX7_init_12 p_X7_10_6 rfl (fs := [.null, .null, .null, .null]) ⟨by show 0 < 1 + 9; omega, (quW_get (Or.inl (by decide))).trans (psh_ob (w := tqN w 1 [.null, .null, .null, .null]) (c := .inr (4, [.null, .null, .null, .null])) (tqN_ob (by decide))).2⟩ (Nat.le_of_ble_eq_true rfl) (fun _ => ⟨rfl, rfl⟩) (okf_n (by show 1 < 1 + 9; omega)) ?_
  refine go_w (tqN w 10 [.ref 1, .null, .null, .null]) (tqN_q (q := 1) rfl (by decide)) ?_
  refine go_aload_n dX7_init_15 rfl ?_
  refine go_new (bc := 57) (bs := 959) dX7_init_16 w_X7_7 (by show 10 < mm_XT; decide) ?_
  refine go_dup dX7_init_19 rfl ?_
  refine go_w (psh (tqN w 10 [.ref 1, .null, .null, .null]) (.inr (4, [.null, .null, .null, .null]))) rfl ?_
  refine go_spec (mc := 8) (ms := 134) (bc := 49) (bs := 825) dX7_init_20 (c_i5 l (w := psh (tqN w 10 [.ref 1, .null, .null, .null]) (.inr (4, [.null, .null, .null, .null]))) (q := 10) rfl psh_new.2 (by decide)) n_X7_9 rfl rfl (Nat.le_of_ble_eq_true rfl) (Nat.le_of_ble_eq_true rfl) (Nat.le_of_ble_eq_true rfl) (fun v hv => ?_) (fun E hE => by cases hE)
  cases hv
  refine go_putfinal dX7_init_23 p_X7_16_6 rfl (fs := [.ref 1, .null, .null, .null]) ⟨by show 0 < 10 + 9; omega, (quW_get (Or.inl (by decide))).trans (psh_ob (w := tqN w 10 [.ref 1, .null, .null, .null]) (c := .inr (4, [.null, .null, .null, .null])) (tqN_ob (by decide))).2⟩ (Nat.le_of_ble_eq_true rfl) (fun _ => ⟨rfl, rfl⟩) (okf_n (by show 10 < 10 + 9; omega)) ?_
  refine go_w (tqN w 19 [.ref 1, .ref 10, .null, .null]) (tqN_q (q := 10) rfl (by decide)) ?_
  refine go_aload_n dX7_init_26 rfl ?_
  refine go_new (bc := 48) (bs := 822) dX7_init_27 w_X7_19 (by show 19 < mm_XT; decide) ?_
  refine go_dup dX7_init_30 rfl ?_
  refine go_w (psh (tqN w 19 [.ref 1, .ref 10, .null, .null]) (.inr (1, [.null, .int 0, .int 0]))) rfl ?_
  refine go_spec (mc := 46) (ms := 695) (bc := 2) (bs := 127) dX7_init_31 (c_i1 l (w := psh (tqN w 19 [.ref 1, .ref 10, .null, .null]) (.inr (1, [.null, .int 0, .int 0]))) rfl psh_new) n_X7_21 rfl rfl (Nat.le_of_ble_eq_true rfl) (Nat.le_of_ble_eq_true rfl) (Nat.le_of_ble_eq_true rfl) (fun v hv => ?_) (fun E hE => by cases hE)
  cases hv
  refine go_putfinal dX7_init_34 p_X7_22_6 rfl (fs := [.ref 1, .ref 10, .null, .null]) ⟨by show 0 < 21 + 9 * 5; decide, (psh_ob (w := tqN w 19 [.ref 1, .ref 10, .null, .null]) (c := .inr (1, [.null, .int 0, .int 0])) (tqN_ob (by decide))).2⟩ (Nat.le_of_ble_eq_true rfl) (fun _ => ⟨rfl, rfl⟩) (okf_n (by show 19 < 21 + 9 * 5; decide)) ?_
  refine go_w (tqN w 66 [.ref 1, .ref 10, .ref 19, .null]) tqN_h ?_
  refine go_aload_n dX7_init_37 rfl ?_
  refine go_new (bc := 1) (bs := 120) dX7_init_38 w_X7_26 (by show 66 < mm_XT; decide) ?_
  refine go_dup dX7_init_41 rfl ?_
  refine go_w (psh (tqN w 66 [.ref 1, .ref 10, .ref 19, .null]) (.inr (5, [.null, .int 0, .int 0, .int 0, .int 0, .int 0, .int 0]))) rfl ?_
  refine go_spec (mc := 1) (ms := 120) (bc := 0) (bs := 0) dX7_init_42 (c_i6 l (w := psh (tqN w 66 [.ref 1, .ref 10, .ref 19, .null]) (.inr (5, [.null, .int 0, .int 0, .int 0, .int 0, .int 0, .int 0]))) (p := 66) rfl psh_new (by decide)) n_X7_28 rfl rfl (Nat.le_of_ble_eq_true rfl) (Nat.le_of_ble_eq_true rfl) (Nat.le_of_ble_eq_true rfl) (fun v hv => ?_) (fun E hE => by cases hE)
  cases hv
  refine go_putfinal dX7_init_45 p_X7_29_6 rfl (fs := [.ref 1, .ref 10, .ref 19, .null]) ⟨by show 0 < 68; decide, (scW_get (by decide) (by decide)).trans (psh_ob (w := tqN w 66 [.ref 1, .ref 10, .ref 19, .null]) (c := .inr (5, [.null, .int 0, .int 0, .int 0, .int 0, .int 0, .int 0])) (tqN_ob (by decide))).2⟩ (Nat.le_of_ble_eq_true rfl) (fun _ => ⟨rfl, rfl⟩) (okf_n (by show 66 < 68; decide)) ?_
  refine go_w (tq0 (68, w.2)) tqN_s ?_
  exact go_return dX7_init_48 rfl
