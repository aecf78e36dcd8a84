/-! the constructors: from a blank object to the worlds above -/
def psh (w : MW) (c : MC) : MW := (w.1 + 1, va_up w.2 w.1 c)
def zI : Nat → Int32 := fun _ => 0
def blkI : MC := .inl (.int, 30, .inl zI)
theorem psh_ob {w : MW} {c : MC} {a ci : Nat} {fs : List Value} (h : mm_ob w a ci fs) : mm_ob (psh w c) a ci fs := by
  have e : ¬ a = w.1 := Nat.ne_of_lt h.1
  exact ⟨Nat.lt_succ_of_lt h.1, by show va_up w.2 w.1 c a = _; simp [va_up, e, h.2]⟩
theorem psh_new {w : MW} {ci : Nat} {fs : List Value} : mm_ob (psh w (.inr (ci, fs))) w.1 ci fs := ⟨Nat.lt_succ_self _, by show va_up w.2 w.1 _ w.1 = _; simp [va_up]⟩
theorem up_ob {w : MW} {c : MC} {a b ci : Nat} {fs : List Value} (h : mm_ob w a ci fs) (e : a ≠ b) : mm_ob (mm_up w b c) a ci fs := ⟨h.1, by show va_up w.2 b c a = _; simp [va_up, e, h.2]⟩
theorem up_self {w : MW} {b ci : Nat} {fs : List Value} (hb : b < w.1) : mm_ob (mm_up w b (.inr (ci, fs))) b ci fs := ⟨hb, by show va_up w.2 b _ b = _; simp [va_up]⟩
theorem up_up {w : MW} {a : Nat} {c1 c2 : MC} : mm_up (mm_up w a c1) a c2 = mm_up w a c2 := by
  refine Prod.ext rfl (funext fun j => ?_)
  show va_up (va_up w.2 a c1) a c2 j = va_up w.2 a c2 j
  by_cases e : j = a <;> simp [va_up, e]
theorem okf_n {N k : Nat} (h : k < N) : mm_okf N (.ref k) := fun j hj => by cases hj; exact h
theorem cell_I {n : Nat} (cA : ClassId) : vp_cell cA (n, .inl zI) = arrV cA n (fun _ => defaultValue .int) := rfl
theorem cell_C {n : Nat} (cA : ClassId) : vp_cell cA (n, .inl zI) = arrV cA n (fun _ => defaultValue .char) := rfl
theorem cell_L {n : Nat} (cA : ClassId) : vp_cell cA (n, .inr (.inl (fun _ => 0))) = arrV cA n (fun _ => defaultValue .long) := rfl
theorem c_i3 (l : Launch) {w : MW} {a ci : Nat} {xt : List Value} (hci : ci = 0 ∨ ci = 2 ∨ ci = 3) (ho : mm_ob w a ci (.null :: .int 0 :: .int 0 :: xt)) (hX : w.1 < mm_XT) : Ct l (.code yX3_init cX3_init 1 none) yX3_init 1 1 30 [.ref a] w (.inl none) (mm_up (psh w blkI) a (.inr (ci, .ref w.1 :: .int 0 :: .int 0 :: xt))) := by
  refine ct_of (by decide +kernel) (Nat.le_of_ble_eq_true rfl) ?_
  refine go_aload_n dX3_init_0 rfl ?_
  refine go_objInit dX3_init_1 kl_X3_3 kn_object kc_object (Nat.le_of_ble_eq_true rfl) (Nat.le_of_ble_eq_true rfl) ?_
  refine go_aload_n dX3_init_4 rfl ?_
  refine go_bipush 30 dX3_init_5 (by decide) ?_
  refine go_newarray (bc := 0) (bs := 0) (N := 30) (ty := .int) (a0 := (30, .inl zI)) 0 (fun _ => rfl) dX3_init_7 ka_int rfl cell_I (fun _ _ => rfl) (fun _ => trivial) (by decide) (by decide) (by decide) hX ?_
  refine go_w (psh w blkI) rfl ?_
  refine go_putfinal dX3_init_9 (p_X3_9 hci) rfl (psh_ob ho) (Nat.zero_lt_succ _) (fun _ => ⟨rfl, rfl⟩) (okf_n (Nat.lt_succ_self _)) ?_
  exact go_return dX3_init_12 rfl
theorem c_i2 (l : Launch) {w : MW} {a : Nat} (ho : mm_ob w a 2 [.null, .int 0, .int 0]) (hX : w.1 < mm_XT) : Ct l (.code yX2_init cX2_init 1 none) yX2_init 2 1 30 [.ref a] w (.inl none) (mm_up (psh w blkI) a (.inr (2, [.ref w.1, .int 0, .int 0]))) := by
  refine ct_of (by decide +kernel) (Nat.le_of_ble_eq_true rfl) ?_
  refine go_aload_n dX2_init_0 rfl ?_
  refine go_spec (mc := 1) (ms := 30) (bc := 0) (bs := 0) dX2_init_1 (c_i3 l (Or.inr (Or.inl rfl)) ho hX) n_X2_3 rfl rfl (Nat.le_of_ble_eq_true rfl) (Nat.le_of_ble_eq_true rfl) (Nat.le_of_ble_eq_true rfl) (fun v hv => ?_) (fun E hE => by cases hE)
  cases hv
  exact go_return dX2_init_4 rfl
theorem c_i4 (l : Launch) {w : MW} {a : Nat} (ho : mm_ob w a 3 [.null, .int 0, .int 0]) (hX : w.1 < mm_XT) : Ct l (.code yX4_init cX4_init 1 none) yX4_init 2 1 30 [.ref a] w (.inl none) (mm_up (psh w blkI) a (.inr (3, [.ref w.1, .int 0, .int 0]))) := by
  refine ct_of (by decide +kernel) (Nat.le_of_ble_eq_true rfl) ?_
  refine go_aload_n dX4_init_0 rfl ?_
  refine go_spec (mc := 1) (ms := 30) (bc := 0) (bs := 0) dX4_init_1 (c_i3 l (Or.inr (Or.inr rfl)) ho hX) n_X4_3 rfl rfl (Nat.le_of_ble_eq_true rfl) (Nat.le_of_ble_eq_true rfl) (Nat.le_of_ble_eq_true rfl) (fun v hv => ?_) (fun E hE => by cases hE)
  cases hv
  exact go_return dX4_init_4 rfl
theorem c_i0 (l : Launch) {w : MW} {a : Nat} (low : Bool) (ho : mm_ob w a 0 [.null, .int 0, .int 0, .int 0]) (hX : w.1 < mm_XT) : Ct l (.code yX0_init cX0_init 2 none) yX0_init 2 1 30 [.ref a, .int (bI low)] w (.inl none) (mm_up (psh w blkI) a (.inr (0, [.ref w.1, .int 0, .int 0, .int (bI low)]))) := by
  refine ct_of (by decide +kernel) (Nat.le_of_ble_eq_true rfl) ?_
  refine go_aload_n dX0_init_0 rfl ?_
  refine go_spec (mc := 1) (ms := 30) (bc := 0) (bs := 0) dX0_init_1 (c_i3 l (Or.inl rfl) ho hX) n_X0_3 rfl rfl (Nat.le_of_ble_eq_true rfl) (Nat.le_of_ble_eq_true rfl) (Nat.le_of_ble_eq_true rfl) (fun v hv => ?_) (fun E hE => by cases hE)
  cases hv
  refine go_aload_n dX0_init_4 rfl ?_
  refine go_iload_n dX0_init_5 rfl ?_
  refine go_putfinal dX0_init_6 p_X0_9_0 rfl (up_self (Nat.lt_succ_of_lt ho.1)) (Nat.le_of_ble_eq_true rfl) (fun _ => ⟨nar_b low, by cases low <;> rfl⟩) (fun _ z => nomatch z) ?_
  refine go_w _ up_up ?_
  exact go_return dX0_init_9 rfl
def Q0 : QU := fun _ => (0, zI, 0)
def quF (q : Nat) : Nat → List Value
  | 0 => [.null, .null, .null, .null]
  | 1 => [.ref (q + 1), .null, .null, .null]
  | 2 => [.ref (q + 1), .ref (q + 3), .null, .null]
  | 3 => [.ref (q + 1), .ref (q + 3), .ref (q + 5), .null]
  | _ => [.ref (q + 1), .ref (q + 3), .ref (q + 5), .ref (q + 7)]
def quP (w : MW) (q k : Nat) : MW := (q + 1 + 2 * k, fun a => if a = q then .inr (4, quF q k) else if q < a ∧ a ≤ q + 2 * k then quC q Q0 (a - q - 1) else w.2 a)
theorem quP_ob {w : MW} {q k : Nat} : mm_ob (quP w q k) q 4 (quF q k) := ⟨by show q < q + 1 + 2 * k; omega, by show (if q = q then _ else _) = _; rw [if_pos rfl]⟩
theorem quP_0 {w : MW} {q : Nat} (hq : w.1 = q + 1) (ho : w.2 q = .inr (4, [.null, .null, .null, .null])) : quP w q 0 = w := by
  refine Prod.ext (by rw [hq]; rfl) (funext fun a => ?_)
  show (if a = q then _ else if q < a ∧ a ≤ q + 2 * 0 then _ else w.2 a) = w.2 a
  by_cases e : a = q
  · rw [if_pos e, e, ho]; rfl
  · rw [if_neg e, if_neg (by omega)]
theorem quP_4 {w : MW} {q : Nat} : quP w q 4 = quW (q + 9, w.2) q Q0 := Prod.ext rfl (funext fun a => rfl)
theorem quP_s {w : MW} {q k : Nat} {c0 : MC} {n : Nat} (hn : n = q + 1 + 2 * k) : mm_up (mm_up (psh (psh (quP w q k) c0) blkI) n (.inr (kci k, .ref (n + 1) :: .int 0 :: .int 0 :: kxt k))) q (.inr (4, quF q (k + 1))) = quP w q (k + 1) := by
  subst hn
  refine Prod.ext (by show q + 1 + 2 * k + 1 + 1 = q + 1 + 2 * (k + 1); omega) (funext fun a => ?_)
  show va_up (va_up (va_up (va_up (quP w q k).2 (q + 1 + 2 * k) c0) (q + 1 + 2 * k + 1) blkI) (q + 1 + 2 * k) _) q _ a = (if a = q then _ else if q < a ∧ a ≤ q + 2 * (k + 1) then quC q Q0 (a - q - 1) else w.2 a)
  by_cases e0 : a = q
  · rw [if_pos e0]
    simp [va_up, e0]
  · rw [if_neg e0]
    by_cases e1 : a = q + 1 + 2 * k
    · rw [if_pos (by omega), show a - q - 1 = 2 * k by omega, quC_e]
      simp only [va_up, if_neg e0, if_pos e1]
      rfl
    · by_cases e2 : a = q + 1 + 2 * k + 1
      · rw [if_pos (by omega), show a - q - 1 = 2 * k + 1 by omega, quC_o]
        simp only [va_up, if_neg e0, if_neg e1, if_pos e2]
        rfl
      · simp only [va_up, if_neg e0, if_neg e1, if_neg e2]
        show (if a = q then _ else if q < a ∧ a ≤ q + 2 * k then quC q Q0 (a - q - 1) else w.2 a) = _
        rw [if_neg e0]
        by_cases h : q < a ∧ a ≤ q + 2 * k
        · rw [if_pos h, if_pos (by omega)]
        · rw [if_neg h, if_neg (by omega)]
theorem c_i5 (l : Launch) {w : MW} {q : Nat} (hq : w.1 = q + 1) (ho : w.2 q = .inr (4, [.null, .null, .null, .null])) (hX : q + 9 < mm_XT) : Ct l (.code yX5_init cX5_init 1 none) yX5_init 3 8 134 [.ref q] w (.inl none) (quW (q + 9, w.2) q Q0) := by
  refine ct_of (by decide +kernel) (Nat.le_of_ble_eq_true rfl) ?_
  refine go_aload_n dX5_init_0 rfl ?_
  refine go_objInit dX5_init_1 kl_X5_3 kn_object kc_object (Nat.le_of_ble_eq_true rfl) (Nat.le_of_ble_eq_true rfl) ?_
  refine go_w (quP w q 0) (quP_0 hq ho).symm ?_
  refine go_aload_n dX5_init_4 rfl ?_
  refine go_new (bc := 7) (bs := 131) dX5_init_5 w_X5_9 (by show q + 1 + 2 * 0 < mm_XT; omega) ?_
  refine go_dup dX5_init_8 rfl ?_
  refine go_w (psh (quP w q 0) (.inr (2, [.null, .int 0, .int 0]))) rfl ?_
  refine go_spec (mc := 1) (ms := 30) (bc := 6) (bs := 101) dX5_init_9 (c_i2 l (w := psh (quP w q 0) (.inr (2, [.null, .int 0, .int 0]))) psh_new (by show q + 1 + 2 * 0 + 1 < mm_XT; omega)) n_X5_11 rfl rfl (Nat.le_of_ble_eq_true rfl) (Nat.le_of_ble_eq_true rfl) (Nat.le_of_ble_eq_true rfl) (fun v hv => ?_) (fun E hE => by cases hE)
  cases hv
  refine go_putfinal dX5_init_12 p_X5_12_4 rfl (up_ob (psh_ob (psh_ob quP_ob)) (by show q ≠ q + 1 + 2 * 0; omega)) (Nat.le_of_ble_eq_true rfl) (fun _ => ⟨rfl, rfl⟩) (okf_n (by show q + 1 + 2 * 0 < q + 1 + 2 * 0 + 1 + 1; omega)) ?_
  refine go_w (quP w q 1) (quP_s (n := q + 1 + 2 * 0) rfl) ?_
  refine go_aload_n dX5_init_15 rfl ?_
  refine go_new (bc := 5) (bs := 98) dX5_init_16 w_X5_18 (by show q + 1 + 2 * 1 < mm_XT; omega) ?_
  refine go_dup dX5_init_19 rfl ?_
  refine go_w (psh (quP w q 1) (.inr (3, [.null, .int 0, .int 0]))) rfl ?_
  refine go_spec (mc := 1) (ms := 30) (bc := 4) (bs := 68) dX5_init_20 (c_i4 l (w := psh (quP w q 1) (.inr (3, [.null, .int 0, .int 0]))) psh_new (by show q + 1 + 2 * 1 + 1 < mm_XT; omega)) n_X5_20 rfl rfl (Nat.le_of_ble_eq_true rfl) (Nat.le_of_ble_eq_true rfl) (Nat.le_of_ble_eq_true rfl) (fun v hv => ?_) (fun E hE => by cases hE)
  cases hv
  refine go_putfinal dX5_init_23 p_X5_21_4 rfl (up_ob (psh_ob (psh_ob quP_ob)) (by show q ≠ q + 1 + 2 * 1; omega)) (Nat.le_of_ble_eq_true rfl) (fun _ => ⟨rfl, rfl⟩) (okf_n (by show q + 1 + 2 * 1 < q + 1 + 2 * 1 + 1 + 1; omega)) ?_
  refine go_w (quP w q 2) (quP_s (n := q + 1 + 2 * 1) rfl) ?_
  refine go_aload_n dX5_init_26 rfl ?_
  refine go_new (bc := 3) (bs := 64) dX5_init_27 w_X5_25 (by show q + 1 + 2 * 2 < mm_XT; omega) ?_
  refine go_dup dX5_init_30 rfl ?_
  refine go_w (psh (quP w q 2) (.inr (0, [.null, .int 0, .int 0, .int 0]))) rfl ?_
  refine go_iconst 1 dX5_init_31 (by decide) ?_
  refine go_spec (mc := 1) (ms := 30) (bc := 2) (bs := 34) dX5_init_32 (c_i0 l true (w := psh (quP w q 2) (.inr (0, [.null, .int 0, .int 0, .int 0]))) psh_new (by show q + 1 + 2 * 2 + 1 < mm_XT; omega)) n_X5_27 rfl rfl (Nat.le_of_ble_eq_true rfl) (Nat.le_of_ble_eq_true rfl) (Nat.le_of_ble_eq_true rfl) (fun v hv => ?_) (fun E hE => by cases hE)
  cases hv
  refine go_putfinal dX5_init_35 p_X5_30_4 rfl (up_ob (psh_ob (psh_ob quP_ob)) (by show q ≠ q + 1 + 2 * 2; omega)) (Nat.le_of_ble_eq_true rfl) (fun _ => ⟨rfl, rfl⟩) (okf_n (by show q + 1 + 2 * 2 < q + 1 + 2 * 2 + 1 + 1; omega)) ?_
  refine go_w (quP w q 3) (quP_s (n := q + 1 + 2 * 2) rfl) ?_
  refine go_aload_n dX5_init_38 rfl ?_
  refine go_new (bc := 1) (bs := 30) dX5_init_39 w_X5_25 (by show q + 1 + 2 * 3 < mm_XT; omega) ?_
  refine go_dup dX5_init_42 rfl ?_
  refine go_w (psh (quP w q 3) (.inr (0, [.null, .int 0, .int 0, .int 0]))) rfl ?_
  refine go_iconst 0 dX5_init_43 (by decide) ?_
  refine go_spec (mc := 1) (ms := 30) (bc := 0) (bs := 0) dX5_init_44 (c_i0 l false (w := psh (quP w q 3) (.inr (0, [.null, .int 0, .int 0, .int 0]))) psh_new (by show q + 1 + 2 * 3 + 1 < mm_XT; omega)) n_X5_27 rfl rfl (Nat.le_of_ble_eq_true rfl) (Nat.le_of_ble_eq_true rfl) (Nat.le_of_ble_eq_true rfl) (fun v hv => ?_) (fun E hE => by cases hE)
  cases hv
  refine go_putfinal dX5_init_47 p_X5_34_4 rfl (up_ob (psh_ob (psh_ob quP_ob)) (by show q ≠ q + 1 + 2 * 3; omega)) (Nat.le_of_ble_eq_true rfl) (fun _ => ⟨rfl, rfl⟩) (okf_n (by show q + 1 + 2 * 3 < q + 1 + 2 * 3 + 1 + 1; omega)) ?_
  refine go_w (quP w q 4) (quP_s (n := q + 1 + 2 * 3) rfl) ?_
  rw [quP_4]
  exact go_return dX5_init_50 rfl
theorem c_i6 (l : Launch) {w : MW} {p : Nat} (hp : w.1 = p + 1) (ho : mm_ob w p 5 [.null, .int 0, .int 0, .int 0, .int 0, .int 0, .int 0]) (hX : p + 2 < mm_XT) : Ct l (.code yX6_init cX6_init 1 none) yX6_init 1 1 120 [.ref p] w (.inl none) (scW (p + 2, w.2) p (fun _ => 0) 0 (0, 0, 0, 0, 0)) := by
  refine ct_of (by decide +kernel) (Nat.le_of_ble_eq_true rfl) ?_
  refine go_aload_n dX6_init_0 rfl ?_
  refine go_objInit dX6_init_1 kl_X6_3 kn_object kc_object (Nat.le_of_ble_eq_true rfl) (Nat.le_of_ble_eq_true rfl) ?_
  refine go_aload_n dX6_init_4 rfl ?_
  refine go_bipush 120 dX6_init_5 (by decide) ?_
  refine go_newarray (bc := 0) (bs := 0) (N := 120) (ty := .char) (a0 := (120, .inl zI)) 2 (fun _ => rfl) dX6_init_7 ka_char rfl cell_C (fun _ _ => rfl) (fun _ => trivial) (by decide) (by decide) (by decide) (by omega) ?_
  refine go_w (psh w (.inl (.char, 120, .inl zI))) rfl ?_
  refine go_putfinal dX6_init_9 p_X6_9_5 rfl (psh_ob ho) (Nat.le_of_ble_eq_true rfl) (fun _ => ⟨rfl, rfl⟩) (okf_n (Nat.lt_succ_self _)) ?_
  refine go_w (scW (p + 2, w.2) p (fun _ => 0) 0 (0, 0, 0, 0, 0)) ?_ ?_
  · refine Prod.ext (by show w.1 + 1 = p + 2; omega) (funext fun a => ?_)
    show va_up (va_up w.2 w.1 _) p _ a = va_up (va_up w.2 p _) (p + 1) _ a
    rw [hp]
    by_cases e1 : a = p
    · have e2 : ¬ a = p + 1 := by omega
      simp only [va_up, if_pos e1, if_neg e2]
      rfl
    · by_cases e2 : a = p + 1
      · simp only [va_up, if_neg e1, if_pos e2]
        rfl
      · simp only [va_up, if_neg e1, if_neg e2]
  · exact go_return dX6_init_12 rfl
def mdF (p : Nat) : Nat → List Value
  | 0 => [.null, .null, .null, .int 0, .int 0, .null, .int 0, .int 0, .int 0, .int 0, .long 0]
  | 1 => [.ref (p + 1), .null, .null, .int 0, .int 0, .null, .int 0, .int 0, .int 0, .int 0, .long 0]
  | 2 => [.ref (p + 1), .ref (p + 2), .null, .int 0, .int 0, .null, .int 0, .int 0, .int 0, .int 0, .long 0]
  | 3 => [.ref (p + 1), .ref (p + 2), .ref (p + 3), .int 0, .int 0, .null, .int 0, .int 0, .int 0, .int 0, .long 0]
  | _ => [.ref (p + 1), .ref (p + 2), .ref (p + 3), .int 0, .int 0, .ref (p + 4), .int 0, .int 0, .int 0, .int 0, .long 0]
def mdN : Nat → Nat
  | 0 => 184
  | 1 => 920
  | 2 => 184
  | _ => 120
def mdP (w : MW) (p k : Nat) : MW := (p + 1 + k, fun a => if a = p then .inr (7, mdF p k) else if p < a ∧ a ≤ p + k then .inl (.int, mdN (a - p - 1), .inl zI) else w.2 a)
theorem mdP_0 {w : MW} {p : Nat} (hp : w.1 = p + 1) (ho : w.2 p = .inr (7, mdF p 0)) : mdP w p 0 = w := by
  refine Prod.ext (by rw [hp]; rfl) (funext fun a => ?_)
  show (if a = p then _ else if p < a ∧ a ≤ p + 0 then _ else w.2 a) = w.2 a
  by_cases e : a = p
  · rw [if_pos e, e, ho]
  · rw [if_neg e, if_neg (by omega)]
theorem mdP_s {w : MW} {p k : Nat} : mm_up (psh (mdP w p k) (.inl (.int, mdN k, .inl zI))) p (.inr (7, mdF p (k + 1))) = mdP w p (k + 1) := by
  refine Prod.ext (by show p + 1 + k + 1 = p + 1 + (k + 1); omega) (funext fun a => ?_)
  show va_up (va_up (mdP w p k).2 (p + 1 + k) _) p _ a = (if a = p then _ else if p < a ∧ a ≤ p + (k + 1) then .inl (.int, mdN (a - p - 1), .inl zI) else w.2 a)
  by_cases e0 : a = p
  · rw [if_pos e0]
    simp [va_up, e0]
  · rw [if_neg e0]
    by_cases e1 : a = p + 1 + k
    · rw [if_pos (by omega), show a - p - 1 = k by omega]
      simp only [va_up, if_neg e0, if_pos e1]
    · simp only [va_up, if_neg e0, if_neg e1]
      show (if a = p then _ else if p < a ∧ a ≤ p + k then .inl (.int, mdN (a - p - 1), .inl zI) else w.2 a) = _
      rw [if_neg e0]
      by_cases h : p < a ∧ a ≤ p + k
      · rw [if_pos h, if_pos (by omega)]
      · rw [if_neg h, if_neg (by omega)]
theorem mdP_ob {w : MW} {p k : Nat} : mm_ob (mdP w p k) p 7 (mdF p k) := ⟨by show p < p + 1 + k; omega, by show (if p = p then _ else _) = _; rw [if_pos rfl]⟩
theorem mdP_4 {w : MW} {p : Nat} : mdP w p 4 = mdW (p + 5, w.2) p zI zI zI zI (0, 0, 0, 0, 0, 0, 0) := by
  refine Prod.ext rfl (funext fun a => ?_)
  show (if a = p then _ else if p < a ∧ a ≤ p + 4 then .inl (.int, mdN (a - p - 1), .inl zI) else w.2 a) = (if a = p then _ else if a = p + 1 then _ else if a = p + 2 then _ else if a = p + 3 then _ else if a = p + 4 then _ else w.2 a)
  by_cases e0 : a = p
  · rw [if_pos e0, if_pos e0]; rfl
  · rw [if_neg e0, if_neg e0]
    by_cases h : p < a ∧ a ≤ p + 4
    · rw [if_pos h]
      rcases (show a = p + 1 ∨ a = p + 2 ∨ a = p + 3 ∨ a = p + 4 by omega) with e | e | e | e
      · rw [if_pos e, show a - p - 1 = 0 by omega]; rfl
      · rw [if_neg (by omega), if_pos e, show a - p - 1 = 1 by omega]; rfl
      · rw [if_neg (by omega), if_neg (by omega), if_pos e, show a - p - 1 = 2 by omega]; rfl
      · rw [if_neg (by omega), if_neg (by omega), if_neg (by omega), if_pos e, show a - p - 1 = 3 by omega]; rfl
    · rw [if_neg h, if_neg (by omega), if_neg (by omega), if_neg (by omega), if_neg (by omega)]
theorem c_i8 (l : Launch) {w : MW} {p : Nat} (hp : w.1 = p + 1) (ho : w.2 p = .inr (7, mdF p 0)) (hX : p + 5 < mm_XT) : Ct l (.code yX8_init cX8_init 1 none) yX8_init 1 4 1408 [.ref p] w (.inl none) (mdW (p + 5, w.2) p zI zI zI zI (0, 0, 0, 0, 0, 0, 0)) := by
  refine ct_of (by decide +kernel) (Nat.le_of_ble_eq_true rfl) ?_
  refine go_aload_n dX8_init_0 rfl ?_
  refine go_objInit dX8_init_1 kl_X8_1 kn_object kc_object (Nat.le_of_ble_eq_true rfl) (Nat.le_of_ble_eq_true rfl) ?_
  refine go_w (mdP w p 0) (mdP_0 hp ho).symm ?_
  refine go_aload_n dX8_init_4 rfl ?_
  refine go_sipush 184 dX8_init_5 (by decide) ?_
  refine go_newarray (bc := 3) (bs := 1224) (N := 184) (ty := .int) (a0 := (184, .inl zI)) 0 (fun _ => rfl) dX8_init_8 ka_int rfl cell_I (fun _ _ => rfl) (fun _ => trivial) (by decide) (by decide) (by decide) (by show p + 1 + 0 < mm_XT; omega) ?_
  refine go_w (psh (mdP w p 0) (.inl (.int, 184, .inl zI))) rfl ?_
  refine go_putfinal dX8_init_10 p_X8_7_7 rfl (psh_ob mdP_ob) (Nat.le_of_ble_eq_true rfl) (fun _ => ⟨rfl, rfl⟩) (okf_n (Nat.lt_succ_self _)) ?_
  refine go_w (mdP w p 1) (mdP_s (k := 0)) ?_
  refine go_aload_n dX8_init_13 rfl ?_
  refine go_sipush 920 dX8_init_14 (by decide) ?_
  refine go_newarray (bc := 2) (bs := 304) (N := 920) (ty := .int) (a0 := (920, .inl zI)) 0 (fun _ => rfl) dX8_init_17 ka_int rfl cell_I (fun _ _ => rfl) (fun _ => trivial) (by decide) (by decide) (by decide) (by show p + 1 + 1 < mm_XT; omega) ?_
  refine go_w (psh (mdP w p 1) (.inl (.int, 920, .inl zI))) rfl ?_
  refine go_putfinal dX8_init_19 p_X8_13_7 rfl (psh_ob mdP_ob) (Nat.le_of_ble_eq_true rfl) (fun _ => ⟨rfl, rfl⟩) (okf_n (Nat.lt_succ_self _)) ?_
  refine go_w (mdP w p 2) (mdP_s (k := 1)) ?_
  refine go_aload_n dX8_init_22 rfl ?_
  refine go_sipush 184 dX8_init_23 (by decide) ?_
  refine go_newarray (bc := 1) (bs := 120) (N := 184) (ty := .int) (a0 := (184, .inl zI)) 0 (fun _ => rfl) dX8_init_26 ka_int rfl cell_I (fun _ _ => rfl) (fun _ => trivial) (by decide) (by decide) (by decide) (by show p + 1 + 2 < mm_XT; omega) ?_
  refine go_w (psh (mdP w p 2) (.inl (.int, 184, .inl zI))) rfl ?_
  refine go_putfinal dX8_init_28 p_X8_16_7 rfl (psh_ob mdP_ob) (Nat.le_of_ble_eq_true rfl) (fun _ => ⟨rfl, rfl⟩) (okf_n (Nat.lt_succ_self _)) ?_
  refine go_w (mdP w p 3) (mdP_s (k := 2)) ?_
  refine go_aload_n dX8_init_31 rfl ?_
  refine go_bipush 120 dX8_init_32 (by decide) ?_
  refine go_newarray (bc := 0) (bs := 0) (N := 120) (ty := .int) (a0 := (120, .inl zI)) 0 (fun _ => rfl) dX8_init_34 ka_int rfl cell_I (fun _ _ => rfl) (fun _ => trivial) (by decide) (by decide) (by decide) (by show p + 1 + 3 < mm_XT; omega) ?_
  refine go_w (psh (mdP w p 3) (.inl (.int, 120, .inl zI))) rfl ?_
  refine go_putfinal dX8_init_36 p_X8_19_7 rfl (psh_ob mdP_ob) (Nat.le_of_ble_eq_true rfl) (fun _ => ⟨rfl, rfl⟩) (okf_n (Nat.lt_succ_self _)) ?_
  refine go_w (mdP w p 4) (mdP_s (k := 3)) ?_
  rw [mdP_4]
  exact go_return dX8_init_39 rfl
