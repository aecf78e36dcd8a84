/-! the model's reader: a state is (nothing wrong yet, place) -/
def tI (t : Nat → Nat) : Nat → Int32 := fun i => nI (t i)
def flW (c : Nat) (wr : Int32) : Int32 := if wr = -1 then nI c else wr
def wrI (ok : Bool) (c : Nat) : Int32 := if ok = true then -1 else nI c
theorem wrI_t {c : Nat} : wrI true c = -1 := if_pos rfl
theorem wrI_f {c : Nat} : wrI false c = nI c := if_neg Bool.false_ne_true
theorem flW_wr {ok : Bool} {c : Nat} : flW c (wrI ok c) = wrI false c := by
  cases ok
  · rw [wrI_f]
    unfold flW
    split <;> rfl
  · rw [wrI_t, wrI_f]
    exact if_pos rfl
theorem nI_nm1 {c : Nat} (h : c < 2 ^ 31) : ¬ nI c = -1 := fun e => nI_pos h (by rw [e]; decide)
theorem wrI_ne {c : Nat} (h : c < 2 ^ 31) : ¬ wrI false c = -1 := by rw [wrI_f]; exact nI_nm1 h
def pTk (t : Nat → Nat) (ln k : Nat) (s : Bool × Nat) : Bool × Nat := if s.1 = true ∧ curN t ln s.2 = k then (true, s.2 + 1) else (false, s.2)
def dgB (t : Nat → Nat) (ln c : Nat) : Bool := decide (48 ≤ curN t ln c) && decide (curN t ln c ≤ 57)
theorem dg_in {x : Nat} (h : x < 2 ^ 31) : (decide ((48 : Int32) ≤ nI x) && decide (nI x ≤ 57)) = (decide (48 ≤ x) && decide (x ≤ 57)) := by
  have e1 : ((48 : Int32) ≤ nI x) = (48 ≤ x) := propext (nI_leI (a := 48) (by decide) h)
  have e2 : (nI x ≤ (57 : Int32)) = (x ≤ 57) := propext (nI_leI (b := 57) h (by decide))
  simp only [e1, e2]
def pnG (t : Nat → Nat) (ln : Nat) (sg : Bool) (c : Nat) : Bool := sg && decide (curN t ln c = 45)
def pnC (t : Nat → Nat) (ln : Nat) (sg : Bool) (c : Nat) : Nat := if pnG t ln sg c = true then c + 1 else c
def ngI (b : Bool) (v : Nat) : Int32 := if b = true then -nI v else nI v
def pNum (t : Nat → Nat) (ln m : Nat) (sg : Bool) (s : Bool × Nat) : (Bool × Nat) × Int32 := if s.1 = true then ((decide (pnC t ln sg s.2 < (rdN t ln m (pnC t ln sg s.2) 0).1) && !dgB t ln (rdN t ln m (pnC t ln sg s.2) 0).1, (rdN t ln m (pnC t ln sg s.2) 0).1), ngI (pnG t ln sg s.2) (rdN t ln m (pnC t ln sg s.2) 0).2) else ((false, s.2), 0)
theorem pnC_le {t : Nat → Nat} {ln : Nat} {sg : Bool} {c : Nat} (h : c ≤ ln) : pnC t ln sg c ≤ ln ∧ c ≤ pnC t ln sg c := by
  unfold pnC
  split
  · rename_i z
    have z2 : curN t ln c = 45 := by
      have := Bool.and_eq_true_iff.mp z
      exact of_decide_eq_true this.2
    have := cur_lt (t := t) (ln := ln) (cu := c) (by rw [z2]; decide)
    omega
  · omega
theorem pNum_le {t : Nat → Nat} {ln m : Nat} {sg : Bool} {s : Bool × Nat} (h : s.2 ≤ ln) : (pNum t ln m sg s).1.2 ≤ ln ∧ s.2 ≤ (pNum t ln m sg s).1.2 := by
  unfold pNum
  have h1 := pnC_le (t := t) (sg := sg) h
  have h2 := rdN_le (t := t) m (pnC t ln sg s.2) 0 h1.1
  split
  · show (rdN t ln m (pnC t ln sg s.2) 0).1 ≤ ln ∧ s.2 ≤ (rdN t ln m (pnC t ln sg s.2) 0).1
    omega
  · exact ⟨h, Nat.le_refl _⟩
theorem pTk_le {t : Nat → Nat} {ln k : Nat} {s : Bool × Nat} (hk : k ≠ 0) (h : s.2 ≤ ln) : (pTk t ln k s).2 ≤ ln ∧ s.2 ≤ (pTk t ln k s).2 := by
  unfold pTk
  split
  · rename_i z
    have := cur_lt (t := t) (ln := ln) (cu := s.2) (by rw [z.2]; exact hk)
    show s.2 + 1 ≤ ln ∧ s.2 ≤ s.2 + 1
    omega
  · exact ⟨h, Nat.le_refl _⟩
def mCmd (t : Nat → Nat) (ln c : Nat) : (Bool × Nat) × Int32 × Int32 :=
  if curN t ln c = 105 then (pTk t ln 59 (pNum t ln 3 true (true, c + 1)).1, (pNum t ln 3 true (true, c + 1)).2, 0)
  else if curN t ln c = 114 then (pTk t ln 59 (pNum t ln 2 false (true, c + 1)).1, (pNum t ln 2 false (true, c + 1)).2, 0)
  else if curN t ln c = 99 then (pTk t ln 59 (pNum t ln 3 true (pTk t ln 44 (pNum t ln 2 false (true, c + 1)).1)).1, (pNum t ln 2 false (true, c + 1)).2, (pNum t ln 3 true (pTk t ln 44 (pNum t ln 2 false (true, c + 1)).1)).2)
  else if curN t ln c = 108 ∨ curN t ln c = 103 ∨ curN t ln c = 98 then (pTk t ln 59 (true, c + 1), 0, 0)
  else (pTk t ln 59 (false, c), 0, 0)
def mFlt (t : Nat → Nat) (ln : Nat) : Nat → Nat → Bool × Nat
  | 0, c => (true, c)
  | u + 1, c => if c < ln then (if (mCmd t ln c).1.1 = true then mFlt t ln u (mCmd t ln c).1.2 else (mCmd t ln c).1) else (true, c)
theorem pTk_gt {t : Nat → Nat} {ln k : Nat} {s : Bool × Nat} (h : (pTk t ln k s).1 = true) : s.2 < (pTk t ln k s).2 := by
  unfold pTk at h ⊢
  split
  · exact Nat.lt_succ_self _
  · rename_i z
    rw [if_neg z] at h
    cases h
theorem mCmd_le {t : Nat → Nat} {ln c : Nat} (h : c < ln) : (mCmd t ln c).1.2 ≤ ln ∧ c ≤ (mCmd t ln c).1.2 ∧ ((mCmd t ln c).1.1 = true → c < (mCmd t ln c).1.2) := by
  have K : ∀ s : Bool × Nat, s.2 ≤ ln → c ≤ s.2 → (pTk t ln 59 s).2 ≤ ln ∧ c ≤ (pTk t ln 59 s).2 ∧ ((pTk t ln 59 s).1 = true → c < (pTk t ln 59 s).2) := by
    intro s h1 h2
    have h3 := pTk_le (t := t) (k := 59) (by decide) h1
    exact ⟨h3.1, by omega, fun z => by have := pTk_gt z; omega⟩
  have h1 := pNum_le (t := t) (m := 3) (sg := true) (s := (true, c + 1)) (ln := ln) h
  have h2 := pNum_le (t := t) (m := 2) (sg := false) (s := (true, c + 1)) (ln := ln) h
  have h3 := pTk_le (t := t) (k := 44) (by decide) h2.1
  have h4 := pNum_le (t := t) (m := 3) (sg := true) h3.1
  have e1 : (true, c + 1).2 = c + 1 := rfl
  unfold mCmd
  split
  · exact K _ h1.1 (by omega)
  · split
    · exact K _ h2.1 (by omega)
    · split
      · exact K _ h4.1 (by omega)
      · split
        · exact K _ h (by show c ≤ c + 1; omega)
        · exact K _ (by show c ≤ ln; omega) (Nat.le_refl _)
theorem m_next (l : Launch) {w : MW} {p : Nat} {A P K : Nat → Int32} {t : Nat → Nat} {a rf dn : Int32} {ln : Nat} {ha : Int64} (hp : p + 4 < w.1) (hl : ln ≤ 120) (ht : ∀ i, t i < 128) {c : Nat} {wr : Int32} (hc : c ≤ ln) : Ct l (.code yX8_next cX8_next 1 (some .int)) yX8_next 0 0 0 [.ref p] (mdW w p A P K (tI t) (a, rf, nI ln, (nI c), wr, dn, ha)) (.inl (some (.int (nI (curN t ln c))))) (mdW w p A P K (tI t) (a, rf, nI ln, (nI c), wr, dn, ha)) := by
  refine ct_of (by decide +kernel) (Nat.le_of_ble_eq_true rfl) ?_
  refine go_aload_n dX8_next_0 rfl ?_
  refine go_getfield dX8_next_1 f_X8_218_7 (mdW_ob hp) rfl ?_
  refine go_aload_n dX8_next_4 rfl ?_
  refine go_getfield dX8_next_5 f_X8_215_7 (mdW_ob hp) rfl ?_
  refine go_icmp_ge 23 dX8_next_8 (by decide) (fun q8 => ?_) (fun q8 => ?_)
  · have z := n_le' (a := ln) (b := c) q8 (by omega) (by omega)
    rw [show curN t ln c = 0 from if_neg (by omega)]
    refine go_iconst 0 dX8_next_23 (by decide) ?_
    exact go_ireturn dX8_next_24 rfl rfl
  · have z : c < ln := n_lt' (a := c) (b := ln) q8 (by omega)
    rw [show curN t ln c = t c from if_pos z]
    refine go_aload_n dX8_next_11 rfl ?_
    refine go_getfield dX8_next_12 f_X8_19_7 (mdW_ob hp) rfl ?_
    refine go_aload_n dX8_next_15 rfl ?_
    refine go_getfield dX8_next_16 f_X8_218_7 (mdW_ob hp) rfl ?_
    refine go_iaload c dX8_next_19 (mdW_T hp) rfl (by omega) (by decide) ?_
    refine go_goto 24 dX8_next_20 (by decide) ?_
    exact go_ireturn dX8_next_24 rfl rfl
theorem m_fails (l : Launch) {w : MW} {p : Nat} {A P K : Nat → Int32} {t : Nat → Nat} {a rf dn : Int32} {ln : Nat} {ha : Int64} (hp : p + 4 < w.1) (hl : ln ≤ 120) (ht : ∀ i, t i < 128) {c : Nat} {wr : Int32} : Ct l (.code yX8_fails cX8_fails 1 none) yX8_fails 0 0 0 [.ref p] (mdW w p A P K (tI t) (a, rf, nI ln, (nI c), wr, dn, ha)) (.inl none) (mdW w p A P K (tI t) (a, rf, nI ln, (nI c), (flW c wr), dn, ha)) := by
  refine ct_of (by decide +kernel) (Nat.le_of_ble_eq_true rfl) ?_
  refine go_aload_n dX8_fails_0 rfl ?_
  refine go_aload_n dX8_fails_1 rfl ?_
  refine go_getfield dX8_fails_2 f_X8_221_7 (mdW_ob hp) rfl ?_
  refine go_iconst (-1) dX8_fails_5 (by decide) ?_
  refine go_icmp_ne 16 dX8_fails_6 (by decide) (fun q6 => ?_) (fun q6 => ?_)
  · rw [show flW c wr = wr from if_neg q6]
    refine go_aload_n dX8_fails_16 rfl ?_
    refine go_getfield dX8_fails_17 f_X8_221_7 (mdW_ob hp) rfl ?_
    refine go_putfield dX8_fails_20 p_X8_221_7 (mdW_ob hp) (Nat.le_of_ble_eq_true rfl) (fun _ => ⟨rfl, rfl⟩) (fun _ z => nomatch z) ?_
    first | refine go_w _ (mdW_uX (a, rf, nI ln, (nI c), wr, dn, ha)) ?_ | refine go_w _ (mdW_uX (a, rf, nI ln, (nI c), (nI c), dn, ha)) ?_
    exact go_return dX8_fails_23 rfl
  · rw [show flW c wr = nI c from if_pos q6]
    refine go_aload_n dX8_fails_9 rfl ?_
    refine go_getfield dX8_fails_10 f_X8_218_7 (mdW_ob hp) rfl ?_
    refine go_goto 20 dX8_fails_13 (by decide) ?_
    refine go_putfield dX8_fails_20 p_X8_221_7 (mdW_ob hp) (Nat.le_of_ble_eq_true rfl) (fun _ => ⟨rfl, rfl⟩) (fun _ z => nomatch z) ?_
    first | refine go_w _ (mdW_uX (a, rf, nI ln, (nI c), wr, dn, ha)) ?_ | refine go_w _ (mdW_uX (a, rf, nI ln, (nI c), (nI c), dn, ha)) ?_
    exact go_return dX8_fails_23 rfl
theorem m_takes (l : Launch) {w : MW} {p : Nat} {A P K : Nat → Int32} {t : Nat → Nat} {a rf dn : Int32} {ln : Nat} {ha : Int64} (hp : p + 4 < w.1) (hl : ln ≤ 120) (ht : ∀ i, t i < 128) {k c : Nat} {ok : Bool} (hk : k < 128) (hc : c ≤ ln) : Ct l (.code yX8_takes cX8_takes 2 none) yX8_takes 1 0 0 [.ref p, .int (nI k)] (mdW w p A P K (tI t) (a, rf, nI ln, (nI c), (wrI ok c), dn, ha)) (.inl none) (mdW w p A P K (tI t) (a, rf, nI ln, (nI (pTk t ln k (ok, c)).2), (wrI (pTk t ln k (ok, c)).1 (pTk t ln k (ok, c)).2), dn, ha)) := by
  refine ct_of (by decide +kernel) (Nat.le_of_ble_eq_true rfl) ?_
  cases ok
  · rw [show pTk t ln k (false, c) = (false, c) from if_neg (fun z => Bool.false_ne_true z.1)]
    refine go_aload_n dX8_takes_0 rfl ?_
    refine go_getfield dX8_takes_1 f_X8_221_7 (mdW_ob hp) rfl ?_
    refine go_iconst (-1) dX8_takes_4 (by decide) ?_
    refine go_icmp_ne_t 29 dX8_takes_5 (by decide) (wrI_ne (by omega)) ?_
    refine go_aload_n dX8_takes_29 rfl ?_
    refine go_virt0 dX8_takes_30 (m_fails l hp hl ht (c := c) (wr := wrI false c)) v_X8_226_7 rfl (mdW_ob hp) rfl (Nat.le_of_ble_eq_true rfl) (Nat.le_of_ble_eq_true rfl) (Nat.le_of_ble_eq_true rfl) ?_
    rw [flW_wr]
    exact go_return dX8_takes_33 rfl
  · skip
    refine go_aload_n dX8_takes_0 rfl ?_
    refine go_getfield dX8_takes_1 f_X8_221_7 (mdW_ob hp) rfl ?_
    refine go_iconst (-1) dX8_takes_4 (by decide) ?_
    refine go_icmp_ne_f 29 dX8_takes_5 (by decide) (wrI_t (c := c)) ?_
    refine go_aload_n dX8_takes_8 rfl ?_
    refine go_virt1 dX8_takes_9 (m_next l hp hl ht (c := c) (wr := wrI true c) hc) v_X8_223_7 rfl (mdW_ob hp) rfl (Nat.le_of_ble_eq_true rfl) (Nat.le_of_ble_eq_true rfl) (Nat.le_of_ble_eq_true rfl) ?_
    refine go_iload_n dX8_takes_12 rfl ?_
    refine go_icmp_ne 29 dX8_takes_13 (by decide) (fun q13 => ?_) (fun q13 => ?_)
    · rw [show pTk t ln k (true, c) = (false, c) from if_neg (fun z => q13 (by rw [z.2]))]
      refine go_aload_n dX8_takes_29 rfl ?_
      refine go_virt0 dX8_takes_30 (m_fails l hp hl ht (c := c) (wr := wrI true c)) v_X8_226_7 rfl (mdW_ob hp) rfl (Nat.le_of_ble_eq_true rfl) (Nat.le_of_ble_eq_true rfl) (Nat.le_of_ble_eq_true rfl) ?_
      rw [flW_wr]
      exact go_return dX8_takes_33 rfl
    · rw [show pTk t ln k (true, c) = (true, c + 1) from if_pos ⟨rfl, (nI_eq (Nat.lt_of_lt_of_le (cur_128 (ln := ln) (cu := c) ht) (by decide)) (by omega)).mp q13⟩]
      refine go_aload_n dX8_takes_16 rfl ?_
      refine go_dup dX8_takes_17 rfl ?_
      refine go_getfield dX8_takes_18 f_X8_218_7 (mdW_ob hp) rfl ?_
      refine go_iconst 1 dX8_takes_21 (by decide) ?_
      refine go_iadd dX8_takes_22 ?_
      refine go_top (.int (nI (c + 1))) (congrArg Value.int (nI_1 c)) ?_
      refine go_putfield dX8_takes_23 p_X8_218_7 (mdW_ob hp) (Nat.le_of_ble_eq_true rfl) (fun _ => ⟨rfl, rfl⟩) (fun _ z => nomatch z) ?_
      refine go_w _ (mdW_uX (a, rf, nI ln, (nI (c + 1)), (wrI true (c + 1)), dn, ha)) ?_
      refine go_goto 33 dX8_takes_26 (by decide) ?_
      exact go_return dX8_takes_33 rfl
theorem m_num_110 (l : Launch) {w : MW} {p : Nat} {A P K : Nat → Int32} {t : Nat → Nat} {a rf dn : Int32} {ln : Nat} {ha : Int64} (hp : p + 4 < w.1) (hl : ln ≤ 120) (ht : ∀ i, t i < 128) {m v d c : Nat} {ng : Bool} (hd : d < 100) (hc : c ≤ ln) : Go l yX8_number cX8_number 6 (some .int) [] none (mm_Z (mm_eq (.inl (some (.int (ngI ng v)))) (mdW w p A P K (tI t) (a, rf, nI ln, (nI c), (wrI (decide (0 < d) && !dgB t ln c) c), dn, ha)))) 1 0 0 110 [(0, .ref p), (1, .int (nI m)), (3, .int (bI ng)), (4, .int (nI v)), (5, .int (nI d))] [] (mdW w p A P K (tI t) (a, rf, nI ln, (nI c), (wrI true c), dn, ha)) := by
  have hcu := cur_128 (ln := ln) (cu := c) ht
  refine go_iload dX8_number_110 rfl ?_
  refine go_if_eq 129 dX8_number_112 (by decide) (fun q112 => ?_) (fun q112 => ?_)
  · rw [show (decide (0 < d) && !dgB t ln c) = false from by rw [nI_z (by omega) q112]; rfl]
    refine go_aload_n dX8_number_129 rfl ?_
    refine go_virt0 dX8_number_130 (m_fails l hp hl ht (c := c) (wr := wrI true c)) v_X8_226_7 rfl (mdW_ob hp) rfl (Nat.le_of_ble_eq_true rfl) (Nat.le_of_ble_eq_true rfl) (Nat.le_of_ble_eq_true rfl) ?_
    rw [flW_wr]
    refine go_iload_n dX8_number_133 rfl ?_
    refine go_if_eq 143 dX8_number_134 (by decide) (fun q134 => ?_) (fun q134 => ?_)
    · rw [show ngI ng v = nI v from if_neg (bI_ff q134)]
      refine go_iload dX8_number_143 rfl ?_
      exact go_ireturn dX8_number_145 rfl rfl
    · rw [show ngI ng v = -nI v from if_pos (bI_ne.mp q134)]
      refine go_iload dX8_number_137 rfl ?_
      refine go_ineg dX8_number_139 ?_
      refine go_goto 145 dX8_number_140 (by decide) ?_
      exact go_ireturn dX8_number_145 rfl rfl
  · have e1 : 0 < d := Nat.pos_of_ne_zero (fun z => q112 (by rw [z]; rfl))
    refine go_aload_n dX8_number_115 rfl ?_
    refine go_virt1 dX8_number_116 (m_next l hp hl ht (c := c) (wr := wrI true c) (by omega)) v_X8_223_7 rfl (mdW_ob hp) rfl (Nat.le_of_ble_eq_true rfl) (Nat.le_of_ble_eq_true rfl) (Nat.le_of_ble_eq_true rfl) ?_
    refine go_bipush 48 dX8_number_119 (by decide) ?_
    refine go_bipush 57 dX8_number_121 (by decide) ?_
    refine go_stat1 dX8_number_123 (m_within l) s_X8_33 kc_X8_within rfl rfl (Nat.le_of_ble_eq_true rfl) (Nat.le_of_ble_eq_true rfl) (Nat.le_of_ble_eq_true rfl) ?_
    rw [dg_in (by omega)]
    refine go_if_eq 133 dX8_number_126 (by decide) (fun q126 => ?_) (fun q126 => ?_)
    · rw [show (decide (0 < d) && !dgB t ln c) = true from by rw [decide_eq_true e1, show dgB t ln c = false from bI_eq.mp q126]; rfl]
      refine go_iload_n dX8_number_133 rfl ?_
      refine go_if_eq 143 dX8_number_134 (by decide) (fun q134 => ?_) (fun q134 => ?_)
      · rw [show ngI ng v = nI v from if_neg (bI_ff q134)]
        refine go_iload dX8_number_143 rfl ?_
        exact go_ireturn dX8_number_145 rfl rfl
      · rw [show ngI ng v = -nI v from if_pos (bI_ne.mp q134)]
        refine go_iload dX8_number_137 rfl ?_
        refine go_ineg dX8_number_139 ?_
        refine go_goto 145 dX8_number_140 (by decide) ?_
        exact go_ireturn dX8_number_145 rfl rfl
    · rw [show (decide (0 < d) && !dgB t ln c) = false from by rw [show dgB t ln c = true from bI_ne.mp q126, decide_eq_true e1]; rfl]
      refine go_aload_n dX8_number_129 rfl ?_
      refine go_virt0 dX8_number_130 (m_fails l hp hl ht (c := c) (wr := wrI true c)) v_X8_226_7 rfl (mdW_ob hp) rfl (Nat.le_of_ble_eq_true rfl) (Nat.le_of_ble_eq_true rfl) (Nat.le_of_ble_eq_true rfl) ?_
      rw [flW_wr]
      refine go_iload_n dX8_number_133 rfl ?_
      refine go_if_eq 143 dX8_number_134 (by decide) (fun q134 => ?_) (fun q134 => ?_)
      · rw [show ngI ng v = nI v from if_neg (bI_ff q134)]
        refine go_iload dX8_number_143 rfl ?_
        exact go_ireturn dX8_number_145 rfl rfl
      · rw [show ngI ng v = -nI v from if_pos (bI_ne.mp q134)]
        refine go_iload dX8_number_137 rfl ?_
        refine go_ineg dX8_number_139 ?_
        refine go_goto 145 dX8_number_140 (by decide) ?_
        exact go_ireturn dX8_number_145 rfl rfl
theorem nI_s48 (x : Nat) : nI (x + 48) - 48 = nI x := by
  rw [← nI_add x 48]
  exact Int32.add_sub_cancel _ _
theorem m_num_51 (l : Launch) {w : MW} {p : Nat} {A P K : Nat → Int32} {t : Nat → Nat} {a rf dn : Int32} {ln : Nat} {ha : Int64} (hp : p + 4 < w.1) (hl : ln ≤ 120) (ht : ∀ i, t i < 128) {m c1 : Nat} {ng : Bool} (hm : m ≤ 3) : ∀ (u d c v : Nat), u + d = m → c = c1 + d → c ≤ ln → Go l yX8_number cX8_number 6 (some .int) [] none (mm_Z (mm_eq (.inl (some (.int (ngI ng (rdN t ln u c v).2)))) (mdW w p A P K (tI t) (a, rf, nI ln, (nI (rdN t ln u c v).1), (wrI (decide (c1 < (rdN t ln u c v).1) && !dgB t ln (rdN t ln u c v).1) (rdN t ln u c v).1), dn, ha)))) 1 0 0 51 [(0, .ref p), (1, .int (nI m)), (3, .int (bI ng)), (4, .int (nI v)), (5, .int (nI d))] [] (mdW w p A P K (tI t) (a, rf, nI ln, (nI c), (wrI true c), dn, ha)) := by
  intro u
  induction u with
  | zero =>
    intro d c v hu hcd hc
    have hcu := cur_128 (ln := ln) (cu := c) ht
    rw [show rdN t ln 0 c v = (c, v) from rfl, show decide (c1 < (c, v).1) = decide (0 < d) from decide_eq_decide.mpr (by show c1 < c ↔ 0 < d; omega)]
    refine go_aload_n dX8_number_51 rfl ?_
    refine go_getfield dX8_number_52 f_X8_221_7 (mdW_ob hp) rfl ?_
    refine go_iconst (-1) dX8_number_55 (by decide) ?_
    refine go_icmp_ne_f 110 dX8_number_56 (by decide) (wrI_t (c := c)) ?_
    refine go_aload_n dX8_number_59 rfl ?_
    refine go_virt1 dX8_number_60 (m_next l hp hl ht (c := c) (wr := wrI true c) (by omega)) v_X8_223_7 rfl (mdW_ob hp) rfl (Nat.le_of_ble_eq_true rfl) (Nat.le_of_ble_eq_true rfl) (Nat.le_of_ble_eq_true rfl) ?_
    refine go_bipush 48 dX8_number_63 (by decide) ?_
    refine go_bipush 57 dX8_number_65 (by decide) ?_
    refine go_stat1 dX8_number_67 (m_within l) s_X8_33 kc_X8_within rfl rfl (Nat.le_of_ble_eq_true rfl) (Nat.le_of_ble_eq_true rfl) (Nat.le_of_ble_eq_true rfl) ?_
    rw [dg_in (by omega)]
    refine go_if_eq 110 dX8_number_70 (by decide) (fun q70 => ?_) (fun q70 => ?_)
    · exact go_sub [(0, .ref p), (1, .int (nI m)), (3, .int (bI ng)), (4, .int (nI v)), (5, .int (nI d))] ⟨rfl, rfl, rfl, rfl, rfl, trivial⟩ (m_num_110 l hp hl ht (by omega) hc)
    · refine go_iload dX8_number_73 rfl ?_
      refine go_iload_n dX8_number_75 rfl ?_
      refine go_icmp_ge_t 110 dX8_number_76 (by decide) (nI_le (by omega) (by omega)) ?_
      exact go_sub [(0, .ref p), (1, .int (nI m)), (3, .int (bI ng)), (4, .int (nI v)), (5, .int (nI d))] ⟨rfl, rfl, rfl, rfl, rfl, trivial⟩ (m_num_110 l hp hl ht (by omega) hc)
  | succ u ih =>
    intro d c v hu hcd hc
    have hcu := cur_128 (ln := ln) (cu := c) ht
    refine go_aload_n dX8_number_51 rfl ?_
    refine go_getfield dX8_number_52 f_X8_221_7 (mdW_ob hp) rfl ?_
    refine go_iconst (-1) dX8_number_55 (by decide) ?_
    refine go_icmp_ne_f 110 dX8_number_56 (by decide) (wrI_t (c := c)) ?_
    refine go_aload_n dX8_number_59 rfl ?_
    refine go_virt1 dX8_number_60 (m_next l hp hl ht (c := c) (wr := wrI true c) (by omega)) v_X8_223_7 rfl (mdW_ob hp) rfl (Nat.le_of_ble_eq_true rfl) (Nat.le_of_ble_eq_true rfl) (Nat.le_of_ble_eq_true rfl) ?_
    refine go_bipush 48 dX8_number_63 (by decide) ?_
    refine go_bipush 57 dX8_number_65 (by decide) ?_
    refine go_stat1 dX8_number_67 (m_within l) s_X8_33 kc_X8_within rfl rfl (Nat.le_of_ble_eq_true rfl) (Nat.le_of_ble_eq_true rfl) (Nat.le_of_ble_eq_true rfl) ?_
    rw [dg_in (by omega)]
    refine go_if_eq 110 dX8_number_70 (by decide) (fun q70 => ?_) (fun q70 => ?_)
    · have e7 : ¬ (48 ≤ curN t ln c ∧ curN t ln c ≤ 57) := fun z => bI_ff q70 (by rw [decide_eq_true z.1, decide_eq_true z.2]; rfl)
      rw [show rdN t ln (u + 1) c v = (c, v) from by rw [rdN, if_neg e7], show decide (c1 < (c, v).1) = decide (0 < d) from decide_eq_decide.mpr (by show c1 < c ↔ 0 < d; omega)]
      exact go_sub [(0, .ref p), (1, .int (nI m)), (3, .int (bI ng)), (4, .int (nI v)), (5, .int (nI d))] ⟨rfl, rfl, rfl, rfl, rfl, trivial⟩ (m_num_110 l hp hl ht (by omega) hc)
    · have e6 := Bool.and_eq_true_iff.mp (bI_ne.mp q70)
      have e7 : 48 ≤ curN t ln c ∧ curN t ln c ≤ 57 := ⟨of_decide_eq_true e6.1, of_decide_eq_true e6.2⟩
      have e8 := cur_lt (t := t) (ln := ln) (cu := c) (by omega)
      rw [show rdN t ln (u + 1) c v = rdN t ln u (c + 1) (10 * v + (curN t ln c - 48)) from by rw [rdN, if_pos e7]]
      refine go_iload dX8_number_73 rfl ?_
      refine go_iload_n dX8_number_75 rfl ?_
      refine go_icmp_ge_f 110 dX8_number_76 (by decide) (n_nle (by omega) (by omega)) ?_
      refine go_bipush 10 dX8_number_79 (by decide) ?_
      refine go_iload dX8_number_81 rfl ?_
      refine go_imul dX8_number_83 ?_
      rw [show (10 : Int32) * nI v = nI (10 * v) from pk_mul 10 v]
      refine go_aload_n dX8_number_84 rfl ?_
      refine go_virt1 dX8_number_85 (m_next l hp hl ht (c := c) (wr := wrI true c) (by omega)) v_X8_223_7 rfl (mdW_ob hp) rfl (Nat.le_of_ble_eq_true rfl) (Nat.le_of_ble_eq_true rfl) (Nat.le_of_ble_eq_true rfl) ?_
      refine go_iadd dX8_number_88 ?_
      rw [nI_add]
      refine go_bipush 48 dX8_number_89 (by decide) ?_
      refine go_isub dX8_number_91 ?_
      rw [show nI (10 * v + curN t ln c) - 48 = nI (10 * v + (curN t ln c - 48)) from by rw [show 10 * v + curN t ln c = (10 * v + (curN t ln c - 48)) + 48 by omega]; exact nI_s48 _]
      refine go_istore dX8_number_92 (Nat.le_of_ble_eq_true rfl) rfl ?_
      refine go_aload_n dX8_number_94 rfl ?_
      refine go_dup dX8_number_95 rfl ?_
      refine go_getfield dX8_number_96 f_X8_218_7 (mdW_ob hp) rfl ?_
      refine go_iconst 1 dX8_number_99 (by decide) ?_
      refine go_iadd dX8_number_100 ?_
      refine go_top (.int (nI (c + 1))) (congrArg Value.int (nI_1 c)) ?_
      refine go_putfield dX8_number_101 p_X8_218_7 (mdW_ob hp) (Nat.le_of_ble_eq_true rfl) (fun _ => ⟨rfl, rfl⟩) (fun _ z => nomatch z) ?_
      refine go_w _ (mdW_uX (a, rf, nI ln, (nI (c + 1)), (wrI true (c + 1)), dn, ha)) ?_
      refine go_iinc dX8_number_104 rfl (Nat.le_of_ble_eq_true rfl) rfl (show _ = _ + 1 from rfl) ?_
      rw [a_k1]
      refine go_goto 51 dX8_number_107 (by decide) ?_
      exact go_sub [(0, .ref p), (1, .int (nI m)), (3, .int (bI ng)), (4, .int (nI (10 * v + (curN t ln c - 48)))), (5, .int (nI (d + 1)))] ⟨rfl, rfl, rfl, rfl, rfl, trivial⟩ (ih (d + 1) (c + 1) _ (by omega) (by omega) (by omega))
theorem m_number (l : Launch) {w : MW} {p : Nat} {A P K : Nat → Int32} {t : Nat → Nat} {a rf dn : Int32} {ln : Nat} {ha : Int64} (hp : p + 4 < w.1) (hl : ln ≤ 120) (ht : ∀ i, t i < 128) {m c : Nat} {ok sg : Bool} (hm : m ≤ 3) (hc : c ≤ ln) : Ct l (.code yX8_number cX8_number 6 (some .int)) yX8_number 1 0 0 [.ref p, .int (nI m), .int (bI sg)] (mdW w p A P K (tI t) (a, rf, nI ln, (nI c), (wrI ok c), dn, ha)) (.inl (some (.int (pNum t ln m sg (ok, c)).2))) (mdW w p A P K (tI t) (a, rf, nI ln, (nI (pNum t ln m sg (ok, c)).1.2), (wrI (pNum t ln m sg (ok, c)).1.1 (pNum t ln m sg (ok, c)).1.2), dn, ha)) := by
  refine ct_of (by decide +kernel) (Nat.le_of_ble_eq_true rfl) ?_
  have hcu := cur_128 (ln := ln) (cu := c) ht
  cases ok
  · rw [show pNum t ln m sg (false, c) = ((false, c), 0) from if_neg Bool.false_ne_true]
    refine go_iload_n dX8_number_0 rfl ?_
    refine go_if_eq 25 dX8_number_1 (by decide) (fun q1 => ?_) (fun q1 => ?_)
    · refine go_iconst 0 dX8_number_25 (by decide) ?_
      refine go_istore_n dX8_number_26 (Nat.le_of_ble_eq_true rfl) rfl ?_
      refine go_aload_n dX8_number_27 rfl ?_
      refine go_dup dX8_number_28 rfl ?_
      refine go_getfield dX8_number_29 f_X8_218_7 (mdW_ob hp) rfl ?_
      refine go_iload_n dX8_number_32 rfl ?_
      refine go_if_eq_t 40 dX8_number_33 (by decide) (rfl) ?_
      refine go_iconst 0 dX8_number_40 (by decide) ?_
      refine go_iadd dX8_number_41 ?_
      refine go_top (.int (nI c)) (congrArg Value.int (Int32.add_zero _)) ?_
      refine go_putfield dX8_number_42 p_X8_218_7 (mdW_ob hp) (Nat.le_of_ble_eq_true rfl) (fun _ => ⟨rfl, rfl⟩) (fun _ z => nomatch z) ?_
      refine go_w _ (mdW_uX (a, rf, nI ln, (nI c), (wrI false c), dn, ha)) ?_
      refine go_iconst 0 dX8_number_45 (by decide) ?_
      refine go_istore dX8_number_46 (Nat.le_of_ble_eq_true rfl) rfl ?_
      refine go_iconst 0 dX8_number_48 (by decide) ?_
      refine go_istore dX8_number_49 (Nat.le_of_ble_eq_true rfl) rfl ?_
      refine go_aload_n dX8_number_51 rfl ?_
      refine go_getfield dX8_number_52 f_X8_221_7 (mdW_ob hp) rfl ?_
      refine go_iconst (-1) dX8_number_55 (by decide) ?_
      refine go_icmp_ne_t 110 dX8_number_56 (by decide) (wrI_ne (by omega)) ?_
      refine go_iload dX8_number_110 rfl ?_
      refine go_if_eq_t 129 dX8_number_112 (by decide) (rfl) ?_
      refine go_aload_n dX8_number_129 rfl ?_
      refine go_virt0 dX8_number_130 (m_fails l hp hl ht (c := c) (wr := wrI false c)) v_X8_226_7 rfl (mdW_ob hp) rfl (Nat.le_of_ble_eq_true rfl) (Nat.le_of_ble_eq_true rfl) (Nat.le_of_ble_eq_true rfl) ?_
      rw [flW_wr]
      refine go_iload_n dX8_number_133 rfl ?_
      refine go_if_eq_t 143 dX8_number_134 (by decide) (rfl) ?_
      refine go_iload dX8_number_143 rfl ?_
      exact go_ireturn dX8_number_145 rfl rfl
    · refine go_aload_n dX8_number_4 rfl ?_
      refine go_getfield dX8_number_5 f_X8_221_7 (mdW_ob hp) rfl ?_
      refine go_iconst (-1) dX8_number_8 (by decide) ?_
      refine go_icmp_ne_t 25 dX8_number_9 (by decide) (wrI_ne (by omega)) ?_
      refine go_iconst 0 dX8_number_25 (by decide) ?_
      refine go_istore_n dX8_number_26 (Nat.le_of_ble_eq_true rfl) rfl ?_
      refine go_aload_n dX8_number_27 rfl ?_
      refine go_dup dX8_number_28 rfl ?_
      refine go_getfield dX8_number_29 f_X8_218_7 (mdW_ob hp) rfl ?_
      refine go_iload_n dX8_number_32 rfl ?_
      refine go_if_eq_t 40 dX8_number_33 (by decide) (rfl) ?_
      refine go_iconst 0 dX8_number_40 (by decide) ?_
      refine go_iadd dX8_number_41 ?_
      refine go_top (.int (nI c)) (congrArg Value.int (Int32.add_zero _)) ?_
      refine go_putfield dX8_number_42 p_X8_218_7 (mdW_ob hp) (Nat.le_of_ble_eq_true rfl) (fun _ => ⟨rfl, rfl⟩) (fun _ z => nomatch z) ?_
      refine go_w _ (mdW_uX (a, rf, nI ln, (nI c), (wrI false c), dn, ha)) ?_
      refine go_iconst 0 dX8_number_45 (by decide) ?_
      refine go_istore dX8_number_46 (Nat.le_of_ble_eq_true rfl) rfl ?_
      refine go_iconst 0 dX8_number_48 (by decide) ?_
      refine go_istore dX8_number_49 (Nat.le_of_ble_eq_true rfl) rfl ?_
      refine go_aload_n dX8_number_51 rfl ?_
      refine go_getfield dX8_number_52 f_X8_221_7 (mdW_ob hp) rfl ?_
      refine go_iconst (-1) dX8_number_55 (by decide) ?_
      refine go_icmp_ne_t 110 dX8_number_56 (by decide) (wrI_ne (by omega)) ?_
      refine go_iload dX8_number_110 rfl ?_
      refine go_if_eq_t 129 dX8_number_112 (by decide) (rfl) ?_
      refine go_aload_n dX8_number_129 rfl ?_
      refine go_virt0 dX8_number_130 (m_fails l hp hl ht (c := c) (wr := wrI false c)) v_X8_226_7 rfl (mdW_ob hp) rfl (Nat.le_of_ble_eq_true rfl) (Nat.le_of_ble_eq_true rfl) (Nat.le_of_ble_eq_true rfl) ?_
      rw [flW_wr]
      refine go_iload_n dX8_number_133 rfl ?_
      refine go_if_eq_t 143 dX8_number_134 (by decide) (rfl) ?_
      refine go_iload dX8_number_143 rfl ?_
      exact go_ireturn dX8_number_145 rfl rfl
  · cases sg
    · rw [show pNum t ln m false (true, c) = ((decide (c < (rdN t ln m c 0).1) && !dgB t ln (rdN t ln m c 0).1, (rdN t ln m c 0).1), ngI false (rdN t ln m c 0).2) from if_pos rfl]
      refine go_iload_n dX8_number_0 rfl ?_
      refine go_if_eq_t 25 dX8_number_1 (by decide) (rfl) ?_
      refine go_iconst 0 dX8_number_25 (by decide) ?_
      refine go_istore_n dX8_number_26 (Nat.le_of_ble_eq_true rfl) rfl ?_
      refine go_aload_n dX8_number_27 rfl ?_
      refine go_dup dX8_number_28 rfl ?_
      refine go_getfield dX8_number_29 f_X8_218_7 (mdW_ob hp) rfl ?_
      refine go_iload_n dX8_number_32 rfl ?_
      refine go_if_eq_t 40 dX8_number_33 (by decide) (rfl) ?_
      refine go_iconst 0 dX8_number_40 (by decide) ?_
      refine go_iadd dX8_number_41 ?_
      refine go_top (.int (nI c)) (congrArg Value.int (Int32.add_zero _)) ?_
      refine go_putfield dX8_number_42 p_X8_218_7 (mdW_ob hp) (Nat.le_of_ble_eq_true rfl) (fun _ => ⟨rfl, rfl⟩) (fun _ z => nomatch z) ?_
      refine go_w _ (mdW_uX (a, rf, nI ln, (nI c), (wrI true c), dn, ha)) ?_
      refine go_iconst 0 dX8_number_45 (by decide) ?_
      refine go_istore dX8_number_46 (Nat.le_of_ble_eq_true rfl) rfl ?_
      refine go_iconst 0 dX8_number_48 (by decide) ?_
      refine go_istore dX8_number_49 (Nat.le_of_ble_eq_true rfl) rfl ?_
      exact go_sub [(0, .ref p), (1, .int (nI m)), (3, .int (bI false)), (4, .int (nI 0)), (5, .int (nI 0))] ⟨rfl, rfl, rfl, rfl, rfl, trivial⟩ (m_num_51 l hp hl ht hm m 0 _ 0 rfl rfl (by omega))
    · by_cases e45 : curN t ln c = 45
      · rw [show pNum t ln m true (true, c) = ((decide (c + 1 < (rdN t ln m (c + 1) 0).1) && !dgB t ln (rdN t ln m (c + 1) 0).1, (rdN t ln m (c + 1) 0).1), ngI true (rdN t ln m (c + 1) 0).2) from by
          have e1 : pnG t ln true c = true := by unfold pnG; rw [decide_eq_true e45]; rfl
          have e2 : pnC t ln true c = c + 1 := by unfold pnC; rw [if_pos e1]
          unfold pNum
          rw [if_pos rfl]
          show ((decide (pnC t ln true c < _) && _, _), ngI (pnG t ln true c) _) = _
          rw [e1, e2]]
        have e8 := cur_lt (t := t) (ln := ln) (cu := c) (by omega)
        refine go_iload_n dX8_number_0 rfl ?_
        refine go_if_eq_f 25 dX8_number_1 (by decide) (by decide) ?_
        refine go_aload_n dX8_number_4 rfl ?_
        refine go_getfield dX8_number_5 f_X8_221_7 (mdW_ob hp) rfl ?_
        refine go_iconst (-1) dX8_number_8 (by decide) ?_
        refine go_icmp_ne_f 25 dX8_number_9 (by decide) (wrI_t (c := c)) ?_
        refine go_aload_n dX8_number_12 rfl ?_
        refine go_virt1 dX8_number_13 (m_next l hp hl ht (c := c) (wr := wrI true c) (by omega)) v_X8_223_7 rfl (mdW_ob hp) rfl (Nat.le_of_ble_eq_true rfl) (Nat.le_of_ble_eq_true rfl) (Nat.le_of_ble_eq_true rfl) ?_
        refine go_bipush 45 dX8_number_16 (by decide) ?_
        refine go_icmp_ne_f 25 dX8_number_18 (by decide) (by rw [e45]; rfl) ?_
        refine go_iconst 1 dX8_number_21 (by decide) ?_
        refine go_goto 26 dX8_number_22 (by decide) ?_
        refine go_istore_n dX8_number_26 (Nat.le_of_ble_eq_true rfl) rfl ?_
        refine go_aload_n dX8_number_27 rfl ?_
        refine go_dup dX8_number_28 rfl ?_
        refine go_getfield dX8_number_29 f_X8_218_7 (mdW_ob hp) rfl ?_
        refine go_iload_n dX8_number_32 rfl ?_
        refine go_if_eq_f 40 dX8_number_33 (by decide) (by decide) ?_
        refine go_iconst 1 dX8_number_36 (by decide) ?_
        refine go_goto 41 dX8_number_37 (by decide) ?_
        refine go_iadd dX8_number_41 ?_
        refine go_top (.int (nI (c + 1))) (congrArg Value.int (nI_1 c)) ?_
        refine go_putfield dX8_number_42 p_X8_218_7 (mdW_ob hp) (Nat.le_of_ble_eq_true rfl) (fun _ => ⟨rfl, rfl⟩) (fun _ z => nomatch z) ?_
        refine go_w _ (mdW_uX (a, rf, nI ln, (nI (c + 1)), (wrI true (c + 1)), dn, ha)) ?_
        refine go_iconst 0 dX8_number_45 (by decide) ?_
        refine go_istore dX8_number_46 (Nat.le_of_ble_eq_true rfl) rfl ?_
        refine go_iconst 0 dX8_number_48 (by decide) ?_
        refine go_istore dX8_number_49 (Nat.le_of_ble_eq_true rfl) rfl ?_
        exact go_sub [(0, .ref p), (1, .int (nI m)), (3, .int (bI true)), (4, .int (nI 0)), (5, .int (nI 0))] ⟨rfl, rfl, rfl, rfl, rfl, trivial⟩ (m_num_51 l hp hl ht hm m 0 _ 0 rfl rfl (by omega))
      · rw [show pNum t ln m true (true, c) = ((decide (c < (rdN t ln m c 0).1) && !dgB t ln (rdN t ln m c 0).1, (rdN t ln m c 0).1), ngI false (rdN t ln m c 0).2) from by
          have e1 : pnG t ln true c = false := by unfold pnG; rw [decide_eq_false e45]; rfl
          have e2 : pnC t ln true c = c := by unfold pnC; rw [e1]; rfl
          unfold pNum
          rw [if_pos rfl]
          show ((decide (pnC t ln true c < _) && _, _), ngI (pnG t ln true c) _) = _
          rw [e1, e2]]
        refine go_iload_n dX8_number_0 rfl ?_
        refine go_if_eq_f 25 dX8_number_1 (by decide) (by decide) ?_
        refine go_aload_n dX8_number_4 rfl ?_
        refine go_getfield dX8_number_5 f_X8_221_7 (mdW_ob hp) rfl ?_
        refine go_iconst (-1) dX8_number_8 (by decide) ?_
        refine go_icmp_ne_f 25 dX8_number_9 (by decide) (wrI_t (c := c)) ?_
        refine go_aload_n dX8_number_12 rfl ?_
        refine go_virt1 dX8_number_13 (m_next l hp hl ht (c := c) (wr := wrI true c) (by omega)) v_X8_223_7 rfl (mdW_ob hp) rfl (Nat.le_of_ble_eq_true rfl) (Nat.le_of_ble_eq_true rfl) (Nat.le_of_ble_eq_true rfl) ?_
        refine go_bipush 45 dX8_number_16 (by decide) ?_
        refine go_icmp_ne_t 25 dX8_number_18 (by decide) (n_ne (b := 45) e45 (by omega) (by decide)) ?_
        refine go_iconst 0 dX8_number_25 (by decide) ?_
        refine go_istore_n dX8_number_26 (Nat.le_of_ble_eq_true rfl) rfl ?_
        refine go_aload_n dX8_number_27 rfl ?_
        refine go_dup dX8_number_28 rfl ?_
        refine go_getfield dX8_number_29 f_X8_218_7 (mdW_ob hp) rfl ?_
        refine go_iload_n dX8_number_32 rfl ?_
        refine go_if_eq_t 40 dX8_number_33 (by decide) (rfl) ?_
        refine go_iconst 0 dX8_number_40 (by decide) ?_
        refine go_iadd dX8_number_41 ?_
        refine go_top (.int (nI c)) (congrArg Value.int (Int32.add_zero _)) ?_
        refine go_putfield dX8_number_42 p_X8_218_7 (mdW_ob hp) (Nat.le_of_ble_eq_true rfl) (fun _ => ⟨rfl, rfl⟩) (fun _ z => nomatch z) ?_
        refine go_w _ (mdW_uX (a, rf, nI ln, (nI c), (wrI true c), dn, ha)) ?_
        refine go_iconst 0 dX8_number_45 (by decide) ?_
        refine go_istore dX8_number_46 (Nat.le_of_ble_eq_true rfl) rfl ?_
        refine go_iconst 0 dX8_number_48 (by decide) ?_
        refine go_istore dX8_number_49 (Nat.le_of_ble_eq_true rfl) rfl ?_
        exact go_sub [(0, .ref p), (1, .int (nI m)), (3, .int (bI false)), (4, .int (nI 0)), (5, .int (nI 0))] ⟨rfl, rfl, rfl, rfl, rfl, trivial⟩ (m_num_51 l hp hl ht hm m 0 _ 0 rfl rfl (by omega))
theorem m_rd_34 (l : Launch) {w : MW} {p : Nat} {A P K : Nat → Int32} {t : Nat → Nat} {a rf dn : Int32} {ln : Nat} {ha : Int64} (hp : p + 4 < w.1) (hl : ln ≤ 120) (ht : ∀ i, t i < 128) {Z : MZ} {dg : Int32} {c : Nat} (hc : c < ln) (KK : Go l yX8_reads cX8_reads 6 (some .int) [] none Z 10 0 0 171 [(0, .ref p), (1, .int dg), (2, .int (nI (curN t ln c))), (4, .int (mCmd t ln c).2.1), (5, .int (mCmd t ln c).2.2)] [] (mdW w p A P K (tI t) (a, rf, nI ln, (nI (mCmd t ln c).1.2), (wrI (mCmd t ln c).1.1 (mCmd t ln c).1.2), dn, ha))) : Go l yX8_reads cX8_reads 6 (some .int) [] none Z 10 0 0 34 [(0, .ref p), (1, .int dg)] [] (mdW w p A P K (tI t) (a, rf, nI ln, (nI c), (wrI true c), dn, ha)) := by
  have hcu := cur_128 (ln := ln) (cu := c) ht
  have h1 := pNum_le (t := t) (m := 3) (sg := true) (s := (true, c + 1)) (ln := ln) hc
  have h2 := pNum_le (t := t) (m := 2) (sg := false) (s := (true, c + 1)) (ln := ln) hc
  have h3 := pTk_le (t := t) (k := 44) (by decide) h2.1
  have h4 := pNum_le (t := t) (m := 3) (sg := true) h3.1
  rcases (show curN t ln c = 105 ∨ curN t ln c = 108 ∨ curN t ln c = 103 ∨ curN t ln c = 114 ∨ curN t ln c = 99 ∨ curN t ln c = 98 ∨ (curN t ln c ≠ 105 ∧ curN t ln c ≠ 108 ∧ curN t ln c ≠ 103 ∧ curN t ln c ≠ 114 ∧ curN t ln c ≠ 99 ∧ curN t ln c ≠ 98) by omega) with hL | hL | hL | hL | hL | hL | hL
  · skip
    rw [mCmd, if_pos hL, hL] at KK
    refine go_aload_n dX8_reads_34 rfl ?_
    refine go_virt1 dX8_reads_35 (m_next l hp hl ht (c := c) (wr := wrI true c) (by omega)) v_X8_223_7 rfl (mdW_ob hp) rfl (Nat.le_of_ble_eq_true rfl) (Nat.le_of_ble_eq_true rfl) (Nat.le_of_ble_eq_true rfl) ?_
    rw [hL]
    refine go_istore_n dX8_reads_38 (Nat.le_of_ble_eq_true rfl) rfl ?_
    refine go_iload_n dX8_reads_39 rfl ?_
    refine go_bipush 105 dX8_reads_40 (by decide) ?_
    refine go_icmp_eq_t 75 dX8_reads_42 (by decide) (rfl) ?_
    refine go_iconst 1 dX8_reads_75 (by decide) ?_
    refine go_goto 80 dX8_reads_76 (by decide) ?_
    refine go_istore_n dX8_reads_80 (Nat.le_of_ble_eq_true rfl) rfl ?_
    refine go_iconst 0 dX8_reads_81 (by decide) ?_
    refine go_istore dX8_reads_82 (Nat.le_of_ble_eq_true rfl) rfl ?_
    refine go_iconst 0 dX8_reads_84 (by decide) ?_
    refine go_istore dX8_reads_85 (Nat.le_of_ble_eq_true rfl) rfl ?_
    refine go_iload_n dX8_reads_87 rfl ?_
    refine go_if_eq_f 104 dX8_reads_88 (by decide) (by decide) ?_
    refine go_aload_n dX8_reads_91 rfl ?_
    refine go_dup dX8_reads_92 rfl ?_
    refine go_getfield dX8_reads_93 f_X8_218_7 (mdW_ob hp) rfl ?_
    refine go_iconst 1 dX8_reads_96 (by decide) ?_
    refine go_iadd dX8_reads_97 ?_
    refine go_top (.int (nI (c + 1))) (congrArg Value.int (nI_1 c)) ?_
    refine go_putfield dX8_reads_98 p_X8_218_7 (mdW_ob hp) (Nat.le_of_ble_eq_true rfl) (fun _ => ⟨rfl, rfl⟩) (fun _ z => nomatch z) ?_
    refine go_w _ (mdW_uX (a, rf, nI ln, (nI (c + 1)), (wrI true (c + 1)), dn, ha)) ?_
    refine go_goto 108 dX8_reads_101 (by decide) ?_
    refine go_iload_n dX8_reads_108 rfl ?_
    refine go_bipush 105 dX8_reads_109 (by decide) ?_
    refine go_icmp_ne_f 125 dX8_reads_111 (by decide) (rfl) ?_
    refine go_aload_n dX8_reads_114 rfl ?_
    refine go_iconst 3 dX8_reads_115 (by decide) ?_
    refine go_iconst 1 dX8_reads_116 (by decide) ?_
    refine go_virt1 dX8_reads_117 (m_number l hp hl ht (m := 3) (sg := true) (ok := ((true, c + 1) : Bool × Nat).1) (c := ((true, c + 1) : Bool × Nat).2) (by decide) hc) v_X8_232_7 rfl (mdW_ob hp) rfl (Nat.le_of_ble_eq_true rfl) (Nat.le_of_ble_eq_true rfl) (Nat.le_of_ble_eq_true rfl) ?_
    refine go_istore dX8_reads_120 (Nat.le_of_ble_eq_true rfl) rfl ?_
    refine go_goto 145 dX8_reads_122 (by decide) ?_
    refine go_iload_n dX8_reads_145 rfl ?_
    refine go_bipush 99 dX8_reads_146 (by decide) ?_
    refine go_icmp_ne_t 165 dX8_reads_148 (by decide) (by decide) ?_
    refine go_aload_n dX8_reads_165 rfl ?_
    refine go_bipush 59 dX8_reads_166 (by decide) ?_
    refine go_virt0 dX8_reads_168 (m_takes l hp hl ht (k := 59) (ok := (pNum t ln 3 true (true, c + 1)).1.1) (c := (pNum t ln 3 true (true, c + 1)).1.2) (by decide) h1.1) v_X8_236_7 rfl (mdW_ob hp) rfl (Nat.le_of_ble_eq_true rfl) (Nat.le_of_ble_eq_true rfl) (Nat.le_of_ble_eq_true rfl) ?_
    refine go_sub _ ?_ KK
    exact ⟨rfl, rfl, rfl, rfl, rfl, trivial⟩
  · skip
    rw [mCmd, if_neg (by omega), if_neg (by omega), if_neg (by omega), if_pos (by omega), hL] at KK
    refine go_aload_n dX8_reads_34 rfl ?_
    refine go_virt1 dX8_reads_35 (m_next l hp hl ht (c := c) (wr := wrI true c) (by omega)) v_X8_223_7 rfl (mdW_ob hp) rfl (Nat.le_of_ble_eq_true rfl) (Nat.le_of_ble_eq_true rfl) (Nat.le_of_ble_eq_true rfl) ?_
    rw [hL]
    refine go_istore_n dX8_reads_38 (Nat.le_of_ble_eq_true rfl) rfl ?_
    refine go_iload_n dX8_reads_39 rfl ?_
    refine go_bipush 105 dX8_reads_40 (by decide) ?_
    refine go_icmp_eq_f 75 dX8_reads_42 (by decide) (by decide) ?_
    refine go_iload_n dX8_reads_45 rfl ?_
    refine go_bipush 108 dX8_reads_46 (by decide) ?_
    refine go_icmp_eq_t 75 dX8_reads_48 (by decide) (rfl) ?_
    refine go_iconst 1 dX8_reads_75 (by decide) ?_
    refine go_goto 80 dX8_reads_76 (by decide) ?_
    refine go_istore_n dX8_reads_80 (Nat.le_of_ble_eq_true rfl) rfl ?_
    refine go_iconst 0 dX8_reads_81 (by decide) ?_
    refine go_istore dX8_reads_82 (Nat.le_of_ble_eq_true rfl) rfl ?_
    refine go_iconst 0 dX8_reads_84 (by decide) ?_
    refine go_istore dX8_reads_85 (Nat.le_of_ble_eq_true rfl) rfl ?_
    refine go_iload_n dX8_reads_87 rfl ?_
    refine go_if_eq_f 104 dX8_reads_88 (by decide) (by decide) ?_
    refine go_aload_n dX8_reads_91 rfl ?_
    refine go_dup dX8_reads_92 rfl ?_
    refine go_getfield dX8_reads_93 f_X8_218_7 (mdW_ob hp) rfl ?_
    refine go_iconst 1 dX8_reads_96 (by decide) ?_
    refine go_iadd dX8_reads_97 ?_
    refine go_top (.int (nI (c + 1))) (congrArg Value.int (nI_1 c)) ?_
    refine go_putfield dX8_reads_98 p_X8_218_7 (mdW_ob hp) (Nat.le_of_ble_eq_true rfl) (fun _ => ⟨rfl, rfl⟩) (fun _ z => nomatch z) ?_
    refine go_w _ (mdW_uX (a, rf, nI ln, (nI (c + 1)), (wrI true (c + 1)), dn, ha)) ?_
    refine go_goto 108 dX8_reads_101 (by decide) ?_
    refine go_iload_n dX8_reads_108 rfl ?_
    refine go_bipush 105 dX8_reads_109 (by decide) ?_
    refine go_icmp_ne_t 125 dX8_reads_111 (by decide) (by decide) ?_
    refine go_iload_n dX8_reads_125 rfl ?_
    refine go_bipush 114 dX8_reads_126 (by decide) ?_
    refine go_icmp_eq_f 137 dX8_reads_128 (by decide) (by decide) ?_
    refine go_iload_n dX8_reads_131 rfl ?_
    refine go_bipush 99 dX8_reads_132 (by decide) ?_
    refine go_icmp_ne_t 145 dX8_reads_134 (by decide) (by decide) ?_
    refine go_iload_n dX8_reads_145 rfl ?_
    refine go_bipush 99 dX8_reads_146 (by decide) ?_
    refine go_icmp_ne_t 165 dX8_reads_148 (by decide) (by decide) ?_
    refine go_aload_n dX8_reads_165 rfl ?_
    refine go_bipush 59 dX8_reads_166 (by decide) ?_
    refine go_virt0 dX8_reads_168 (m_takes l hp hl ht (k := 59) (ok := ((true, c + 1) : Bool × Nat).1) (c := ((true, c + 1) : Bool × Nat).2) (by decide) hc) v_X8_236_7 rfl (mdW_ob hp) rfl (Nat.le_of_ble_eq_true rfl) (Nat.le_of_ble_eq_true rfl) (Nat.le_of_ble_eq_true rfl) ?_
    refine go_sub _ ?_ KK
    exact ⟨rfl, rfl, rfl, rfl, rfl, trivial⟩
  · skip
    rw [mCmd, if_neg (by omega), if_neg (by omega), if_neg (by omega), if_pos (by omega), hL] at KK
    refine go_aload_n dX8_reads_34 rfl ?_
    refine go_virt1 dX8_reads_35 (m_next l hp hl ht (c := c) (wr := wrI true c) (by omega)) v_X8_223_7 rfl (mdW_ob hp) rfl (Nat.le_of_ble_eq_true rfl) (Nat.le_of_ble_eq_true rfl) (Nat.le_of_ble_eq_true rfl) ?_
    rw [hL]
    refine go_istore_n dX8_reads_38 (Nat.le_of_ble_eq_true rfl) rfl ?_
    refine go_iload_n dX8_reads_39 rfl ?_
    refine go_bipush 105 dX8_reads_40 (by decide) ?_
    refine go_icmp_eq_f 75 dX8_reads_42 (by decide) (by decide) ?_
    refine go_iload_n dX8_reads_45 rfl ?_
    refine go_bipush 108 dX8_reads_46 (by decide) ?_
    refine go_icmp_eq_f 75 dX8_reads_48 (by decide) (by decide) ?_
    refine go_iload_n dX8_reads_51 rfl ?_
    refine go_bipush 103 dX8_reads_52 (by decide) ?_
    refine go_icmp_eq_t 75 dX8_reads_54 (by decide) (rfl) ?_
    refine go_iconst 1 dX8_reads_75 (by decide) ?_
    refine go_goto 80 dX8_reads_76 (by decide) ?_
    refine go_istore_n dX8_reads_80 (Nat.le_of_ble_eq_true rfl) rfl ?_
    refine go_iconst 0 dX8_reads_81 (by decide) ?_
    refine go_istore dX8_reads_82 (Nat.le_of_ble_eq_true rfl) rfl ?_
    refine go_iconst 0 dX8_reads_84 (by decide) ?_
    refine go_istore dX8_reads_85 (Nat.le_of_ble_eq_true rfl) rfl ?_
    refine go_iload_n dX8_reads_87 rfl ?_
    refine go_if_eq_f 104 dX8_reads_88 (by decide) (by decide) ?_
    refine go_aload_n dX8_reads_91 rfl ?_
    refine go_dup dX8_reads_92 rfl ?_
    refine go_getfield dX8_reads_93 f_X8_218_7 (mdW_ob hp) rfl ?_
    refine go_iconst 1 dX8_reads_96 (by decide) ?_
    refine go_iadd dX8_reads_97 ?_
    refine go_top (.int (nI (c + 1))) (congrArg Value.int (nI_1 c)) ?_
    refine go_putfield dX8_reads_98 p_X8_218_7 (mdW_ob hp) (Nat.le_of_ble_eq_true rfl) (fun _ => ⟨rfl, rfl⟩) (fun _ z => nomatch z) ?_
    refine go_w _ (mdW_uX (a, rf, nI ln, (nI (c + 1)), (wrI true (c + 1)), dn, ha)) ?_
    refine go_goto 108 dX8_reads_101 (by decide) ?_
    refine go_iload_n dX8_reads_108 rfl ?_
    refine go_bipush 105 dX8_reads_109 (by decide) ?_
    refine go_icmp_ne_t 125 dX8_reads_111 (by decide) (by decide) ?_
    refine go_iload_n dX8_reads_125 rfl ?_
    refine go_bipush 114 dX8_reads_126 (by decide) ?_
    refine go_icmp_eq_f 137 dX8_reads_128 (by decide) (by decide) ?_
    refine go_iload_n dX8_reads_131 rfl ?_
    refine go_bipush 99 dX8_reads_132 (by decide) ?_
    refine go_icmp_ne_t 145 dX8_reads_134 (by decide) (by decide) ?_
    refine go_iload_n dX8_reads_145 rfl ?_
    refine go_bipush 99 dX8_reads_146 (by decide) ?_
    refine go_icmp_ne_t 165 dX8_reads_148 (by decide) (by decide) ?_
    refine go_aload_n dX8_reads_165 rfl ?_
    refine go_bipush 59 dX8_reads_166 (by decide) ?_
    refine go_virt0 dX8_reads_168 (m_takes l hp hl ht (k := 59) (ok := ((true, c + 1) : Bool × Nat).1) (c := ((true, c + 1) : Bool × Nat).2) (by decide) hc) v_X8_236_7 rfl (mdW_ob hp) rfl (Nat.le_of_ble_eq_true rfl) (Nat.le_of_ble_eq_true rfl) (Nat.le_of_ble_eq_true rfl) ?_
    refine go_sub _ ?_ KK
    exact ⟨rfl, rfl, rfl, rfl, rfl, trivial⟩
  · skip
    rw [mCmd, if_neg (by omega), if_pos hL, hL] at KK
    refine go_aload_n dX8_reads_34 rfl ?_
    refine go_virt1 dX8_reads_35 (m_next l hp hl ht (c := c) (wr := wrI true c) (by omega)) v_X8_223_7 rfl (mdW_ob hp) rfl (Nat.le_of_ble_eq_true rfl) (Nat.le_of_ble_eq_true rfl) (Nat.le_of_ble_eq_true rfl) ?_
    rw [hL]
    refine go_istore_n dX8_reads_38 (Nat.le_of_ble_eq_true rfl) rfl ?_
    refine go_iload_n dX8_reads_39 rfl ?_
    refine go_bipush 105 dX8_reads_40 (by decide) ?_
    refine go_icmp_eq_f 75 dX8_reads_42 (by decide) (by decide) ?_
    refine go_iload_n dX8_reads_45 rfl ?_
    refine go_bipush 108 dX8_reads_46 (by decide) ?_
    refine go_icmp_eq_f 75 dX8_reads_48 (by decide) (by decide) ?_
    refine go_iload_n dX8_reads_51 rfl ?_
    refine go_bipush 103 dX8_reads_52 (by decide) ?_
    refine go_icmp_eq_f 75 dX8_reads_54 (by decide) (by decide) ?_
    refine go_iload_n dX8_reads_57 rfl ?_
    refine go_bipush 114 dX8_reads_58 (by decide) ?_
    refine go_icmp_eq_t 75 dX8_reads_60 (by decide) (rfl) ?_
    refine go_iconst 1 dX8_reads_75 (by decide) ?_
    refine go_goto 80 dX8_reads_76 (by decide) ?_
    refine go_istore_n dX8_reads_80 (Nat.le_of_ble_eq_true rfl) rfl ?_
    refine go_iconst 0 dX8_reads_81 (by decide) ?_
    refine go_istore dX8_reads_82 (Nat.le_of_ble_eq_true rfl) rfl ?_
    refine go_iconst 0 dX8_reads_84 (by decide) ?_
    refine go_istore dX8_reads_85 (Nat.le_of_ble_eq_true rfl) rfl ?_
    refine go_iload_n dX8_reads_87 rfl ?_
    refine go_if_eq_f 104 dX8_reads_88 (by decide) (by decide) ?_
    refine go_aload_n dX8_reads_91 rfl ?_
    refine go_dup dX8_reads_92 rfl ?_
    refine go_getfield dX8_reads_93 f_X8_218_7 (mdW_ob hp) rfl ?_
    refine go_iconst 1 dX8_reads_96 (by decide) ?_
    refine go_iadd dX8_reads_97 ?_
    refine go_top (.int (nI (c + 1))) (congrArg Value.int (nI_1 c)) ?_
    refine go_putfield dX8_reads_98 p_X8_218_7 (mdW_ob hp) (Nat.le_of_ble_eq_true rfl) (fun _ => ⟨rfl, rfl⟩) (fun _ z => nomatch z) ?_
    refine go_w _ (mdW_uX (a, rf, nI ln, (nI (c + 1)), (wrI true (c + 1)), dn, ha)) ?_
    refine go_goto 108 dX8_reads_101 (by decide) ?_
    refine go_iload_n dX8_reads_108 rfl ?_
    refine go_bipush 105 dX8_reads_109 (by decide) ?_
    refine go_icmp_ne_t 125 dX8_reads_111 (by decide) (by decide) ?_
    refine go_iload_n dX8_reads_125 rfl ?_
    refine go_bipush 114 dX8_reads_126 (by decide) ?_
    refine go_icmp_eq_t 137 dX8_reads_128 (by decide) (rfl) ?_
    refine go_aload_n dX8_reads_137 rfl ?_
    refine go_iconst 2 dX8_reads_138 (by decide) ?_
    refine go_iconst 0 dX8_reads_139 (by decide) ?_
    refine go_virt1 dX8_reads_140 (m_number l hp hl ht (m := 2) (sg := false) (ok := ((true, c + 1) : Bool × Nat).1) (c := ((true, c + 1) : Bool × Nat).2) (by decide) hc) v_X8_232_7 rfl (mdW_ob hp) rfl (Nat.le_of_ble_eq_true rfl) (Nat.le_of_ble_eq_true rfl) (Nat.le_of_ble_eq_true rfl) ?_
    refine go_istore dX8_reads_143 (Nat.le_of_ble_eq_true rfl) rfl ?_
    refine go_iload_n dX8_reads_145 rfl ?_
    refine go_bipush 99 dX8_reads_146 (by decide) ?_
    refine go_icmp_ne_t 165 dX8_reads_148 (by decide) (by decide) ?_
    refine go_aload_n dX8_reads_165 rfl ?_
    refine go_bipush 59 dX8_reads_166 (by decide) ?_
    refine go_virt0 dX8_reads_168 (m_takes l hp hl ht (k := 59) (ok := (pNum t ln 2 false (true, c + 1)).1.1) (c := (pNum t ln 2 false (true, c + 1)).1.2) (by decide) h2.1) v_X8_236_7 rfl (mdW_ob hp) rfl (Nat.le_of_ble_eq_true rfl) (Nat.le_of_ble_eq_true rfl) (Nat.le_of_ble_eq_true rfl) ?_
    refine go_sub _ ?_ KK
    exact ⟨rfl, rfl, rfl, rfl, rfl, trivial⟩
  · skip
    rw [mCmd, if_neg (by omega), if_neg (by omega), if_pos hL, hL] at KK
    refine go_aload_n dX8_reads_34 rfl ?_
    refine go_virt1 dX8_reads_35 (m_next l hp hl ht (c := c) (wr := wrI true c) (by omega)) v_X8_223_7 rfl (mdW_ob hp) rfl (Nat.le_of_ble_eq_true rfl) (Nat.le_of_ble_eq_true rfl) (Nat.le_of_ble_eq_true rfl) ?_
    rw [hL]
    refine go_istore_n dX8_reads_38 (Nat.le_of_ble_eq_true rfl) rfl ?_
    refine go_iload_n dX8_reads_39 rfl ?_
    refine go_bipush 105 dX8_reads_40 (by decide) ?_
    refine go_icmp_eq_f 75 dX8_reads_42 (by decide) (by decide) ?_
    refine go_iload_n dX8_reads_45 rfl ?_
    refine go_bipush 108 dX8_reads_46 (by decide) ?_
    refine go_icmp_eq_f 75 dX8_reads_48 (by decide) (by decide) ?_
    refine go_iload_n dX8_reads_51 rfl ?_
    refine go_bipush 103 dX8_reads_52 (by decide) ?_
    refine go_icmp_eq_f 75 dX8_reads_54 (by decide) (by decide) ?_
    refine go_iload_n dX8_reads_57 rfl ?_
    refine go_bipush 114 dX8_reads_58 (by decide) ?_
    refine go_icmp_eq_f 75 dX8_reads_60 (by decide) (by decide) ?_
    refine go_iload_n dX8_reads_63 rfl ?_
    refine go_bipush 99 dX8_reads_64 (by decide) ?_
    refine go_icmp_eq_t 75 dX8_reads_66 (by decide) (rfl) ?_
    refine go_iconst 1 dX8_reads_75 (by decide) ?_
    refine go_goto 80 dX8_reads_76 (by decide) ?_
    refine go_istore_n dX8_reads_80 (Nat.le_of_ble_eq_true rfl) rfl ?_
    refine go_iconst 0 dX8_reads_81 (by decide) ?_
    refine go_istore dX8_reads_82 (Nat.le_of_ble_eq_true rfl) rfl ?_
    refine go_iconst 0 dX8_reads_84 (by decide) ?_
    refine go_istore dX8_reads_85 (Nat.le_of_ble_eq_true rfl) rfl ?_
    refine go_iload_n dX8_reads_87 rfl ?_
    refine go_if_eq_f 104 dX8_reads_88 (by decide) (by decide) ?_
    refine go_aload_n dX8_reads_91 rfl ?_
    refine go_dup dX8_reads_92 rfl ?_
    refine go_getfield dX8_reads_93 f_X8_218_7 (mdW_ob hp) rfl ?_
    refine go_iconst 1 dX8_reads_96 (by decide) ?_
    refine go_iadd dX8_reads_97 ?_
    refine go_top (.int (nI (c + 1))) (congrArg Value.int (nI_1 c)) ?_
    refine go_putfield dX8_reads_98 p_X8_218_7 (mdW_ob hp) (Nat.le_of_ble_eq_true rfl) (fun _ => ⟨rfl, rfl⟩) (fun _ z => nomatch z) ?_
    refine go_w _ (mdW_uX (a, rf, nI ln, (nI (c + 1)), (wrI true (c + 1)), dn, ha)) ?_
    refine go_goto 108 dX8_reads_101 (by decide) ?_
    refine go_iload_n dX8_reads_108 rfl ?_
    refine go_bipush 105 dX8_reads_109 (by decide) ?_
    refine go_icmp_ne_t 125 dX8_reads_111 (by decide) (by decide) ?_
    refine go_iload_n dX8_reads_125 rfl ?_
    refine go_bipush 114 dX8_reads_126 (by decide) ?_
    refine go_icmp_eq_f 137 dX8_reads_128 (by decide) (by decide) ?_
    refine go_iload_n dX8_reads_131 rfl ?_
    refine go_bipush 99 dX8_reads_132 (by decide) ?_
    refine go_icmp_ne_f 145 dX8_reads_134 (by decide) (rfl) ?_
    refine go_aload_n dX8_reads_137 rfl ?_
    refine go_iconst 2 dX8_reads_138 (by decide) ?_
    refine go_iconst 0 dX8_reads_139 (by decide) ?_
    refine go_virt1 dX8_reads_140 (m_number l hp hl ht (m := 2) (sg := false) (ok := ((true, c + 1) : Bool × Nat).1) (c := ((true, c + 1) : Bool × Nat).2) (by decide) hc) v_X8_232_7 rfl (mdW_ob hp) rfl (Nat.le_of_ble_eq_true rfl) (Nat.le_of_ble_eq_true rfl) (Nat.le_of_ble_eq_true rfl) ?_
    refine go_istore dX8_reads_143 (Nat.le_of_ble_eq_true rfl) rfl ?_
    refine go_iload_n dX8_reads_145 rfl ?_
    refine go_bipush 99 dX8_reads_146 (by decide) ?_
    refine go_icmp_ne_f 165 dX8_reads_148 (by decide) (rfl) ?_
    refine go_aload_n dX8_reads_151 rfl ?_
    refine go_bipush 44 dX8_reads_152 (by decide) ?_
    refine go_virt0 dX8_reads_154 (m_takes l hp hl ht (k := 44) (ok := (pNum t ln 2 false (true, c + 1)).1.1) (c := (pNum t ln 2 false (true, c + 1)).1.2) (by decide) h2.1) v_X8_236_7 rfl (mdW_ob hp) rfl (Nat.le_of_ble_eq_true rfl) (Nat.le_of_ble_eq_true rfl) (Nat.le_of_ble_eq_true rfl) ?_
    refine go_aload_n dX8_reads_157 rfl ?_
    refine go_iconst 3 dX8_reads_158 (by decide) ?_
    refine go_iconst 1 dX8_reads_159 (by decide) ?_
    refine go_virt1 dX8_reads_160 (m_number l hp hl ht (m := 3) (sg := true) (ok := (pTk t ln 44 (pNum t ln 2 false (true, c + 1)).1).1) (c := (pTk t ln 44 (pNum t ln 2 false (true, c + 1)).1).2) (by decide) h3.1) v_X8_232_7 rfl (mdW_ob hp) rfl (Nat.le_of_ble_eq_true rfl) (Nat.le_of_ble_eq_true rfl) (Nat.le_of_ble_eq_true rfl) ?_
    refine go_istore dX8_reads_163 (Nat.le_of_ble_eq_true rfl) rfl ?_
    refine go_aload_n dX8_reads_165 rfl ?_
    refine go_bipush 59 dX8_reads_166 (by decide) ?_
    refine go_virt0 dX8_reads_168 (m_takes l hp hl ht (k := 59) (ok := (pNum t ln 3 true (pTk t ln 44 (pNum t ln 2 false (true, c + 1)).1)).1.1) (c := (pNum t ln 3 true (pTk t ln 44 (pNum t ln 2 false (true, c + 1)).1)).1.2) (by decide) h4.1) v_X8_236_7 rfl (mdW_ob hp) rfl (Nat.le_of_ble_eq_true rfl) (Nat.le_of_ble_eq_true rfl) (Nat.le_of_ble_eq_true rfl) ?_
    refine go_sub _ ?_ KK
    exact ⟨rfl, rfl, rfl, rfl, rfl, trivial⟩
  · skip
    rw [mCmd, if_neg (by omega), if_neg (by omega), if_neg (by omega), if_pos (by omega), hL] at KK
    refine go_aload_n dX8_reads_34 rfl ?_
    refine go_virt1 dX8_reads_35 (m_next l hp hl ht (c := c) (wr := wrI true c) (by omega)) v_X8_223_7 rfl (mdW_ob hp) rfl (Nat.le_of_ble_eq_true rfl) (Nat.le_of_ble_eq_true rfl) (Nat.le_of_ble_eq_true rfl) ?_
    rw [hL]
    refine go_istore_n dX8_reads_38 (Nat.le_of_ble_eq_true rfl) rfl ?_
    refine go_iload_n dX8_reads_39 rfl ?_
    refine go_bipush 105 dX8_reads_40 (by decide) ?_
    refine go_icmp_eq_f 75 dX8_reads_42 (by decide) (by decide) ?_
    refine go_iload_n dX8_reads_45 rfl ?_
    refine go_bipush 108 dX8_reads_46 (by decide) ?_
    refine go_icmp_eq_f 75 dX8_reads_48 (by decide) (by decide) ?_
    refine go_iload_n dX8_reads_51 rfl ?_
    refine go_bipush 103 dX8_reads_52 (by decide) ?_
    refine go_icmp_eq_f 75 dX8_reads_54 (by decide) (by decide) ?_
    refine go_iload_n dX8_reads_57 rfl ?_
    refine go_bipush 114 dX8_reads_58 (by decide) ?_
    refine go_icmp_eq_f 75 dX8_reads_60 (by decide) (by decide) ?_
    refine go_iload_n dX8_reads_63 rfl ?_
    refine go_bipush 99 dX8_reads_64 (by decide) ?_
    refine go_icmp_eq_f 75 dX8_reads_66 (by decide) (by decide) ?_
    refine go_iload_n dX8_reads_69 rfl ?_
    refine go_bipush 98 dX8_reads_70 (by decide) ?_
    refine go_icmp_ne_f 79 dX8_reads_72 (by decide) (rfl) ?_
    refine go_iconst 1 dX8_reads_75 (by decide) ?_
    refine go_goto 80 dX8_reads_76 (by decide) ?_
    refine go_istore_n dX8_reads_80 (Nat.le_of_ble_eq_true rfl) rfl ?_
    refine go_iconst 0 dX8_reads_81 (by decide) ?_
    refine go_istore dX8_reads_82 (Nat.le_of_ble_eq_true rfl) rfl ?_
    refine go_iconst 0 dX8_reads_84 (by decide) ?_
    refine go_istore dX8_reads_85 (Nat.le_of_ble_eq_true rfl) rfl ?_
    refine go_iload_n dX8_reads_87 rfl ?_
    refine go_if_eq_f 104 dX8_reads_88 (by decide) (by decide) ?_
    refine go_aload_n dX8_reads_91 rfl ?_
    refine go_dup dX8_reads_92 rfl ?_
    refine go_getfield dX8_reads_93 f_X8_218_7 (mdW_ob hp) rfl ?_
    refine go_iconst 1 dX8_reads_96 (by decide) ?_
    refine go_iadd dX8_reads_97 ?_
    refine go_top (.int (nI (c + 1))) (congrArg Value.int (nI_1 c)) ?_
    refine go_putfield dX8_reads_98 p_X8_218_7 (mdW_ob hp) (Nat.le_of_ble_eq_true rfl) (fun _ => ⟨rfl, rfl⟩) (fun _ z => nomatch z) ?_
    refine go_w _ (mdW_uX (a, rf, nI ln, (nI (c + 1)), (wrI true (c + 1)), dn, ha)) ?_
    refine go_goto 108 dX8_reads_101 (by decide) ?_
    refine go_iload_n dX8_reads_108 rfl ?_
    refine go_bipush 105 dX8_reads_109 (by decide) ?_
    refine go_icmp_ne_t 125 dX8_reads_111 (by decide) (by decide) ?_
    refine go_iload_n dX8_reads_125 rfl ?_
    refine go_bipush 114 dX8_reads_126 (by decide) ?_
    refine go_icmp_eq_f 137 dX8_reads_128 (by decide) (by decide) ?_
    refine go_iload_n dX8_reads_131 rfl ?_
    refine go_bipush 99 dX8_reads_132 (by decide) ?_
    refine go_icmp_ne_t 145 dX8_reads_134 (by decide) (by decide) ?_
    refine go_iload_n dX8_reads_145 rfl ?_
    refine go_bipush 99 dX8_reads_146 (by decide) ?_
    refine go_icmp_ne_t 165 dX8_reads_148 (by decide) (by decide) ?_
    refine go_aload_n dX8_reads_165 rfl ?_
    refine go_bipush 59 dX8_reads_166 (by decide) ?_
    refine go_virt0 dX8_reads_168 (m_takes l hp hl ht (k := 59) (ok := ((true, c + 1) : Bool × Nat).1) (c := ((true, c + 1) : Bool × Nat).2) (by decide) hc) v_X8_236_7 rfl (mdW_ob hp) rfl (Nat.le_of_ble_eq_true rfl) (Nat.le_of_ble_eq_true rfl) (Nat.le_of_ble_eq_true rfl) ?_
    refine go_sub _ ?_ KK
    exact ⟨rfl, rfl, rfl, rfl, rfl, trivial⟩
  · skip
    rw [mCmd, if_neg (by omega), if_neg (by omega), if_neg (by omega), if_neg (by omega)] at KK
    refine go_aload_n dX8_reads_34 rfl ?_
    refine go_virt1 dX8_reads_35 (m_next l hp hl ht (c := c) (wr := wrI true c) (by omega)) v_X8_223_7 rfl (mdW_ob hp) rfl (Nat.le_of_ble_eq_true rfl) (Nat.le_of_ble_eq_true rfl) (Nat.le_of_ble_eq_true rfl) ?_
    refine go_istore_n dX8_reads_38 (Nat.le_of_ble_eq_true rfl) rfl ?_
    refine go_iload_n dX8_reads_39 rfl ?_
    refine go_bipush 105 dX8_reads_40 (by decide) ?_
    refine go_icmp_eq_f 75 dX8_reads_42 (by decide) (n_ne (b := 105) (by omega) (by omega) (by decide)) ?_
    refine go_iload_n dX8_reads_45 rfl ?_
    refine go_bipush 108 dX8_reads_46 (by decide) ?_
    refine go_icmp_eq_f 75 dX8_reads_48 (by decide) (n_ne (b := 108) (by omega) (by omega) (by decide)) ?_
    refine go_iload_n dX8_reads_51 rfl ?_
    refine go_bipush 103 dX8_reads_52 (by decide) ?_
    refine go_icmp_eq_f 75 dX8_reads_54 (by decide) (n_ne (b := 103) (by omega) (by omega) (by decide)) ?_
    refine go_iload_n dX8_reads_57 rfl ?_
    refine go_bipush 114 dX8_reads_58 (by decide) ?_
    refine go_icmp_eq_f 75 dX8_reads_60 (by decide) (n_ne (b := 114) (by omega) (by omega) (by decide)) ?_
    refine go_iload_n dX8_reads_63 rfl ?_
    refine go_bipush 99 dX8_reads_64 (by decide) ?_
    refine go_icmp_eq_f 75 dX8_reads_66 (by decide) (n_ne (b := 99) (by omega) (by omega) (by decide)) ?_
    refine go_iload_n dX8_reads_69 rfl ?_
    refine go_bipush 98 dX8_reads_70 (by decide) ?_
    refine go_icmp_ne_t 79 dX8_reads_72 (by decide) (n_ne (b := 98) (by omega) (by omega) (by decide)) ?_
    refine go_iconst 0 dX8_reads_79 (by decide) ?_
    refine go_istore_n dX8_reads_80 (Nat.le_of_ble_eq_true rfl) rfl ?_
    refine go_iconst 0 dX8_reads_81 (by decide) ?_
    refine go_istore dX8_reads_82 (Nat.le_of_ble_eq_true rfl) rfl ?_
    refine go_iconst 0 dX8_reads_84 (by decide) ?_
    refine go_istore dX8_reads_85 (Nat.le_of_ble_eq_true rfl) rfl ?_
    refine go_iload_n dX8_reads_87 rfl ?_
    refine go_if_eq_t 104 dX8_reads_88 (by decide) (rfl) ?_
    refine go_aload_n dX8_reads_104 rfl ?_
    refine go_virt0 dX8_reads_105 (m_fails l hp hl ht (c := c) (wr := wrI true c)) v_X8_226_7 rfl (mdW_ob hp) rfl (Nat.le_of_ble_eq_true rfl) (Nat.le_of_ble_eq_true rfl) (Nat.le_of_ble_eq_true rfl) ?_
    rw [flW_wr]
    refine go_iload_n dX8_reads_108 rfl ?_
    refine go_bipush 105 dX8_reads_109 (by decide) ?_
    refine go_icmp_ne_t 125 dX8_reads_111 (by decide) (n_ne (b := 105) (by omega) (by omega) (by decide)) ?_
    refine go_iload_n dX8_reads_125 rfl ?_
    refine go_bipush 114 dX8_reads_126 (by decide) ?_
    refine go_icmp_eq_f 137 dX8_reads_128 (by decide) (n_ne (b := 114) (by omega) (by omega) (by decide)) ?_
    refine go_iload_n dX8_reads_131 rfl ?_
    refine go_bipush 99 dX8_reads_132 (by decide) ?_
    refine go_icmp_ne_t 145 dX8_reads_134 (by decide) (n_ne (b := 99) (by omega) (by omega) (by decide)) ?_
    refine go_iload_n dX8_reads_145 rfl ?_
    refine go_bipush 99 dX8_reads_146 (by decide) ?_
    refine go_icmp_ne_t 165 dX8_reads_148 (by decide) (n_ne (b := 99) (by omega) (by omega) (by decide)) ?_
    refine go_aload_n dX8_reads_165 rfl ?_
    refine go_bipush 59 dX8_reads_166 (by decide) ?_
    refine go_virt0 dX8_reads_168 (m_takes l hp hl ht (k := 59) (ok := ((false, c) : Bool × Nat).1) (c := ((false, c) : Bool × Nat).2) (by decide) (Nat.le_of_lt hc)) v_X8_236_7 rfl (mdW_ob hp) rfl (Nat.le_of_ble_eq_true rfl) (Nat.le_of_ble_eq_true rfl) (Nat.le_of_ble_eq_true rfl) ?_
    refine go_sub _ ?_ KK
    exact ⟨rfl, rfl, rfl, rfl, rfl, trivial⟩
theorem m_rdF_15 (l : Launch) {w : MW} {p : Nat} {A P K : Nat → Int32} {t : Nat → Nat} {a rf dn : Int32} {ln : Nat} {ha : Int64} (hp : p + 4 < w.1) (hl : ln ≤ 120) (ht : ∀ i, t i < 128) : ∀ (u c : Nat), ln - c ≤ u → c ≤ ln → Go l yX8_reads cX8_reads 6 (some .int) [] none (mm_Z (mm_eq (.inl (some (.int (wrI (mFlt t ln u c).1 (mFlt t ln u c).2)))) (mdW w p A P K (tI t) (a, rf, nI ln, (nI (mFlt t ln u c).2), (wrI (mFlt t ln u c).1 (mFlt t ln u c).2), dn, ha)))) 10 0 0 15 [(0, .ref p), (1, .int 0)] [] (mdW w p A P K (tI t) (a, rf, nI ln, (nI c), (wrI true c), dn, ha)) := by
  intro u
  induction u with
  | zero =>
    intro c hu hc
    rw [show mFlt t ln 0 c = (true, c) from rfl]
    refine go_aload_n dX8_reads_15 rfl ?_
    refine go_getfield dX8_reads_16 f_X8_218_7 (mdW_ob hp) rfl ?_
    refine go_aload_n dX8_reads_19 rfl ?_
    refine go_getfield dX8_reads_20 f_X8_215_7 (mdW_ob hp) rfl ?_
    refine go_icmp_ge_t 204 dX8_reads_23 (by decide) (nI_le (a := ln) (b := c) (by omega) (by omega)) ?_
    refine go_aload_n dX8_reads_204 rfl ?_
    refine go_getfield dX8_reads_205 f_X8_221_7 (mdW_ob hp) rfl ?_
    exact go_ireturn dX8_reads_208 rfl rfl
  | succ u ih =>
    intro c hu hc
    by_cases e : c < ln
    · have hm := mCmd_le (t := t) e
      refine go_aload_n dX8_reads_15 rfl ?_
      refine go_getfield dX8_reads_16 f_X8_218_7 (mdW_ob hp) rfl ?_
      refine go_aload_n dX8_reads_19 rfl ?_
      refine go_getfield dX8_reads_20 f_X8_215_7 (mdW_ob hp) rfl ?_
      refine go_icmp_ge_f 204 dX8_reads_23 (by decide) (n_nle (a := ln) (b := c) (by omega) (by omega)) ?_
      refine go_aload_n dX8_reads_26 rfl ?_
      refine go_getfield dX8_reads_27 f_X8_221_7 (mdW_ob hp) rfl ?_
      refine go_iconst (-1) dX8_reads_30 (by decide) ?_
      refine go_icmp_ne_f 204 dX8_reads_31 (by decide) (wrI_t (c := c)) ?_
      refine m_rd_34 l hp hl ht e ?_
      by_cases eo : (mCmd t ln c).1.1 = true
      · rw [show mFlt t ln (u + 1) c = mFlt t ln u (mCmd t ln c).1.2 from by rw [mFlt, if_pos e, if_pos eo], eo]
        refine go_iload_n dX8_reads_171 rfl ?_
        refine go_if_eq_t 201 dX8_reads_172 (by decide) (rfl) ?_
        refine go_goto 15 dX8_reads_201 (by decide) ?_
        exact go_sub [(0, .ref p), (1, .int 0)] ⟨rfl, rfl, trivial⟩ (ih (mCmd t ln c).1.2 (by have := hm.2.2 eo; omega) hm.1)
      · rw [show mFlt t ln (u + 1) c = (mCmd t ln c).1 from by rw [mFlt, if_pos e, if_neg eo]]
        have eo2 : (mCmd t ln c).1.1 = false := by simpa using eo
        rw [eo2]
        refine go_iload_n dX8_reads_171 rfl ?_
        refine go_if_eq_t 201 dX8_reads_172 (by decide) (rfl) ?_
        refine go_goto 15 dX8_reads_201 (by decide) ?_
        refine go_aload_n dX8_reads_15 rfl ?_
        refine go_getfield dX8_reads_16 f_X8_218_7 (mdW_ob hp) rfl ?_
        refine go_aload_n dX8_reads_19 rfl ?_
        refine go_getfield dX8_reads_20 f_X8_215_7 (mdW_ob hp) rfl ?_
        refine go_icmp_ge 204 dX8_reads_23 (by decide) (fun q23 => ?_) (fun q23 => ?_)
        · refine go_aload_n dX8_reads_204 rfl ?_
          refine go_getfield dX8_reads_205 f_X8_221_7 (mdW_ob hp) rfl ?_
          exact go_ireturn dX8_reads_208 rfl rfl
        · refine go_aload_n dX8_reads_26 rfl ?_
          refine go_getfield dX8_reads_27 f_X8_221_7 (mdW_ob hp) rfl ?_
          refine go_iconst (-1) dX8_reads_30 (by decide) ?_
          refine go_icmp_ne_t 204 dX8_reads_31 (by decide) (wrI_ne (by omega)) ?_
          refine go_aload_n dX8_reads_204 rfl ?_
          refine go_getfield dX8_reads_205 f_X8_221_7 (mdW_ob hp) rfl ?_
          exact go_ireturn dX8_reads_208 rfl rfl
    · rw [show mFlt t ln (u + 1) c = (true, c) from by rw [mFlt, if_neg e]]
      refine go_aload_n dX8_reads_15 rfl ?_
      refine go_getfield dX8_reads_16 f_X8_218_7 (mdW_ob hp) rfl ?_
      refine go_aload_n dX8_reads_19 rfl ?_
      refine go_getfield dX8_reads_20 f_X8_215_7 (mdW_ob hp) rfl ?_
      refine go_icmp_ge_t 204 dX8_reads_23 (by decide) (nI_le (a := ln) (b := c) (by omega) (by omega)) ?_
      refine go_aload_n dX8_reads_204 rfl ?_
      refine go_getfield dX8_reads_205 f_X8_221_7 (mdW_ob hp) rfl ?_
      exact go_ireturn dX8_reads_208 rfl rfl
theorem m_readsF (l : Launch) {w : MW} {p : Nat} {A P K : Nat → Int32} {t : Nat → Nat} {a rf dn : Int32} {ln : Nat} {ha : Int64} (hp : p + 4 < w.1) (hl : ln ≤ 120) (ht : ∀ i, t i < 128) {pl wr : Int32} : Ct l (.code yX8_reads cX8_reads 6 (some .int)) yX8_reads 10 0 0 [.ref p, .int 0] (mdW w p A P K (tI t) (a, rf, nI ln, pl, wr, dn, ha)) (.inl (some (.int (wrI (mFlt t ln 120 0).1 (mFlt t ln 120 0).2)))) (mdW w p A P K (tI t) (a, rf, nI ln, nI (mFlt t ln 120 0).2, wrI (mFlt t ln 120 0).1 (mFlt t ln 120 0).2, 0, ha)) := by
  refine ct_of (by decide +kernel) (Nat.le_of_ble_eq_true rfl) ?_
  refine go_aload_n dX8_reads_0 rfl ?_
  refine go_iconst 0 dX8_reads_1 (by decide) ?_
  refine go_putfield dX8_reads_2 p_X8_218_7 (mdW_ob hp) (Nat.le_of_ble_eq_true rfl) (fun _ => ⟨rfl, rfl⟩) (fun _ z => nomatch z) ?_
  refine go_w _ (mdW_uX (a, rf, nI ln, nI 0, wr, dn, ha)) ?_
  refine go_aload_n dX8_reads_5 rfl ?_
  refine go_iconst (-1) dX8_reads_6 (by decide) ?_
  refine go_putfield dX8_reads_7 p_X8_221_7 (mdW_ob hp) (Nat.le_of_ble_eq_true rfl) (fun _ => ⟨rfl, rfl⟩) (fun _ z => nomatch z) ?_
  refine go_w _ (mdW_uX (a, rf, nI ln, nI 0, wrI true 0, dn, ha)) ?_
  refine go_aload_n dX8_reads_10 rfl ?_
  refine go_iconst 0 dX8_reads_11 (by decide) ?_
  refine go_putfield dX8_reads_12 p_X8_229_7 (mdW_ob hp) (Nat.le_of_ble_eq_true rfl) (fun _ => ⟨rfl, rfl⟩) (fun _ z => nomatch z) ?_
  refine go_w _ (mdW_uX (a, rf, nI ln, nI 0, wrI true 0, 0, ha)) ?_
  exact go_sub [(0, .ref p), (1, .int 0)] ⟨rfl, rfl, trivial⟩ (m_rdF_15 l hp hl ht (dn := 0) 120 0 (by omega) (Nat.zero_le _))
