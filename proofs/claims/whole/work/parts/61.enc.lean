/-! an item as one number: key times 32 plus handle -/
theorem shl5 (x : Int32) : x <<< ((5 : Int32) &&& 31) = x * 32 := by
  apply Int32.toBitVec_inj.mp
  rw [Int32.toBitVec_shiftLeft, Int32.toBitVec_mul]
  show x.toBitVec <<< (((5 : Int32) &&& 31).toBitVec.smod 32).toNat = _
  rw [show (((5 : Int32) &&& 31).toBitVec.smod 32).toNat = 5 from by decide +kernel, BitVec.shiftLeft_eq_mul_twoPow]
  rfl
theorem key_int {x : Int32} (h : isKeyB x = true) : -999 ≤ x.toInt ∧ x.toInt ≤ 999 := by
  have h1 := Bool.and_eq_true_iff.mp h
  have h2 : (-999 : Int32) ≤ x := of_decide_eq_true h1.1
  have h3 : x ≤ (999 : Int32) := of_decide_eq_true h1.2
  rw [Int32.le_iff_toInt_le] at h2 h3
  rw [show (-999 : Int32).toInt = -999 from by decide +kernel] at h2
  rw [show (999 : Int32).toInt = 999 from by decide +kernel] at h3
  exact ⟨h2, h3⟩
theorem int_key {x : Int32} (h1 : -999 ≤ x.toInt) (h2 : x.toInt ≤ 999) : isKeyB x = true := by
  unfold isKeyB
  rw [decide_eq_true (show (-999 : Int32) ≤ x from by rw [Int32.le_iff_toInt_le, show (-999 : Int32).toInt = -999 from by decide +kernel]; exact h1), decide_eq_true (show x ≤ (999 : Int32) from by rw [Int32.le_iff_toInt_le, show (999 : Int32).toInt = 999 from by decide +kernel]; exact h2)]
  rfl
theorem enc_int {ky : Int32} {h : Nat} (hk : isKeyB ky = true) (hh : h < 32) : (encI ky (nI h)).toInt = 32 * ky.toInt + (h : Int) := by
  have hr := key_int hk
  have e1 : (ky * 32).toInt = 32 * ky.toInt := by
    rw [Int32.toInt_mul, show (32 : Int32).toInt = 32 from by decide +kernel, Int.bmod_eq_of_le (by omega) (by omega)]
    omega
  unfold encI
  rw [shl5, Int32.toInt_add, e1, nI_toInt (by omega), Int.bmod_eq_of_le (by omega) (by omega)]
theorem enc_hs {ky : Int32} {h : Nat} (hk : isKeyB ky = true) (hh : h < 32) : hs (encI ky (nI h)) = nI h := by
  have e1 := enc_int hk hh
  have hr := key_int hk
  generalize encI ky (nI h) = x at e1
  have e2 : x.toBitVec.toInt = x.toInt := rfl
  rw [BitVec.toInt_eq_toNat_cond] at e2
  have e3 : x.toBitVec.toNat % 32 = h := by
    split at e2 <;> omega
  unfold hs
  apply Int32.toBitVec_inj.mp
  apply BitVec.eq_of_toNat_eq
  rw [Int32.toBitVec_and, BitVec.toNat_and, show (31 : Int32).toBitVec.toNat = 2 ^ 5 - 1 from by decide +kernel, Nat.and_two_pow_sub_one_eq_mod]
  show x.toBitVec.toNat % 2 ^ 5 = (BitVec.ofNat 32 h).toNat
  rw [BitVec.toNat_ofNat, Nat.mod_eq_of_lt (show h < 2 ^ 32 by omega)]
  omega
theorem enc_ky {ky : Int32} {h : Nat} (hk : isKeyB ky = true) (hh : h < 32) : encI ky (nI h) >>> ((5 : Int32) &&& 31) = ky := by
  have e1 := enc_int hk hh
  apply Int32.toInt_inj.mp
  generalize encI ky (nI h) = x at e1
  have e2 : (x >>> ((5 : Int32) &&& 31)).toBitVec = x.toBitVec.sshiftRight 5 := by
    rw [Int32.toBitVec_shiftRight]
    show x.toBitVec.sshiftRight (((5 : Int32) &&& 31).toBitVec.smod 32).toNat = _
    rw [show (((5 : Int32) &&& 31).toBitVec.smod 32).toNat = 5 from by decide +kernel]
  show (x >>> ((5 : Int32) &&& 31)).toBitVec.toInt = _
  rw [e2, BitVec.toInt_sshiftRight, Int.shiftRight_eq_div_pow]
  show x.toInt / (2 ^ 5 : Nat) = ky.toInt
  rw [e1]
  omega
def eH (A : Nat → Int32) (x : Int32) : Int32 := encI (A x.toNatClampNeg) x
def vH (A : Nat → Int32) (x : Int32) : Prop := ∃ h, h < 30 ∧ x = nI h ∧ isKeyB (A h) = true
theorem eH_n {A : Nat → Int32} {h : Nat} (hh : h < 30) : eH A (nI h) = encI (A h) (nI h) := by
  unfold eH
  rw [nI_clamp (by omega)]
theorem eH_hs {A : Nat → Int32} {x : Int32} (h : vH A x) : hs (eH A x) = x := by
  obtain ⟨h, hh, rfl, hk⟩ := h
  rw [eH_n hh]
  exact enc_hs hk (by omega)
theorem eH_ky {A : Nat → Int32} {h : Nat} (hh : h < 30) (hk : isKeyB (A h) = true) : eH A (nI h) >>> ((5 : Int32) &&& 31) = A h := by
  rw [eH_n hh]
  exact enc_ky hk (by omega)
theorem eH_lt {A : Nat → Int32} (x y : Int32) (hx : vH A x) (hy : vH A y) : ltI (eH A x) (eH A y) = ltA A x y := by
  obtain ⟨a, ha, rfl, ka⟩ := hx
  obtain ⟨b, hb, rfl, kb⟩ := hy
  have e1 := enc_int ka (show a < 32 by omega)
  have e2 := enc_int kb (show b < 32 by omega)
  unfold ltI ltA
  rw [eH_n ha, eH_n hb, nI_clamp (by omega), nI_clamp (by omega)]
  by_cases e : A a = A b
  · rw [if_pos e]
    refine decide_eq_decide.mpr ?_
    rw [Int32.lt_iff_toInt_lt, e1, e2, e, nI_ltI (by omega) (by omega)]
    omega
  · rw [if_neg e]
    refine decide_eq_decide.mpr ?_
    have e' : ¬ (A a).toInt = (A b).toInt := fun z => e (Int32.toInt_inj.mp z)
    rw [Int32.lt_iff_toInt_lt, Int32.lt_iff_toInt_lt, e1, e2]
    omega
theorem ltA_cg {A B : Nat → Int32} {x y : Int32} (h : ∀ i, i < 30 → A i = B i) (hx : vH B x) (hy : vH B y) : ltA A x y = ltA B x y := by
  obtain ⟨a, ha, rfl, -⟩ := hx
  obtain ⟨b, hb, rfl, -⟩ := hy
  unfold ltA
  rw [nI_clamp (by omega), nI_clamp (by omega), h a ha, h b hb]
theorem eH_lt2 {A B : Nat → Int32} (h : ∀ i, i < 30 → B i = A i) (x y : Int32) (hx : vH A x) (hy : vH A y) : ltI (eH A x) (eH A y) = ltA B x y := by rw [ltA_cg h hx hy]; exact eH_lt x y hx hy
theorem eH_cg {A B : Nat → Int32} {x : Int32} (hx : okH x) (h : ∀ i, i < 30 → A i = B i) : eH A x = eH B x := by
  obtain ⟨a, ha, rfl⟩ := hx
  rw [eH_n ha, eH_n ha, h a ha]
theorem eH_up {A : Nat → Int32} {h j : Nat} {v : Int32} (hh : h < 30) (e : h ≠ j) : eH (upd A j v) (nI h) = eH A (nI h) := by
  rw [eH_n hh, eH_n hh, pk_un e]
theorem i64_rem {q : Int64} : -200 < (q - q / 200 * 200).toInt ∧ (q - q / 200 * 200).toInt < 200 := by
  have h1 := q.le_toInt
  have h2 := q.toInt_lt
  have e0 : (200 : Int64).toInt = 200 := by decide +kernel
  have e1 : (q / 200).toInt = q.toInt.tdiv 200 := by
    rw [Int64.toInt_div, e0]
    rcases Int.le_total 0 q.toInt with z | z
    · rw [Int.tdiv_eq_ediv_of_nonneg z, Int.bmod_eq_of_le (by omega) (by omega)]
    · have : q.toInt.tdiv 200 = -((-q.toInt) / 200) := by
        rw [← Int.tdiv_eq_ediv_of_nonneg (by omega), Int.neg_tdiv, Int.neg_neg]
      rw [this, Int.bmod_eq_of_le (by omega) (by omega)]
  have e2 : -200 < q.toInt - q.toInt.tdiv 200 * 200 ∧ q.toInt - q.toInt.tdiv 200 * 200 < 200 ∧ -(2 ^ 63) ≤ q.toInt.tdiv 200 * 200 ∧ q.toInt.tdiv 200 * 200 < 2 ^ 63 := by
    rcases Int.le_total 0 q.toInt with z | z
    · rw [Int.tdiv_eq_ediv_of_nonneg z]
      omega
    · have : q.toInt.tdiv 200 = -((-q.toInt) / 200) := by
        rw [← Int.tdiv_eq_ediv_of_nonneg (by omega), Int.neg_tdiv, Int.neg_neg]
      rw [this]
      omega
  have e3 : (q / 200 * 200).toInt = q.toInt.tdiv 200 * 200 := by
    rw [Int64.toInt_mul, e1, e0, Int.bmod_eq_of_le (by omega) (by omega)]
  rw [Int64.toInt_sub, e3, Int.bmod_eq_of_le (by omega) (by omega)]
  exact ⟨e2.1, e2.2.1⟩
theorem lcgK_key (x : Int64) : isKeyB (lcgK x) = true := by
  have h := i64_rem (q := x / 65536)
  have e1 : (lcgK x).toInt = (x / 65536 - x / 65536 / 200 * 200).toInt - 100 := by
    unfold lcgK
    rw [Int32.toInt_sub, Int64.toInt_toInt32, show (100 : Int32).toInt = 100 from by decide +kernel, Int.bmod_eq_of_le (n := (x / 65536 - x / 65536 / 200 * 200).toInt) (by omega) (by omega), Int.bmod_eq_of_le (by omega) (by omega)]
  exact int_key (by omega) (by omega)
