/-! sums, ranks; bits, sets of handles (bt, b_ext, b_or, b_and, b_big, b_0, s_l, b_shl, nx_and began as rows of kit/laws/BITS.to-paste) -/
def sm (f : Nat → Nat) : Nat → Nat
  | 0 => 0
  | u + 1 => sm f u + f u
theorem sm_cg {f g : Nat → Nat} (u : Nat) (h : ∀ i, i < u → f i = g i) : sm f u = sm g u := by
  induction u with
  | zero => rfl
  | succ u ih => rw [sm, sm, ih (fun i hi => h i (by omega)), h u (by omega)]
theorem sm_z {f : Nat → Nat} (u : Nat) (h : ∀ i, i < u → f i = 0) : sm f u = 0 := by
  induction u with
  | zero => rfl
  | succ u ih => rw [sm, ih (fun i hi => h i (by omega)), h u (by omega)]
theorem sm_one {f : Nat → Nat} {a : Nat} (u : Nat) (ha : a < u) (h : ∀ i, i < u → i ≠ a → f i = 0) : sm f u = f a := by
  induction u with
  | zero => omega
  | succ u ih =>
    rw [sm]
    by_cases e : a = u
    · subst e
      rw [sm_z a (fun i hi => h i (by omega) (by omega)), Nat.zero_add]
    · rw [ih (by omega) (fun i hi => h i (by omega)), h u (by omega) (by omega), Nat.add_zero]
theorem sm_add {f g : Nat → Nat} (u : Nat) : sm (fun i => f i + g i) u = sm f u + sm g u := by
  induction u with
  | zero => rfl
  | succ u ih => rw [sm, sm, sm, ih]; omega
theorem sm_swap {f : Nat → Nat → Nat} (u v : Nat) : sm (fun i => sm (fun j => f i j) v) u = sm (fun j => sm (fun i => f i j) u) v := by
  induction u with
  | zero => exact (sm_z v (fun i _ => rfl)).symm
  | succ u ih =>
    rw [sm, ih, ← sm_add]
    rfl
theorem les_sm {lt : QL} {f : Nat → Int32} {y : Int32} (u : Nat) : ∀ i, sm (fun i => bN (lt (f i) y)) i + lesS lt f y u i = sm (fun i => bN (lt (f i) y)) (i + u) := by
  induction u with
  | zero => intro i; rfl
  | succ u ih =>
    intro i
    have := ih (i + 1)
    rw [sm] at this
    rw [lesS, show i + (u + 1) = i + 1 + u by omega, ← this]
    omega
theorem rn_sm {A : Nat → Int32} {y : Int32} (u : Nat) : ∀ h, rnA A y u h (sm (fun h => if itB A (nI h) = true ∧ ltA A (nI h) y = true then 1 else 0) h) = sm (fun h => if itB A (nI h) = true ∧ ltA A (nI h) y = true then 1 else 0) (h + u) := by
  induction u with
  | zero => intro h; rfl
  | succ u ih =>
    intro h
    have := ih (h + 1)
    rw [rnA, show h + (u + 1) = h + 1 + u by omega, ← this, sm]
    by_cases z : itB A (nI h) = true ∧ ltA A (nI h) y = true
    · rw [if_pos z, if_pos z]
    · simp only [if_neg z, Nat.add_zero]
theorem ob_rank {Q : QU} {A : Nat → Int32} {n j : Nat} (S : Sim 7 Q A n) (hj : j < 30) (ht : A (30 + j) = 1) : lesS ltI (Q 0).2.1 ((Q 0).2.1 (fndN (Q 0).2.1 (Q 0).1 (nI j))) (Q 0).1 0 = rnA A (nI j) 30 0 0 := by
  have m0 : mskB 7 0 = true := mskB_7 (by decide)
  have hf := mWF_hf S.1 hj ht 0 (by decide) m0
  have w := S.1.2.2.2.2.2.2 0 (by decide) m0
  have vj : vH A (nI j) := ⟨j, hj, rfl, S.1.2.2.2.2.2.1 j hj ht⟩
  rw [Sim_fnd S (by decide) m0, Sim_row S (by decide) m0 hf, fndH_at hf, Sim_n S (by decide) m0]
  have h1 := les_sm (lt := ltI) (f := (Q 0).2.1) (y := eH A (nI j)) n 0
  have h2 := rn_sm (A := A) (y := nI j) 30 0
  rw [show sm _ 0 = 0 from rfl, Nat.zero_add, Nat.zero_add] at h1
  rw [show sm _ 0 = 0 from rfl, Nat.zero_add] at h2
  rw [h1, h2]
  have e1 : sm (fun i => bN (ltI ((Q 0).2.1 i) (eH A (nI j)))) n = sm (fun i => sm (fun h => if (getL A 0).1 i = nI h ∧ ltA A (nI h) (nI j) = true then 1 else 0) 30) n := by
    refine sm_cg n (fun i hi => ?_)
    obtain ⟨h, hh, e, t⟩ := mWF_tk S.1 (by decide) m0 hi
    rw [Sim_row S (by decide) m0 hi, eH_lt _ _ (Sim_v S (by decide) m0 hi) vj, e]
    rw [sm_one (a := h) 30 hh (fun i2 h2 ne => if_neg (fun z => ne ((nI_eq (by omega) (by omega)).mp z.1).symm))]
    cases z : ltA A (nI h) (nI j)
    · rw [if_neg (fun y => Bool.false_ne_true y.2)]; rfl
    · rw [if_pos ⟨rfl, rfl⟩]; rfl
  rw [e1, sm_swap]
  refine sm_cg 30 (fun h hh => ?_)
  by_cases t : A (30 + h) = 1
  · obtain ⟨i, hi, e⟩ := (w.2 h hh).mp t
    rw [sm_one (a := i) n hi (fun i2 h2 ne => if_neg (fun z => ne (w.1 i2 i h2 hi (by rw [z.1, e]))))]
    by_cases z : ltA A (nI h) (nI j) = true
    · rw [if_pos ⟨e, z⟩, if_pos ⟨(itB_n hh).mpr t, z⟩]
    · rw [if_neg (fun y => z y.2), if_neg (fun y => z y.2)]
  · rw [if_neg (fun z => t ((itB_n hh).mp z.1)), sm_z n (fun i hi => if_neg (fun z => t ((w.2 h hh).mpr ⟨i, hi, z.1⟩)))]
theorem ob_ranked {Q : QU} {A : Nat → Int32} {n : Nat} (S : Sim 7 Q A n) (x : Int32) (u : Nat) : ∀ h, u + h = 30 → rkS Q x u h = rkA A x u h := by
  induction u with
  | zero => intro h _; rfl
  | succ u ih =>
    intro h hu
    rw [rkS, rkA, Sim_has S (mskB_7 (by decide))]
    by_cases z : itB A (nI h) = true
    · have e : lesV Q (nI h) = nI (rnA A (nI h) 30 0 0) := by
        unfold lesV
        rw [ob_rank S (by omega) ((itB_n (by omega)).mp z)]
      rw [e, ih _ (by omega)]
    · rw [if_neg (fun y => z y.1), if_neg (fun y => z y.1), ih _ (by omega)]
def bt (x : Int32) (i : Nat) : Bool := x.toBitVec.getLsbD i
theorem b_ext {x y : Int32} (h : ∀ i, i < 32 → bt x i = bt y i) : x = y := Int32.toBitVec_inj.mp (BitVec.eq_of_getLsbD_eq (fun i hi => h i hi))
theorem b_or (x y : Int32) (i : Nat) : bt (x ||| y) i = (bt x i || bt y i) := by unfold bt; rw [Int32.toBitVec_or, BitVec.getLsbD_or]
theorem b_and (x y : Int32) (i : Nat) : bt (x &&& y) i = (bt x i && bt y i) := by unfold bt; rw [Int32.toBitVec_and, BitVec.getLsbD_and]
theorem b_big {x : Int32} {i : Nat} (h : 32 ≤ i) : bt x i = false := BitVec.getLsbD_of_ge _ _ h
theorem b_0 (i : Nat) : bt 0 i = false := BitVec.getLsbD_zero
theorem s_l : ∀ n, n < 32 → ((nI n &&& 31).toBitVec.smod 32).toNat = n := by decide +kernel
theorem b_shl (n : Nat) (hn : n < 32) (x : Int32) {i : Nat} (hi : i < 32) : bt (x <<< (nI n &&& 31)) i = (decide (n ≤ i) && bt x (i - n)) := by
  unfold bt
  rw [Int32.toBitVec_shiftLeft]
  show (x.toBitVec <<< ((nI n &&& 31).toBitVec.smod 32).toNat).getLsbD i = _
  rw [s_l n hn, BitVec.getLsbD_shiftLeft]
  rcases Nat.lt_or_ge i n with h | h
  · simp [h, Nat.not_le.mpr h]
  · simp [hi, h, Nat.not_lt.mpr h]
theorem b_1 : ∀ i, i < 32 → bt 1 i = decide (i = 0) := by decide +kernel
theorem b_sh {h b : Nat} (hh : h < 32) (hb : b < 32) : bt (1 <<< (nI h &&& 31)) b = decide (h = b) := by
  rw [b_shl h hh 1 hb, b_1 _ (by omega)]
  by_cases e : h = b
  · rw [decide_eq_true (show h ≤ b by omega), decide_eq_true (show b - h = 0 by omega), decide_eq_true e]; rfl
  · rw [decide_eq_false e]
    by_cases l : h ≤ b
    · rw [decide_eq_false (show ¬ b - h = 0 by omega), Bool.and_false]
    · rw [decide_eq_false l, Bool.false_and]
theorem set_bt {f g : Nat → Int32} {n : Nat} (hg : ∀ i, i < n → hs (f i) = g i ∧ okH (g i)) {b : Nat} (hb : b < 32) (u : Nat) : ∀ i a, u + i = n → (bt (setS f u i a) b = true ↔ (bt a b = true ∨ ∃ j, i ≤ j ∧ j < n ∧ g j = nI b)) := by
  induction u with
  | zero =>
    intro i a hu
    rw [setS]
    exact ⟨Or.inl, fun h => h.elim id (fun ⟨j, h1, h2, _⟩ => by omega)⟩
  | succ u ih =>
    intro i a hu
    obtain ⟨e1, h, hh, e2⟩ := hg i (by omega)
    rw [setS, ih (i + 1) _ (by omega), e1, e2, b_or, b_sh (by omega) hb, Bool.or_eq_true, decide_eq_true_eq]
    constructor
    · rintro ((z | z) | ⟨j, h1, h2, h3⟩)
      · exact Or.inl z
      · exact Or.inr ⟨i, Nat.le_refl _, by omega, by rw [e2, z]⟩
      · exact Or.inr ⟨j, by omega, h2, h3⟩
    · rintro (z | ⟨j, h1, h2, h3⟩)
      · exact Or.inl (Or.inl z)
      · by_cases e : j = i
        · rw [e, e2] at h3
          exact Or.inl (Or.inr ((nI_eq (by omega) (by omega)).mp h3))
        · exact Or.inr ⟨j, by omega, h2, h3⟩
theorem hsA_bt {A : Nat → Int32} (hA : ∀ h, h < 30 → A (30 + h) = 0 ∨ A (30 + h) = 1) {b : Nat} (hb : b < 32) (u : Nat) : ∀ h a, u + h = 30 → (bt (hsA A u h a) b = true ↔ (bt a b = true ∨ ∃ j, h ≤ j ∧ j < 30 ∧ A (30 + j) = 1 ∧ j = b)) := by
  induction u with
  | zero =>
    intro h a hu
    rw [hsA]
    exact ⟨Or.inl, fun z => z.elim id (fun ⟨j, h1, h2, _⟩ => by omega)⟩
  | succ u ih =>
    intro h a hu
    rw [hsA, ih (h + 1) _ (by omega), b_or, Bool.or_eq_true]
    have e : bt (A (30 + h) <<< (nI h &&& 31)) b = true ↔ A (30 + h) = 1 ∧ h = b := by
      rcases hA h (by omega) with z | z
      · rw [z, b_shl h (by omega) 0 hb, b_0, Bool.and_false]
        exact ⟨fun y => (by cases y), fun y => absurd y.1 (by decide)⟩
      · rw [z, b_sh (by omega) hb, decide_eq_true_eq]
        exact ⟨fun y => ⟨rfl, y⟩, fun y => y.2⟩
    rw [e]
    constructor
    · rintro ((z | z) | ⟨j, h1, h2, h3⟩)
      · exact Or.inl z
      · exact Or.inr ⟨h, Nat.le_refl _, by omega, z.1, z.2⟩
      · exact Or.inr ⟨j, by omega, h2, h3⟩
    · rintro (z | ⟨j, h1, h2, h3, h4⟩)
      · exact Or.inl (Or.inl z)
      · by_cases e : j = h
        · rw [e] at h3 h4
          exact Or.inl (Or.inr ⟨h3, h4⟩)
        · exact Or.inr ⟨j, by omega, h2, h3, h4⟩
theorem ob_set {Q : QU} {A : Nat → Int32} {n : Nat} (S : Sim 7 Q A n) : setS (Q 0).2.1 (Q 0).1 0 0 = hsA A 30 0 0 := by
  have m0 : mskB 7 0 = true := mskB_7 (by decide)
  have hn := S.1.2.2.1
  rw [Sim_n S (by decide) m0]
  refine b_ext (fun b hb => ?_)
  have h1 := set_bt (f := (Q 0).2.1) (g := (getL A 0).1) (n := n) (fun i hi => ⟨Sim_hs S (by decide) m0 hi, S.1.1 0 (by decide) i (by omega)⟩) hb n 0 0 rfl
  have h2 := hsA_bt S.1.2.2.2.1 hb 30 0 0 rfl
  have h3 : bt (setS (Q 0).2.1 n 0 0) b = true ↔ bt (hsA A 30 0 0) b = true := by
    rw [h1, h2, b_0]
    constructor
    · rintro (z | ⟨j, _, hj, e⟩)
      · cases z
      · obtain ⟨h, hh, e2, t⟩ := mWF_tk S.1 (by decide) m0 hj
        rw [e2] at e
        exact Or.inr ⟨h, Nat.zero_le _, hh, t, (nI_eq (by omega) (by omega)).mp e⟩
    · rintro (z | ⟨j, _, hj, t, e⟩)
      · cases z
      · obtain ⟨i, hi, e2⟩ := ((S.1.2.2.2.2.2.2 0 (by decide) m0).2 j hj).mp t
        exact Or.inr ⟨i, Nat.zero_le _, hi, by rw [e2, e]⟩
  cases x : bt (setS (Q 0).2.1 n 0 0) b
  · cases y : bt (hsA A 30 0 0) b
    · rfl
    · rw [h3.mpr y] at x; cases x
  · exact (h3.mp x).symm
/-! counting bits -/
theorem nx_and (a b : Nat) : nI a &&& nI b = nI (a &&& b) := by
  apply Int32.toBitVec_inj.1
  show BitVec.ofNat 32 a &&& BitVec.ofNat 32 b = BitVec.ofNat 32 (a &&& b)
  apply BitVec.eq_of_getLsbD_eq
  intro i hi
  simp [hi]
theorem nx_cnt : ∀ j : Fin 32, (UInt32.ofNat j.val &&& Int32.toUInt32 31).toNat % 32 = j.val := by decide +kernel
theorem sh_n {k j : Nat} (hk : k < 2 ^ 32) (hj : j < 32) : shr (nI k) (nI j) = nI (k / 2 ^ j) := by
  have hs : k / 2 ^ j ≤ k := Nat.div_le_self _ _
  have e2 : UInt32.ofNat k >>> (UInt32.ofNat j &&& Int32.toUInt32 31) = UInt32.ofNat (k / 2 ^ j) := by
    apply UInt32.toNat_inj.1
    have h1 : (UInt32.ofNat k).toNat = k := Nat.mod_eq_of_lt (by omega)
    have h2 : (UInt32.ofNat (k / 2 ^ j)).toNat = k / 2 ^ j := Nat.mod_eq_of_lt (by omega)
    rw [UInt32.toNat_shiftRight, nx_cnt ⟨j, hj⟩, h1, h2, Nat.shiftRight_eq_div_pow]
  show (UInt32.ofNat k >>> (UInt32.ofNat j &&& Int32.toUInt32 31)).toInt32 = _
  rw [e2]
  rfl
theorem nI_sub {a b : Nat} (h : b ≤ a) : nI a - nI b = nI (a - b) := by
  have e : nI a = nI (a - b) + nI b := by rw [nI_add, Nat.sub_add_cancel h]
  rw [e, Int32.add_sub_cancel]
theorem and_spl (a b : Nat) : a &&& b = 256 * (a / 256 &&& b / 256) + (a % 256 &&& b % 256) := by
  have h1 : (a &&& b) / 2 ^ 8 = a / 2 ^ 8 &&& b / 2 ^ 8 := Nat.and_div_two_pow
  have h2 : (a &&& b) % 2 ^ 8 = (a % 2 ^ 8) &&& (b % 2 ^ 8) := Nat.and_mod_two_pow
  have h3 := Nat.div_add_mod (a &&& b) 256
  rw [← h3]
  rw [show (256 : Nat) = 2 ^ 8 from rfl, h1, h2]
def y1 (l : Nat) : Nat := l - (l / 2 &&& 85)
def y2 (l : Nat) : Nat := (l &&& 51) + (l / 4 &&& 51)
def bs8 (l : Nat) : Nat := l % 2 + l / 2 % 2 + l / 4 % 2 + l / 8 % 2 + l / 16 % 2 + l / 32 % 2 + l / 64 % 2 + l / 128 % 2
theorem by_1 : ∀ l, l < 256 → ∀ e, e < 2 → (l / 2 + 128 * e) &&& 85 = l / 2 &&& 85 := by decide +kernel
theorem by_2 : ∀ l, l < 256 → ∀ e, e < 4 → (l / 4 + 64 * e) &&& 51 = l / 4 &&& 51 := by decide +kernel
theorem by_3 : ∀ l, l < 256 → y1 l < 256 ∧ (l / 2 &&& 85) ≤ l ∧ y2 (y1 l) / 16 ≤ 4 ∧ y2 (y1 l) % 16 ≤ 4 ∧ (y2 (y1 l) + y2 (y1 l) / 16) % 16 = bs8 l := by decide +kernel
theorem by_4 : ∀ l, l < 256 → l &&& 15 = l % 16 := by decide +kernel
theorem an_1 (m k : Nat) : m / 2 &&& (256 * k + 85) = 256 * (m / 256 / 2 &&& k) + (m % 256 / 2 &&& 85) := by
  rw [and_spl, show (256 * k + 85) / 256 = k by omega, show (256 * k + 85) % 256 = 85 by omega, show m / 2 / 256 = m / 256 / 2 by omega, show m / 2 % 256 = m % 256 / 2 + 128 * (m / 256 % 2) by omega, by_1 (m % 256) (by omega) (m / 256 % 2) (by omega)]
theorem an_2 (m k : Nat) : m / 4 &&& (256 * k + 51) = 256 * (m / 256 / 4 &&& k) + (m % 256 / 4 &&& 51) := by
  rw [and_spl, show (256 * k + 51) / 256 = k by omega, show (256 * k + 51) % 256 = 51 by omega, show m / 4 / 256 = m / 256 / 4 by omega, show m / 4 % 256 = m % 256 / 4 + 64 * (m / 256 % 4) by omega, by_2 (m % 256) (by omega) (m / 256 % 4) (by omega)]
theorem an_3 (m k : Nat) : m &&& (256 * k + 51) = 256 * (m / 256 &&& k) + (m % 256 &&& 51) := by
  rw [and_spl, show (256 * k + 51) / 256 = k by omega, show (256 * k + 51) % 256 = 51 by omega]
theorem an_4 (m k : Nat) : m &&& (256 * k + 15) = 256 * (m / 256 &&& k) + m % 256 % 16 := by
  rw [and_spl, show (256 * k + 15) / 256 = k by omega, show (256 * k + 15) % 256 = 15 by omega, by_4 _ (by omega)]
theorem st_1 {a b c d : Nat} (ha : a < 256) (hb : b < 256) (hc : c < 256) (hd : d < 256) : (a + 256 * b + 65536 * c + 16777216 * d) - ((a + 256 * b + 65536 * c + 16777216 * d) / 2 &&& 1431655765) = y1 a + 256 * y1 b + 65536 * y1 c + 16777216 * y1 d := by
  rw [show (1431655765 : Nat) = 256 * 5592405 + 85 from rfl, an_1, show (a + 256 * b + 65536 * c + 16777216 * d) / 256 = b + 256 * c + 65536 * d by omega, show (a + 256 * b + 65536 * c + 16777216 * d) % 256 = a by omega]
  rw [show (5592405 : Nat) = 256 * 21845 + 85 from rfl, an_1, show (b + 256 * c + 65536 * d) / 256 = c + 256 * d by omega, show (b + 256 * c + 65536 * d) % 256 = b by omega]
  rw [show (21845 : Nat) = 256 * 85 + 85 from rfl, an_1, show (c + 256 * d) / 256 = d by omega, show (c + 256 * d) % 256 = c by omega]
  have h1 := (by_3 a ha).2.1
  have h2 := (by_3 b hb).2.1
  have h3 := (by_3 c hc).2.1
  have h4 := (by_3 d hd).2.1
  unfold y1
  omega
theorem st_2 {a b c d : Nat} (ha : a < 256) (hb : b < 256) (hc : c < 256) (hd : d < 256) : ((a + 256 * b + 65536 * c + 16777216 * d) &&& 858993459) + ((a + 256 * b + 65536 * c + 16777216 * d) / 4 &&& 858993459) = y2 a + 256 * y2 b + 65536 * y2 c + 16777216 * y2 d := by
  rw [show (858993459 : Nat) = 256 * 3355443 + 51 from rfl, an_2, an_3, show (a + 256 * b + 65536 * c + 16777216 * d) / 256 = b + 256 * c + 65536 * d by omega, show (a + 256 * b + 65536 * c + 16777216 * d) % 256 = a by omega]
  rw [show (3355443 : Nat) = 256 * 13107 + 51 from rfl, an_2, an_3, show (b + 256 * c + 65536 * d) / 256 = c + 256 * d by omega, show (b + 256 * c + 65536 * d) % 256 = b by omega]
  rw [show (13107 : Nat) = 256 * 51 + 51 from rfl, an_2, an_3, show (c + 256 * d) / 256 = d by omega, show (c + 256 * d) % 256 = c by omega]
  unfold y2
  omega
theorem st_3 {a b c d : Nat} (ha : a / 16 ≤ 4 ∧ a % 16 ≤ 4) (hb : b / 16 ≤ 4 ∧ b % 16 ≤ 4) (hc : c / 16 ≤ 4 ∧ c % 16 ≤ 4) (hd : d / 16 ≤ 4 ∧ d % 16 ≤ 4) : ((a + 256 * b + 65536 * c + 16777216 * d) + (a + 256 * b + 65536 * c + 16777216 * d) / 16) &&& 252645135 = (a + a / 16) % 16 + 256 * ((b + b / 16) % 16) + 65536 * ((c + c / 16) % 16) + 16777216 * ((d + d / 16) % 16) := by
  generalize hm : (a + 256 * b + 65536 * c + 16777216 * d) + (a + 256 * b + 65536 * c + 16777216 * d) / 16 = m
  have e : m = (a + a / 16 + 16 * (b % 16)) + 256 * (b + b / 16 + 16 * (c % 16)) + 65536 * (c + c / 16 + 16 * (d % 16)) + 16777216 * (d + d / 16) := by omega
  have h0 : a + a / 16 + 16 * (b % 16) < 256 := by omega
  have h1 : b + b / 16 + 16 * (c % 16) < 256 := by omega
  have h2 : c + c / 16 + 16 * (d % 16) < 256 := by omega
  have h3 : d + d / 16 < 256 := by omega
  have g0 : (a + a / 16 + 16 * (b % 16)) % 16 = (a + a / 16) % 16 := by omega
  have g1 : (b + b / 16 + 16 * (c % 16)) % 16 = (b + b / 16) % 16 := by omega
  have g2 : (c + c / 16 + 16 * (d % 16)) % 16 = (c + c / 16) % 16 := by omega
  rw [← g0, ← g1, ← g2]
  generalize a + a / 16 + 16 * (b % 16) = x at e h0
  generalize b + b / 16 + 16 * (c % 16) = y at e h1
  generalize c + c / 16 + 16 * (d % 16) = z at e h2
  generalize d + d / 16 = w at e h3
  rw [show (252645135 : Nat) = 256 * 986895 + 15 from rfl, an_4, show (986895 : Nat) = 256 * 3855 + 15 from rfl, an_4, show (3855 : Nat) = 256 * 15 + 15 from rfl, an_4]
  have k3 : m / 256 / 256 / 256 = w := by omega
  have k2 : m / 256 / 256 % 256 = z := by omega
  have k1 : m / 256 % 256 = y := by omega
  have k0 : m % 256 = x := by omega
  rw [k3, k2, k1, k0, by_4 _ h3]
  omega
theorem bs_end {p q r s : Nat} (hp : p ≤ 8) (hq : q ≤ 8) (hr : r ≤ 8) (hs : s ≤ 8) : (p + 256 * q + 65536 * r + 16777216 * s + (p + 256 * q + 65536 * r + 16777216 * s) / 256 + (p + 256 * q + 65536 * r + 16777216 * s + (p + 256 * q + 65536 * r + 16777216 * s) / 256) / 65536) % 64 = p + q + r + s := by
  have e1 : (p + 256 * q + 65536 * r + 16777216 * s) / 256 = q + 256 * r + 65536 * s := by omega
  rw [e1]
  have e2 : (p + 256 * q + 65536 * r + 16777216 * s + (q + 256 * r + 65536 * s)) / 65536 = r + s + 256 * s := by omega
  rw [e2]
  omega
theorem bitC_n {a b c d : Nat} (ha : a < 256) (hb : b < 256) (hc : c < 256) (hd : d < 64) : bitC (nI (a + 256 * b + 65536 * c + 16777216 * d)) = nI (bs8 a + bs8 b + bs8 c + bs8 d) := by
  have ka := by_3 a ha
  have kb := by_3 b hb
  have kc := by_3 c hc
  have kd := by_3 d (by omega)
  have e1 : bc1 (nI (a + 256 * b + 65536 * c + 16777216 * d)) = nI (y1 a + 256 * y1 b + 65536 * y1 c + 16777216 * y1 d) := by
    unfold bc1
    rw [show (1 : Int32) = nI 1 from rfl, sh_n (by omega) (by decide), show (1431655765 : Int32) = nI 1431655765 from rfl, nx_and, nI_sub (Nat.le_trans Nat.and_le_left (Nat.div_le_self _ _)), Nat.pow_one, st_1 ha hb hc (by omega)]
  have e2 : bc2 (nI (y1 a + 256 * y1 b + 65536 * y1 c + 16777216 * y1 d)) = nI (y2 (y1 a) + 256 * y2 (y1 b) + 65536 * y2 (y1 c) + 16777216 * y2 (y1 d)) := by
    unfold bc2
    rw [show (2 : Int32) = nI 2 from rfl, sh_n (by omega) (by decide), show (858993459 : Int32) = nI 858993459 from rfl, nx_and, nx_and, nI_add, show (2 : Nat) ^ 2 = 4 from rfl, st_2 ka.1 kb.1 kc.1 kd.1]
  have e3 : bc3 (nI (y2 (y1 a) + 256 * y2 (y1 b) + 65536 * y2 (y1 c) + 16777216 * y2 (y1 d))) = nI (bs8 a + 256 * bs8 b + 65536 * bs8 c + 16777216 * bs8 d) := by
    unfold bc3
    rw [show (4 : Int32) = nI 4 from rfl, sh_n (by omega) (by decide), nI_add, show (252645135 : Int32) = nI 252645135 from rfl, nx_and, show (2 : Nat) ^ 4 = 16 from rfl, st_3 ⟨ka.2.2.1, ka.2.2.2.1⟩ ⟨kb.2.2.1, kb.2.2.2.1⟩ ⟨kc.2.2.1, kc.2.2.2.1⟩ ⟨kd.2.2.1, kd.2.2.2.1⟩, ka.2.2.2.2, kb.2.2.2.2, kc.2.2.2.2, kd.2.2.2.2]
  unfold bitC
  rw [e1, e2, e3]
  have q : ∀ l, bs8 l ≤ 8 := fun l => by unfold bs8; omega
  have qa := q a
  have qb := q b
  have qc := q c
  have qd := q d
  unfold bc4 bc5
  rw [show (8 : Int32) = nI 8 from rfl, sh_n (by omega) (by decide), nI_add, show (16 : Int32) = nI 16 from rfl, sh_n (by omega) (by decide), nI_add, show (63 : Int32) = nI (2 ^ 6 - 1) from rfl, nx_and, Nat.and_two_pow_sub_one_eq_mod]
  congr 1
  rw [show (2 : Nat) ^ 8 = 256 from rfl, show (2 : Nat) ^ 16 = 65536 from rfl, show (2 : Nat) ^ 6 = 64 from rfl]
  exact bs_end qa qb qc qd
theorem sr_n {m h : Nat} (hm : m < 2 ^ 31) (hh : h < 32) : nI m >>> (nI h &&& 31) = nI (m / 2 ^ h) := by
  have hd : m / 2 ^ h ≤ m := Nat.div_le_self _ _
  apply Int32.toInt_inj.mp
  have e2 : (nI m >>> (nI h &&& 31)).toBitVec = (nI m).toBitVec.sshiftRight h := by
    rw [Int32.toBitVec_shiftRight]
    show (nI m).toBitVec.sshiftRight ((nI h &&& 31).toBitVec.smod 32).toNat = _
    rw [s_l h hh]
  show (nI m >>> (nI h &&& 31)).toBitVec.toInt = _
  rw [e2, BitVec.toInt_sshiftRight, Int.shiftRight_eq_div_pow]
  show (nI m).toInt / ((2 ^ h : Nat) : Int) = _
  rw [nI_toInt hm, nI_toInt (by omega)]
  rfl
theorem acS_n {m : Nat} (hm : m < 2 ^ 31) (u : Nat) : ∀ h, u + h = 30 → acS (nI m) u h (nI (sm (fun i => m / 2 ^ i % 2) h)) = nI (sm (fun i => m / 2 ^ i % 2) 30) := by
  induction u with
  | zero =>
    intro h hu
    rw [acS, show h = 30 by omega]
  | succ u ih =>
    intro h hu
    rw [acS, sr_n hm (by omega), show (1 : Int32) = nI (2 ^ 1 - 1) from rfl, nx_and, Nat.and_two_pow_sub_one_eq_mod, nI_add, Nat.pow_one]
    exact ih (h + 1) (by omega)
theorem sm_ad (f : Nat → Nat) (a b : Nat) : sm f (a + b) = sm f a + sm (fun i => f (a + i)) b := by
  induction b with
  | zero => rfl
  | succ b ih =>
    rw [show a + (b + 1) = a + b + 1 from rfl, sm, ih, sm]
    omega
theorem sm_8 (l : Nat) : sm (fun i => l / 2 ^ i % 2) 8 = bs8 (l % 256) := by
  simp only [sm, bs8]
  omega
theorem sm_6 (l : Nat) : sm (fun i => l / 2 ^ i % 2) 6 = bs8 (l % 64) := by
  simp only [sm, bs8]
  omega
theorem sm_sh (m a b : Nat) : sm (fun i => m / 2 ^ (a + i) % 2) b = sm (fun i => m / 2 ^ a / 2 ^ i % 2) b := sm_cg b (fun i _ => by rw [Nat.div_div_eq_div_mul, Nat.pow_add])
theorem sm_30 (m : Nat) : sm (fun i => m / 2 ^ i % 2) 30 = bs8 (m % 256) + bs8 (m / 256 % 256) + bs8 (m / 65536 % 256) + bs8 (m / 16777216 % 64) := by
  rw [show 30 = 24 + 6 from rfl, sm_ad, sm_sh, sm_6, show 24 = 16 + 8 from rfl, sm_ad, sm_sh, sm_8, show 16 = 8 + 8 from rfl, sm_ad, sm_sh, sm_8, sm_8]
theorem bit_ac {m : Nat} (hm : m < 2 ^ 30) : bitC (nI m) = acS (nI m) 30 0 0 := by
  have h := acS_n (m := m) (by omega) 30 0 rfl
  rw [show nI (sm (fun i => m / 2 ^ i % 2) 0) = 0 from rfl] at h
  rw [h, sm_30]
  have e := bitC_n (a := m % 256) (b := m / 256 % 256) (c := m / 65536 % 256) (d := m / 16777216 % 64) (by omega) (by omega) (by omega) (by omega)
  rw [← e]
  congr 2
  omega
theorem ab_bt {f : Nat → Int32} (hf : rowOK f) {b : Nat} (hb : 30 ≤ b) (hb2 : b < 32) (u : Nat) : ∀ i a, i < 30 → bt (abA f u i a) b = bt a b := by
  induction u with
  | zero => intro i a _; rfl
  | succ u ih =>
    intro i a hi
    rw [abA]
    by_cases e : i = 0
    · rw [if_pos e]
    · obtain ⟨h, hh, e2⟩ := hf ((i - 1) / 2) (by omega)
      rw [if_neg e, ih _ _ (by omega), b_or, e2, b_sh (by omega) hb2, decide_eq_false (by omega), Bool.or_false]
theorem small_n {x : Int32} (h : ∀ b, 30 ≤ b → b < 32 → bt x b = false) : ∃ m, m < 2 ^ 30 ∧ x = nI m := by
  refine ⟨x.toBitVec.toNat, Nat.lt_pow_two_of_testBit _ (fun i hi => ?_), ?_⟩
  · rcases Nat.lt_or_ge i 32 with z | z
    · exact h i hi z
    · exact b_big (x := x) z
  · apply Int32.toBitVec_inj.1
    show x.toBitVec = BitVec.ofNat 32 x.toBitVec.toNat
    simp
theorem ob_anc {Q : QU} {A : Nat → Int32} {n j : Nat} (S : Sim 7 Q A n) (hj : j < 30) (ht : A (30 + j) = 1) : bitC (abS (Q 2).2.1 30 (fndN (Q 2).2.1 (Q 2).1 (nI j)) 0 &&& abS (Q 3).2.1 30 (fndN (Q 3).2.1 (Q 3).1 (nI j)) 0) = acS (abA (getL A 2).1 30 (fndH (getL A 2).1 n (nI j)) 0 &&& abA (getL A 3).1 30 (fndH (getL A 3).1 n (nI j)) 0) 30 0 0 := by
  have m2 : mskB 7 2 = true := mskB_7 (by decide)
  have m3 : mskB 7 3 = true := mskB_7 (by decide)
  have hn := S.1.2.2.1
  have f2 := mWF_hf S.1 hj ht 2 (by decide) m2
  have f3 := mWF_hf S.1 hj ht 3 (by decide) m3
  rw [Sim_fnd S (by decide) m2, Sim_fnd S (by decide) m3, ob_ab S (by decide) 30 _ _ f2, ob_ab S (by decide) 30 _ _ f3]
  obtain ⟨m, hm, e⟩ := small_n (x := abA (getL A 2).1 30 (fndH (getL A 2).1 n (nI j)) 0 &&& abA (getL A 3).1 30 (fndH (getL A 3).1 n (nI j)) 0) (fun b h1 h2 => by
    rw [b_and, ab_bt (S.1.1 2 (by decide)) h1 h2 30 _ _ (by omega), b_0, Bool.false_and])
  rw [e]
  exact bit_ac hm
