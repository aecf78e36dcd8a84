theorem insA_180 {q ky : Int32} {n : Nat} {A : Nat → Int32} : insA q n ky A 180 = nI (n + 1) := by
  unfold insA
  exact pk_us
theorem nA_ins {q ky : Int32} {n : Nat} {A : Nat → Int32} (hn : n < 30) : nA (insA q n ky A) = n + 1 := by
  unfold nA
  rw [insA_180, nI_clamp (by omega)]
theorem m_fill_53 (l : Launch) {w : MW} {p : Nat} {P K T : Nat → Int32} {x0 : XS} (hp : p + 4 < w.1) {PA : (Nat → Int32) → Prop} (hP : ∀ A, PA A → mWF 7 A (nA A)) (hS : ∀ ky A, PA A → nA A < 30 → isKeyB ky = true → PA (insA 7 (nA A) ky A)) (hK : ∀ x, isKeyB (lcgK x) = true) {c : Nat} {z : Int32} (hc : c ≤ 30) : ∀ (u i : Nat) (x : Int64) (A : Nat → Int32), u + i = c → PA A → nA A + u ≤ 30 → Go l yX8_fill cX8_fill 7 (some .int) [] none (mm_Z (mm_eq (.inl (some (.int (fiA u x A 180)))) (mdW w p (fiA u x A) P K T x0))) 7 0 0 53 [(0, .ref p), (1, .int (nI c)), (2, .int z), (3, .long x), (5, .int (nI i))] [] (mdW w p A P K T x0) := by
  intro u
  induction u with
  | zero =>
    intro i x A hu hA hn
    rw [fiA]
    refine go_iload dX8_fill_53 rfl ?_
    refine go_iload_n dX8_fill_55 rfl ?_
    refine go_icmp_ge_t 100 dX8_fill_56 (by decide) (nI_le (by omega) (by omega)) ?_
    refine go_aload_n dX8_fill_100 rfl ?_
    refine go_virt1 dX8_fill_101 (m_many l hp) v_X8_95_7 rfl (mdW_ob hp) rfl (Nat.le_of_ble_eq_true rfl) (Nat.le_of_ble_eq_true rfl) (Nat.le_of_ble_eq_true rfl) ?_
    exact go_ireturn dX8_fill_104 rfl rfl
  | succ u ih =>
    intro i x A hu hA hn
    have hW := hP A hA
    have h30 : nA A < 30 := by omega
    refine go_iload dX8_fill_53 rfl ?_
    refine go_iload_n dX8_fill_55 rfl ?_
    refine go_icmp_ge_f 100 dX8_fill_56 (by decide) (n_nle (by omega) (by omega)) ?_
    refine go_ldc2 dX8_fill_59 kd_X8_171 ?_
    refine go_lload_n dX8_fill_62 rfl ?_
    refine go_lmul dX8_fill_63 ?_
    refine go_ldc2 dX8_fill_64 kd_X8_173 ?_
    refine go_ladd dX8_fill_67 ?_
    refine go_ldc2 dX8_fill_68 kd_X8_175 ?_
    refine go_lrem dX8_fill_71 (by decide) ?_
    refine go_lstore_n dX8_fill_72 (Nat.le_of_ble_eq_true rfl) rfl rfl ?_
    refine go_aload_n dX8_fill_73 rfl ?_
    refine go_lload_n dX8_fill_74 rfl ?_
    refine go_ldc2 dX8_fill_75 kd_X8_177 ?_
    refine go_ldiv dX8_fill_78 (by decide) ?_
    refine go_ldc2 dX8_fill_79 kd_X8_179 ?_
    refine go_lrem dX8_fill_82 (by decide) ?_
    refine go_l2i dX8_fill_83 ?_
    refine go_bipush 100 dX8_fill_84 (by decide) ?_
    refine go_isub dX8_fill_86 ?_
    refine go_bipush 7 dX8_fill_87 (by decide) ?_
    refine go_virt1 dX8_fill_89 (m_inserts l hp (A := A) (ky := lcgK (lcg x)) (q := 7) h30 hW.1 hW.2.1 (frA_lt hW.2.2.2.2.1 h30)) v_X8_144_7 rfl (mdW_ob hp) rfl (Nat.le_of_ble_eq_true rfl) (Nat.le_of_ble_eq_true rfl) (Nat.le_of_ble_eq_true rfl) ?_
    refine go_istore dX8_fill_92 (Nat.le_of_ble_eq_true rfl) rfl ?_
    refine go_iinc dX8_fill_94 rfl (Nat.le_of_ble_eq_true rfl) rfl (show _ = _ + 1 from rfl) ?_
    rw [a_k1]
    refine go_goto 53 dX8_fill_97 (by decide) ?_
    exact go_sub [(0, .ref p), (1, .int (nI c)), (2, .int z), (3, .long (lcg x)), (5, .int (nI (i + 1)))] ⟨rfl, rfl, rfl, rfl, rfl, trivial⟩ (ih (i + 1) (lcg x) (insA 7 (nA A) (lcgK (lcg x)) A) (by omega) (hS _ A hA h30 (hK _)) (by rw [nA_ins h30]; omega))
theorem m_fill_y (l : Launch) {w : MW} {p : Nat} {A P K T : Nat → Int32} {sv : Nat} {rf : Int32} {y : Int32 × Int32 × Int32 × Int32 × Int64} (hp : p + 4 < w.1) {PA : (Nat → Int32) → Prop} (hP : ∀ A, PA A → mWF 7 A (nA A)) (hS : ∀ ky A, PA A → nA A < 30 → isKeyB ky = true → PA (insA 7 (nA A) ky A)) (hK : ∀ x, isKeyB (lcgK x) = true) (hA : PA A) (hs : sv ≤ 5) {c : Nat} {z : Int32} (h1 : 1 ≤ c) (h2 : c ≤ 30) (h3 : nA A + c ≤ 30) (hz : 0 ≤ z) : Ct l (.code yX8_fill cX8_fill 7 (some .int)) yX8_fill 7 0 0 [.ref p, .int (nI c), .int z] (mdW w p A P K T (nI sv, rf, y)) (.inl (some (.int (fiA c z.toInt64 A 180)))) (mdW w p (fiA c z.toInt64 A) (svP A P sv) K T (nI (min (sv + 1) 5), 0, y)) := by
  refine ct_of (by decide +kernel) (Nat.le_of_ble_eq_true rfl) ?_
  have hW := hP A hA
  have hn := hW.2.2.1
  have h180 := hW.2.1
  refine go_aload_n dX8_fill_0 rfl ?_
  refine go_iload_n dX8_fill_1 rfl ?_
  refine go_iconst 1 dX8_fill_2 (by decide) ?_
  refine go_bipush 30 dX8_fill_3 (by decide) ?_
  refine go_stat1 dX8_fill_5 (m_within l) s_X8_33 kc_X8_within rfl rfl (Nat.le_of_ble_eq_true rfl) (Nat.le_of_ble_eq_true rfl) (Nat.le_of_ble_eq_true rfl) ?_
  refine go_if_eq_f 15 dX8_fill_8 (by decide) (by rw [show (decide ((1 : Int32) ≤ nI c) && decide (nI c ≤ 30)) = true from wi_ok (a := 1) (m := 30) h1 h2 (by decide)]; decide) ?_
  refine go_iload_n dX8_fill_11 rfl ?_
  refine go_if_ge_t 19 dX8_fill_12 (by decide) (hz) ?_
  refine go_aload_n dX8_fill_19 rfl ?_
  refine go_virt1 dX8_fill_20 (m_many l hp) v_X8_95_7 rfl (mdW_ob hp) rfl (Nat.le_of_ble_eq_true rfl) (Nat.le_of_ble_eq_true rfl) (Nat.le_of_ble_eq_true rfl) ?_
  rw [h180]
  refine go_iload_n dX8_fill_23 rfl ?_
  refine go_iadd dX8_fill_24 ?_
  refine go_bipush 30 dX8_fill_25 (by decide) ?_
  refine go_icmp_le_t 34 dX8_fill_27 (by decide) (by rw [nI_add]; exact nI_le (b := 30) (by omega) (by decide)) ?_
  refine go_iconst 0 dX8_fill_34 (by decide) ?_
  refine go_virt1 dX8_fill_35 (m_refd l hp (a := nI sv) (b := rf) (y := y) (r := 0)) v_X8_29_7 rfl (mdW_ob hp) rfl (Nat.le_of_ble_eq_true rfl) (Nat.le_of_ble_eq_true rfl) (Nat.le_of_ble_eq_true rfl) ?_
  refine go_if_eq_t 43 dX8_fill_38 (by decide) (by decide) ?_
  refine go_aload_n dX8_fill_43 rfl ?_
  refine go_virt0 dX8_fill_44 (m_saves l hp (sv := sv) (y := (0, y)) hs) v_X8_141_7 rfl (mdW_ob hp) rfl (Nat.le_of_ble_eq_true rfl) (Nat.le_of_ble_eq_true rfl) (Nat.le_of_ble_eq_true rfl) ?_
  refine go_iload_n dX8_fill_47 rfl ?_
  refine go_i2l dX8_fill_48 ?_
  refine go_lstore_n dX8_fill_49 (Nat.le_of_ble_eq_true rfl) rfl rfl ?_
  refine go_iconst 0 dX8_fill_50 (by decide) ?_
  refine go_istore dX8_fill_51 (Nat.le_of_ble_eq_true rfl) rfl ?_
  exact go_sub [(0, .ref p), (1, .int (nI c)), (2, .int z), (3, .long z.toInt64), (5, .int (nI 0))] ⟨rfl, rfl, rfl, rfl, rfl, trivial⟩ (m_fill_53 l hp hP hS hK h2 c 0 z.toInt64 A (by omega) hA h3)
theorem m_fill_n1a (l : Launch) {w : MW} {p : Nat} {A P K T : Nat → Int32} {sv : Nat} {rf : Int32} {y : Int32 × Int32 × Int32 × Int32 × Int64} (hp : p + 4 < w.1) {c z : Int32} (h : c < 1 ∨ 30 < c) : Ct l (.code yX8_fill cX8_fill 7 (some .int)) yX8_fill 7 0 0 [.ref p, .int c, .int z] (mdW w p A P K T (nI sv, rf, y)) (.inl (some (.int 0))) (mdW w p A P K T (nI sv, 1, y)) := by
  refine ct_of (by decide +kernel) (Nat.le_of_ble_eq_true rfl) ?_
  refine go_aload_n dX8_fill_0 rfl ?_
  refine go_iload_n dX8_fill_1 rfl ?_
  refine go_iconst 1 dX8_fill_2 (by decide) ?_
  refine go_bipush 30 dX8_fill_3 (by decide) ?_
  refine go_stat1 dX8_fill_5 (m_within l) s_X8_33 kc_X8_within rfl rfl (Nat.le_of_ble_eq_true rfl) (Nat.le_of_ble_eq_true rfl) (Nat.le_of_ble_eq_true rfl) ?_
  refine go_if_eq_t 15 dX8_fill_8 (by decide) (by rw [wi_bad2 h]; rfl) ?_
  refine go_iconst 1 dX8_fill_15 (by decide) ?_
  refine go_goto 35 dX8_fill_16 (by decide) ?_
  refine go_virt1 dX8_fill_35 (m_refd l hp (a := nI sv) (b := rf) (y := y) (r := 1)) v_X8_29_7 rfl (mdW_ob hp) rfl (Nat.le_of_ble_eq_true rfl) (Nat.le_of_ble_eq_true rfl) (Nat.le_of_ble_eq_true rfl) ?_
  refine go_if_eq_f 43 dX8_fill_38 (by decide) (by decide) ?_
  refine go_iconst 0 dX8_fill_41 (by decide) ?_
  exact go_ireturn dX8_fill_42 rfl rfl
theorem m_fill_n1b (l : Launch) {w : MW} {p : Nat} {A P K T : Nat → Int32} {sv : Nat} {rf : Int32} {y : Int32 × Int32 × Int32 × Int32 × Int64} (hp : p + 4 < w.1) {c z : Int32} (hz : z < 0) : Ct l (.code yX8_fill cX8_fill 7 (some .int)) yX8_fill 7 0 0 [.ref p, .int c, .int z] (mdW w p A P K T (nI sv, rf, y)) (.inl (some (.int 0))) (mdW w p A P K T (nI sv, 1, y)) := by
  refine ct_of (by decide +kernel) (Nat.le_of_ble_eq_true rfl) ?_
  refine go_aload_n dX8_fill_0 rfl ?_
  refine go_iload_n dX8_fill_1 rfl ?_
  refine go_iconst 1 dX8_fill_2 (by decide) ?_
  refine go_bipush 30 dX8_fill_3 (by decide) ?_
  refine go_stat1 dX8_fill_5 (m_within l) s_X8_33 kc_X8_within rfl rfl (Nat.le_of_ble_eq_true rfl) (Nat.le_of_ble_eq_true rfl) (Nat.le_of_ble_eq_true rfl) ?_
  refine go_if_eq 15 dX8_fill_8 (by decide) (fun q8 => ?_) (fun q8 => ?_)
  · refine go_iconst 1 dX8_fill_15 (by decide) ?_
    refine go_goto 35 dX8_fill_16 (by decide) ?_
    refine go_virt1 dX8_fill_35 (m_refd l hp (a := nI sv) (b := rf) (y := y) (r := 1)) v_X8_29_7 rfl (mdW_ob hp) rfl (Nat.le_of_ble_eq_true rfl) (Nat.le_of_ble_eq_true rfl) (Nat.le_of_ble_eq_true rfl) ?_
    refine go_if_eq_f 43 dX8_fill_38 (by decide) (by decide) ?_
    refine go_iconst 0 dX8_fill_41 (by decide) ?_
    exact go_ireturn dX8_fill_42 rfl rfl
  · refine go_iload_n dX8_fill_11 rfl ?_
    refine go_if_ge_f 19 dX8_fill_12 (by decide) (Int32.not_le.mpr hz) ?_
    refine go_iconst 1 dX8_fill_15 (by decide) ?_
    refine go_goto 35 dX8_fill_16 (by decide) ?_
    refine go_virt1 dX8_fill_35 (m_refd l hp (a := nI sv) (b := rf) (y := y) (r := 1)) v_X8_29_7 rfl (mdW_ob hp) rfl (Nat.le_of_ble_eq_true rfl) (Nat.le_of_ble_eq_true rfl) (Nat.le_of_ble_eq_true rfl) ?_
    refine go_if_eq_f 43 dX8_fill_38 (by decide) (by decide) ?_
    refine go_iconst 0 dX8_fill_41 (by decide) ?_
    exact go_ireturn dX8_fill_42 rfl rfl
theorem m_fill_n2 (l : Launch) {w : MW} {p : Nat} {A P K T : Nat → Int32} {sv : Nat} {rf : Int32} {y : Int32 × Int32 × Int32 × Int32 × Int64} (hp : p + 4 < w.1) {n : Nat} (hW : mWF 7 A n) {c : Nat} {z : Int32} (h1 : 1 ≤ c) (h2 : c ≤ 30) (h3 : 30 < n + c) (hz : 0 ≤ z) : Ct l (.code yX8_fill cX8_fill 7 (some .int)) yX8_fill 7 0 0 [.ref p, .int (nI c), .int z] (mdW w p A P K T (nI sv, rf, y)) (.inl (some (.int 0))) (mdW w p A P K T (nI sv, 2, y)) := by
  refine ct_of (by decide +kernel) (Nat.le_of_ble_eq_true rfl) ?_
  have hn := hW.2.2.1
  have h180 := hW.2.1
  refine go_aload_n dX8_fill_0 rfl ?_
  refine go_iload_n dX8_fill_1 rfl ?_
  refine go_iconst 1 dX8_fill_2 (by decide) ?_
  refine go_bipush 30 dX8_fill_3 (by decide) ?_
  refine go_stat1 dX8_fill_5 (m_within l) s_X8_33 kc_X8_within rfl rfl (Nat.le_of_ble_eq_true rfl) (Nat.le_of_ble_eq_true rfl) (Nat.le_of_ble_eq_true rfl) ?_
  refine go_if_eq_f 15 dX8_fill_8 (by decide) (by rw [show (decide ((1 : Int32) ≤ nI c) && decide (nI c ≤ 30)) = true from wi_ok (a := 1) (m := 30) h1 h2 (by decide)]; decide) ?_
  refine go_iload_n dX8_fill_11 rfl ?_
  refine go_if_ge_t 19 dX8_fill_12 (by decide) (hz) ?_
  refine go_aload_n dX8_fill_19 rfl ?_
  refine go_virt1 dX8_fill_20 (m_many l hp) v_X8_95_7 rfl (mdW_ob hp) rfl (Nat.le_of_ble_eq_true rfl) (Nat.le_of_ble_eq_true rfl) (Nat.le_of_ble_eq_true rfl) ?_
  rw [h180]
  refine go_iload_n dX8_fill_23 rfl ?_
  refine go_iadd dX8_fill_24 ?_
  refine go_bipush 30 dX8_fill_25 (by decide) ?_
  refine go_icmp_le_f 34 dX8_fill_27 (by decide) (by rw [nI_add]; exact n_nle (b := 30) h3 (by omega)) ?_
  refine go_iconst 2 dX8_fill_30 (by decide) ?_
  refine go_goto 35 dX8_fill_31 (by decide) ?_
  refine go_virt1 dX8_fill_35 (m_refd l hp (a := nI sv) (b := rf) (y := y) (r := 2)) v_X8_29_7 rfl (mdW_ob hp) rfl (Nat.le_of_ble_eq_true rfl) (Nat.le_of_ble_eq_true rfl) (Nat.le_of_ble_eq_true rfl) ?_
  refine go_if_eq_f 43 dX8_fill_38 (by decide) (by decide) ?_
  refine go_iconst 0 dX8_fill_41 (by decide) ?_
  exact go_ireturn dX8_fill_42 rfl rfl
theorem m_would_y (l : Launch) {w : MW} {p : Nat} {A P K T : Nat → Int32} {sv : Nat} {rf : Int32} {y : Int32 × Int32 × Int32 × Int32 × Int64} (hp : p + 4 < w.1) {n : Nat} (hW : mWF 7 A n) {k c : Nat} {z : Int32} (hk : k < 3) (hc : c < 5) (hd : canA c z n A = true) : Ct l (.code yX8_wouldNeed cX8_wouldNeed 5 (some .int)) yX8_wouldNeed 9 0 0 [.ref p, .int (nI k), .int (nI c), .int z] (mdW w p A P K T (nI sv, rf, y)) (.inl (some (.int ((doA (1 <<< (nI k &&& 31)) c z n A) (181 + k) - A (181 + k))))) (mdW w p (cpyF (cpyF A K 0 0 184) (doA (1 <<< (nI k &&& 31)) c z n A) 0 0 184) P (cpyF A K 0 0 184) T (nI sv, 0, y)) := by
  refine ct_of (by decide +kernel) (Nat.le_of_ble_eq_true rfl) ?_
  have hn := hW.2.2.1
  have h180 := hW.2.1
  refine go_aload_n dX8_wouldNeed_0 rfl ?_
  refine go_iload_n dX8_wouldNeed_1 rfl ?_
  refine go_iconst 0 dX8_wouldNeed_2 (by decide) ?_
  refine go_iconst 2 dX8_wouldNeed_3 (by decide) ?_
  refine go_stat1 dX8_wouldNeed_4 (m_within l) s_X8_33 kc_X8_within rfl rfl (Nat.le_of_ble_eq_true rfl) (Nat.le_of_ble_eq_true rfl) (Nat.le_of_ble_eq_true rfl) ?_
  refine go_if_eq_f 23 dX8_wouldNeed_7 (by decide) (by rw [show (decide ((0 : Int32) ≤ nI k) && decide (nI k ≤ 2)) = true from wi_ok (a := 0) (m := 2) (by omega) (by omega) (by decide)]; decide) ?_
  refine go_iload_n dX8_wouldNeed_10 rfl ?_
  refine go_iconst 0 dX8_wouldNeed_11 (by decide) ?_
  refine go_iconst 4 dX8_wouldNeed_12 (by decide) ?_
  refine go_stat1 dX8_wouldNeed_13 (m_within l) s_X8_33 kc_X8_within rfl rfl (Nat.le_of_ble_eq_true rfl) (Nat.le_of_ble_eq_true rfl) (Nat.le_of_ble_eq_true rfl) ?_
  refine go_if_eq_f 23 dX8_wouldNeed_16 (by decide) (by rw [show (decide ((0 : Int32) ≤ nI c) && decide (nI c ≤ 4)) = true from wi_ok (a := 0) (m := 4) (by omega) (by omega) (by decide)]; decide) ?_
  refine go_iconst 0 dX8_wouldNeed_19 (by decide) ?_
  refine go_goto 24 dX8_wouldNeed_20 (by decide) ?_
  refine go_virt1 dX8_wouldNeed_24 (m_refd l hp (a := nI sv) (b := rf) (y := y) (r := 0)) v_X8_29_7 rfl (mdW_ob hp) rfl (Nat.le_of_ble_eq_true rfl) (Nat.le_of_ble_eq_true rfl) (Nat.le_of_ble_eq_true rfl) ?_
  refine go_if_eq_t 32 dX8_wouldNeed_27 (by decide) (by decide) ?_
  refine go_aload_n dX8_wouldNeed_32 rfl ?_
  refine go_iload_n dX8_wouldNeed_33 rfl ?_
  refine go_iload_n dX8_wouldNeed_34 rfl ?_
  refine go_virt1 dX8_wouldNeed_35 (m_canDo l hp (k := c) hc hn h180) v_X8_203_7 rfl (mdW_ob hp) rfl (Nat.le_of_ble_eq_true rfl) (Nat.le_of_ble_eq_true rfl) (Nat.le_of_ble_eq_true rfl) ?_
  refine go_if_ne_t 43 dX8_wouldNeed_38 (by decide) (by rw [hd]; decide) ?_
  refine go_aload_n dX8_wouldNeed_43 rfl ?_
  refine go_virt0 dX8_wouldNeed_44 (m_keeps l hp) v_X8_206_7 rfl (mdW_ob hp) rfl (Nat.le_of_ble_eq_true rfl) (Nat.le_of_ble_eq_true rfl) (Nat.le_of_ble_eq_true rfl) ?_
  refine go_aload_n dX8_wouldNeed_47 rfl ?_
  refine go_iload_n dX8_wouldNeed_48 rfl ?_
  refine go_iload_n dX8_wouldNeed_49 rfl ?_
  refine go_iconst 1 dX8_wouldNeed_50 (by decide) ?_
  refine go_iload_n dX8_wouldNeed_51 rfl ?_
  refine go_ishl dX8_wouldNeed_52 ?_
  refine go_virt0 dX8_wouldNeed_53 (m_does l hp (k := c) (q := (1 <<< (nI k &&& 31))) hc hW hd) v_X8_209_7 rfl (mdW_ob hp) rfl (Nat.le_of_ble_eq_true rfl) (Nat.le_of_ble_eq_true rfl) (Nat.le_of_ble_eq_true rfl) ?_
  refine go_aload_n dX8_wouldNeed_56 rfl ?_
  refine go_getfield dX8_wouldNeed_57 f_X8_7_7 (mdW_ob hp) rfl ?_
  refine go_sipush 181 dX8_wouldNeed_60 (by decide) ?_
  refine go_iload_n dX8_wouldNeed_63 rfl ?_
  refine go_iadd dX8_wouldNeed_64 ?_
  refine go_iaload (181 + k) dX8_wouldNeed_65 (mdW_A hp) (nI_add 181 k) (by omega) (by decide) ?_
  refine go_aload_n dX8_wouldNeed_66 rfl ?_
  refine go_getfield dX8_wouldNeed_67 f_X8_16_7 (mdW_ob hp) rfl ?_
  refine go_sipush 181 dX8_wouldNeed_70 (by decide) ?_
  refine go_iload_n dX8_wouldNeed_73 rfl ?_
  refine go_iadd dX8_wouldNeed_74 ?_
  refine go_iaload (181 + k) dX8_wouldNeed_75 (mdW_K hp) (nI_add 181 k) (by omega) (by decide) ?_
  rw [show cpyF A K 0 0 184 (181 + k) = A (181 + k) from by rw [cpyF_i (by omega), Nat.sub_zero, Nat.zero_add]]
  refine go_isub dX8_wouldNeed_76 ?_
  refine go_istore dX8_wouldNeed_77 (Nat.le_of_ble_eq_true rfl) rfl ?_
  refine go_aload_n dX8_wouldNeed_79 rfl ?_
  refine go_virt0 dX8_wouldNeed_80 (m_returns l hp) v_X8_212_7 rfl (mdW_ob hp) rfl (Nat.le_of_ble_eq_true rfl) (Nat.le_of_ble_eq_true rfl) (Nat.le_of_ble_eq_true rfl) ?_
  refine go_iload dX8_wouldNeed_83 rfl ?_
  exact go_ireturn dX8_wouldNeed_85 rfl rfl
theorem m_would_0 (l : Launch) {w : MW} {p : Nat} {A P K T : Nat → Int32} {sv : Nat} {rf : Int32} {y : Int32 × Int32 × Int32 × Int32 × Int64} (hp : p + 4 < w.1) {n : Nat} (hW : mWF 7 A n) {k c : Nat} {z : Int32} (hk : k < 3) (hc : c < 5) (hd : canA c z n A = false) : Ct l (.code yX8_wouldNeed cX8_wouldNeed 5 (some .int)) yX8_wouldNeed 9 0 0 [.ref p, .int (nI k), .int (nI c), .int z] (mdW w p A P K T (nI sv, rf, y)) (.inl (some (.int (-1)))) (mdW w p A P K T (nI sv, 0, y)) := by
  refine ct_of (by decide +kernel) (Nat.le_of_ble_eq_true rfl) ?_
  have hn := hW.2.2.1
  have h180 := hW.2.1
  refine go_aload_n dX8_wouldNeed_0 rfl ?_
  refine go_iload_n dX8_wouldNeed_1 rfl ?_
  refine go_iconst 0 dX8_wouldNeed_2 (by decide) ?_
  refine go_iconst 2 dX8_wouldNeed_3 (by decide) ?_
  refine go_stat1 dX8_wouldNeed_4 (m_within l) s_X8_33 kc_X8_within rfl rfl (Nat.le_of_ble_eq_true rfl) (Nat.le_of_ble_eq_true rfl) (Nat.le_of_ble_eq_true rfl) ?_
  refine go_if_eq_f 23 dX8_wouldNeed_7 (by decide) (by rw [show (decide ((0 : Int32) ≤ nI k) && decide (nI k ≤ 2)) = true from wi_ok (a := 0) (m := 2) (by omega) (by omega) (by decide)]; decide) ?_
  refine go_iload_n dX8_wouldNeed_10 rfl ?_
  refine go_iconst 0 dX8_wouldNeed_11 (by decide) ?_
  refine go_iconst 4 dX8_wouldNeed_12 (by decide) ?_
  refine go_stat1 dX8_wouldNeed_13 (m_within l) s_X8_33 kc_X8_within rfl rfl (Nat.le_of_ble_eq_true rfl) (Nat.le_of_ble_eq_true rfl) (Nat.le_of_ble_eq_true rfl) ?_
  refine go_if_eq_f 23 dX8_wouldNeed_16 (by decide) (by rw [show (decide ((0 : Int32) ≤ nI c) && decide (nI c ≤ 4)) = true from wi_ok (a := 0) (m := 4) (by omega) (by omega) (by decide)]; decide) ?_
  refine go_iconst 0 dX8_wouldNeed_19 (by decide) ?_
  refine go_goto 24 dX8_wouldNeed_20 (by decide) ?_
  refine go_virt1 dX8_wouldNeed_24 (m_refd l hp (a := nI sv) (b := rf) (y := y) (r := 0)) v_X8_29_7 rfl (mdW_ob hp) rfl (Nat.le_of_ble_eq_true rfl) (Nat.le_of_ble_eq_true rfl) (Nat.le_of_ble_eq_true rfl) ?_
  refine go_if_eq_t 32 dX8_wouldNeed_27 (by decide) (by decide) ?_
  refine go_aload_n dX8_wouldNeed_32 rfl ?_
  refine go_iload_n dX8_wouldNeed_33 rfl ?_
  refine go_iload_n dX8_wouldNeed_34 rfl ?_
  refine go_virt1 dX8_wouldNeed_35 (m_canDo l hp (k := c) hc hn h180) v_X8_203_7 rfl (mdW_ob hp) rfl (Nat.le_of_ble_eq_true rfl) (Nat.le_of_ble_eq_true rfl) (Nat.le_of_ble_eq_true rfl) ?_
  refine go_if_ne_f 43 dX8_wouldNeed_38 (by decide) (by rw [hd]; rfl) ?_
  refine go_iconst (-1) dX8_wouldNeed_41 (by decide) ?_
  exact go_ireturn dX8_wouldNeed_42 rfl rfl
theorem m_would_n1 (l : Launch) {w : MW} {p : Nat} {A P K T : Nat → Int32} {sv : Nat} {rf : Int32} {y : Int32 × Int32 × Int32 × Int32 × Int64} (hp : p + 4 < w.1) {a b z : Int32} (h : a < 0 ∨ 3 ≤ a) : Ct l (.code yX8_wouldNeed cX8_wouldNeed 5 (some .int)) yX8_wouldNeed 9 0 0 [.ref p, .int a, .int b, .int z] (mdW w p A P K T (nI sv, rf, y)) (.inl (some (.int 0))) (mdW w p A P K T (nI sv, 1, y)) := by
  refine ct_of (by decide +kernel) (Nat.le_of_ble_eq_true rfl) ?_
  refine go_aload_n dX8_wouldNeed_0 rfl ?_
  refine go_iload_n dX8_wouldNeed_1 rfl ?_
  refine go_iconst 0 dX8_wouldNeed_2 (by decide) ?_
  refine go_iconst 2 dX8_wouldNeed_3 (by decide) ?_
  refine go_stat1 dX8_wouldNeed_4 (m_within l) s_X8_33 kc_X8_within rfl rfl (Nat.le_of_ble_eq_true rfl) (Nat.le_of_ble_eq_true rfl) (Nat.le_of_ble_eq_true rfl) ?_
  refine go_if_eq_t 23 dX8_wouldNeed_7 (by decide) (by rw [wi_bad (hj := 3) (by decide) h]; rfl) ?_
  refine go_iconst 1 dX8_wouldNeed_23 (by decide) ?_
  refine go_virt1 dX8_wouldNeed_24 (m_refd l hp (a := nI sv) (b := rf) (y := y) (r := 1)) v_X8_29_7 rfl (mdW_ob hp) rfl (Nat.le_of_ble_eq_true rfl) (Nat.le_of_ble_eq_true rfl) (Nat.le_of_ble_eq_true rfl) ?_
  refine go_if_eq_f 32 dX8_wouldNeed_27 (by decide) (by decide) ?_
  refine go_iconst 0 dX8_wouldNeed_30 (by decide) ?_
  exact go_ireturn dX8_wouldNeed_31 rfl rfl
theorem m_would_n2 (l : Launch) {w : MW} {p : Nat} {A P K T : Nat → Int32} {sv : Nat} {rf : Int32} {y : Int32 × Int32 × Int32 × Int32 × Int64} (hp : p + 4 < w.1) {k : Nat} {b z : Int32} (hk : k < 3) (h : b < 0 ∨ 4 < b) : Ct l (.code yX8_wouldNeed cX8_wouldNeed 5 (some .int)) yX8_wouldNeed 9 0 0 [.ref p, .int (nI k), .int b, .int z] (mdW w p A P K T (nI sv, rf, y)) (.inl (some (.int 0))) (mdW w p A P K T (nI sv, 1, y)) := by
  refine ct_of (by decide +kernel) (Nat.le_of_ble_eq_true rfl) ?_
  refine go_aload_n dX8_wouldNeed_0 rfl ?_
  refine go_iload_n dX8_wouldNeed_1 rfl ?_
  refine go_iconst 0 dX8_wouldNeed_2 (by decide) ?_
  refine go_iconst 2 dX8_wouldNeed_3 (by decide) ?_
  refine go_stat1 dX8_wouldNeed_4 (m_within l) s_X8_33 kc_X8_within rfl rfl (Nat.le_of_ble_eq_true rfl) (Nat.le_of_ble_eq_true rfl) (Nat.le_of_ble_eq_true rfl) ?_
  refine go_if_eq_f 23 dX8_wouldNeed_7 (by decide) (by rw [show (decide ((0 : Int32) ≤ nI k) && decide (nI k ≤ 2)) = true from wi_ok (a := 0) (m := 2) (by omega) (by omega) (by decide)]; decide) ?_
  refine go_iload_n dX8_wouldNeed_10 rfl ?_
  refine go_iconst 0 dX8_wouldNeed_11 (by decide) ?_
  refine go_iconst 4 dX8_wouldNeed_12 (by decide) ?_
  refine go_stat1 dX8_wouldNeed_13 (m_within l) s_X8_33 kc_X8_within rfl rfl (Nat.le_of_ble_eq_true rfl) (Nat.le_of_ble_eq_true rfl) (Nat.le_of_ble_eq_true rfl) ?_
  refine go_if_eq_t 23 dX8_wouldNeed_16 (by decide) (by rw [wi_bad2 h]; rfl) ?_
  refine go_iconst 1 dX8_wouldNeed_23 (by decide) ?_
  refine go_virt1 dX8_wouldNeed_24 (m_refd l hp (a := nI sv) (b := rf) (y := y) (r := 1)) v_X8_29_7 rfl (mdW_ob hp) rfl (Nat.le_of_ble_eq_true rfl) (Nat.le_of_ble_eq_true rfl) (Nat.le_of_ble_eq_true rfl) ?_
  refine go_if_eq_f 32 dX8_wouldNeed_27 (by decide) (by decide) ?_
  refine go_iconst 0 dX8_wouldNeed_30 (by decide) ?_
  exact go_ireturn dX8_wouldNeed_31 rfl rfl
theorem m_sort_27 (l : Launch) {w : MW} {p : Nat} {P K T : Nat → Int32} {x0 : XS} (hp : p + 4 < w.1) {k : Nat} (hk : k < 3) {PA : Nat → (Nat → Int32) → Prop} (hP : ∀ n A, PA n A → mWF (1 <<< (nI k &&& 31)) A n) (hS : ∀ n A, PA (n + 1) A → PA n (goF (1 <<< (nI k &&& 31)) (n + 1) (lsA A (n + 1) k).toNatClampNeg A)) : ∀ (u : Nat) (A : Nat → Int32), PA u A → Go l yX8_sortingNeeds cX8_sortingNeeds 3 (some .int) [] none (mm_Z (mm_eq (.inl (some (.int ((soA (1 <<< (nI k &&& 31)) k u A) (181 + k) - K (181 + k))))) (mdW w p (cpyF K (soA (1 <<< (nI k &&& 31)) k u A) 0 0 184) P K T x0))) 7 0 0 27 [(0, .ref p), (1, .int (nI k))] [] (mdW w p A P K T x0) := by
  intro u
  induction u with
  | zero =>
    intro A hA
    have hW := hP 0 A hA
    rw [soA]
    refine go_aload_n dX8_sortingNeeds_27 rfl ?_
    refine go_virt1 dX8_sortingNeeds_28 (m_many l hp) v_X8_95_7 rfl (mdW_ob hp) rfl (Nat.le_of_ble_eq_true rfl) (Nat.le_of_ble_eq_true rfl) (Nat.le_of_ble_eq_true rfl) ?_
    rw [hW.2.1]
    refine go_if_le_t 49 dX8_sortingNeeds_31 (by decide) (by decide) ?_
    refine go_aload_n dX8_sortingNeeds_49 rfl ?_
    refine go_getfield dX8_sortingNeeds_50 f_X8_7_7 (mdW_ob hp) rfl ?_
    refine go_sipush 181 dX8_sortingNeeds_53 (by decide) ?_
    refine go_iload_n dX8_sortingNeeds_56 rfl ?_
    refine go_iadd dX8_sortingNeeds_57 ?_
    refine go_iaload (181 + k) dX8_sortingNeeds_58 (mdW_A hp) (nI_add 181 k) (by omega) (by decide) ?_
    refine go_aload_n dX8_sortingNeeds_59 rfl ?_
    refine go_getfield dX8_sortingNeeds_60 f_X8_16_7 (mdW_ob hp) rfl ?_
    refine go_sipush 181 dX8_sortingNeeds_63 (by decide) ?_
    refine go_iload_n dX8_sortingNeeds_66 rfl ?_
    refine go_iadd dX8_sortingNeeds_67 ?_
    refine go_iaload (181 + k) dX8_sortingNeeds_68 (mdW_K hp) (nI_add 181 k) (by omega) (by decide) ?_
    refine go_isub dX8_sortingNeeds_69 ?_
    refine go_istore_n dX8_sortingNeeds_70 (Nat.le_of_ble_eq_true rfl) rfl ?_
    refine go_aload_n dX8_sortingNeeds_71 rfl ?_
    refine go_virt0 dX8_sortingNeeds_72 (m_returns l hp) v_X8_212_7 rfl (mdW_ob hp) rfl (Nat.le_of_ble_eq_true rfl) (Nat.le_of_ble_eq_true rfl) (Nat.le_of_ble_eq_true rfl) ?_
    refine go_iload_n dX8_sortingNeeds_75 rfl ?_
    exact go_ireturn dX8_sortingNeeds_76 rfl rfl
  | succ u ih =>
    intro A hA
    have hW := hP (u + 1) A hA
    have hn := hW.2.2.1
    obtain ⟨j, hj, ej, ht⟩ := lsA_tk hW (k := k) (by omega) (by rw [mskB_q hk (by omega)]; exact decide_eq_true (show cq k = k from by unfold cq; split <;> omega)) (by omega)
    have hS1 := hS u A hA
    rw [soA]
    rw [ej, nI_clamp (by omega)] at hS1
    rw [ej, nI_clamp (by omega)]
    refine go_aload_n dX8_sortingNeeds_27 rfl ?_
    refine go_virt1 dX8_sortingNeeds_28 (m_many l hp) v_X8_95_7 rfl (mdW_ob hp) rfl (Nat.le_of_ble_eq_true rfl) (Nat.le_of_ble_eq_true rfl) (Nat.le_of_ble_eq_true rfl) ?_
    rw [hW.2.1]
    refine go_if_le_f 49 dX8_sortingNeeds_31 (by decide) (n_le0 (by omega) (by omega)) ?_
    refine go_aload_n dX8_sortingNeeds_34 rfl ?_
    refine go_aload_n dX8_sortingNeeds_35 rfl ?_
    refine go_iload_n dX8_sortingNeeds_36 rfl ?_
    refine go_virt1 dX8_sortingNeeds_37 (m_leastOf l hp (k := k) (by omega) hn hW.2.1) v_X8_147_7 rfl (mdW_ob hp) rfl (Nat.le_of_ble_eq_true rfl) (Nat.le_of_ble_eq_true rfl) (Nat.le_of_ble_eq_true rfl) ?_
    rw [ej]
    refine go_iconst 1 dX8_sortingNeeds_40 (by decide) ?_
    refine go_iload_n dX8_sortingNeeds_41 rfl ?_
    refine go_ishl dX8_sortingNeeds_42 ?_
    refine go_virt0 dX8_sortingNeeds_43 (m_goes l hp (q := (1 <<< (nI k &&& 31))) (n := u + 1) (by omega) hn hj hW.2.1 hW.1 (mWF_hf hW hj ht)) v_X8_150_7 rfl (mdW_ob hp) rfl (Nat.le_of_ble_eq_true rfl) (Nat.le_of_ble_eq_true rfl) (Nat.le_of_ble_eq_true rfl) ?_
    refine go_goto 27 dX8_sortingNeeds_46 (by decide) ?_
    exact ih (goF (1 <<< (nI k &&& 31)) (u + 1) j A) hS1
theorem m_sort_y (l : Launch) {w : MW} {p : Nat} {A P K T : Nat → Int32} {sv : Nat} {rf : Int32} {y : Int32 × Int32 × Int32 × Int32 × Int64} (hp : p + 4 < w.1) {k n : Nat} (hk : k < 3) {PA : Nat → (Nat → Int32) → Prop} (hP : ∀ n A, PA n A → mWF (1 <<< (nI k &&& 31)) A n) (hS : ∀ n A, PA (n + 1) A → PA n (goF (1 <<< (nI k &&& 31)) (n + 1) (lsA A (n + 1) k).toNatClampNeg A)) (hA : PA n A) : Ct l (.code yX8_sortingNeeds cX8_sortingNeeds 3 (some .int)) yX8_sortingNeeds 7 0 0 [.ref p, .int (nI k)] (mdW w p A P K T (nI sv, rf, y)) (.inl (some (.int (soA (1 <<< (nI k &&& 31)) k n A (181 + k) - (cpyF A K 0 0 184) (181 + k))))) (mdW w p (cpyF (cpyF A K 0 0 184) (soA (1 <<< (nI k &&& 31)) k n A) 0 0 184) P (cpyF A K 0 0 184) T (nI sv, 0, y)) := by
  refine ct_of (by decide +kernel) (Nat.le_of_ble_eq_true rfl) ?_
  refine go_aload_n dX8_sortingNeeds_0 rfl ?_
  refine go_iload_n dX8_sortingNeeds_1 rfl ?_
  refine go_iconst 0 dX8_sortingNeeds_2 (by decide) ?_
  refine go_iconst 2 dX8_sortingNeeds_3 (by decide) ?_
  refine go_stat1 dX8_sortingNeeds_4 (m_within l) s_X8_33 kc_X8_within rfl rfl (Nat.le_of_ble_eq_true rfl) (Nat.le_of_ble_eq_true rfl) (Nat.le_of_ble_eq_true rfl) ?_
  refine go_if_eq_f 14 dX8_sortingNeeds_7 (by decide) (by rw [show (decide ((0 : Int32) ≤ nI k) && decide (nI k ≤ 2)) = true from wi_ok (a := 0) (m := 2) (by omega) (by omega) (by decide)]; decide) ?_
  refine go_iconst 0 dX8_sortingNeeds_10 (by decide) ?_
  refine go_goto 15 dX8_sortingNeeds_11 (by decide) ?_
  refine go_virt1 dX8_sortingNeeds_15 (m_refd l hp (a := nI sv) (b := rf) (y := y) (r := 0)) v_X8_29_7 rfl (mdW_ob hp) rfl (Nat.le_of_ble_eq_true rfl) (Nat.le_of_ble_eq_true rfl) (Nat.le_of_ble_eq_true rfl) ?_
  refine go_if_eq_t 23 dX8_sortingNeeds_18 (by decide) (by decide) ?_
  refine go_aload_n dX8_sortingNeeds_23 rfl ?_
  refine go_virt0 dX8_sortingNeeds_24 (m_keeps l hp) v_X8_206_7 rfl (mdW_ob hp) rfl (Nat.le_of_ble_eq_true rfl) (Nat.le_of_ble_eq_true rfl) (Nat.le_of_ble_eq_true rfl) ?_
  exact go_sub [(0, .ref p), (1, .int (nI k))] ⟨rfl, rfl, trivial⟩ (m_sort_27 l hp hk hP hS n A hA)
theorem m_sort_n (l : Launch) {w : MW} {p : Nat} {A P K T : Nat → Int32} {sv : Nat} {rf : Int32} {y : Int32 × Int32 × Int32 × Int32 × Int64} (hp : p + 4 < w.1) {z : Int32} (h : z < 0 ∨ 3 ≤ z) : Ct l (.code yX8_sortingNeeds cX8_sortingNeeds 3 (some .int)) yX8_sortingNeeds 7 0 0 [.ref p, .int z] (mdW w p A P K T (nI sv, rf, y)) (.inl (some (.int 0))) (mdW w p A P K T (nI sv, 1, y)) := by
  refine ct_of (by decide +kernel) (Nat.le_of_ble_eq_true rfl) ?_
  refine go_aload_n dX8_sortingNeeds_0 rfl ?_
  refine go_iload_n dX8_sortingNeeds_1 rfl ?_
  refine go_iconst 0 dX8_sortingNeeds_2 (by decide) ?_
  refine go_iconst 2 dX8_sortingNeeds_3 (by decide) ?_
  refine go_stat1 dX8_sortingNeeds_4 (m_within l) s_X8_33 kc_X8_within rfl rfl (Nat.le_of_ble_eq_true rfl) (Nat.le_of_ble_eq_true rfl) (Nat.le_of_ble_eq_true rfl) ?_
  refine go_if_eq_t 14 dX8_sortingNeeds_7 (by decide) (by rw [wi_bad (hj := 3) (by decide) h]; rfl) ?_
  refine go_iconst 1 dX8_sortingNeeds_14 (by decide) ?_
  refine go_virt1 dX8_sortingNeeds_15 (m_refd l hp (a := nI sv) (b := rf) (y := y) (r := 1)) v_X8_29_7 rfl (mdW_ob hp) rfl (Nat.le_of_ble_eq_true rfl) (Nat.le_of_ble_eq_true rfl) (Nat.le_of_ble_eq_true rfl) ?_
  refine go_if_eq_f 23 dX8_sortingNeeds_18 (by decide) (by decide) ?_
  refine go_iconst 0 dX8_sortingNeeds_21 (by decide) ?_
  exact go_ireturn dX8_sortingNeeds_22 rfl rfl
theorem tI_upd {t : Nat → Nat} {j k : Nat} : upd (tI t) j (nI k) = tI (updN t j k) := by
  funext i
  simp only [upd, tI, updN]
  by_cases e : i = j
  · rw [if_pos e, if_pos e]
  · rw [if_neg e, if_neg e]
theorem m_type_y (l : Launch) {w : MW} {p : Nat} {A P K : Nat → Int32} {t : Nat → Nat} {sv ln : Nat} {rf pl wr dn : Int32} {ha : Int64} (hp : p + 4 < w.1) {k : Nat} (h1 : 32 ≤ k) (h2 : k ≤ 126) (hl : ln < 120) : Ct l (.code yX8_type cX8_type 2 (some .int)) yX8_type 1 0 0 [.ref p, .int (nI k)] (mdW w p A P K (tI t) (nI sv, rf, nI ln, pl, wr, dn, ha)) (.inl (some (.int (nI (ln + 1))))) (mdW w p A P K (tI (updN t ln k)) (nI sv, 0, nI (ln + 1), pl, wr, dn, ha)) := by
  refine ct_of (by decide +kernel) (Nat.le_of_ble_eq_true rfl) ?_
  refine go_aload_n dX8_type_0 rfl ?_
  refine go_iload_n dX8_type_1 rfl ?_
  refine go_bipush 32 dX8_type_2 (by decide) ?_
  refine go_bipush 126 dX8_type_4 (by decide) ?_
  refine go_stat1 dX8_type_6 (m_within l) s_X8_33 kc_X8_within rfl rfl (Nat.le_of_ble_eq_true rfl) (Nat.le_of_ble_eq_true rfl) (Nat.le_of_ble_eq_true rfl) ?_
  refine go_if_ne_t 16 dX8_type_9 (by decide) (by rw [show (decide ((32 : Int32) ≤ nI k) && decide (nI k ≤ 126)) = true from wi_ok (a := 32) (m := 126) h1 h2 (by decide)]; decide) ?_
  refine go_aload_n dX8_type_16 rfl ?_
  refine go_getfield dX8_type_17 f_X8_215_7 (mdW_ob hp) rfl ?_
  refine go_bipush 120 dX8_type_20 (by decide) ?_
  refine go_icmp_ne_t 29 dX8_type_22 (by decide) (n_ne (a := ln) (b := 120) (by omega) (by omega) (by decide)) ?_
  refine go_iconst 0 dX8_type_29 (by decide) ?_
  refine go_virt1 dX8_type_30 (m_refd l hp (a := nI sv) (b := rf) (y := (nI ln, pl, wr, dn, ha)) (r := 0)) v_X8_29_7 rfl (mdW_ob hp) rfl (Nat.le_of_ble_eq_true rfl) (Nat.le_of_ble_eq_true rfl) (Nat.le_of_ble_eq_true rfl) ?_
  refine go_if_eq_t 38 dX8_type_33 (by decide) (by decide) ?_
  refine go_aload_n dX8_type_38 rfl ?_
  refine go_getfield dX8_type_39 f_X8_19_7 (mdW_ob hp) rfl ?_
  refine go_aload_n dX8_type_42 rfl ?_
  refine go_getfield dX8_type_43 f_X8_215_7 (mdW_ob hp) rfl ?_
  refine go_iload_n dX8_type_46 rfl ?_
  refine go_iastore ln dX8_type_47 (mdW_T hp) rfl (by omega) (by decide) ?_
  refine go_w _ ((mdW_uT _).trans (by rw [tI_upd])) ?_
  refine go_aload_n dX8_type_48 rfl ?_
  refine go_dup dX8_type_49 rfl ?_
  refine go_getfield dX8_type_50 f_X8_215_7 (mdW_ob hp) rfl ?_
  refine go_iconst 1 dX8_type_53 (by decide) ?_
  refine go_iadd dX8_type_54 ?_
  refine go_top (.int (nI (ln + 1))) (congrArg Value.int (nI_1 ln)) ?_
  refine go_putfield dX8_type_55 p_X8_215_7 (mdW_ob hp) (Nat.le_of_ble_eq_true rfl) (fun _ => ⟨rfl, rfl⟩) (fun _ z => nomatch z) ?_
  refine go_w _ (mdW_uX (nI sv, 0, nI (ln + 1), pl, wr, dn, ha)) ?_
  refine go_aload_n dX8_type_58 rfl ?_
  refine go_getfield dX8_type_59 f_X8_215_7 (mdW_ob hp) rfl ?_
  exact go_ireturn dX8_type_62 rfl rfl
theorem m_type_n1 (l : Launch) {w : MW} {p : Nat} {A P K : Nat → Int32} {t : Nat → Nat} {sv ln : Nat} {rf pl wr dn : Int32} {ha : Int64} (hp : p + 4 < w.1) {z : Int32} (h : z < 32 ∨ 126 < z) : Ct l (.code yX8_type cX8_type 2 (some .int)) yX8_type 1 0 0 [.ref p, .int z] (mdW w p A P K (tI t) (nI sv, rf, nI ln, pl, wr, dn, ha)) (.inl (some (.int 0))) (mdW w p A P K (tI t) (nI sv, 1, nI ln, pl, wr, dn, ha)) := by
  refine ct_of (by decide +kernel) (Nat.le_of_ble_eq_true rfl) ?_
  refine go_aload_n dX8_type_0 rfl ?_
  refine go_iload_n dX8_type_1 rfl ?_
  refine go_bipush 32 dX8_type_2 (by decide) ?_
  refine go_bipush 126 dX8_type_4 (by decide) ?_
  refine go_stat1 dX8_type_6 (m_within l) s_X8_33 kc_X8_within rfl rfl (Nat.le_of_ble_eq_true rfl) (Nat.le_of_ble_eq_true rfl) (Nat.le_of_ble_eq_true rfl) ?_
  refine go_if_ne_f 16 dX8_type_9 (by decide) (by rw [wi_bad2 h]; rfl) ?_
  refine go_iconst 1 dX8_type_12 (by decide) ?_
  refine go_goto 30 dX8_type_13 (by decide) ?_
  refine go_virt1 dX8_type_30 (m_refd l hp (a := nI sv) (b := rf) (y := (nI ln, pl, wr, dn, ha)) (r := 1)) v_X8_29_7 rfl (mdW_ob hp) rfl (Nat.le_of_ble_eq_true rfl) (Nat.le_of_ble_eq_true rfl) (Nat.le_of_ble_eq_true rfl) ?_
  refine go_if_eq_f 38 dX8_type_33 (by decide) (by decide) ?_
  refine go_iconst 0 dX8_type_36 (by decide) ?_
  exact go_ireturn dX8_type_37 rfl rfl
theorem m_type_n2 (l : Launch) {w : MW} {p : Nat} {A P K : Nat → Int32} {t : Nat → Nat} {sv ln : Nat} {rf pl wr dn : Int32} {ha : Int64} (hp : p + 4 < w.1) {z : Int32} (h1 : ¬ z < 32) (h2 : z ≤ 126) (hl : ln = 120) : Ct l (.code yX8_type cX8_type 2 (some .int)) yX8_type 1 0 0 [.ref p, .int z] (mdW w p A P K (tI t) (nI sv, rf, nI ln, pl, wr, dn, ha)) (.inl (some (.int 0))) (mdW w p A P K (tI t) (nI sv, 2, nI ln, pl, wr, dn, ha)) := by
  refine ct_of (by decide +kernel) (Nat.le_of_ble_eq_true rfl) ?_
  refine go_aload_n dX8_type_0 rfl ?_
  refine go_iload_n dX8_type_1 rfl ?_
  refine go_bipush 32 dX8_type_2 (by decide) ?_
  refine go_bipush 126 dX8_type_4 (by decide) ?_
  refine go_stat1 dX8_type_6 (m_within l) s_X8_33 kc_X8_within rfl rfl (Nat.le_of_ble_eq_true rfl) (Nat.le_of_ble_eq_true rfl) (Nat.le_of_ble_eq_true rfl) ?_
  refine go_if_ne_t 16 dX8_type_9 (by decide) (by rw [decide_eq_true (Int32.not_lt.mp h1), decide_eq_true h2]; decide) ?_
  refine go_aload_n dX8_type_16 rfl ?_
  refine go_getfield dX8_type_17 f_X8_215_7 (mdW_ob hp) rfl ?_
  refine go_bipush 120 dX8_type_20 (by decide) ?_
  refine go_icmp_ne_f 29 dX8_type_22 (by decide) (by show nI ln = 120; rw [hl]; rfl) ?_
  refine go_iconst 2 dX8_type_25 (by decide) ?_
  refine go_goto 30 dX8_type_26 (by decide) ?_
  refine go_virt1 dX8_type_30 (m_refd l hp (a := nI sv) (b := rf) (y := (nI ln, pl, wr, dn, ha)) (r := 2)) v_X8_29_7 rfl (mdW_ob hp) rfl (Nat.le_of_ble_eq_true rfl) (Nat.le_of_ble_eq_true rfl) (Nat.le_of_ble_eq_true rfl) ?_
  refine go_if_eq_f 38 dX8_type_33 (by decide) (by decide) ?_
  refine go_iconst 0 dX8_type_36 (by decide) ?_
  exact go_ireturn dX8_type_37 rfl rfl
theorem m_clearText (l : Launch) {w : MW} {p : Nat} {A P K : Nat → Int32} {t : Nat → Nat} {sv ln : Nat} {rf pl wr dn : Int32} {ha : Int64} (hp : p + 4 < w.1) : Ct l (.code yX8_clearText cX8_clearText 2 (some .int)) yX8_clearText 0 0 0 [.ref p] (mdW w p A P K (tI t) (nI sv, rf, nI ln, pl, wr, dn, ha)) (.inl (some (.int (nI ln)))) (mdW w p A P K (tI t) (nI sv, 0, nI 0, pl, wr, dn, ha)) := by
  refine ct_of (by decide +kernel) (Nat.le_of_ble_eq_true rfl) ?_
  refine go_aload_n dX8_clearText_0 rfl ?_
  refine go_iconst 0 dX8_clearText_1 (by decide) ?_
  refine go_putfield dX8_clearText_2 p_X8_22_7 (mdW_ob hp) (Nat.le_of_ble_eq_true rfl) (fun _ => ⟨rfl, rfl⟩) (fun _ z => nomatch z) ?_
  refine go_w _ (mdW_uX (nI sv, 0, nI ln, pl, wr, dn, ha)) ?_
  refine go_aload_n dX8_clearText_5 rfl ?_
  refine go_getfield dX8_clearText_6 f_X8_215_7 (mdW_ob hp) rfl ?_
  refine go_istore_n dX8_clearText_9 (Nat.le_of_ble_eq_true rfl) rfl ?_
  refine go_aload_n dX8_clearText_10 rfl ?_
  refine go_iconst 0 dX8_clearText_11 (by decide) ?_
  refine go_putfield dX8_clearText_12 p_X8_215_7 (mdW_ob hp) (Nat.le_of_ble_eq_true rfl) (fun _ => ⟨rfl, rfl⟩) (fun _ z => nomatch z) ?_
  refine go_w _ (mdW_uX (nI sv, 0, nI 0, pl, wr, dn, ha)) ?_
  refine go_iload_n dX8_clearText_15 rfl ?_
  exact go_ireturn dX8_clearText_16 rfl rfl
theorem m_fault (l : Launch) {w : MW} {p : Nat} {A P K : Nat → Int32} {t : Nat → Nat} {sv ln : Nat} {rf pl wr dn : Int32} {ha : Int64} (hp : p + 4 < w.1) (hl : ln ≤ 120) (ht : ∀ i, t i < 128) : Ct l (.code yX8_fault cX8_fault 1 (some .int)) yX8_fault 11 0 0 [.ref p] (mdW w p A P K (tI t) (nI sv, rf, nI ln, pl, wr, dn, ha)) (.inl (some (.int (wrI (mFlt t ln 120 0).1 (mFlt t ln 120 0).2)))) (mdW w p A P K (tI t) (nI sv, 0, nI ln, (nI (mFlt t ln 120 0).2), (wrI (mFlt t ln 120 0).1 (mFlt t ln 120 0).2), 0, ha)) := by
  refine ct_of (by decide +kernel) (Nat.le_of_ble_eq_true rfl) ?_
  refine go_aload_n dX8_fault_0 rfl ?_
  refine go_iconst 0 dX8_fault_1 (by decide) ?_
  refine go_putfield dX8_fault_2 p_X8_22_7 (mdW_ob hp) (Nat.le_of_ble_eq_true rfl) (fun _ => ⟨rfl, rfl⟩) (fun _ z => nomatch z) ?_
  refine go_w _ (mdW_uX (nI sv, 0, nI ln, pl, wr, dn, ha)) ?_
  refine go_aload_n dX8_fault_5 rfl ?_
  refine go_iconst 0 dX8_fault_6 (by decide) ?_
  refine go_virt1 dX8_fault_7 (m_readsF l hp hl ht) v_X8_242_7 rfl (mdW_ob hp) rfl (Nat.le_of_ble_eq_true rfl) (Nat.le_of_ble_eq_true rfl) (Nat.le_of_ble_eq_true rfl) ?_
  exact go_ireturn dX8_fault_10 rfl rfl
theorem mFlt_le {t : Nat → Nat} {ln : Nat} (u c : Nat) (h : c ≤ ln) : (mFlt t ln u c).2 ≤ ln := by
  induction u generalizing c with
  | zero => exact h
  | succ u ih =>
    rw [mFlt]
    split
    · rename_i z
      have hm := mCmd_le (t := t) z
      split
      · exact ih _ hm.1
      · exact hm.1
    · exact h
theorem m_run_y (l : Launch) {w : MW} {p : Nat} {A P K : Nat → Int32} {t : Nat → Nat} {sv ln : Nat} {rf pl wr dn : Int32} {ha : Int64} (hp : p + 4 < w.1) (hl : ln ≤ 120) (ht : ∀ i, t i < 128) (hs : sv ≤ 5) {PA : (Nat → Int32) → Prop} (hP : ∀ A, PA A → mWF 7 A (nA A)) (hS : ∀ A c, PA A → c < ln → (mCmd t ln c).1.1 = true → PA (stA (curN t ln c) (mCmd t ln c).2.1 (mCmd t ln c).2.2 (nA A) A)) (hf : (mFlt t ln 120 0).1 = true) (hA : PA A) : Ct l (.code yX8_run cX8_run 2 (some .int)) yX8_run 11 0 0 [.ref p] (mdW w p A P K (tI t) (nI sv, rf, nI ln, pl, wr, dn, ha)) (.inl (some (.int (nI (rnS t ln 120 0 A 0).2.1)))) (mdW w p (rnS t ln 120 0 A 0).1 (svP A P sv) K (tI t) (nI (min (sv + 1) 5), 0, nI ln, (nI (rnS t ln 120 0 A 0).2.2), (wrI true (rnS t ln 120 0 A 0).2.2), (nI (rnS t ln 120 0 A 0).2.1), ha)) := by
  refine ct_of (by decide +kernel) (Nat.le_of_ble_eq_true rfl) ?_
  refine go_aload_n dX8_run_0 rfl ?_
  refine go_aload_n dX8_run_1 rfl ?_
  refine go_iconst 0 dX8_run_2 (by decide) ?_
  refine go_virt1 dX8_run_3 (m_readsF l hp hl ht) v_X8_242_7 rfl (mdW_ob hp) rfl (Nat.le_of_ble_eq_true rfl) (Nat.le_of_ble_eq_true rfl) (Nat.le_of_ble_eq_true rfl) ?_
  rw [hf]
  refine go_iconst (-1) dX8_run_6 (by decide) ?_
  refine go_icmp_ne_f 14 dX8_run_7 (by decide) (wrI_t (c := (mFlt t ln 120 0).2)) ?_
  refine go_iconst 0 dX8_run_10 (by decide) ?_
  refine go_goto 15 dX8_run_11 (by decide) ?_
  refine go_virt1 dX8_run_15 (m_refd l hp (a := nI sv) (b := rf) (y := (nI ln, nI (mFlt t ln 120 0).2, wrI true (mFlt t ln 120 0).2, 0, ha)) (r := 0)) v_X8_29_7 rfl (mdW_ob hp) rfl (Nat.le_of_ble_eq_true rfl) (Nat.le_of_ble_eq_true rfl) (Nat.le_of_ble_eq_true rfl) ?_
  refine go_if_eq_t 23 dX8_run_18 (by decide) (by decide) ?_
  refine go_aload_n dX8_run_23 rfl ?_
  refine go_virt0 dX8_run_24 (m_saves l hp (sv := sv) (y := (0, nI ln, nI (mFlt t ln 120 0).2, wrI true (mFlt t ln 120 0).2, 0, ha)) hs) v_X8_141_7 rfl (mdW_ob hp) rfl (Nat.le_of_ble_eq_true rfl) (Nat.le_of_ble_eq_true rfl) (Nat.le_of_ble_eq_true rfl) ?_
  refine go_aload_n dX8_run_27 rfl ?_
  refine go_iconst 1 dX8_run_28 (by decide) ?_
  refine go_virt1 dX8_run_29 (m_readsT l hp hl ht hP hS hf hA) v_X8_242_7 rfl (mdW_ob hp) rfl (Nat.le_of_ble_eq_true rfl) (Nat.le_of_ble_eq_true rfl) (Nat.le_of_ble_eq_true rfl) ?_
  refine go_istore_n dX8_run_32 (Nat.le_of_ble_eq_true rfl) rfl ?_
  refine go_aload_n dX8_run_33 rfl ?_
  refine go_getfield dX8_run_34 f_X8_229_7 (mdW_ob hp) rfl ?_
  exact go_ireturn dX8_run_37 rfl rfl
theorem m_run_n (l : Launch) {w : MW} {p : Nat} {A P K : Nat → Int32} {t : Nat → Nat} {sv ln : Nat} {rf pl wr dn : Int32} {ha : Int64} (hp : p + 4 < w.1) (hl : ln ≤ 120) (ht : ∀ i, t i < 128) (hf : (mFlt t ln 120 0).1 = false) : Ct l (.code yX8_run cX8_run 2 (some .int)) yX8_run 11 0 0 [.ref p] (mdW w p A P K (tI t) (nI sv, rf, nI ln, pl, wr, dn, ha)) (.inl (some (.int 0))) (mdW w p A P K (tI t) (nI sv, 1, nI ln, (nI (mFlt t ln 120 0).2), (wrI false (mFlt t ln 120 0).2), 0, ha)) := by
  refine ct_of (by decide +kernel) (Nat.le_of_ble_eq_true rfl) ?_
  refine go_aload_n dX8_run_0 rfl ?_
  refine go_aload_n dX8_run_1 rfl ?_
  refine go_iconst 0 dX8_run_2 (by decide) ?_
  refine go_virt1 dX8_run_3 (m_readsF l hp hl ht) v_X8_242_7 rfl (mdW_ob hp) rfl (Nat.le_of_ble_eq_true rfl) (Nat.le_of_ble_eq_true rfl) (Nat.le_of_ble_eq_true rfl) ?_
  rw [hf]
  refine go_iconst (-1) dX8_run_6 (by decide) ?_
  refine go_icmp_ne_t 14 dX8_run_7 (by decide) (wrI_ne (Nat.lt_of_le_of_lt (mFlt_le 120 0 (Nat.zero_le _)) (by omega))) ?_
  refine go_iconst 1 dX8_run_14 (by decide) ?_
  refine go_virt1 dX8_run_15 (m_refd l hp (a := nI sv) (b := rf) (y := (nI ln, nI (mFlt t ln 120 0).2, wrI false (mFlt t ln 120 0).2, 0, ha)) (r := 1)) v_X8_29_7 rfl (mdW_ob hp) rfl (Nat.le_of_ble_eq_true rfl) (Nat.le_of_ble_eq_true rfl) (Nat.le_of_ble_eq_true rfl) ?_
  refine go_if_eq_f 23 dX8_run_18 (by decide) (by decide) ?_
  refine go_iconst 0 dX8_run_21 (by decide) ?_
  exact go_ireturn dX8_run_22 rfl rfl
theorem m_mix (l : Launch) {w : MW} {p : Nat} {A P K : Nat → Int32} {t : Nat → Nat} {sv ln : Nat} {rf pl wr dn : Int32} {ha : Int64} (hp : p + 4 < w.1) {v : Int64} : Ct l (.code yX8_mix cX8_mix 3 none) yX8_mix 0 0 0 [.ref p, .long v] (mdW w p A P K (tI t) (nI sv, rf, nI ln, pl, wr, dn, ha)) (.inl none) (mdW w p A P K (tI t) (nI sv, rf, nI ln, pl, wr, dn, (31 * ha + v))) := by
  refine ct_of (by decide +kernel) (Nat.le_of_ble_eq_true rfl) ?_
  refine go_aload_n dX8_mix_0 rfl ?_
  refine go_ldc2 dX8_mix_1 kd_X8_246 ?_
  refine go_aload_n dX8_mix_4 rfl ?_
  refine go_getfield dX8_mix_5 f_X8_248_7 (mdW_ob hp) rfl ?_
  refine go_lmul dX8_mix_8 ?_
  refine go_lload_n dX8_mix_9 rfl ?_
  refine go_ladd dX8_mix_10 ?_
  refine go_putfield dX8_mix_11 p_X8_248_7 (mdW_ob hp) (Nat.le_of_ble_eq_true rfl) (fun _ => ⟨rfl, rfl⟩) (fun _ z => nomatch z) ?_
  refine go_w _ (mdW_uX (nI sv, rf, nI ln, pl, wr, dn, (31 * ha + v))) ?_
  exact go_return dX8_mix_14 rfl
theorem m_sum_141 (l : Launch) {w : MW} {p : Nat} {A P K : Nat → Int32} {t : Nat → Nat} {sv ln : Nat} {rf pl wr dn : Int32} (hp : p + 4 < w.1) {r h : Int64} (hr : r = 31 * (31 * h + (nI ln).toInt64) + (nI sv).toInt64) : Go l yX8_checksum cX8_checksum 3 (some .long) [] none (mm_Z (mm_eq (.inl (some (.long r))) (mdW w p A P K (tI t) (nI sv, rf, nI ln, pl, wr, dn, r)))) 4 0 0 141 [(0, .ref p)] [] (mdW w p A P K (tI t) (nI sv, rf, nI ln, pl, wr, dn, h)) := by
  rw [hr]
  refine go_aload_n dX8_checksum_141 rfl ?_
  refine go_aload_n dX8_checksum_142 rfl ?_
  refine go_getfield dX8_checksum_143 f_X8_215_7 (mdW_ob hp) rfl ?_
  refine go_i2l dX8_checksum_146 ?_
  refine go_virt0 dX8_checksum_147 (m_mix l hp) v_X8_254_7 rfl (mdW_ob hp) rfl (Nat.le_of_ble_eq_true rfl) (Nat.le_of_ble_eq_true rfl) (Nat.le_of_ble_eq_true rfl) ?_
  refine go_aload_n dX8_checksum_150 rfl ?_
  refine go_aload_n dX8_checksum_151 rfl ?_
  refine go_getfield dX8_checksum_152 f_X8_26_7 (mdW_ob hp) rfl ?_
  refine go_i2l dX8_checksum_155 ?_
  refine go_virt0 dX8_checksum_156 (m_mix l hp) v_X8_254_7 rfl (mdW_ob hp) rfl (Nat.le_of_ble_eq_true rfl) (Nat.le_of_ble_eq_true rfl) (Nat.le_of_ble_eq_true rfl) ?_
  refine go_aload_n dX8_checksum_159 rfl ?_
  refine go_getfield dX8_checksum_160 f_X8_248_7 (mdW_ob hp) rfl ?_
  exact go_lreturn dX8_checksum_163 rfl
theorem m_sum_115 (l : Launch) {w : MW} {p : Nat} {A P K : Nat → Int32} {t : Nat → Nat} {sv ln : Nat} {rf pl wr dn : Int32} (hp : p + 4 < w.1) {r : Int64} : ∀ (u k : Nat) (h : Int64), u + k = 3 → r = 31 * (31 * cnA A u k h + (nI ln).toInt64) + (nI sv).toInt64 → Go l yX8_checksum cX8_checksum 3 (some .long) [] none (mm_Z (mm_eq (.inl (some (.long r))) (mdW w p A P K (tI t) (nI sv, rf, nI ln, pl, wr, dn, r)))) 4 0 0 115 [(0, .ref p), (1, .int (nI k))] [] (mdW w p A P K (tI t) (nI sv, rf, nI ln, pl, wr, dn, h)) := by
  intro u
  induction u with
  | zero =>
    intro k h hu hr
    refine go_iload_n dX8_checksum_115 rfl ?_
    refine go_iconst 3 dX8_checksum_116 (by decide) ?_
    refine go_icmp_ge_t 141 dX8_checksum_117 (by decide) (nI_le (a := 3) (by omega) (by omega)) ?_
    exact go_sub [(0, .ref p)] ⟨rfl, trivial⟩ (m_sum_141 l hp (by rw [hr, cnA]))
  | succ u ih =>
    intro k h hu hr
    refine go_iload_n dX8_checksum_115 rfl ?_
    refine go_iconst 3 dX8_checksum_116 (by decide) ?_
    refine go_icmp_ge_f 141 dX8_checksum_117 (by decide) (n_nle (a := 3) (by omega) (by decide)) ?_
    refine go_aload_n dX8_checksum_120 rfl ?_
    refine go_aload_n dX8_checksum_121 rfl ?_
    refine go_getfield dX8_checksum_122 f_X8_7_7 (mdW_ob hp) rfl ?_
    refine go_sipush 181 dX8_checksum_125 (by decide) ?_
    refine go_iload_n dX8_checksum_128 rfl ?_
    refine go_iadd dX8_checksum_129 ?_
    refine go_iaload (181 + k) dX8_checksum_130 (mdW_A hp) (nI_add 181 k) (by omega) (by decide) ?_
    refine go_i2l dX8_checksum_131 ?_
    refine go_virt0 dX8_checksum_132 (m_mix l hp) v_X8_254_7 rfl (mdW_ob hp) rfl (Nat.le_of_ble_eq_true rfl) (Nat.le_of_ble_eq_true rfl) (Nat.le_of_ble_eq_true rfl) ?_
    refine go_iinc dX8_checksum_135 rfl (Nat.le_of_ble_eq_true rfl) rfl (show _ = _ + 1 from rfl) ?_
    rw [a_k1]
    refine go_goto 115 dX8_checksum_138 (by decide) ?_
    exact go_sub [(0, .ref p), (1, .int (nI (k + 1)))] ⟨rfl, rfl, trivial⟩ (ih (k + 1) _ (by omega) (by rw [hr, cnA]))
theorem m_sum_72 (l : Launch) {w : MW} {p : Nat} {A P K : Nat → Int32} {t : Nat → Nat} {sv ln : Nat} {rf pl wr dn : Int32} (hp : p + 4 < w.1) {n : Nat} (hn : n ≤ 30) (hA : mI A) (h180 : A 180 = nI n) {r : Int64} {k : Nat} (hk : k < 4) (KK : ∀ h : Int64, r = 31 * (31 * cnA A 3 0 (laA A n (3 - k) (k + 1) h) + (nI ln).toInt64) + (nI sv).toInt64 → Go l yX8_checksum cX8_checksum 3 (some .long) [] none (mm_Z (mm_eq (.inl (some (.long r))) (mdW w p A P K (tI t) (nI sv, rf, nI ln, pl, wr, dn, r)))) 4 0 0 65 [(0, .ref p), (1, .int (nI (k + 1)))] [] (mdW w p A P K (tI t) (nI sv, rf, nI ln, pl, wr, dn, h))) : ∀ (u i : Nat) (h : Int64), u + i = n → r = 31 * (31 * cnA A 3 0 (laA A n (3 - k) (k + 1) (31 * roA (getL A k).1 u i h + (nI (brkK (ltA A) k n (getL A k).1)).toInt64)) + (nI ln).toInt64) + (nI sv).toInt64 → Go l yX8_checksum cX8_checksum 3 (some .long) [] none (mm_Z (mm_eq (.inl (some (.long r))) (mdW w p A P K (tI t) (nI sv, rf, nI ln, pl, wr, dn, r)))) 4 0 0 72 [(0, .ref p), (1, .int (nI k)), (2, .int (nI i))] [] (mdW w p A P K (tI t) (nI sv, rf, nI ln, pl, wr, dn, h)) := by
  intro u
  induction u with
  | zero =>
    intro i h hu hr
    refine go_iload_n dX8_checksum_72 rfl ?_
    refine go_aload_n dX8_checksum_73 rfl ?_
    refine go_virt1 dX8_checksum_74 (m_many l hp) v_X8_95_7 rfl (mdW_ob hp) rfl (Nat.le_of_ble_eq_true rfl) (Nat.le_of_ble_eq_true rfl) (Nat.le_of_ble_eq_true rfl) ?_
    rw [h180]
    refine go_icmp_ge_t 97 dX8_checksum_77 (by decide) (nI_le (by omega) (by omega)) ?_
    refine go_aload_n dX8_checksum_97 rfl ?_
    refine go_aload_n dX8_checksum_98 rfl ?_
    refine go_iload_n dX8_checksum_99 rfl ?_
    refine go_virt1 dX8_checksum_100 (m_wrongIn l hp hk hn hA h180) v_X8_196_7 rfl (mdW_ob hp) rfl (Nat.le_of_ble_eq_true rfl) (Nat.le_of_ble_eq_true rfl) (Nat.le_of_ble_eq_true rfl) ?_
    refine go_i2l dX8_checksum_103 ?_
    refine go_virt0 dX8_checksum_104 (m_mix l hp) v_X8_254_7 rfl (mdW_ob hp) rfl (Nat.le_of_ble_eq_true rfl) (Nat.le_of_ble_eq_true rfl) (Nat.le_of_ble_eq_true rfl) ?_
    refine go_iinc dX8_checksum_107 rfl (Nat.le_of_ble_eq_true rfl) rfl (show _ = _ + 1 from rfl) ?_
    rw [a_k1]
    refine go_goto 65 dX8_checksum_110 (by decide) ?_
    exact go_sub [(0, .ref p), (1, .int (nI (k + 1)))] ⟨rfl, rfl, trivial⟩ (KK _ (by rw [hr, roA]))
  | succ u ih =>
    intro i h hu hr
    refine go_iload_n dX8_checksum_72 rfl ?_
    refine go_aload_n dX8_checksum_73 rfl ?_
    refine go_virt1 dX8_checksum_74 (m_many l hp) v_X8_95_7 rfl (mdW_ob hp) rfl (Nat.le_of_ble_eq_true rfl) (Nat.le_of_ble_eq_true rfl) (Nat.le_of_ble_eq_true rfl) ?_
    rw [h180]
    refine go_icmp_ge_f 97 dX8_checksum_77 (by decide) (n_nle (by omega) (by omega)) ?_
    refine go_aload_n dX8_checksum_80 rfl ?_
    refine go_aload_n dX8_checksum_81 rfl ?_
    refine go_iload_n dX8_checksum_82 rfl ?_
    refine go_iload_n dX8_checksum_83 rfl ?_
    refine go_virt1 dX8_checksum_84 (m_item l hp hk (i := i) (by omega)) v_X8_37_7 rfl (mdW_ob hp) rfl (Nat.le_of_ble_eq_true rfl) (Nat.le_of_ble_eq_true rfl) (Nat.le_of_ble_eq_true rfl) ?_
    refine go_i2l dX8_checksum_87 ?_
    refine go_virt0 dX8_checksum_88 (m_mix l hp) v_X8_254_7 rfl (mdW_ob hp) rfl (Nat.le_of_ble_eq_true rfl) (Nat.le_of_ble_eq_true rfl) (Nat.le_of_ble_eq_true rfl) ?_
    refine go_iinc dX8_checksum_91 rfl (Nat.le_of_ble_eq_true rfl) rfl (show _ = _ + 1 from rfl) ?_
    rw [a_k1]
    refine go_goto 72 dX8_checksum_94 (by decide) ?_
    exact go_sub [(0, .ref p), (1, .int (nI k)), (2, .int (nI (i + 1)))] ⟨rfl, rfl, rfl, trivial⟩ (ih (i + 1) _ (by omega) (by rw [hr, roA]; rfl))
theorem m_sum_65 (l : Launch) {w : MW} {p : Nat} {A P K : Nat → Int32} {t : Nat → Nat} {sv ln : Nat} {rf pl wr dn : Int32} (hp : p + 4 < w.1) {n : Nat} (hn : n ≤ 30) (hA : mI A) (h180 : A 180 = nI n) {r : Int64} : ∀ (u k : Nat) (h : Int64), u + k = 4 → r = 31 * (31 * cnA A 3 0 (laA A n u k h) + (nI ln).toInt64) + (nI sv).toInt64 → Go l yX8_checksum cX8_checksum 3 (some .long) [] none (mm_Z (mm_eq (.inl (some (.long r))) (mdW w p A P K (tI t) (nI sv, rf, nI ln, pl, wr, dn, r)))) 4 0 0 65 [(0, .ref p), (1, .int (nI k))] [] (mdW w p A P K (tI t) (nI sv, rf, nI ln, pl, wr, dn, h)) := by
  intro u
  induction u with
  | zero =>
    intro k h hu hr
    refine go_iload_n dX8_checksum_65 rfl ?_
    refine go_iconst 4 dX8_checksum_66 (by decide) ?_
    refine go_icmp_ge_t 113 dX8_checksum_67 (by decide) (nI_le (a := 4) (by omega) (by omega)) ?_
    refine go_iconst 0 dX8_checksum_113 (by decide) ?_
    refine go_istore_n dX8_checksum_114 (Nat.le_of_ble_eq_true rfl) rfl ?_
    exact go_sub [(0, .ref p), (1, .int (nI 0))] ⟨rfl, rfl, trivial⟩ (m_sum_115 l hp 3 0 h rfl (by rw [hr, laA]))
  | succ u ih =>
    intro k h hu hr
    refine go_iload_n dX8_checksum_65 rfl ?_
    refine go_iconst 4 dX8_checksum_66 (by decide) ?_
    refine go_icmp_ge_f 113 dX8_checksum_67 (by decide) (n_nle (a := 4) (by omega) (by decide)) ?_
    refine go_iconst 0 dX8_checksum_70 (by decide) ?_
    refine go_istore_n dX8_checksum_71 (Nat.le_of_ble_eq_true rfl) rfl ?_
    exact go_sub [(0, .ref p), (1, .int (nI k)), (2, .int (nI 0))] ⟨rfl, rfl, rfl, trivial⟩ (m_sum_72 l hp hn hA h180 (by omega) (fun h2 hr2 => ih (k + 1) h2 (by omega) (by rw [hr2, show 3 - k = u by omega])) n 0 h rfl (by rw [hr, laA, show 3 - k = u by omega]))
theorem m_sum_32 (l : Launch) {w : MW} {p : Nat} {A P K : Nat → Int32} {t : Nat → Nat} {sv ln : Nat} {rf pl wr dn : Int32} (hp : p + 4 < w.1) {n : Nat} (hn : n ≤ 30) (hA : mI A) (h180 : A 180 = nI n) {r : Int64} : ∀ (u i : Nat) (h : Int64), u + i = 30 → r = 31 * (31 * cnA A 3 0 (laA A n 4 0 (kyA A u i h)) + (nI ln).toInt64) + (nI sv).toInt64 → Go l yX8_checksum cX8_checksum 3 (some .long) [] none (mm_Z (mm_eq (.inl (some (.long r))) (mdW w p A P K (tI t) (nI sv, rf, nI ln, pl, wr, dn, r)))) 4 0 0 32 [(0, .ref p), (1, .int (nI i))] [] (mdW w p A P K (tI t) (nI sv, rf, nI ln, pl, wr, dn, h)) := by
  intro u
  induction u with
  | zero =>
    intro i h hu hr
    refine go_iload_n dX8_checksum_32 rfl ?_
    refine go_bipush 30 dX8_checksum_33 (by decide) ?_
    refine go_icmp_ge_t 63 dX8_checksum_35 (by decide) (nI_le (a := 30) (by omega) (by omega)) ?_
    refine go_iconst 0 dX8_checksum_63 (by decide) ?_
    refine go_istore_n dX8_checksum_64 (Nat.le_of_ble_eq_true rfl) rfl ?_
    exact go_sub [(0, .ref p), (1, .int (nI 0))] ⟨rfl, rfl, trivial⟩ (m_sum_65 l hp hn hA h180 4 0 h rfl (by rw [hr, kyA]))
  | succ u ih =>
    intro i h hu hr
    refine go_iload_n dX8_checksum_32 rfl ?_
    refine go_bipush 30 dX8_checksum_33 (by decide) ?_
    refine go_icmp_ge_f 63 dX8_checksum_35 (by decide) (n_nle (a := 30) (by omega) (by decide)) ?_
    refine go_aload_n dX8_checksum_38 rfl ?_
    refine go_iload_n dX8_checksum_39 rfl ?_
    refine go_virt1 dX8_checksum_40 (m_isItem l hp) v_X8_49_7 rfl (mdW_ob hp) rfl (Nat.le_of_ble_eq_true rfl) (Nat.le_of_ble_eq_true rfl) (Nat.le_of_ble_eq_true rfl) ?_
    refine go_if_eq 57 dX8_checksum_43 (by decide) (fun q43 => ?_) (fun q43 => ?_)
    · have eN := bI_ff q43
      refine go_iinc dX8_checksum_57 rfl (Nat.le_of_ble_eq_true rfl) rfl (show _ = _ + 1 from rfl) ?_
      rw [a_k1]
      refine go_goto 32 dX8_checksum_60 (by decide) ?_
      first | exact go_sub [(0, .ref p), (1, .int (nI (i + 1)))] ⟨rfl, rfl, trivial⟩ (ih (i + 1) _ (by omega) (by rw [hr, kyA, if_neg eN])) | exact go_sub [(0, .ref p), (1, .int (nI (i + 1)))] ⟨rfl, rfl, trivial⟩ (ih (i + 1) _ (by omega) (by rw [hr, kyA, if_pos eY]))
    · have eY := bI_ne.mp q43
      refine go_aload_n dX8_checksum_46 rfl ?_
      refine go_aload_n dX8_checksum_47 rfl ?_
      refine go_getfield dX8_checksum_48 f_X8_7_7 (mdW_ob hp) rfl ?_
      refine go_iload_n dX8_checksum_51 rfl ?_
      refine go_iaload (i) dX8_checksum_52 (mdW_A hp) rfl (by omega) (by decide) ?_
      refine go_i2l dX8_checksum_53 ?_
      refine go_virt0 dX8_checksum_54 (m_mix l hp) v_X8_254_7 rfl (mdW_ob hp) rfl (Nat.le_of_ble_eq_true rfl) (Nat.le_of_ble_eq_true rfl) (Nat.le_of_ble_eq_true rfl) ?_
      refine go_iinc dX8_checksum_57 rfl (Nat.le_of_ble_eq_true rfl) rfl (show _ = _ + 1 from rfl) ?_
      rw [a_k1]
      refine go_goto 32 dX8_checksum_60 (by decide) ?_
      first | exact go_sub [(0, .ref p), (1, .int (nI (i + 1)))] ⟨rfl, rfl, trivial⟩ (ih (i + 1) _ (by omega) (by rw [hr, kyA, if_neg eN])) | exact go_sub [(0, .ref p), (1, .int (nI (i + 1)))] ⟨rfl, rfl, trivial⟩ (ih (i + 1) _ (by omega) (by rw [hr, kyA, if_pos eY]))
def sumA (A : Nat → Int32) (n ln sv : Nat) : Int64 := 31 * (31 * cnA A 3 0 (laA A n 4 0 (kyA A 30 0 (31 * (31 * 18601 + (nI n).toInt64) + (hsA A 30 0 0).toInt64))) + (nI ln).toInt64) + (nI sv).toInt64
theorem m_checksum (l : Launch) {w : MW} {p : Nat} {A P K : Nat → Int32} {t : Nat → Nat} {sv ln : Nat} {rf pl wr dn : Int32} {ha : Int64} (hp : p + 4 < w.1) {n : Nat} (hW : mWF 7 A n) : Ct l (.code yX8_checksum cX8_checksum 3 (some .long)) yX8_checksum 4 0 0 [.ref p] (mdW w p A P K (tI t) (nI sv, rf, nI ln, pl, wr, dn, ha)) (.inl (some (.long (sumA A n ln sv)))) (mdW w p A P K (tI t) (nI sv, 0, nI ln, pl, wr, dn, (sumA A n ln sv))) := by
  refine ct_of (by decide +kernel) (Nat.le_of_ble_eq_true rfl) ?_
  refine go_aload_n dX8_checksum_0 rfl ?_
  refine go_iconst 0 dX8_checksum_1 (by decide) ?_
  refine go_putfield dX8_checksum_2 p_X8_22_7 (mdW_ob hp) (Nat.le_of_ble_eq_true rfl) (fun _ => ⟨rfl, rfl⟩) (fun _ z => nomatch z) ?_
  refine go_w _ (mdW_uX (nI sv, 0, nI ln, pl, wr, dn, ha)) ?_
  refine go_aload_n dX8_checksum_5 rfl ?_
  refine go_ldc2 dX8_checksum_6 kd_X8_252 ?_
  refine go_putfield dX8_checksum_9 p_X8_248_7 (mdW_ob hp) (Nat.le_of_ble_eq_true rfl) (fun _ => ⟨rfl, rfl⟩) (fun _ z => nomatch z) ?_
  refine go_w _ (mdW_uX (nI sv, 0, nI ln, pl, wr, dn, 18601)) ?_
  refine go_aload_n dX8_checksum_12 rfl ?_
  refine go_aload_n dX8_checksum_13 rfl ?_
  refine go_virt1 dX8_checksum_14 (m_many l hp) v_X8_95_7 rfl (mdW_ob hp) rfl (Nat.le_of_ble_eq_true rfl) (Nat.le_of_ble_eq_true rfl) (Nat.le_of_ble_eq_true rfl) ?_
  rw [hW.2.1]
  refine go_i2l dX8_checksum_17 ?_
  refine go_virt0 dX8_checksum_18 (m_mix l hp) v_X8_254_7 rfl (mdW_ob hp) rfl (Nat.le_of_ble_eq_true rfl) (Nat.le_of_ble_eq_true rfl) (Nat.le_of_ble_eq_true rfl) ?_
  refine go_aload_n dX8_checksum_21 rfl ?_
  refine go_aload_n dX8_checksum_22 rfl ?_
  refine go_virt1 dX8_checksum_23 (m_handleSet l hp) v_X8_168_7 rfl (mdW_ob hp) rfl (Nat.le_of_ble_eq_true rfl) (Nat.le_of_ble_eq_true rfl) (Nat.le_of_ble_eq_true rfl) ?_
  refine go_i2l dX8_checksum_26 ?_
  refine go_virt0 dX8_checksum_27 (m_mix l hp) v_X8_254_7 rfl (mdW_ob hp) rfl (Nat.le_of_ble_eq_true rfl) (Nat.le_of_ble_eq_true rfl) (Nat.le_of_ble_eq_true rfl) ?_
  refine go_iconst 0 dX8_checksum_30 (by decide) ?_
  refine go_istore_n dX8_checksum_31 (Nat.le_of_ble_eq_true rfl) rfl ?_
  exact go_sub [(0, .ref p), (1, .int (nI 0))] ⟨rfl, rfl, trivial⟩ (m_sum_32 l hp hW.2.2.1 hW.1 hW.2.1 30 0 _ rfl rfl)
