/-! the law's loop, its start, and the claim (R_law to lw_ret and lw_walk to i_vc began as kit/laws/SKELETON) -/
def R_law : String := "TwoEndQueuesLaw"
def lw_P (b : Addr) (xs : List Int32) (args : Array Value) (s : State) : Prop := args = #[.ref b] ∧ s.IntsAt b xs ∧ xs.length ≤ 2048 ∧ (Jvm.Cond.and given_1 narrow_1).before args s = true
def lw_Q (_ : Array Value) (s : State) (o : Outcome) (t : State) : Prop := o = .returned (some (.int 1)) ∧ Framed s o t [] 601024 7293034
def lw_Z (below : List Frame) (a : Array Value) (s : State) : State → Prop := fun t => ∃ o, t.status = .running ∧ Ended t below o ∧ lw_Q a s o t
/-- the law's own end, with 1 on the stack, nothing written that was there before, its room as the claim has it -/
theorem lw_ret {p : Program} {l : Launch} {e : Env} {s : State} {m : MethodId} {below : List Frame} {meth : Method} {c : Code} {b : Nat} (hx : p.tables.exec = Jvm.exec) (hb : c.code = code) (hr : meth.sig.returnType = ret) (hlocks : meth.locks = false) {pc : Nat} {H : Heap} {ls : Array Slot} (hdg : decode code pc = .ok (.ireturn, 1)) : W p l e room_1 s m #[Value.ref b] below meth c H [] 601024 7293034 (lw_Z below #[Value.ref b] s) (F0 m pc ls [.int 1]) := by
  intro T hT X
  obtain ⟨fs, hret, hrun, hended, hW, hframe⟩ := X.leave (v := some (.int 1)) (hlocks := hlocks) (fun h => by rw [hr] at h; cases h)
  have hmeth' : T.vm.method? m = some meth := X.method'
  refine ⟨T.setFrames fs, ?_, .returned (some (.int 1)), hrun, hended, rfl, ⟨_, rfl⟩, hW, hframe⟩
  jvm_step X.here [X.here.top, hx, hb, hdg, hmeth', hr, ret, narrow_b1]
  (try refine ⟨rfl, ?_⟩); (try refine ⟨rfl, ?_⟩)
  first | (intro acts; rw [hret _ acts rfl rfl rfl]) | rw [hret _ _ rfl rfl rfl]
  exact Steps.refl _
def lwZ : MZ := fun R _ _ A _ _ below args s t => (R = room_1 ∧ (∀ q, A q → s.heap.size ≤ q) ∧ ∃ b : Nat, args = #[Value.ref b]) → lw_Z below args s t
theorem go_lawret {l : Launch} {ext : Option (Nat × (Nat → Int32))} {d bc bs : Nat} {lv : List (Nat × Value)} {w : MW} : Go l yL_law cL_law 7 (some .boolean) [] ext lwZ d bc bs 1651 lv [.int 1] w := by
  intro p e R s m args below meth c D dA A ad0 N0 C H locs cells slots ad ls h1 h2 h3 h4 h5 h6 h7 h8
  by_cases hyp : R = room_1 ∧ (∀ q, A q → s.heap.size ≤ q) ∧ ∃ b : Nat, args = #[Value.ref b]
  · obtain ⟨rfl, hA, b, rfl⟩ := id hyp
    have g1 : cells + bc ≤ 601024 := h1
    have g2 : slots + bs ≤ 7293034 := h2
    have k := W.widen (k := 601024) (n := 7293034) (cells := cells) (slots := slots) (by omega) (by omega) (lw_ret (p := p) (l := l) (e := e) (s := s) (m := m) (below := below) (meth := meth) (c := c) (b := b) (H := H) (ls := ls) C.1 C.2.1 C.2.2.2.1 C.2.2.2.2.2.2.1 dL_law_1651)
    have k2 := va_forget (locs := locs) (fun q hq => hA _ (h5.2.2 q hq)) k
    intro T hT X
    obtain ⟨t, a1, b1⟩ := k2 T hT X
    exact ⟨t, a1, fun _ => b1⟩
  · intro T hT X
    exact ⟨_, Steps.refl _, fun z => absurd z hyp⟩
theorem sub4 {L i : Nat} (hL : L ≤ 2048) (hi : i ≤ 4096) : nI L - 4 < nI i ↔ L < i + 4 := by
  rw [Int32.lt_iff_toInt_lt, Int32.toInt_sub, nI_toInt (by omega), nI_toInt (by omega), show (4 : Int32).toInt = 4 from by decide +kernel, Int.bmod_eq_of_le (by omega) (by omega)]
  omega
theorem and63 (x : Int32) : ∃ k, k < 64 ∧ x &&& 63 = nI k := by
  refine ⟨x.toBitVec.toNat % 64, Nat.mod_lt _ (by decide), ?_⟩
  have e : x = nI x.toBitVec.toNat := by
    apply Int32.toBitVec_inj.1
    show x.toBitVec = BitVec.ofNat 32 x.toBitVec.toNat
    simp
  rw [show x &&& 63 = nI x.toBitVec.toNat &&& nI (2 ^ 6 - 1) from by rw [← e]; rfl, nx_and, Nat.and_two_pow_sub_one_eq_mod]
theorem law_loop (l : Launch) {L : Nat} {xs : Nat → Int32} (hL : L ≤ 2048) : ∀ (u i : Nat) (W : MW) (rf : Int32) (f : Nat → Int64), LSt W rf f → L ≤ i + 4 * u + 3 → i ≤ 4096 → Go l yL_law cL_law 7 (some .boolean) [] (some (L, xs)) lwZ 12 u (6 * u) 23 [(0, .ref mm_XT), (1, .ref 0), (2, .ref 68), (3, .ref 73), (4, .int (nI i))] [] W := by
  intro u
  induction u with
  | zero =>
    intro i W rf f hS hu hi
    refine go_iload dL_law_23 rfl ?_
    refine go_aload_n dL_law_25 rfl ?_
    refine go_xlen rfl dL_law_26 ?_
    refine go_iconst 4 dL_law_27 (by decide) ?_
    refine go_isub dL_law_28 ?_
    refine go_icmp_gt_t 1650 dL_law_29 (by decide) ((sub4 hL hi).mpr (by omega)) ?_
    refine go_iconst 1 dL_law_1650 (by decide) ?_
    exact go_lawret
  | succ u ih =>
    intro i W rf f hS hu hi
    refine go_iload dL_law_23 rfl ?_
    refine go_aload_n dL_law_25 rfl ?_
    refine go_xlen rfl dL_law_26 ?_
    refine go_iconst 4 dL_law_27 (by decide) ?_
    refine go_isub dL_law_28 ?_
    by_cases h4 : i + 4 ≤ L
    · have KK : ∀ W' rf' f', LSt W' rf' f' → Go l yL_law cL_law 7 (some .boolean) [] (some (L, xs)) lwZ 12 u (6 * u) 1644 [(0, .ref mm_XT), (1, .ref 0), (2, .ref 68), (3, .ref 73), (4, .int (nI i))] [] W' := by
        intro W' rf' f' hS'
        refine go_iinc dL_law_1644 rfl (Nat.le_of_ble_eq_true rfl) rfl (show _ = _ + 4 from rfl) ?_
        rw [show nI i + (4 : Int32) = nI (i + 4) from nI_add i 4]
        refine go_goto 23 dL_law_1647 (by decide) ?_
        exact go_sub [(0, .ref mm_XT), (1, .ref 0), (2, .ref 68), (3, .ref 73), (4, .int (nI (i + 4)))] ⟨rfl, rfl, rfl, rfl, rfl, trivial⟩ (ih (i + 4) W' rf' f' hS' (by omega) (by omega))
      refine go_icmp_gt_f 1650 dL_law_29 (by decide) (fun z => by have := (sub4 hL hi).mp z; omega) ?_
      refine go_aload_n dL_law_32 rfl ?_
      refine go_iload dL_law_33 rfl ?_
      refine go_xload i rfl dL_law_35 rfl (by omega) (by omega) ?_
      refine go_bipush 63 dL_law_36 (by decide) ?_
      refine go_iand dL_law_38 ?_
      obtain ⟨k, hk, ek⟩ := and63 (xs i)
      rw [ek]
      refine go_room (bc' := 1 + u) (bs' := 6 + 6 * u) (by omega) (by omega) ?_
      rcases (show k = 0 ∨ k = 1 ∨ k = 2 ∨ k = 3 ∨ k = 4 ∨ k = 5 ∨ k = 6 ∨ k = 7 ∨ k = 8 ∨ k = 9 ∨ k = 10 ∨ k = 11 ∨ k = 12 ∨ k = 13 ∨ k = 14 ∨ k = 15 ∨ k = 16 ∨ k = 17 ∨ k = 18 ∨ k = 19 ∨ k = 20 ∨ k = 21 ∨ k = 22 ∨ k = 23 ∨ k = 24 ∨ k = 25 ∨ k = 26 ∨ k = 27 ∨ k = 28 ∨ k = 29 ∨ k = 30 ∨ k = 31 ∨ k = 32 ∨ 33 ≤ k by omega) with rfl | rfl | rfl | rfl | rfl | rfl | rfl | rfl | rfl | rfl | rfl | rfl | rfl | rfl | rfl | rfl | rfl | rfl | rfl | rfl | rfl | rfl | rfl | rfl | rfl | rfl | rfl | rfl | rfl | rfl | rfl | rfl | rfl | hk
      · refine go_tblIn (off := 145) 184 dL_law_39 (by decide +kernel) (by decide +kernel) (by decide +kernel) (by decide) ?_
        exact go_sub [(0, .ref mm_XT), (1, .ref 0), (2, .ref 68), (3, .ref 73), (4, .int (nI i))] ⟨rfl, rfl, rfl, rfl, rfl, trivial⟩ (lw_insert l hL h4 hS KK)
      · refine go_tblIn (off := 201) 240 dL_law_39 (by decide +kernel) (by decide +kernel) (by decide +kernel) (by decide) ?_
        exact go_sub [(0, .ref mm_XT), (1, .ref 0), (2, .ref 68), (3, .ref 73), (4, .int (nI i))] ⟨rfl, rfl, rfl, rfl, rfl, trivial⟩ (lw_takeLeast l hL h4 hS KK)
      · refine go_tblIn (off := 245) 284 dL_law_39 (by decide +kernel) (by decide +kernel) (by decide +kernel) (by decide) ?_
        exact go_sub [(0, .ref mm_XT), (1, .ref 0), (2, .ref 68), (3, .ref 73), (4, .int (nI i))] ⟨rfl, rfl, rfl, rfl, rfl, trivial⟩ (lw_takeGreatest l hL h4 hS KK)
      · refine go_tblIn (off := 289) 328 dL_law_39 (by decide +kernel) (by decide +kernel) (by decide +kernel) (by decide) ?_
        exact go_sub [(0, .ref mm_XT), (1, .ref 0), (2, .ref 68), (3, .ref 73), (4, .int (nI i))] ⟨rfl, rfl, rfl, rfl, rfl, trivial⟩ (lw_remove l hL h4 hS KK)
      · refine go_tblIn (off := 345) 384 dL_law_39 (by decide +kernel) (by decide +kernel) (by decide +kernel) (by decide) ?_
        exact go_sub [(0, .ref mm_XT), (1, .ref 0), (2, .ref 68), (3, .ref 73), (4, .int (nI i))] ⟨rfl, rfl, rfl, rfl, rfl, trivial⟩ (lw_change l hL h4 hS KK)
      · refine go_tblIn (off := 413) 452 dL_law_39 (by decide +kernel) (by decide +kernel) (by decide +kernel) (by decide) ?_
        exact go_sub [(0, .ref mm_XT), (1, .ref 0), (2, .ref 68), (3, .ref 73), (4, .int (nI i))] ⟨rfl, rfl, rfl, rfl, rfl, trivial⟩ (lw_build l hL h4 hS KK)
      · refine go_tblIn (off := 426) 465 dL_law_39 (by decide +kernel) (by decide +kernel) (by decide +kernel) (by decide) ?_
        exact go_sub [(0, .ref mm_XT), (1, .ref 0), (2, .ref 68), (3, .ref 73), (4, .int (nI i))] ⟨rfl, rfl, rfl, rfl, rfl, trivial⟩ (lw_clear l hL h4 hS KK)
      · refine go_tblIn (off := 439) 478 dL_law_39 (by decide +kernel) (by decide +kernel) (by decide +kernel) (by decide) ?_
        exact go_sub [(0, .ref mm_XT), (1, .ref 0), (2, .ref 68), (3, .ref 73), (4, .int (nI i))] ⟨rfl, rfl, rfl, rfl, rfl, trivial⟩ (lw_size l hL h4 hS KK)
      · refine go_tblIn (off := 452) 491 dL_law_39 (by decide +kernel) (by decide +kernel) (by decide +kernel) (by decide) ?_
        exact go_sub [(0, .ref mm_XT), (1, .ref 0), (2, .ref 68), (3, .ref 73), (4, .int (nI i))] ⟨rfl, rfl, rfl, rfl, rfl, trivial⟩ (lw_handles l hL h4 hS KK)
      · refine go_tblIn (off := 465) 504 dL_law_39 (by decide +kernel) (by decide +kernel) (by decide +kernel) (by decide) ?_
        exact go_sub [(0, .ref mm_XT), (1, .ref 0), (2, .ref 68), (3, .ref 73), (4, .int (nI i))] ⟨rfl, rfl, rfl, rfl, rfl, trivial⟩ (lw_key l hL h4 hS KK)
      · refine go_tblIn (off := 521) 560 dL_law_39 (by decide +kernel) (by decide +kernel) (by decide +kernel) (by decide) ?_
        exact go_sub [(0, .ref mm_XT), (1, .ref 0), (2, .ref 68), (3, .ref 73), (4, .int (nI i))] ⟨rfl, rfl, rfl, rfl, rfl, trivial⟩ (lw_fill l hL h4 hS KK)
      · refine go_tblIn (off := 589) 628 dL_law_39 (by decide +kernel) (by decide +kernel) (by decide +kernel) (by decide) ?_
        exact go_sub [(0, .ref mm_XT), (1, .ref 0), (2, .ref 68), (3, .ref 73), (4, .int (nI i))] ⟨rfl, rfl, rfl, rfl, rfl, trivial⟩ (lw_least l hL h4 hS KK)
      · refine go_tblIn (off := 645) 684 dL_law_39 (by decide +kernel) (by decide +kernel) (by decide +kernel) (by decide) ?_
        exact go_sub [(0, .ref mm_XT), (1, .ref 0), (2, .ref 68), (3, .ref 73), (4, .int (nI i))] ⟨rfl, rfl, rfl, rfl, rfl, trivial⟩ (lw_greatest l hL h4 hS KK)
      · refine go_tblIn (off := 701) 740 dL_law_39 (by decide +kernel) (by decide +kernel) (by decide +kernel) (by decide) ?_
        exact go_sub [(0, .ref mm_XT), (1, .ref 0), (2, .ref 68), (3, .ref 73), (4, .int (nI i))] ⟨rfl, rfl, rfl, rfl, rfl, trivial⟩ (lw_ranked l hL h4 hS KK)
      · refine go_tblIn (off := 726) 765 dL_law_39 (by decide +kernel) (by decide +kernel) (by decide +kernel) (by decide) ?_
        exact go_sub [(0, .ref mm_XT), (1, .ref 0), (2, .ref 68), (3, .ref 73), (4, .int (nI i))] ⟨rfl, rfl, rfl, rfl, rfl, trivial⟩ (lw_rank l hL h4 hS KK)
      · refine go_tblIn (off := 782) 821 dL_law_39 (by decide +kernel) (by decide +kernel) (by decide +kernel) (by decide) ?_
        exact go_sub [(0, .ref mm_XT), (1, .ref 0), (2, .ref 68), (3, .ref 73), (4, .int (nI i))] ⟨rfl, rfl, rfl, rfl, rfl, trivial⟩ (lw_between l hL h4 hS KK)
      · refine go_tblIn (off := 819) 858 dL_law_39 (by decide +kernel) (by decide +kernel) (by decide +kernel) (by decide) ?_
        exact go_sub [(0, .ref mm_XT), (1, .ref 0), (2, .ref 68), (3, .ref 73), (4, .int (nI i))] ⟨rfl, rfl, rfl, rfl, rfl, trivial⟩ (lw_at l hL h4 hS KK)
      · refine go_tblIn (off := 887) 926 dL_law_39 (by decide +kernel) (by decide +kernel) (by decide +kernel) (by decide) ?_
        exact go_sub [(0, .ref mm_XT), (1, .ref 0), (2, .ref 68), (3, .ref 73), (4, .int (nI i))] ⟨rfl, rfl, rfl, rfl, rfl, trivial⟩ (lw_where l hL h4 hS KK)
      · refine go_tblIn (off := 955) 994 dL_law_39 (by decide +kernel) (by decide +kernel) (by decide +kernel) (by decide) ?_
        exact go_sub [(0, .ref mm_XT), (1, .ref 0), (2, .ref 68), (3, .ref 73), (4, .int (nI i))] ⟨rfl, rfl, rfl, rfl, rfl, trivial⟩ (lw_violations l hL h4 hS KK)
      · refine go_tblIn (off := 1011) 1050 dL_law_39 (by decide +kernel) (by decide +kernel) (by decide +kernel) (by decide) ?_
        exact go_sub [(0, .ref mm_XT), (1, .ref 0), (2, .ref 68), (3, .ref 73), (4, .int (nI i))] ⟨rfl, rfl, rfl, rfl, rfl, trivial⟩ (lw_disturb l hL h4 hS KK)
      · refine go_tblIn (off := 1091) 1130 dL_law_39 (by decide +kernel) (by decide +kernel) (by decide +kernel) (by decide) ?_
        exact go_sub [(0, .ref mm_XT), (1, .ref 0), (2, .ref 68), (3, .ref 73), (4, .int (nI i))] ⟨rfl, rfl, rfl, rfl, rfl, trivial⟩ (lw_level l hL h4 hS KK)
      · refine go_tblIn (off := 1147) 1186 dL_law_39 (by decide +kernel) (by decide +kernel) (by decide +kernel) (by decide) ?_
        exact go_sub [(0, .ref mm_XT), (1, .ref 0), (2, .ref 68), (3, .ref 73), (4, .int (nI i))] ⟨rfl, rfl, rfl, rfl, rfl, trivial⟩ (lw_ancestors l hL h4 hS KK)
      · refine go_tblIn (off := 1203) 1242 dL_law_39 (by decide +kernel) (by decide +kernel) (by decide +kernel) (by decide) ?_
        exact go_sub [(0, .ref mm_XT), (1, .ref 0), (2, .ref 68), (3, .ref 73), (4, .int (nI i))] ⟨rfl, rfl, rfl, rfl, rfl, trivial⟩ (lw_comparisons l hL h4 hS KK)
      · refine go_tblIn (off := 1259) 1298 dL_law_39 (by decide +kernel) (by decide +kernel) (by decide +kernel) (by decide) ?_
        exact go_sub [(0, .ref mm_XT), (1, .ref 0), (2, .ref 68), (3, .ref 73), (4, .int (nI i))] ⟨rfl, rfl, rfl, rfl, rfl, trivial⟩ (lw_forget l hL h4 hS KK)
      · refine go_tblIn (off := 1272) 1311 dL_law_39 (by decide +kernel) (by decide +kernel) (by decide +kernel) (by decide) ?_
        exact go_sub [(0, .ref mm_XT), (1, .ref 0), (2, .ref 68), (3, .ref 73), (4, .int (nI i))] ⟨rfl, rfl, rfl, rfl, rfl, trivial⟩ (lw_wouldNeed l hL h4 hS KK)
      · refine go_tblIn (off := 1352) 1391 dL_law_39 (by decide +kernel) (by decide +kernel) (by decide +kernel) (by decide) ?_
        exact go_sub [(0, .ref mm_XT), (1, .ref 0), (2, .ref 68), (3, .ref 73), (4, .int (nI i))] ⟨rfl, rfl, rfl, rfl, rfl, trivial⟩ (lw_sortingNeeds l hL h4 hS KK)
      · refine go_tblIn (off := 1408) 1447 dL_law_39 (by decide +kernel) (by decide +kernel) (by decide +kernel) (by decide) ?_
        exact go_sub [(0, .ref mm_XT), (1, .ref 0), (2, .ref 68), (3, .ref 73), (4, .int (nI i))] ⟨rfl, rfl, rfl, rfl, rfl, trivial⟩ (lw_fewest l hL h4 hS KK)
      · refine go_tblIn (off := 1421) 1460 dL_law_39 (by decide +kernel) (by decide +kernel) (by decide +kernel) (by decide) ?_
        exact go_sub [(0, .ref mm_XT), (1, .ref 0), (2, .ref 68), (3, .ref 73), (4, .int (nI i))] ⟨rfl, rfl, rfl, rfl, rfl, trivial⟩ (lw_type l hL h4 hS KK)
      · refine go_tblIn (off := 1477) 1516 dL_law_39 (by decide +kernel) (by decide +kernel) (by decide +kernel) (by decide) ?_
        exact go_sub [(0, .ref mm_XT), (1, .ref 0), (2, .ref 68), (3, .ref 73), (4, .int (nI i))] ⟨rfl, rfl, rfl, rfl, rfl, trivial⟩ (lw_clearText l hL h4 hS KK)
      · refine go_tblIn (off := 1490) 1529 dL_law_39 (by decide +kernel) (by decide +kernel) (by decide +kernel) (by decide) ?_
        exact go_sub [(0, .ref mm_XT), (1, .ref 0), (2, .ref 68), (3, .ref 73), (4, .int (nI i))] ⟨rfl, rfl, rfl, rfl, rfl, trivial⟩ (lw_fault l hL h4 hS KK)
      · refine go_tblIn (off := 1503) 1542 dL_law_39 (by decide +kernel) (by decide +kernel) (by decide +kernel) (by decide) ?_
        exact go_sub [(0, .ref mm_XT), (1, .ref 0), (2, .ref 68), (3, .ref 73), (4, .int (nI i))] ⟨rfl, rfl, rfl, rfl, rfl, trivial⟩ (lw_run l hL h4 hS KK)
      · refine go_tblIn (off := 1547) 1586 dL_law_39 (by decide +kernel) (by decide +kernel) (by decide +kernel) (by decide) ?_
        exact go_sub [(0, .ref mm_XT), (1, .ref 0), (2, .ref 68), (3, .ref 73), (4, .int (nI i))] ⟨rfl, rfl, rfl, rfl, rfl, trivial⟩ (lw_undo l hL h4 hS KK)
      · refine go_tblIn (off := 1591) 1630 dL_law_39 (by decide +kernel) (by decide +kernel) (by decide +kernel) (by decide) ?_
        exact go_sub [(0, .ref mm_XT), (1, .ref 0), (2, .ref 68), (3, .ref 73), (4, .int (nI i))] ⟨rfl, rfl, rfl, rfl, rfl, trivial⟩ (lw_checksum l hL h4 hS KK)
      · refine go_tblOut 1644 dL_law_39 (Or.inr (by rw [nI_toInt (by omega)]; omega)) (by decide) ?_
        exact go_room (by omega) (by omega) (KK W rf f hS)
    · refine go_icmp_gt_t 1650 dL_law_29 (by decide) ((sub4 hL hi).mpr (by omega)) ?_
      refine go_iconst 1 dL_law_1650 (by decide) ?_
      exact go_lawret
def w00 : MW := (0, fun _ => .inr (0, []))
def w01 : MW := psh w00 (.inr (6, [.null, .null, .null, .null]))
def w02 : MW := psh (tq0 (68, w01.2)) (.inr (7, mdF 68 0))
def w03 : MW := psh (mdW (73, w02.2) 68 zI zI zI zI (0, 0, 0, 0, 0, 0, 0)) (.inl (.long, 1, .inr (.inl (fun _ => 0))))
theorem w03_eq : w03 = cW Q0 Q0 H0 (fun _ => 0) 0 (0, 0, 0, 0, 0) zI zI zI (tI (fun _ => 0)) (nI 0, 0, nI 0, 0, 0, 0, 0) (fun _ => 0) := by
  rw [cW_md]
  refine Prod.ext rfl (funext fun a => ?_)
  show va_up (mdW (73, w02.2) 68 zI zI zI zI (0, 0, 0, 0, 0, 0, 0)).2 73 _ a = _
  by_cases e73 : a = 73
  · rw [e73, md_ne (by decide), tq_hi (by decide)]
    rfl
  · simp only [va_up, if_neg e73]
    by_cases h : 68 ≤ a ∧ a ≤ 72
    · exact md_in h.1 h.2
    · rw [md_ne (by omega), md_ne (by omega)]
      show va_up (tq0 (68, w01.2)).2 68 _ a = _
      have e68 : ¬ a = 68 := by omega
      simp only [va_up, if_neg e68]
      by_cases h2 : a ≤ 67
      · exact tq_ind h2
      · unfold tq0
        rw [tq_hi (by omega), tq_hi (by omega)]
        show va_up w00.2 0 _ a = (if a = 73 then _ else _)
        have e0 : ¬ a = 0 := by omega
        rw [if_neg e73]
        simp only [va_up, if_neg e0]
        rfl
theorem start_S : LSt w03 0 (fun _ => 0) := by
  refine ⟨_, _, _, _, _, _, _, _, _, _, _, _, _, _, 0, w03_eq, Sim_zero (fun _ _ => rfl) (fun _ _ => rfl) (fun k hk => ?_), ⟨by decide, rfl, by decide, fun i hi => absurd hi (Nat.not_lt_zero i)⟩, Nat.zero_le _, fun _ => by dsimp only; decide⟩
  rcases (show k = 0 ∨ k = 1 ∨ k = 2 by omega) with rfl | rfl | rfl <;> rfl
theorem law_go (l : Launch) {L : Nat} {xs : Nat → Int32} (hL : L ≤ 2048) : Go l yL_law cL_law 7 (some .boolean) [] (some (L, xs)) lwZ 12 586 5597 0 [(0, .ref mm_XT)] [] w00 := by
  refine go_new (bc := 585) (bs := 5593) dL_law_0 w_L_8 (by decide) ?_
  refine go_w w01 rfl ?_
  refine go_dup dL_law_3 rfl ?_
  refine go_spec (mc := 67) (ms := 1101) (bc := 518) (bs := 4492) dL_law_4 (c_i7 l (w := w01) rfl psh_new.2) n_L_85 rfl rfl (Nat.le_of_ble_eq_true rfl) (Nat.le_of_ble_eq_true rfl) (Nat.le_of_ble_eq_true rfl) (fun v hv => ?_) (fun E hE => by cases hE)
  cases hv
  refine go_astore_n dL_law_7 (Nat.le_of_ble_eq_true rfl) rfl ?_
  refine go_new (bc := 517) (bs := 4481) dL_law_8 w_L_86 (by decide) ?_
  refine go_w w02 rfl ?_
  refine go_dup dL_law_11 rfl ?_
  refine go_spec (mc := 4) (ms := 1408) (bc := 513) (bs := 3073) dL_law_12 (c_i8 l (w := w02) (p := 68) rfl psh_new.2 (by decide)) n_L_88 rfl rfl (Nat.le_of_ble_eq_true rfl) (Nat.le_of_ble_eq_true rfl) (Nat.le_of_ble_eq_true rfl) (fun v hv => ?_) (fun E hE => by cases hE)
  cases hv
  refine go_astore_n dL_law_15 (Nat.le_of_ble_eq_true rfl) rfl ?_
  refine go_iconst 1 dL_law_16 (by decide) ?_
  refine go_newarray (bc := 512) (bs := 3072) (N := 1) (ty := .long) (a0 := (1, .inr (.inl (fun _ => 0)))) 1 (fun _ => rfl) dL_law_17 ka_long rfl cell_L (fun _ _ => rfl) (fun _ => trivial) (by decide) (by decide) (by decide) (by decide) ?_
  refine go_w w03 rfl ?_
  refine go_astore_n dL_law_19 (Nat.le_of_ble_eq_true rfl) rfl ?_
  refine go_iconst 0 dL_law_20 (by decide) ?_
  refine go_istore dL_law_21 (Nat.le_of_ble_eq_true rfl) rfl ?_
  exact go_sub [(0, .ref mm_XT), (1, .ref 0), (2, .ref 68), (3, .ref 73), (4, .int (nI 0))] ⟨rfl, rfl, rfl, rfl, rfl, trivial⟩ (law_loop l hL 512 0 w03 0 (fun _ => 0) start_S (by omega) (by decide))
