theorem mm_sel {C : String} {y z : MethodName} {s : State} {args : Array Value} (hy : y.cls ≠ "java/lang/invoke/MethodHandle" ∧ y.cls ≠ "java/lang/invoke/VarHandle") (hz : (Cond.selects C z z).before args s = true) (hc : z.cls = y.cls) (hpriv : (Cond.privateMethod y).before args s = true) (hinst : (Cond.instanceMethod y).before args s = true) : (Cond.selects C y y).before args s = true := by
  obtain ⟨c, r, mz, hc1, -, hnz, -, mk, hmk, hmi⟩ := Cond.selects_spec hz
  obtain ⟨my, methM, hnamed, hmethM, -, -⟩ := Cond.instanceMethod_spec hinst
  have hfound : s.methodFound? y.cls y.name y.desc = some my := State.methodFound?_of_named hnamed hy
  have hz2 := findClass_of_methodNamed hnz
  rw [hc] at hz2
  have hcls : my.cls = mz.cls := Option.some.inj ((findClass_of_methodNamed hnamed).symm.trans hz2)
  have hsel : selectMethod {} s.vm c my = .method my := selectMethod_private hmethM (Cond.privateMethod_at hpriv my methM hnamed hmethM)
  simp only [Cond.before, Cond.holds, Cond.value, hc1, hfound, hnamed, hsel, hcls, hmk]
  simp; exact hmi
theorem mm_G_of {s : State} {args : Array Value} (hts : ∀ w ∈ lw_tbl, w.before args s = true) : ∀ w ∈ mm_GW, w.before args s = true := by
  intro w hw
  have hp : (Cond.privateMethod yX3_lineUp).before args s = true := hts _ (mm_inl (i := 223) (by decide +kernel))
  have hi : (Cond.instanceMethod yX3_lineUp).before args s = true := hts _ (mm_inl (i := 224) (by decide +kernel))
  have hy : yX3_lineUp.cls ≠ "java/lang/invoke/MethodHandle" ∧ yX3_lineUp.cls ≠ "java/lang/invoke/VarHandle" := ⟨by decide, by decide⟩
  rcases List.mem_append.mp (List.mem_filter.mp hw).1 with h | h
  · have h2 : w = .selects RX0 yX3_lineUp yX3_lineUp ∨ w = .selects RX2 yX3_lineUp yX3_lineUp ∨ w = .selects RX4 yX3_lineUp yX3_lineUp := by simpa [mm_xs] using h
    rcases h2 with e | e | e
    · rw [e]; exact mm_sel (z := yX3_find) hy (hts _ (mm_inl (i := 229) (by decide +kernel))) rfl hp hi
    · rw [e]; exact mm_sel (z := yX3_find) hy (hts _ (mm_inl (i := 230) (by decide +kernel))) rfl hp hi
    · rw [e]; exact mm_sel (z := yX3_find) hy (hts _ (mm_inl (i := 231) (by decide +kernel))) rfl hp hi
  · exact hts w h
theorem mm_strs_X7 : ∀ q ∈ mm_strs, q.1 = RX7 := by decide +kernel
theorem mm_Tab_of {s : State} {args : Array Value} (hts : ∀ w ∈ lw_tbl, w.before args s = true) (hnc : ∀ q ∈ mm_ncs, va_Nc q.1 q.2 s) : mm_Tab s := by
  have hG := mm_G_of hts
  refine ⟨fun w hw => word_at (State.WarmedH.refl s) (mm_good hw) (hG w hw), fun w hw hk => ?_, va_AO.of (hts _ (mm_inl (i := 111) (by decide +kernel))), fun q hq => ?_, hnc⟩
  · have h := hts w hw
    cases w <;> first | exact h | cases hk
  · have e7 := mm_strs_X7 q hq
    obtain ⟨w, hw, e⟩ := List.mem_filterMap.mp hq
    obtain ⟨c, k, hc, -⟩ := Cond.instantiable_spec (hts (.instantiable RX7 4) (mm_inl (i := 20) (by decide +kernel)))
    cases w <;> first | (cases e; done) | skip
    cases e
    have h := hts _ hw
    obtain ⟨k1, cf, i, a, -, -, -, -, -, he⟩ := Cond.stringRef_spec (by rw [← e7] at hc; exact hc) h
    exact ⟨a, vk_R.of h he⟩
theorem lw_traces {l : Launch} (h : l.flags = flags0) : l.stackTraces = false := by
  unfold Launch.stackTraces
  rw [h]
  decide +kernel
/-- what holds at the law's entry -/
def lw_At (p : Program) (s : State) (m : MethodId) (meth : Method) (c : Code) (b L : Nat) (xs : Nat → Int32) : Prop :=
  p.tables.exec = Jvm.exec ∧ c.code = code ∧ meth.sig.returnType = ret ∧ c.maxLocals = 7 ∧ s.vm.findClass R_law = some m.cls ∧ (∀ w ∈ lw_tbl, w.before #[Value.ref b] s = true) ∧ va_X b L xs s s.heap ∧ b < s.heap.size ∧ meth.locks = false ∧ (Jvm.Cond.and given_1 narrow_1).before #[Value.ref b] s = true ∧ meth.name = "law" ∧ c.exceptionTable.toList = []
theorem whole_start {p : Program} {e : Env} {s : State} {m : MethodId} {below : List Frame} {meth : Method} {c : Code} (l : Launch) (hflags : l.flags = flags0) {b L : Nat} {xs : Nat → Int32} (hL : L ≤ 2048) (C0 : lw_At p s m meth c b L xs) : W p l e room_1 s m #[Value.ref b] below meth c s.heap [] 0 0 (lw_Z below #[Value.ref b] s) (entryFrame m ([Value.ref b] : List Value).toArray 7) := by
  obtain ⟨hx, hb, hr, hml, hown, hts, hX, hbl, hlocks, hgv, hnm, hex⟩ := C0
  have hG := mm_G_of hts
  have hq := flat_of_before _ hgv
  obtain ⟨c0, s0, k0⟩ := u_known (C := RX0) (T := TX0) (N := 4) (n := 4) hG kw_X0 (hts (.instantiable RX0 4) (mm_inl (i := 77) (by decide +kernel)))
  obtain ⟨c1, s1, k1⟩ := u_known (C := RX1) (T := TX1) (N := 3) (n := 3) hG kw_X1 (hts (.instantiable RX1 3) (mm_inl (i := 105) (by decide +kernel)))
  obtain ⟨c2, s2, k2⟩ := u_known (C := RX2) (T := TX2) (N := 3) (n := 3) hG kw_X2 (hts (.instantiable RX2 3) (mm_inl (i := 34) (by decide +kernel)))
  obtain ⟨c3, s3, k3⟩ := u_known (C := RX4) (T := TX4) (N := 3) (n := 3) hG kw_X4 (hts (.instantiable RX4 3) (mm_inl (i := 67) (by decide +kernel)))
  obtain ⟨c4, s4, k4⟩ := u_known (C := RX5) (T := TX5) (N := 4) (n := 4) hG kw_X5 (hts (.instantiable RX5 4) (mm_inl (i := 28) (by decide +kernel)))
  obtain ⟨c5, s5, k5⟩ := u_known (C := RX6) (T := TX6) (N := 7) (n := 7) hG kw_X6 (hts (.instantiable RX6 7) (mm_inl (i := 125) (by decide +kernel)))
  obtain ⟨c6, s6, k6⟩ := u_known (C := RX7) (T := TX7) (N := 4) (n := 4) hG kw_X7 (hts (.instantiable RX7 4) (mm_inl (i := 20) (by decide +kernel)))
  obtain ⟨c7, s7, k7⟩ := u_known (C := RX8) (T := TX8) (N := 11) (n := 11) hG kw_X8 (hts (.instantiable RX8 11) (mm_inl (i := 943) (by decide +kernel)))
  obtain ⟨dI, kI, pI, i1, i2, i3⟩ := Cond.arrayClass_spec (hts (.arrayClass .int) (mm_inl (i := 65) (by decide +kernel)))
  obtain ⟨dL, kL, pL, l1, l2, l3⟩ := Cond.arrayClass_spec (hts (.arrayClass .long) (mm_inl (i := 1369) (by decide +kernel)))
  obtain ⟨dC, kC, pC, g1, g2, g3⟩ := Cond.arrayClass_spec (hts (.arrayClass .char) (mm_inl (i := 156) (by decide +kernel)))
  obtain ⟨pO, dO, kO, o1, -, o2, o3, o4⟩ := Cond.arrayOver_spec (hts (.arrayOver (.object RX5)) (mm_inl (i := 111) (by decide +kernel)))
  have hTab : mm_Tab s := mm_Tab_of hts (fun q hq2 => by
    have h3 : q = ("java/lang/IllegalStateException", "java/lang/IllegalArgumentException") ∨ q = ("java/lang/IllegalArgumentException", "java/lang/IndexOutOfBoundsException") ∨ q = ("java/lang/IndexOutOfBoundsException", "java/lang/IllegalArgumentException") := by simpa [mm_ncs] using hq2
    rcases h3 with rfl | rfl | rfl
    · exact va_Nc.of (hq _ (by decide +kernel))
    · exact va_Nc.of (hq _ (by decide +kernel))
    · exact va_Nc.of (hq _ (by decide +kernel)))
  have hnA : ∀ a : Nat, a < s.heap.size → ¬ (fun q : Nat => s.heap.size ≤ q) a := fun a ha => Nat.not_le.mpr ha
  have hS : mm_S (fun k => match k with | 0 => c0 | 1 => c1 | 2 => c2 | 3 => c3 | 4 => c4 | 5 => c5 | 6 => c6 | _ => c7, fun k => match k with | 0 => s0 | 1 => s1 | 2 => s2 | 3 => s3 | 4 => s4 | 5 => s5 | 6 => s6 | _ => s7) (fun ty => match ty with | .int => dI | .long => dL | .char => dC | _ => dO) (fun q : Nat => s.heap.size ≤ q) s s.heap := by
    refine ⟨hTab, ⟨fun k q hq => ?_, fun k q hq => ?_⟩, vx_Zqof (hts _ (mm_inl (i := 530) (by decide +kernel))) (hts _ (mm_inl (i := 10) (by decide +kernel))) (hq _ (by decide +kernel)) hnA, vx_Zqof (hts _ (mm_inl (i := 532) (by decide +kernel))) (hts _ (mm_inl (i := 10) (by decide +kernel))) (hq _ (by decide +kernel)) hnA⟩
    · match k, hq with
      | 0, hq => cases hq; exact k0
      | 1, hq => cases hq; exact k1
      | 2, hq => cases hq; exact k2
      | 3, hq => cases hq; exact k3
      | 4, hq => cases hq; exact k4
      | 5, hq => cases hq; exact k5
      | 6, hq => cases hq; exact k6
      | 7, hq => cases hq; exact k7
      | k + 8, hq => simp [mm_cl] at hq
    · match k, hq with
      | 0, hq => cases hq; exact ⟨fun n z => ⟨fun k h => (by cases h), kI, i2, pI, i3⟩, i1⟩
      | 1, hq => cases hq; exact ⟨fun n z => ⟨fun k h => (by cases h), kL, l2, pL, l3⟩, l1⟩
      | 2, hq => cases hq; exact ⟨fun n z => ⟨fun k h => (by cases h), kC, g2, pC, g3⟩, g1⟩
      | 3, hq => cases hq; exact ⟨fun n z => ⟨fun k h => (by cases h), kO, o2, pO, o3⟩, kO, pO, o2, o3, o1, o4⟩
      | k + 4, hq => simp [mm_tys] at hq
  have hC : mm_C l yL_law cL_law 7 (some .boolean) [] (some (L, xs)) 12 p room_1 s m meth c (fun k => match k with | 0 => c0 | 1 => c1 | 2 => c2 | 3 => c3 | 4 => c4 | 5 => c5 | 6 => c6 | _ => c7, fun k => match k with | 0 => s0 | 1 => s1 | 2 => s2 | 3 => s3 | 4 => s4 | 5 => s5 | 6 => s6 | _ => s7) (fun ty => match ty with | .int => dI | .long => dL | .char => dC | _ => dO) (fun q : Nat => s.heap.size ≤ q) (fun _ => b) :=
    ⟨hx, hb, hml, hr, hown, hnm, hlocks, hex, lw_traces hflags, Nat.le_of_ble_eq_true rfl, Nat.le_of_ble_eq_true rfl, hS, fun _ h => h, fun L2 xs2 h2 => by cases h2; exact ⟨hX, hbl, Nat.not_le.mpr hbl⟩⟩
  rw [lg_entry_eq]
  have he := lv_entry ([.ref b] : List Value) (n := 7) (Nat.le_of_ble_eq_true rfl)
  generalize (lg_sl ([.ref b]) ++ List.replicate (7 - (lg_sl ([.ref b])).length) Slot.unset).toArray = ls at he ⊢
  have he2 : lv_has ls 7 [(0, .ref b)] := he
  have hLs : mm_L (fun _ => b) 0 7 [(0, .ref mm_XT)] ls := by
    refine ⟨he2.1, he2.2.1, fun i v hv => ?_⟩
    have hm := mm_lk_mem hv
    cases List.mem_singleton.mp hm
    exact ⟨he2.2.2 (0, .ref b) List.mem_cons_self, fun k hk => by cases hk; exact Or.inr rfl⟩
  have k := law_go l (L := L) (xs := xs) hL p e room_1 s m #[Value.ref b] below meth c _ _ _ _ 0 hC s.heap [] 0 0 (fun _ => b) ls (Nat.le_of_ble_eq_true rfl) (Nat.le_of_ble_eq_true rfl) ⟨fun k q h => by simp [mm_ws, w00] at h, fun k hk => absurd hk (Nat.not_lt_zero k), Nat.zero_le _⟩ ⟨fun i j p q h => by simp [mm_ws, w00] at h, fun k q h => by simp [mm_ws, w00] at h⟩ va_S.rf ⟨Nat.le_refl _, fun _ _ => rfl⟩ hLs mm_O.nil
  intro T hT X
  obtain ⟨t, a1, b1⟩ := k T hT X
  exact ⟨t, a1, b1 ⟨rfl, fun _ h => h, b, rfl⟩⟩
set_option maxHeartbeats 4000000 in
theorem lw_walk (l : Launch) (hflags : l.flags = flags0) (b : Addr) (xs : List Int32) : MetFree l x (headSpec (Jvm.Cond.code x code maxLocals ret :: tables_1) room_1) (lw_P b xs) (fun _ _ _ _ _ => True) lw_Q := by
  refine MetFree.of_bodyS (code := code) (maxLocals := maxLocals) (ret := ret) (by decide) ?_ ?_
  · intro args s m h hn
    obtain ⟨meth, c, h1, h2, h3, h4, h5, h6, -, -⟩ := Cond.code_spec hn (atoms_spec (ws := Jvm.Cond.code x code maxLocals ret :: tables_1) h _ List.mem_cons_self)
    exact ⟨meth, c, h1, h2, h3, h4, h5, h6⟩
  · intro p e s m args below meth c s₁ B hml0 hP _
    obtain ⟨rfl, hx, hbd, hgv⟩ := hP
    obtain ⟨scr, harrAt, hlist, hof, hsmall⟩ := hx
    obtain ⟨hcb, hkn, -, -⟩ := State.arrayAt?_spec harrAt
    have hown : s.vm.findClass R_law = some m.cls := findClass_of_methodNamed B.named
    have hts0 : ∀ c ∈ (Jvm.Cond.code x code maxLocals ret :: tables_1), c.before #[Value.ref b] s = true := atoms_spec (ws := Jvm.Cond.code x code maxLocals ret :: tables_1) B.pre
    have hts : ∀ w ∈ lw_tbl, w.before #[Value.ref b] s = true := k2_hts_sels lw_privs (fun w hw => hts0 w (List.mem_cons_of_mem _ hw)) lw_privs_ok
    have hml : c.maxLocals = 7 := B.maxLocals_eq (hts0 _ List.mem_cons_self)
    have X₀ : Stand p l e room_1 s m #[Value.ref b] below meth c s₁ [] 0 0 := Stand.of_body B
    have hh0 : s₁.heap = s.heap := by rw [B.state]; rfl
    have hsz : scr.slots.size = xs.length := by rw [← Array.length_toList, hlist, List.length_map]
    have hval : ∀ j : Nat, j < xs.length → scr.slots[j]? = some (.int (xs.getD j 0)) := fun j hj => by
      rw [← Array.getElem?_toList, hlist]
      simp [hj]
    have hbl : b < s.heap.size := (Array.getElem?_eq_some_iff.mp hcb).1
    have hX : va_X b xs.length (fun j => xs.getD j 0) s s.heap := ⟨scr, hcb, hof, hkn, hsz, hval⟩
    have hex : c.exceptionTable.toList = [] := by
      obtain ⟨meth9, c9, h1, h2, -, -, -, -, h7, -⟩ := Cond.code_spec B.named (hts0 _ List.mem_cons_self)
      cases Option.some.inj (h1.symm.trans B.method)
      cases Option.some.inj (h2.symm.trans (Stand.of_body B).code)
      rw [Array.isEmpty_iff.mp h7]
    have K : W p l e room_1 s m #[Value.ref b] below meth c s₁.heap [] 0 0 (lw_Z below #[Value.ref b] s) (entryFrame m ([Value.ref b] : List Value).toArray 7) := by
      rw [hh0]
      exact whole_start l hflags hbd ⟨B.exec, B.bytes, B.returns, hml, hown, hts, hX, hbl, B.notSynchronized, hgv, (name_of_methodNamed B.named B.method).1, hex⟩
    obtain ⟨t, a1, o, b1, b2, b3⟩ := K s₁ rfl X₀
    exact ⟨t, o, a1, b1, b2, b3⟩
theorem lw_pre_spec {args : Array Value} {s : State} (h : (Jvm.Cond.and given_1 narrow_1).before args s = true) (hr : rest_1_c.before args s = true) : ∃ (b : Addr) (xs : List Int32), lw_P b xs args s := by
  have hs := flat_of_before _ h
  have hq := flat_of_before _ hr
  have hc : (Cond.count 1).before args s = true := hs _ (by decide +kernel)
  have harr : (Cond.arrayOf (.arg 0) .int).before args s = true := hs _ (by decide +kernel)
  have hle : (Cond.le (.length (.arg 0)) (.int 2048)).before args s = true := hs _ (by decide +kernel)
  have hlen : (Cond.isInt (.length (.arg 0))).before args s = true := hq _ (by decide +kernel)
  have hall : (Cond.all (.arg 0) (.isInt (.elem (.arg 0) (.index 0)))).before args s = true := hq _ (by decide +kernel)
  obtain ⟨b, xs, hb, hx⟩ := State.ints_of_pre rfl harr hlen hall
  have hsm : xs.length < 2 ^ 31 := hx.choose_spec.2.2.2
  have hev : (Term.length (.arg 0)).eval args s none [] s = some (.int xs.length.toInt32) := hx.length_eval hb
  have hv := Cond.le_ints hev (show (Term.int 2048).eval args s none [] s = some (.int 2048) from rfl)
  have hd : xs.length.toInt32 ≤ 2048 := by
    simpa [Cond.before, Cond.holds, hv] using hle
  have hN : xs.length ≤ 2048 := (Int32.ofNat_le_ofNat hsm (by decide)).mp (show Int32.ofNat xs.length ≤ Int32.ofNat 2048 from hd)
  exact ⟨b, xs, Cond.one_arg hc (show args[0]? = some (.ref b) from hb), hx, hN, h⟩
theorem lw_comes (l : Launch) (hflags : l.flags = flags0) : Comes l x (Jvm.Cond.code x code maxLocals ret :: tables_1) room_1 (fun tb e args s => Calls_1 tb e args s ∧ rest_1 tb e args s ∧ Pre_1 tb e args s)
    (fun _ _ args s o t => lw_Q args s o t) := by
  intro p e ha hc hk s m args below hf hfit hheap happ hpre
  obtain ⟨b, xs, hP⟩ := lw_pre_spec hpre.2.2 hpre.2.1
  obtain ⟨k, o, h1, h2, h3, hQ⟩ := lw_walk l hflags b xs p e ha hc hk s m args below hf ((Spec.applies_iff_loose hf).mp happ).1 hP trivial
  exact ⟨k, o, h1, h2, h3, hQ⟩
theorem lw_frame {s t : State} {o : Outcome} {args : Array Value} (h : Framed s o t [] 601024 7293034) :
    Framed s o t (fieldLocs frame_1_writes args s ++ arrayLocs frame_1_arrays args s ++ staticLocs frame_1_statics s) 601024 7293034 := h
theorem lw_limb (L : Cond) (hL : ∀ (args : Array Value) (s t : State), L.after args s (.returned (some (.int 1))) t = true) :
    ArmFor flags0 classFile x code maxLocals ret World_1 tables_1 room_1 Calls_1 rest_1 Pre_1
      (fun tb e a s o t => postC L tb e a s o t ∧ Framed s o t (fieldLocs frame_1_writes a s ++ arrayLocs frame_1_arrays a s ++ staticLocs frame_1_statics s) 601024 7293034) := by
  intro l hflags _ _ p e ha hc hk s m args below hf hfit hheap happ hpre
  obtain ⟨k, o, h1, h2, h3, rfl, hF⟩ := lw_comes l hflags p e ha hc hk s m args below hf hfit hheap happ hpre
  exact ⟨k, _, h1, h2, h3, hL args s _, lw_frame hF⟩
theorem i_vc : Claimed_1_1 ∧ Claimed_1_2 := ⟨lw_limb limb_1_1 (fun args s t => by simp [limb_1_1, Cond.after, Cond.holds, Cond.value]), lw_limb limb_1_2 (fun args s t => Cond.after_iff.mpr (by
  first | (rw [show limb_1_2 = Cond.eq .result (.int 1) from rfl, Cond.eq_ints (x := 1) (y := 1) rfl rfl]; simp; done) | (simp [limb_1_2, Cond.value, Term.eval]; done)))⟩
