theorem mm_A1 {A : Nat → Prop} {dA : FieldType → ClassId} {ad : Nat → Nat} {w : MW} {H0 H : Heap} {locs : List Loc} (hD : va_D A (mm_ws ad dA w)) (hS : va_S A H0 H locs) (hA : ∀ q, H0.size ≤ q → A q) : ∀ q, va_A (mm_ws ad dA w) H.size q → A q := by
  intro q h
  rcases h with ⟨k, e, h⟩ | h
  · exact hD.2 k _ h
  · exact hA q (Nat.le_trans hS.1 h)
section CALLS
variable {l : Launch} {y : MethodName} {cc : ByteArray} {nL : Nat} {ret : Option FieldType} {hh : List (Nat × Nat × Nat × Nat)} {ext : Option (Nat × (Nat → Int32))} {Z : MZ} {d bc bs : Nat} {pc : Nat} {lv : List (Nat × Value)} {st rest : List Value} {w w' : MW} {o : MO} {mc ms : Nat}
theorem mm_after (hret : ∀ v, o = .inl v → Go l y cc nL ret hh ext Z d bc bs (pc + 3) lv (v.toList ++ rest) w') (hthr : ∀ E, o = .inr E → GoX l y cc nL ret hh ext Z d bc bs pc lv E w')
    {p : Program} {e : Env} {R : Room} {s : State} {m : MethodId} {args : Array Value} {below : List Frame} {meth : Method} {c : Code} {D : va_G} {dA : FieldType → ClassId} {A : Nat → Prop} {ad0 : Nat → Nat} {N0 : Nat} (C : mm_C l y cc nL ret hh ext d p R s m meth c D dA A ad0) {H : Heap} {locs : List Loc} {cells slots : Nat} {ad : Nat → Nat} {ls : Array Slot} (h1 : cells + (mc + bc) ≤ R.cells) (h2 : slots + (ms + bs) ≤ R.slots)
    (h4 : va_D A (mm_ws ad dA w)) (h5 : va_S A s.heap H locs) (h6 : mm_ag ad0 ad N0 w.1) (h7 : mm_L ad w.1 nL lv ls) (h8 : mm_O w.1 rest) {a : Array Value} {st0 : List Value}
    (hr : vx_Run p l e R s m args below meth c H locs cells slots mc ms (F0 m pc ls st0) (rest.map (mm_rv ad)) (mm_Qc (mm_eq o w') D dA (va_A (mm_ws ad dA w) H.size) ad w.1 a) (mm_XC (mm_eq o w') D dA (va_A (mm_ws ad dA w) H.size) ad w.1) (va_A (mm_ws ad dA w) H.size)) :
    W p l e R s m args below meth c H locs cells slots (Z R D dA A ad0 N0 below args s) (F0 m pc ls st0) := by
  have hf : ∀ q, va_A (mm_ws ad dA w) H.size q → A q := mm_A1 h4 h5 C.2.2.2.2.2.2.2.2.2.2.2.2.1
  intro T hT X
  rcases hr T hT X with ⟨v, st₀, t, T', L, g0, X', hL, e1, e2, ⟨v1, w1, ad1, ev, ⟨eo, ew⟩, hok, hH, hD, hag, hF⟩, stp⟩ | ⟨q, st₀, t, T', L, E, ce, g0, X', hL, e1, e2, ⟨w1, ad1, ⟨eo, ew⟩, hH, hD, hag, hF⟩, hce, hcv, hcl, stp⟩
  · subst ew
    cases ev
    obtain ⟨k1, k2, k3⟩ := vx_keep g0 e1 h5 (fun q _ h => hf q h) hf hL hF
    have hst : (v1.map (mm_rv ad1)).toList ++ rest.map (mm_rv ad) = (v1.toList ++ rest).map (mm_rv ad1) := by
      rw [List.map_append, h8.agree hag.2]
      cases v1 <;> rfl
    have hO : mm_O w1.1 (v1.toList ++ rest) := by
      cases v1 with
      | none => exact h8.mono hag.1
      | some x => exact mm_O.cons (hok x rfl) (h8.mono hag.1)
    have K := hret v1 eo.symm p e R s m args below meth c D dA A ad0 N0 C T'.heap (locs ++ L) (cells + mc) (slots + ms) ad1 ls (by omega) (by omega) (by rw [e1]; exact hH) (hD.weaken (fun _ q _ h => hf q.1 h)) k3 ⟨Nat.le_trans h6.1 hag.1, fun k hk => (hag.2 k (hk.imp (fun z => Nat.lt_of_lt_of_le z h6.1) id)).trans (h6.2 k hk)⟩ (h7.agree hag.1 hag.2) hO
    obtain ⟨t2, a1, b1⟩ := K T' rfl X'
    have stp2 := stp t2
    rw [show (F0 m pc ls st0).pc + 3 = pc + 3 from rfl, hst] at stp2
    exact ⟨t2, stp2 a1, b1⟩
  · subst ew
    obtain ⟨k1, k2, k3⟩ := vx_keep g0 e1 h5 (fun q _ h => hf q h) hf hL hF
    have K := hthr E eo.symm p e R s m args below meth c D dA A ad0 N0 C T'.heap (locs ++ L) (cells + mc) (slots + ms) ad1 ls (by omega) (by omega) (by rw [e1]; exact hH) (hD.weaken (fun _ q _ h => hf q.1 h)) k3 ⟨Nat.le_trans h6.1 hag.1, fun k hk => (hag.2 k (hk.imp (fun z => Nat.lt_of_lt_of_le z h6.1) id)).trans (h6.2 k hk)⟩ (h7.agree hag.1 hag.2) q ce (rest.map (mm_rv ad)) (by rw [e1]; exact hce) hcv hcl
    obtain ⟨t2, a1, b1⟩ := K T' rfl X'
    exact ⟨t2, stp.trans a1, b1⟩
/-- what the callee is given -/
theorem mm_pre {p : Program} {R : Room} {s : State} {m : MethodId} {meth : Method} {c : Code} {D : va_G} {dA : FieldType → ClassId} {A : Nat → Prop} {ad0 : Nat → Nat} (C : mm_C l y cc nL ret hh ext d p R s m meth c D dA A ad0) {H : Heap} {locs : List Loc} {ad : Nat → Nat} {as : List Value}
    (h3 : mm_H D dA ad w H) (h4 : va_D A (mm_ws ad dA w)) (h5 : va_S A s.heap H locs) (h8 : mm_O w.1 as) : ∀ U : State, U.heap = H → s.WarmedH U.vm → mm_Pc D dA ad H.size as w (as.map (mm_rv ad)).toArray U := by
  intro U hU hW
  have hf : ∀ q, va_A (mm_ws ad dA w) H.size q → A q := mm_A1 h4 h5 C.2.2.2.2.2.2.2.2.2.2.2.2.1
  refine ⟨rfl, by rw [hU], by rw [hU]; exact h3, ?_, h4.weaken (fun _ _ _ _ => trivial), h8⟩
  rw [hU]
  exact ((C.2.2.2.2.2.2.2.2.2.2.2.1.kept h5.2.1).narrow hf).warm hW
/-- the words of a call through the class number ci: by its own name, or inherited, or overridden -/
def mm_V (own : String) (idx ci : Nat) (y1 : MethodName) (c1 : ByteArray) (n1 : Nat) (r1 : Option FieldType) (n : Nat) : Prop := ∃ (CC : String) (T : u_T) (N : Nat), mm_cl[ci]? = some (CC, T, N) ∧ Cond.code y1 c1 n1 r1 ∈ mm_GW ∧ Cond.initialized y1.cls ∈ mm_GW ∧ Cond.instanceMethod y1 ∈ mm_GW ∧
  ((Cond.methodLink own idx y1 ∈ mm_GW ∧ Cond.selects CC y1 y1 ∈ mm_GW ∧ (y1.cls ≠ "java/lang/invoke/MethodHandle" ∧ y1.cls ≠ "java/lang/invoke/VarHandle") ∧ (parseMethodDescriptor y1.desc).map (fun d => d.parameters.length) = some n) ∨
   ∃ (owner : String) (x : MethodName), Cond.methodLink own idx x ∈ mm_GW ∧ Cond.sameMethod x.cls owner x.name x.desc ∈ mm_GW ∧ Cond.selects CC x y1 ∈ mm_GW ∧ (owner ≠ "java/lang/invoke/MethodHandle" ∧ owner ≠ "java/lang/invoke/VarHandle") ∧ (parseMethodDescriptor x.desc).map (fun d => d.parameters.length) = some n ∧ (y1 = ⟨owner, x.name, x.desc⟩ ∨ Cond.declares ⟨owner, x.name, x.desc⟩ ∈ lw_tbl))
theorem mm_len {desc : String} {n : Nat} (h : (parseMethodDescriptor desc).map (fun d => d.parameters.length) = some n) : ∀ sig, parseMethodDescriptor desc = some sig → n = sig.parameters.length := by
  intro sig h2
  rw [h2] at h
  exact (Option.some.inj h).symm
theorem mm_code {s : State} (h : mm_Tab s) {w : Cond} (hw : w ∈ mm_GW) : ∀ x ∈ [w], ∀ (a' : Array Value) (U : State), s.WarmedH U.vm → x.before a' U = true := by
  intro x hx a' U hW
  rw [List.mem_singleton.mp hx]
  exact word_at hW (mm_good hw) (h.1 w hw)
/-- invokevirtual; As: the arguments in the order of the descriptor -/
theorem go_virt {y1 : MethodName} {c1 : ByteArray} {n1 : Nat} {r1 : Option FieldType} {d1 n idx ci a : Nat} {fs As : List Value} (hd : decode cc pc = .ok (.invokevirtual idx, 3)) (hM : Ct l (.code y1 c1 n1 r1) y1 d1 mc ms (.ref a :: As) w o w') (hV : mm_V y.cls idx ci y1 c1 n1 r1 n) (hn : As.length = n) (ho : mm_ob w a ci fs) (hst : st = As.reverse ++ .ref a :: rest)
    (hcat : (rest.map fun v => v.category).sum ≤ 8) (hdp : d1 + 1 ≤ d) (hmx : n1 ≤ 21) (hret : ∀ v, o = .inl v → Go l y cc nL ret hh ext Z d bc bs (pc + 3) lv (v.toList ++ rest) w') (hthr : ∀ E, o = .inr E → GoX l y cc nL ret hh ext Z d bc bs pc lv E w') : Go l y cc nL ret hh ext Z d (mc + bc) (ms + bs) pc lv st w := by
  intro p e R s m args below meth c D dA A ad0 N0 C H locs cells slots ad ls h1 h2 h3 h4 h5 h6 h7 h8
  subst hst
  have hS := C.2.2.2.2.2.2.2.2.2.2.2.1
  have hO2 : mm_O w.1 (Value.ref a :: As) := fun v hv => h8 v (by
    rcases List.mem_cons.mp hv with q | q
    · rw [q]; exact List.mem_append_right _ List.mem_cons_self
    · exact List.mem_append_left _ (List.mem_reverse.mpr q))
  have hO3 : mm_O w.1 rest := fun v hv => h8 v (List.mem_append_right _ (List.mem_cons_of_mem _ hv))
  have hMt := hM C.2.2.2.2.2.2.2.2.1 D dA ad H.size
  obtain ⟨CC, T, N, f1, f2, f3, f4, f5⟩ := hV
  have hfix : CallFix p m c cc nL s args mm_GW y.cls := ⟨C.1, C.2.1, C.2.2.1, C.2.2.2.2.1, hS.1.hts⟩
  have hrec := va_recv (q := (CC, T, N)) hS.2.1 h3.1 f1 (mm_ob_at (ad := ad) (dA := dA) ho)
  have hpre : PreV s H CC (ad a) (mm_Pc D dA ad H.size (.ref a :: As) w) (As.map (mm_rv ad)) := ⟨mm_Pc.blind, hrec, mm_pre C h3 h4 h5 hO2⟩
  have hstk : (F0 m pc ls ((As.reverse ++ .ref a :: rest).map (mm_rv ad))).stack = (As.map (mm_rv ad)).reverse ++ .ref (ad a) :: rest.map (mm_rv ad) := by
    show (As.reverse ++ .ref a :: rest).map (mm_rv ad) = _
    rw [List.map_append, List.map_reverse]
    rfl
  have hcat2 : 2 * (F0 m pc ls ((As.reverse ++ .ref a :: rest).map (mm_rv ad))).monitorRoom + ((rest.map (mm_rv ad)).map fun v => v.category).sum ≤ 8 := by
    have e9 : (rest.map (mm_rv ad)).map (fun v => v.category) = rest.map fun v => v.category := by rw [List.map_map]; exact List.map_congr_left (fun v _ => mm_cat ad v)
    rw [e9]
    show 2 * 0 + _ ≤ 8
    omega
  have hR : (mm_rm d1 mc ms).frames + 1 ≤ R.frames ∧ 8 + (n1 + 11) + (mm_rm d1 mc ms).locals ≤ R.locals := by
    have q1 := C.2.2.2.2.2.2.2.2.2.1
    have q2 := C.2.2.2.2.2.2.2.2.2.2.1
    show d1 + 1 ≤ R.frames ∧ 8 + (n1 + 11) + 40 * d1 ≤ R.locals
    omega
  refine mm_after (a := (Value.ref (ad a) :: As.map (mm_rv ad)).toArray) hret hthr C h1 h2 h4 h5 h6 h7 hO3 ?_
  rcases f5 with ⟨g1, g2, g3, g4⟩ | ⟨owner, x, g1, g2, g3, g4, g5, g6⟩
  · exact vx_runV (C := CC) (b := ad a) (As := As.map (mm_rv ad)) hfix hMt ⟨⟨rfl, rfl, hR.1, hR.2, mm_code hS.1 f2, List.mem_singleton.mpr rfl, hS.1.hts _ f2, hS.1.hts _ f3, g3, mm_len g4, hS.1.hts _ g1⟩, hS.1.hts _ f4, hS.1.hts _ g2⟩ hpre rfl (by rw [List.length_map]; exact hn) h7.1 hstk hcat2 hd ⟨by omega, by omega⟩
  · refine vx_runU (x := x) (owner := owner) (C := CC) (b := ad a) (As := As.map (mm_rv ad)) hfix hMt ⟨⟨rfl, rfl, hR.1, hR.2, mm_code hS.1 f2, List.mem_singleton.mpr rfl⟩, hS.1.hts _ f2, hS.1.hts _ f3, g4, mm_len g5, hS.1.hts _ g1, hS.1.hts _ g2, ?_, hS.1.hts _ g3, hS.1.hts _ f4⟩ hpre rfl (by rw [List.length_map]; exact hn) h7.1 hstk hcat2 hd ⟨by omega, by omega⟩
    rcases g6 with q | q
    · rw [← q]; exact va_Decl.of (args := args) (hS.1.hts _ f4) (hS.1.hts _ f2)
    · exact va_Decl.abs (hS.1.2.1 _ q rfl)
def mm_St (own : String) (idx : Nat) (y1 : MethodName) (n : Nat) : Prop := Cond.initialized y1.cls ∈ mm_GW ∧ Cond.static y1 ∈ mm_GW ∧ (y1.cls ≠ "java/lang/invoke/MethodHandle" ∧ y1.cls ≠ "java/lang/invoke/VarHandle") ∧ (parseMethodDescriptor y1.desc).map (fun d => d.parameters.length) = some n ∧ (Cond.methodLink own idx y1 ∈ mm_GW ∨ ∃ host, Cond.methodLinkNest own idx y1 host ∈ lw_tbl)
theorem go_stat {y1 : MethodName} {c1 : ByteArray} {n1 : Nat} {r1 : Option FieldType} {d1 n idx : Nat} {As : List Value} (hd : decode cc pc = .ok (.invokestatic idx, 3)) (hM : Ct l (.code y1 c1 n1 r1) y1 d1 mc ms As w o w') (hV : mm_St y.cls idx y1 n) (hcd : Cond.code y1 c1 n1 r1 ∈ mm_GW) (hn : As.length = n) (hst : st = As.reverse ++ rest)
    (hcat : (rest.map fun v => v.category).sum ≤ 8) (hdp : d1 + 1 ≤ d) (hmx : n1 ≤ 21) (hret : ∀ v, o = .inl v → Go l y cc nL ret hh ext Z d bc bs (pc + 3) lv (v.toList ++ rest) w') (hthr : ∀ E, o = .inr E → GoX l y cc nL ret hh ext Z d bc bs pc lv E w') : Go l y cc nL ret hh ext Z d (mc + bc) (ms + bs) pc lv st w := by
  intro p e R s m args below meth c D dA A ad0 N0 C H locs cells slots ad ls h1 h2 h3 h4 h5 h6 h7 h8
  subst hst
  have hS := C.2.2.2.2.2.2.2.2.2.2.2.1
  have hO2 : mm_O w.1 As := fun v hv => h8 v (List.mem_append_left _ (List.mem_reverse.mpr hv))
  have hO3 : mm_O w.1 rest := fun v hv => h8 v (List.mem_append_right _ hv)
  have hMt := hM C.2.2.2.2.2.2.2.2.1 D dA ad H.size
  obtain ⟨f3, f4, f5, f6, f7⟩ := hV
  have hfix : CallFix p m c cc nL s args mm_GW y.cls := ⟨C.1, C.2.1, C.2.2.1, C.2.2.2.2.1, hS.1.hts⟩
  have hpre : PreS s H (mm_Pc D dA ad H.size As w) (As.map (mm_rv ad)) := ⟨mm_Pc.blind, mm_pre C h3 h4 h5 hO2⟩
  have hstk : (F0 m pc ls ((As.reverse ++ rest).map (mm_rv ad))).stack = (As.map (mm_rv ad)).reverse ++ rest.map (mm_rv ad) := by
    show (As.reverse ++ rest).map (mm_rv ad) = _
    rw [List.map_append, List.map_reverse]
  have hcat2 : 2 * (F0 m pc ls ((As.reverse ++ rest).map (mm_rv ad))).monitorRoom + ((rest.map (mm_rv ad)).map fun v => v.category).sum ≤ 8 := by
    have e9 : (rest.map (mm_rv ad)).map (fun v => v.category) = rest.map fun v => v.category := by rw [List.map_map]; exact List.map_congr_left (fun v _ => mm_cat ad v)
    rw [e9]
    show 2 * 0 + _ ≤ 8
    omega
  have hR : (mm_rm d1 mc ms).frames + 1 ≤ R.frames ∧ 8 + (n1 + 11) + (mm_rm d1 mc ms).locals ≤ R.locals := by
    have q1 := C.2.2.2.2.2.2.2.2.2.1
    have q2 := C.2.2.2.2.2.2.2.2.2.2.1
    show d1 + 1 ≤ R.frames ∧ 8 + (n1 + 11) + 40 * d1 ≤ R.locals
    omega
  refine mm_after (a := (As.map (mm_rv ad)).toArray) hret hthr C h1 h2 h4 h5 h6 h7 hO3 ?_
  rcases f7 with g1 | ⟨host, g1⟩
  · exact vx_runS (As := As.map (mm_rv ad)) hfix hMt ⟨⟨rfl, rfl, hR.1, hR.2, mm_code hS.1 hcd, List.mem_singleton.mpr rfl, hS.1.hts _ hcd, hS.1.hts _ f3, f5, mm_len f6, hS.1.hts _ g1⟩, hS.1.hts _ f4⟩ hpre rfl (by rw [List.length_map]; exact hn) h7.1 hstk hcat2 hd ⟨by omega, by omega⟩
  · exact vx_runSN (host := host) (As := As.map (mm_rv ad)) hfix hMt ⟨⟨⟨rfl, rfl, hR.1, hR.2, mm_code hS.1 hcd, List.mem_singleton.mpr rfl⟩, hS.1.hts _ hcd, hS.1.hts _ f3, f5, mm_len f6, va_Nw.use rfl (hS.1.2.1 _ g1 rfl)⟩, hS.1.hts _ f4, trivial⟩ hpre rfl (by rw [List.length_map]; exact hn) h7.1 hstk hcat2 hd ⟨by omega, by omega⟩
/-- a static method with a table of handlers -/
theorem go_statH {y1 : MethodName} {c1 : ByteArray} {n1 : Nat} {r1 : Option FieldType} {h1' : List (Nat × Nat × Nat × Nat)} {d1 n idx : Nat} {As : List Value} (hd : decode cc pc = .ok (.invokestatic idx, 3)) (hM : Ct l (.codeWith y1 c1 n1 r1 h1') y1 d1 mc ms As w o w') (hV : mm_St y.cls idx y1 n) (hcd : Cond.codeWith y1 c1 n1 r1 h1' ∈ mm_GW) (hlk : Cond.methodLink y.cls idx y1 ∈ mm_GW) (hn : As.length = n) (hst : st = As.reverse ++ rest)
    (hcat : (rest.map fun v => v.category).sum ≤ 8) (hdp : d1 + 1 ≤ d) (hmx : n1 ≤ 21) (hret : ∀ v, o = .inl v → Go l y cc nL ret hh ext Z d bc bs (pc + 3) lv (v.toList ++ rest) w') (hthr : ∀ E, o = .inr E → GoX l y cc nL ret hh ext Z d bc bs pc lv E w') : Go l y cc nL ret hh ext Z d (mc + bc) (ms + bs) pc lv st w := by
  intro p e R s m args below meth c D dA A ad0 N0 C H locs cells slots ad ls h1 h2 h3 h4 h5 h6 h7 h8
  subst hst
  have hS := C.2.2.2.2.2.2.2.2.2.2.2.1
  have hO2 : mm_O w.1 As := fun v hv => h8 v (List.mem_append_left _ (List.mem_reverse.mpr hv))
  have hO3 : mm_O w.1 rest := fun v hv => h8 v (List.mem_append_right _ hv)
  have hMt := hM C.2.2.2.2.2.2.2.2.1 D dA ad H.size
  obtain ⟨f3, f4, f5, f6, -⟩ := hV
  have hfix : CallFix p m c cc nL s args mm_GW y.cls := ⟨C.1, C.2.1, C.2.2.1, C.2.2.2.2.1, hS.1.hts⟩
  have hpre : PreS s H (mm_Pc D dA ad H.size As w) (As.map (mm_rv ad)) := ⟨mm_Pc.blind, mm_pre C h3 h4 h5 hO2⟩
  have hstk : (F0 m pc ls ((As.reverse ++ rest).map (mm_rv ad))).stack = (As.map (mm_rv ad)).reverse ++ rest.map (mm_rv ad) := by
    show (As.reverse ++ rest).map (mm_rv ad) = _
    rw [List.map_append, List.map_reverse]
  have hcat2 : 2 * (F0 m pc ls ((As.reverse ++ rest).map (mm_rv ad))).monitorRoom + ((rest.map (mm_rv ad)).map fun v => v.category).sum ≤ 8 := by
    have e9 : (rest.map (mm_rv ad)).map (fun v => v.category) = rest.map fun v => v.category := by rw [List.map_map]; exact List.map_congr_left (fun v _ => mm_cat ad v)
    rw [e9]
    show 2 * 0 + _ ≤ 8
    omega
  have hR : (mm_rm d1 mc ms).frames + 1 ≤ R.frames ∧ 8 + (n1 + 11) + (mm_rm d1 mc ms).locals ≤ R.locals := by
    have q1 := C.2.2.2.2.2.2.2.2.2.1
    have q2 := C.2.2.2.2.2.2.2.2.2.2.1
    show d1 + 1 ≤ R.frames ∧ 8 + (n1 + 11) + 40 * d1 ≤ R.locals
    omega
  refine mm_after (a := (As.map (mm_rv ad)).toArray) hret hthr C h1 h2 h4 h5 h6 h7 hO3 ?_
  exact vx_runSX (hh := h1') (As := As.map (mm_rv ad)) hfix hMt ⟨⟨rfl, rfl, hR.1, hR.2, mm_code hS.1 hcd, List.mem_singleton.mpr rfl⟩, hS.1.hts _ hcd, hS.1.hts _ f3, f5, mm_len f6, hS.1.hts _ hlk, hS.1.hts _ f4⟩ hpre rfl (by rw [List.length_map]; exact hn) h7.1 hstk hcat2 hd ⟨by omega, by omega⟩
/-- a constructor -/
def mm_In (own : String) (idx : Nat) (y1 : MethodName) (c1 : ByteArray) (n1 : Nat) (n : Nat) : Prop := Cond.code y1 c1 n1 none ∈ mm_GW ∧ Cond.initialized y1.cls ∈ mm_GW ∧ Cond.instanceMethod y1 ∈ mm_GW ∧ y1.name = "<init>" ∧ (y1.cls ≠ "java/lang/invoke/MethodHandle" ∧ y1.cls ≠ "java/lang/invoke/VarHandle") ∧ (parseMethodDescriptor y1.desc).map (fun d => d.parameters.length) = some n ∧ (Cond.methodLink own idx y1 ∈ mm_GW ∨ ∃ host, Cond.methodLinkNest own idx y1 host ∈ lw_tbl)
theorem go_spec {y1 : MethodName} {c1 : ByteArray} {n1 : Nat} {d1 n idx a : Nat} {As : List Value} (hd : decode cc pc = .ok (.invokespecial idx, 3)) (hM : Ct l (.code y1 c1 n1 none) y1 d1 mc ms (.ref a :: As) w o w') (hV : mm_In y.cls idx y1 c1 n1 n) (hn : As.length = n) (hst : st = As.reverse ++ .ref a :: rest)
    (hcat : (rest.map fun v => v.category).sum ≤ 8) (hdp : d1 + 1 ≤ d) (hmx : n1 ≤ 21) (hret : ∀ v, o = .inl v → Go l y cc nL ret hh ext Z d bc bs (pc + 3) lv (v.toList ++ rest) w') (hthr : ∀ E, o = .inr E → GoX l y cc nL ret hh ext Z d bc bs pc lv E w') : Go l y cc nL ret hh ext Z d (mc + bc) (ms + bs) pc lv st w := by
  intro p e R s m args below meth c D dA A ad0 N0 C H locs cells slots ad ls h1 h2 h3 h4 h5 h6 h7 h8
  subst hst
  have hS := C.2.2.2.2.2.2.2.2.2.2.2.1
  have hO2 : mm_O w.1 (Value.ref a :: As) := fun v hv => h8 v (by
    rcases List.mem_cons.mp hv with q | q
    · rw [q]; exact List.mem_append_right _ List.mem_cons_self
    · exact List.mem_append_left _ (List.mem_reverse.mpr q))
  have hO3 : mm_O w.1 rest := fun v hv => h8 v (List.mem_append_right _ (List.mem_cons_of_mem _ hv))
  have hMt := hM C.2.2.2.2.2.2.2.2.1 D dA ad H.size
  obtain ⟨f1, f2, f3, f4, f5, f6, f7⟩ := hV
  have hfix : CallFix p m c cc nL s args mm_GW y.cls := ⟨C.1, C.2.1, C.2.2.1, C.2.2.2.2.1, hS.1.hts⟩
  have hpre : PreS s H (mm_Pc D dA ad H.size (.ref a :: As) w) (.ref (ad a) :: As.map (mm_rv ad)) := ⟨mm_Pc.blind, mm_pre C h3 h4 h5 hO2⟩
  have hstk : (F0 m pc ls ((As.reverse ++ .ref a :: rest).map (mm_rv ad))).stack = (As.map (mm_rv ad)).reverse ++ .ref (ad a) :: rest.map (mm_rv ad) := by
    show (As.reverse ++ .ref a :: rest).map (mm_rv ad) = _
    rw [List.map_append, List.map_reverse]
    rfl
  have hcat2 : 2 * (F0 m pc ls ((As.reverse ++ .ref a :: rest).map (mm_rv ad))).monitorRoom + ((rest.map (mm_rv ad)).map fun v => v.category).sum ≤ 8 := by
    have e9 : (rest.map (mm_rv ad)).map (fun v => v.category) = rest.map fun v => v.category := by rw [List.map_map]; exact List.map_congr_left (fun v _ => mm_cat ad v)
    rw [e9]
    show 2 * 0 + _ ≤ 8
    omega
  have hR : (mm_rm d1 mc ms).frames + 1 ≤ R.frames ∧ 8 + (n1 + 11) + (mm_rm d1 mc ms).locals ≤ R.locals := by
    have q1 := C.2.2.2.2.2.2.2.2.2.1
    have q2 := C.2.2.2.2.2.2.2.2.2.2.1
    show d1 + 1 ≤ R.frames ∧ 8 + (n1 + 11) + 40 * d1 ≤ R.locals
    omega
  refine mm_after (a := (Value.ref (ad a) :: As.map (mm_rv ad)).toArray) hret hthr C h1 h2 h4 h5 h6 h7 hO3 ?_
  rcases f7 with g1 | ⟨host, g1⟩
  · exact vx_runI (b := ad a) (As := As.map (mm_rv ad)) hfix hMt ⟨⟨rfl, rfl, hR.1, hR.2, mm_code hS.1 f1, List.mem_singleton.mpr rfl, hS.1.hts _ f1, hS.1.hts _ f2, f5, mm_len f6, hS.1.hts _ g1⟩, f4, hS.1.hts _ f3⟩ hpre rfl (by rw [List.length_map]; exact hn) h7.1 hstk hcat2 hd ⟨by omega, by omega⟩
  · exact vx_runIN (host := host) (b := ad a) (As := As.map (mm_rv ad)) hfix hMt ⟨⟨⟨rfl, rfl, hR.1, hR.2, mm_code hS.1 f1, List.mem_singleton.mpr rfl⟩, hS.1.hts _ f1, hS.1.hts _ f2, f5, mm_len f6, va_Nw.use rfl (hS.1.2.1 _ g1 rfl)⟩, f4, hS.1.hts _ f3⟩ hpre rfl (by rw [List.length_map]; exact hn) h7.1 hstk hcat2 hd ⟨by omega, by omega⟩
end CALLS
