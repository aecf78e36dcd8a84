section ENDS
variable {l : Launch} {y : MethodName} {cc : ByteArray} {nL : Nat} {ret : Option FieldType} {hh : List (Nat × Nat × Nat × Nat)} {ext : Option (Nat × (Nat → Int32))} {Z : MZ} {d bc bs : Nat} {pc : Nat} {lv : List (Nat × Value)} {st rest : List Value} {w w' : MW} {o : MO}
theorem go_ireturn {v : Int32} {ty : FieldType} (hd : decode cc pc = .ok (.ireturn, 1)) (hr : ret = some ty) (hn : narrow ty (.int v) = .int v) : Go l y cc nL ret hh ext (mm_Z (mm_eq (.inl (some (.int v))) w)) d bc bs pc lv [.int v] w := by
  intro p e R s m args below meth c D dA A ad0 N0 C H locs cells slots ad ls h1 h2 h3 h4 h5 h6 h7 h8
  refine vx_ret (W.widen (k := R.cells) (n := R.slots) (by omega) (by omega) ?_)
  have hlocks : meth.locks = false := C.2.2.2.2.2.2.1
  exact W.zret C.1 C.2.1 (C.2.2.2.1.trans hr) hn (fun t ht hW => ⟨some (.int v), w, ad, rfl, ⟨rfl, rfl⟩, fun x hx => by cases hx; exact mm_okv_int, by rw [ht]; exact h3, h4, h6, h5.F ht⟩) h5.2.2 hd hlocks
theorem go_lreturn {v : Int64} (hd : decode cc pc = .ok (.lreturn, 1)) (hr : ret = some .long) : Go l y cc nL ret hh ext (mm_Z (mm_eq (.inl (some (.long v))) w)) d bc bs pc lv [.long v] w := by
  intro p e R s m args below meth c D dA A ad0 N0 C H locs cells slots ad ls h1 h2 h3 h4 h5 h6 h7 h8
  refine vx_ret (W.widen (k := R.cells) (n := R.slots) (by omega) (by omega) ?_)
  have hlocks : meth.locks = false := C.2.2.2.2.2.2.1
  exact W.lret C.1 C.2.1 (C.2.2.2.1.trans hr) (fun t ht hW => ⟨some (.long v), w, ad, rfl, ⟨rfl, rfl⟩, fun x hx => by cases hx; exact mm_okv_long, by rw [ht]; exact h3, h4, h6, h5.F ht⟩) h5.2.2 hd hlocks
theorem go_areturn {a : Nat} {n : String} (hd : decode cc pc = .ok (.areturn, 1)) (hr : ret = some (.object n)) : Go l y cc nL ret hh ext (mm_Z (mm_eq (.inl (some (.ref a))) w)) d bc bs pc lv [.ref a] w := by
  intro p e R s m args below meth c D dA A ad0 N0 C H locs cells slots ad ls h1 h2 h3 h4 h5 h6 h7 h8
  refine vx_ret (W.widen (k := R.cells) (n := R.slots) (by omega) (by omega) ?_)
  have hlocks : meth.locks = false := C.2.2.2.2.2.2.1
  exact W.aret C.1 C.2.1 (C.2.2.2.1.trans hr) (Or.inl ⟨n, rfl⟩) (Or.inr ⟨ad a, rfl⟩) (fun t ht hW => ⟨some (.ref a), w, ad, rfl, ⟨rfl, rfl⟩, fun x hx => by cases hx; exact h8.head, by rw [ht]; exact h3, h4, h6, h5.F ht⟩) h5.2.2 hd hlocks
theorem go_return (hd : decode cc pc = .ok (.return_, 1)) (hr : ret = none) : Go l y cc nL ret hh ext (mm_Z (mm_eq (.inl none) w)) d bc bs pc lv [] w := by
  intro p e R s m args below meth c D dA A ad0 N0 C H locs cells slots ad ls h1 h2 h3 h4 h5 h6 h7 h8
  refine vx_ret (W.widen (k := R.cells) (n := R.slots) (by omega) (by omega) ?_)
  have hlocks : meth.locks = false := C.2.2.2.2.2.2.1
  exact W.vret C.1 C.2.1 (C.2.2.2.1.trans hr) (fun t ht hW => ⟨none, w, ad, rfl, ⟨rfl, rfl⟩, fun x hx => (by cases hx), by rw [ht]; exact h3, h4, h6, h5.F ht⟩) h5.2.2 hd hlocks
/-- an exception that isn't caught here -/
theorem gox_out {E : String} : GoX l y cc nL ret [] ext (mm_Z (mm_eq (.inr E) w)) d bc bs pc lv E w := by
  intro p e R s m args below meth c D dA A ad0 N0 C H locs cells slots ad ls h1 h2 h3 h4 h5 h6 h7 q ce st g1 g2 g3
  have ht : c.exceptionTable.toList = [] := C.2.2.2.2.2.2.2.1
  exact vx_out (fun x hx => by rw [ht] at hx; cases hx) C.2.2.2.2.2.2.1 g1 g2 g3 (fun t ht hW => ⟨w, ad, ⟨rfl, rfl⟩, by rw [ht]; exact h3, h4, h6, h5.F ht⟩) h5.2.2 (by omega) (by omega)
theorem gox_lv (lv0 : List (Nat × Value)) {E : String} (hs : ∀ q ∈ lv0, mm_lk lv q.1 = some q.2) (h : GoX l y cc nL ret hh ext Z d bc bs pc lv0 E w) : GoX l y cc nL ret hh ext Z d bc bs pc lv E w := by
  intro p e R s m args below meth c D dA A ad0 N0 C H locs cells slots ad ls h1 h2 h3 h4 h5 h6 h7
  exact h p e R s m args below meth c D dA A ad0 N0 C H locs cells slots ad ls h1 h2 h3 h4 h5 h6 ⟨h7.1, h7.2.1, fun i v hv => h7.2.2 i v (hs _ (mm_lk_mem hv))⟩
/-- what 'throw new cls(text)' in own stands on -/
def mm_Thr (own : String) (ik is ic : Nat) (cls : String) : Prop := ∃ text : String, Bundle.fit cls = true ∧ Cond.classLink own ik cls ∈ mm_GW ∧ Cond.initialized cls ∈ mm_GW ∧ (own, is, text) ∈ mm_strs ∧ (∀ w ∈ vx_atS own ic cls ["java/lang/RuntimeException", "java/lang/Exception"], w ∈ mm_GW ∨ (w ∈ lw_tbl ∧ mm_ok w = true)) ∧ ∀ w ∈ Cond.classLink own ik cls :: Cond.initialized cls :: vx_atS own ic cls ["java/lang/RuntimeException", "java/lang/Exception"], vx_ot w = true
theorem go_throw {ik is ic : Nat} {cls : String} (hT : mm_Thr y.cls ik is ic cls) (d0 : decode cc pc = .ok (.new ik, 3)) (d3 : decode cc (pc + 3) = .ok (.dup, 1)) (d4 : decode cc (pc + 4) = .ok (.ldc is, 2)) (d6 : decode cc (pc + 6) = .ok (.invokespecial ic, 3)) (d9 : decode cc (pc + 9) = .ok (.athrow, 1)) (hdp : 6 ≤ d) : Go l y cc nL ret [] ext (mm_Z (mm_eq (.inr cls) w)) d (1 + bc) (6 + bs) pc lv [] w := by
  intro p e R s m args below meth c D dA A ad0 N0 C H locs cells slots ad ls h1 h2 h3 h4 h5 h6 h7 h8
  obtain ⟨text, t1, t2, t3, t4, t5, t6⟩ := hT
  have hS := C.2.2.2.2.2.2.2.2.2.2.2.1
  obtain ⟨sa, hsa⟩ := hS.1.2.2.2.1 _ t4
  have ht : c.exceptionTable.toList = [] := C.2.2.2.2.2.2.2.1
  have q1 := C.2.2.2.2.2.2.2.2.2.1
  have q2 := C.2.2.2.2.2.2.2.2.2.2.1
  refine vx_throwS (names := ["java/lang/RuntimeException", "java/lang/Exception"]) (text := text) (sa := sa) (A := A) C.1 C.2.1 C.2.2.2.2.2.2.2.2.1 C.2.2.2.2.1 t1 (by decide +kernel) (hS.1.hts _ t2) (hS.1.hts _ t3) hsa (fun w hw => ?_) t6 hS.2.2.1 hS.2.2.2 h5 (h7.1.trans C.2.2.1.symm) d0 d3 d4 d6 d9 (fun x hx => by rw [ht] at hx; cases hx) (by show 2 + 3 < R.frames; omega) (by show 0 + (13 * (2 + 1) + 43) ≤ R.locals; omega) (by omega) (by omega) C.2.2.2.2.2.2.1 (fun t hW hz hk => ⟨w, ad, ⟨rfl, rfl⟩, ?_, h4, h6, ?_⟩) h5.2.2 (by omega) (by omega)
  · rcases t5 w hw with q | ⟨q, q'⟩
    · exact hS.1.hts _ q
    · refine va_Nw.use ?_ (hS.1.2.1 w q q')
      cases w <;> first | rfl | cases q'
  · exact ⟨h3.1.kept (fun k x hx => hk x.1 ((h3.1 k x hx).lt)), h3.2.1, h3.2.2⟩
  · exact ⟨Nat.le_trans h5.1 hz, fun q g1 g2 => (hk q (Nat.lt_of_lt_of_le g1 h5.1)).trans (h5.2.1 q g1 g2)⟩
/-- Object.<init> -/
theorem go_objInit {idx a : Nat} (hd : decode cc pc = .ok (.invokespecial idx, 3)) (hl : Cond.methodLink y.cls idx Lib.objectInit ∈ mm_GW) (hi : Cond.instanceMethod Lib.objectInit ∈ mm_GW) (hc : Cond.code Lib.objectInit ⟨#[0xb1]⟩ 1 none ∈ mm_GW) (hdp : 1 ≤ d) (hcat : (st.map fun v => v.category).sum ≤ 8) (h : Go l y cc nL ret hh ext Z d bc bs (pc + 3) lv st w) : Go l y cc nL ret hh ext Z d bc bs pc lv (.ref a :: st) w := by
  intro p e R s m args below meth c D dA A ad0 N0 C H locs cells slots ad ls h1 h2 h3 h4 h5 h6 h7 h8
  have hS := C.2.2.2.2.2.2.2.2.2.2.2.1
  have q1 := C.2.2.2.2.2.2.2.2.2.1
  have q2 := C.2.2.2.2.2.2.2.2.2.2.1
  refine W.objInit C.1 C.2.1 C.2.2.2.2.1 (hS.1.hts _ hl) (hS.1.hts _ hi) (hS.1.hts _ hc) rfl (h7.1.trans C.2.2.1.symm) (a := ad a) (rest := st.map (mm_rv ad)) rfl hd (by omega) ?_ (h p e R s m args below meth c D dA A ad0 N0 C H locs cells slots ad ls h1 h2 h3 h4 h5 h6 h7 h8.tail)
  have e9 : (st.map (mm_rv ad)).map (fun v => v.category) = st.map fun v => v.category := by rw [List.map_map]; exact List.map_congr_left (fun v _ => mm_cat ad v)
  rw [e9]
  show 2 * 0 + _ + 12 ≤ R.locals
  omega
/-- a cell more: the world, the addresses, the locals and the stack behind it -/
theorem mm_grow {D : va_G} {dA : FieldType → ClassId} {A : Nat → Prop} {ad0 ad : Nat → Nat} {N0 : Nat} {H1 : Heap} {q : Nat} {cl : MC} (h3w : ∀ k, k < w.1 → mm_okc w.1 (w.2 k)) (hX : w.1 < mm_XT) (hc : mm_okc w.1 cl) (hP : va_P D mm_cl (mm_ws ad dA w ++ [(q, mm_cv ad dA cl)]) H1) (hD : va_D A (mm_ws ad dA w ++ [(q, mm_cv ad dA cl)])) (h6 : mm_ag ad0 ad N0 w.1) {ls : Array Slot} (h7 : mm_L ad w.1 nL lv ls) (h8 : mm_O w.1 st) :
    mm_H D dA (va_up ad w.1 q) (w.1 + 1, va_up w.2 w.1 cl) H1 ∧ va_D A (mm_ws (va_up ad w.1 q) dA (w.1 + 1, va_up w.2 w.1 cl)) ∧ mm_ag ad0 (va_up ad w.1 q) N0 (w.1 + 1) ∧ mm_L (va_up ad w.1 q) (w.1 + 1) nL lv ls ∧ mm_O (w.1 + 1) st ∧ st.map (mm_rv (va_up ad w.1 q)) = st.map (mm_rv ad) := by
  have ha : ∀ k, k < w.1 ∨ k = mm_XT → va_up ad w.1 q k = ad k := fun k hk => by
    have : ¬ k = w.1 := by rcases hk with z | z <;> omega
    simp [va_up, this]
  rw [mm_ws_push h3w hc] at hP hD
  refine ⟨⟨hP, fun k hk => ?_, hX⟩, hD, ⟨Nat.le_succ_of_le h6.1, fun k hk => (ha k (hk.imp (fun z => Nat.lt_of_lt_of_le z h6.1) id)).trans (h6.2 k hk)⟩, h7.agree (Nat.le_succ _) ha, h8.mono (Nat.le_succ _), h8.agree ha⟩
  show mm_okc (w.1 + 1) (va_up w.2 w.1 cl k)
  by_cases e : k = w.1
  · simp only [va_up, e, if_true]; exact mm_okc_mono (Nat.le_succ _) hc
  · simp only [va_up, if_neg e]
    exact mm_okc_mono (Nat.le_succ _) (h3w k (by have : k < w.1 + 1 := hk; omega))
/-- new: the class number ci, its blank fields fs -/
def mm_New (own : String) (idx ci N : Nat) (fs : List Value) : Prop := ∃ (CC : String) (T : u_T) (ty : Nat → FieldType), mm_cl[ci]? = some (CC, T, N) ∧ (∀ w ∈ u_ws CC T N, w ∈ mm_GW) ∧ (∀ k, k < N → parseFieldDescriptor (T k).2.2.1 = some (ty k)) ∧ Cond.classLink own idx CC ∈ mm_GW ∧ Cond.instantiable CC N ∈ mm_GW ∧ Cond.initialized CC ∈ mm_GW ∧ (∀ j, j < N → defaultValue (ty j) = vp_V fs j) ∧ ∀ v ∈ fs, v = .null ∨ ∃ x, v = .int x ∨ ∃ x, v = .long x
theorem mm_blank {fs : List Value} (h : ∀ v ∈ fs, v = .null ∨ ∃ x, v = .int x ∨ ∃ x, v = .long x) (ad : Nat → Nat) : fs.map (mm_rv ad) = fs := by
  conv => rhs; rw [← List.map_id fs]
  refine List.map_congr_left (fun v hv => ?_)
  rcases h v hv with rfl | ⟨x, rfl | ⟨x, rfl⟩⟩ <;> rfl
theorem go_new {idx ci N : Nat} {fs : List Value} (hd : decode cc pc = .ok (.new idx, 3)) (hN : mm_New y.cls idx ci N fs) (hX : w.1 < mm_XT) (h : Go l y cc nL ret hh ext Z d bc bs (pc + 3) lv (.ref w.1 :: st) (w.1 + 1, va_up w.2 w.1 (.inr (ci, fs)))) : Go l y cc nL ret hh ext Z d (1 + bc) (N + bs) pc lv st w := by
  intro p e R s m args below meth c D dA A ad0 N0 C H locs cells slots ad ls h1 h2 h3 h4 h5 h6 h7 h8
  obtain ⟨CC, T, ty, f1, f2, f3, f4, f5, f6, f7, f8⟩ := hN
  have hS := C.2.2.2.2.2.2.2.2.2.2.2.1
  refine va_new C.1 C.2.1 (hS.1.hts (args := args)) f2 ty f3 C.2.2.2.2.1 (hS.1.hts _ f4) (hS.1.hts _ f5) (hS.1.hts _ f6) hS.2.1 h3.1 h4 h5 C.2.2.2.2.2.2.2.2.2.2.2.2.1 f1 f7 (by omega) (by omega) hd (fun q H1 g1 g2 g3 => ?_)
  have e9 : (Sum.inr (ci, fs) : va_E) = mm_cv ad dA (.inr (ci, fs)) := by
    show _ = Sum.inr (ci, fs.map (mm_rv ad))
    rw [mm_blank f8]
  rw [e9] at g1 g2
  have hc : mm_okc w.1 (.inr (ci, fs)) := fun v hv k hk => by
    rcases f8 v hv with z | ⟨x, z | ⟨x, z⟩⟩ <;> (rw [z] at hk; cases hk)
  obtain ⟨r1, r2, r3, r4, r5, r6⟩ := mm_grow h3.2.1 hX hc g1 g2 h6 h7 h8
  have K := h p e R s m args below meth c D dA A ad0 N0 C H1 locs (cells + 1) (slots + N) (va_up ad w.1 q) ls (by omega) (by omega) r1 r2 g3 r3 r4 (mm_O.cons (mm_okv_ref (Nat.lt_succ_self _)) r5)
  rw [List.map_cons, r6] at K
  have e8 : mm_rv (va_up ad w.1 q) (.ref w.1) = .ref q := by simp [mm_rv, va_up]
  rw [e8] at K
  exact K
theorem mm_dA {D : va_G} {dA : FieldType → ClassId} {s : State} (hK : va_K D mm_cl (mm_tys dA) s) {t0 : Nat} {ty : FieldType} (ht : (mm_tys dA)[t0]? = some (dA ty, ty)) {cA : ClassId} (hA : va_RA s cA ty) : cA = dA ty := by
  have h2 := (hK.2 t0 _ ht).2
  cases ty with
  | object CC =>
    obtain ⟨_, _, _, _, _, k4⟩ := h2
    obtain ⟨_, _, _, _, _, j4⟩ := hA
    exact Option.some.inj (j4.symm.trans k4)
  | _ => exact Option.some.inj (Eq.trans (Eq.symm hA) h2)
theorem go_newarray {atype : ArrayType} {ty : FieldType} {n : Int32} {N : Nat} {a0 : vp_A} (t0 : Nat) (ht : ∀ dA, (mm_tys dA)[t0]? = some (dA ty, ty)) (hd : decode cc pc = .ok (.newarray atype, 2)) (hw : Cond.arrayClass (newarray.typeOf atype) ∈ mm_GW) (hty : newarray.typeOf atype = ty) (ha : ∀ cA : ClassId, vp_cell cA a0 = arrV cA N (fun _ => defaultValue ty)) (hcv : ∀ ad dA, mm_cv ad dA (.inl (ty, a0)) = .inl (dA ty, a0)) (hok : ∀ M, mm_okc M (.inl (ty, a0))) (hn : ¬ n < 0) (hN : n.toNatClampNeg = N) (hb : N * componentBytes ty ≤ 536870912) (hX : w.1 < mm_XT)
    (h : Go l y cc nL ret hh ext Z d bc bs (pc + 2) lv (.ref w.1 :: st) (w.1 + 1, va_up w.2 w.1 (.inl (ty, a0)))) : Go l y cc nL ret hh ext Z d (1 + bc) (N + bs) pc lv (.int n :: st) w := by
  intro p e R s m args below meth c D dA A ad0 N0 C H locs cells slots ad ls h1 h2 h3 h4 h5 h6 h7 h8
  have hS := C.2.2.2.2.2.2.2.2.2.2.2.1
  refine va_newa (atype := atype) C.1 C.2.1 (hS.1.hts _ hw) hty hS.2.1 h3.1 h4 h5 C.2.2.2.2.2.2.2.2.2.2.2.2.1 ha hn hN hb (by omega) (by omega) hd (fun q cA H1 gK g1 g2 g3 => ?_)
  have ec : cA = dA ty := mm_dA hS.2.1 (ht dA) (gK.2 4 (cA, ty) rfl).2
  subst ec
  rw [← hcv ad dA] at g1 g2
  obtain ⟨r1, r2, r3, r4, r5, r6⟩ := mm_grow h3.2.1 hX (hok _) g1 g2 h6 h7 h8.tail
  have K := h p e R s m args below meth c D dA A ad0 N0 C H1 locs (cells + 1) (slots + N) (va_up ad w.1 q) ls (by omega) (by omega) r1 r2 g3 r3 r4 (mm_O.cons (mm_okv_ref (Nat.lt_succ_self _)) r5)
  rw [List.map_cons, r6] at K
  have e8 : mm_rv (va_up ad w.1 q) (.ref w.1) = .ref q := by simp [mm_rv, va_up]
  rw [e8] at K
  exact K
theorem go_anewarray {idx : Nat} {n : Int32} {N : Nat} (hd : decode cc pc = .ok (.anewarray idx, 3)) (hw : Cond.classLink y.cls idx RX5 ∈ mm_GW) (hn : ¬ n < 0) (hN : n.toNatClampNeg = N) (hb : N * 4 ≤ 536870912) (hX : w.1 < mm_XT)
    (h : Go l y cc nL ret hh ext Z d bc bs (pc + 3) lv (.ref w.1 :: st) (w.1 + 1, va_up w.2 w.1 (.inl (.object RX5, N, .inr (.inr (.inr (.inr (fun _ => none)))))))) : Go l y cc nL ret hh ext Z d (1 + bc) (N + bs) pc lv (.int n :: st) w := by
  intro p e R s m args below meth c D dA A ad0 N0 C H locs cells slots ad ls h1 h2 h3 h4 h5 h6 h7 h8
  have hS := C.2.2.2.2.2.2.2.2.2.2.2.1
  refine va_newq C.1 C.2.1 C.2.2.2.2.1 (hS.1.hts _ hw) hS.1.2.2.1 hS.2.1 h3.1 h4 h5 C.2.2.2.2.2.2.2.2.2.2.2.2.1 hn hN hb (by omega) (by omega) hd (fun q cA H1 gK g1 g2 g3 => ?_)
  have ec : cA = dA (.object RX5) := mm_dA hS.2.1 (t0 := 3) rfl (gK.2 4 (cA, .object RX5) rfl).2
  subst ec
  have e9 : (Sum.inl (dA (.object RX5), N, .inr (.inr (.inr (.inr (fun _ => none))))) : va_E) = mm_cv ad dA (.inl (.object RX5, N, .inr (.inr (.inr (.inr (fun _ => none)))))) := rfl
  rw [e9] at g1 g2
  obtain ⟨r1, r2, r3, r4, r5, r6⟩ := mm_grow (cl := .inl (.object RX5, N, .inr (.inr (.inr (.inr (fun _ => none)))))) h3.2.1 hX (fun j k hk => by cases hk) g1 g2 h6 h7 h8.tail
  have K := h p e R s m args below meth c D dA A ad0 N0 C H1 locs (cells + 1) (slots + N) (va_up ad w.1 q) ls (by omega) (by omega) r1 r2 g3 r3 r4 (mm_O.cons (mm_okv_ref (Nat.lt_succ_self _)) r5)
  rw [List.map_cons, r6] at K
  have e8 : mm_rv (va_up ad w.1 q) (.ref w.1) = .ref q := by simp [mm_rv, va_up]
  rw [e8] at K
  exact K
/-- System.arraycopy of whole int arrays from 0 to 0 -/
theorem go_copy {idx a b n0 n1 : Nat} {f g : Nat → Int32} {n : Int32} {N : Nat} (hd : decode cc pc = .ok (.invokestatic idx, 3)) (hl : Cond.methodLink y.cls idx arraycopyName ∈ mm_GW) (hna : Cond.native arraycopyName ∈ mm_GW) (hs : Cond.static arraycopyName ∈ mm_GW) (hi : Cond.initialized "java/lang/System" ∈ mm_GW) (ha : mm_ar w a .int (n0, .inl f)) (hb : mm_ar w b .int (n1, .inl g)) (hn : n = nI N) (h0 : N ≤ n0) (h1' : N ≤ n1) (hN : N < 2 ^ 31) (hdp : 2 ≤ d) (hcat : st = [])
    (h : Go l y cc nL ret hh ext Z d bc bs (pc + 3) lv st (mm_up w b (.inl (.int, n1, .inl (va_cpy f g 0 0 N))))) : Go l y cc nL ret hh ext Z d bc bs pc lv (.int n :: .int 0 :: .ref b :: .int 0 :: .ref a :: st) w := by
  intro p e R s m args below meth c D dA A ad0 N0 C H locs cells slots ad ls h1 h2 h3 h4 h5 h6 h7 h8
  have hS := C.2.2.2.2.2.2.2.2.2.2.2.1
  have q1 := C.2.2.2.2.2.2.2.2.2.1
  have q2 := C.2.2.2.2.2.2.2.2.2.2.1
  have e9 : n.toNatClampNeg = N := by rw [hn]; exact nI_clamp hN
  have z0 : (0 : Int32).toNatClampNeg = 0 := sb_cl0
  subst hcat
  have hfw : nativeFrameWords "java/lang/System" "arraycopy" 5 + 11 ≤ 80 := by decide +kernel
  have hfl : (([] : List Value).map fun v => v.category).sum + (nativeFrameWords "java/lang/System" "arraycopy" 5 + 11) ≤ R.locals := by
    show 0 + (nativeFrameWords "java/lang/System" "arraycopy" 5 + 11) ≤ R.locals
    omega
  refine va_copyi C.1 C.2.1 (C.2.2.1.trans h7.1.symm) C.2.2.2.2.1 (hS.1.hts _ hl) (hS.1.hts _ hna) (hS.1.hts _ hs) (hS.1.hts _ hi) hS.2.1 h3.1 h4 h5 a b 0 0 (ty := .int) (rest := []) (mm_ar_at ha) (mm_ar_at hb) rfl rfl rfl (by decide) (by decide) (by rw [hn]; exact nI_pos hN) (by rw [e9, z0]; omega) (by rw [e9, z0]; omega) (fun _ _ => rfl) (by omega) hfl hd (fun H1 locs1 g1 g2 g3 => ?_)
  rw [e9, z0] at g1 g2
  exact h p e R s m args below meth c D dA A ad0 N0 C H1 locs1 cells slots ad ls h1 h2 (mm_H_up (c := .inl (.int, n1, .inl (va_cpy f g 0 0 N))) h3 hb.1 trivial g1) (mm_D_up (c := .inl (.int, n1, .inl (va_cpy f g 0 0 N))) hb.1 g2) g3 h6 h7 h8.tail.tail.tail.tail.tail
/-- Math.min -/
theorem go_min {idx : Nat} {x z : Int32} (hd : decode cc pc = .ok (.invokestatic idx, 3)) (hl : Cond.methodLink y.cls idx Lib.Math.min.name ∈ mm_GW) (hs : Cond.static Lib.Math.min.name ∈ mm_GW) (hi : Cond.initialized "java/lang/Math" ∈ mm_GW) (hc : Cond.code Lib.Math.min.name Lib.Math.min.code 2 (some .int) ∈ mm_GW) (hdp : 1 ≤ d) (hcat : (st.map fun v => v.category).sum ≤ 8)
    (h : Go l y cc nL ret hh ext Z d bc bs (pc + 3) lv (.int (if z < x then z else x) :: st) w) : Go l y cc nL ret hh ext Z d bc bs pc lv (.int z :: .int x :: st) w := by
  intro p e R s m args below meth c D dA A ad0 N0 C H locs cells slots ad ls h1 h2 h3 h4 h5 h6 h7 h8
  have hS := C.2.2.2.2.2.2.2.2.2.2.2.1
  have q1 := C.2.2.2.2.2.2.2.2.2.1
  have q2 := C.2.2.2.2.2.2.2.2.2.2.1
  have e9 : (st.map (mm_rv ad)).map (fun v => v.category) = st.map fun v => v.category := by rw [List.map_map]; exact List.map_congr_left (fun v _ => mm_cat ad v)
  refine va_mmin C.1 C.2.1 (C.2.2.1.trans h7.1.symm) C.2.2.2.2.1 (hS.1.hts _ hl) (hS.1.hts _ hs) (hS.1.hts _ hi) (hS.1.hts _ hc) (by omega) (by rw [e9]; omega) (by omega) (by omega) hd (h p e R s m args below meth c D dA A ad0 N0 C H locs cells slots ad ls h1 h2 h3 h4 h5 h6 h7 (mm_O.cons mm_okv_int h8.tail.tail))
end ENDS
