def mm_ob (w : MW) (a ci : Nat) (fs : List Value) : Prop := a < w.1 ∧ w.2 a = .inr (ci, fs)
def mm_ar (w : MW) (a : Nat) (ty : FieldType) (x : vp_A) : Prop := a < w.1 ∧ w.2 a = .inl (ty, x)
def mm_up (w : MW) (a : Nat) (c : MC) : MW := (w.1, va_up w.2 a c)
/-- own's pool entry idx is the field k of the class number ci -/
def mm_Fld (own : String) (idx ci k : Nat) : Prop := ∃ (C : String) (T : u_T) (N : Nat) (ref : String), mm_cl[ci]? = some (C, T, N) ∧ k < N ∧ (∀ w ∈ u_ws C T N, w ∈ mm_GW) ∧ Cond.fieldLink own idx ref (T k).2.1 (T k).2.2.1 ∈ mm_GW ∧ ((T k).1 = ref ∨ Cond.sameField ref (T k).1 (T k).2.1 (T k).2.2.1 ∈ mm_GW)
def mm_Put (own : String) (idx ci k : Nat) (ty : FieldType) (fin : Bool) : Prop := ∃ (C : String) (T : u_T) (N : Nat) (ref : String) (ty0 : Nat → FieldType), mm_cl[ci]? = some (C, T, N) ∧ k < N ∧ (∀ w ∈ u_ws C T N, w ∈ mm_GW) ∧ Cond.fieldLink own idx ref (T k).2.1 (T k).2.2.1 ∈ mm_GW ∧ ((T k).1 = ref ∨ Cond.sameField ref (T k).1 (T k).2.1 (T k).2.2.1 ∈ mm_GW) ∧
  (∀ k, k < N → parseFieldDescriptor (T k).2.2.1 = some (ty0 k)) ∧ (∀ a, a < N → ∀ b, b < N → a ≠ b → (T a).2.1 ≠ (T b).2.1) ∧ (T k).2.2.2 = fin ∧ parseFieldDescriptor (T k).2.2.1 = some ty ∧ (fin = true → (T k).1 = own)
theorem mm_hsame {args : Array Value} {s : State} (h : mm_Tab s) {T : u_T} {k : Nat} {ref : String} (hs : (T k).1 = ref ∨ Cond.sameField ref (T k).1 (T k).2.1 (T k).2.2.1 ∈ mm_GW) : ∀ x, s.fieldFound? (T k).1 (T k).2.1 (T k).2.2.1 = some x → s.fieldFound? ref (T k).2.1 (T k).2.2.1 = some x := by
  intro x hx
  rcases hs with e | e
  · rw [← e]; exact hx
  · exact u_same (h.hts (args := args) _ e) x hx
theorem mm_okf_v {N : Nat} {v : Value} (h : mm_okf N v) : mm_okv N v := fun k hk => Or.inl (h k hk)
theorem mm_ob_at {ad : Nat → Nat} {dA : FieldType → ClassId} {w : MW} {a ci : Nat} {fs : List Value} (h : mm_ob w a ci fs) : (mm_ws ad dA w)[a]? = some (ad a, .inr (ci, fs.map (mm_rv ad))) := by
  rw [mm_ws_get h.1, h.2]; rfl
theorem mm_ob_ok {w : MW} (hw : ∀ k, k < w.1 → mm_okc w.1 (w.2 k)) {a ci : Nat} {fs : List Value} (h : mm_ob w a ci fs) : ∀ v ∈ fs, mm_okf w.1 v := by
  have := hw a h.1
  rw [h.2] at this
  exact this
/-- a world with a new cell at an old place -/
theorem mm_H_up {D : va_G} {dA : FieldType → ClassId} {ad : Nat → Nat} {w : MW} {H H1 : Heap} {a : Nat} {c : MC} (h : mm_H D dA ad w H) (ha : a < w.1) (hc : mm_okc w.1 c) (hP : va_P D mm_cl ((mm_ws ad dA w).set a (ad a, mm_cv ad dA c)) H1) : mm_H D dA ad (mm_up w a c) H1 := by
  refine ⟨by rw [mm_ws_set ha] at hP; exact hP, fun k hk => ?_, h.2.2⟩
  show mm_okc w.1 (va_up w.2 a c k)
  by_cases e : k = a
  · simp only [va_up, e, if_true]; exact hc
  · simp only [va_up, if_neg e]; exact h.2.1 k hk
theorem mm_D_up {A : Nat → Prop} {dA : FieldType → ClassId} {ad : Nat → Nat} {w : MW} {a : Nat} {c : MC} (ha : a < w.1) (hD : va_D A ((mm_ws ad dA w).set a (ad a, mm_cv ad dA c))) : va_D A (mm_ws ad dA (mm_up w a c)) := by
  rw [mm_ws_set ha] at hD; exact hD
section HEAP
variable {l : Launch} {y : MethodName} {cc : ByteArray} {nL : Nat} {ret : Option FieldType} {hh : List (Nat × Nat × Nat × Nat)} {ext : Option (Nat × (Nat → Int32))} {Z : MZ} {d bc bs : Nat} {pc : Nat} {lv : List (Nat × Value)} {st : List Value} {w : MW}
theorem go_getfield {idx ci k a : Nat} {fs : List Value} {v : Value} (hd : decode cc pc = .ok (.getfield idx, 3)) (hf : mm_Fld y.cls idx ci k) (ho : mm_ob w a ci fs) (hv : fs[k]? = some v) (h : Go l y cc nL ret hh ext Z d bc bs (pc + 3) lv (v :: st) w) : Go l y cc nL ret hh ext Z d bc bs pc lv (.ref a :: st) w := by
  intro p e R s m args below meth c D dA A ad0 N0 C H locs cells slots ad ls h1 h2 h3 h4 h5 h6 h7 h8
  obtain ⟨CC, T, N, ref, f1, f2, f3, f4, f5⟩ := hf
  have hS := C.2.2.2.2.2.2.2.2.2.2.2.1
  exact va_get C.1 C.2.1 (hS.1.hts (args := args)) f3 C.2.2.2.2.1 hS.2.1 h3.1 a (mm_ob_at ho) f1 k f2 (hS.1.hts _ f4) (mm_hsame (args := args) hS.1 f5) (v := mm_rv ad v) (by rw [List.getElem?_map, hv]; rfl) hd
    (h p e R s m args below meth c D dA A ad0 N0 C H locs cells slots ad ls h1 h2 h3 h4 h5 h6 h7 (mm_O.cons (mm_okf_v (mm_ob_ok h3.2.1 ho v (List.mem_of_getElem? hv))) h8.tail))
theorem mm_okc_set {N ci k : Nat} {fs : List Value} {v : Value} (h : ∀ u ∈ fs, mm_okf N u) (hv : mm_okf N v) : mm_okc N (.inr (ci, fs.set k v)) := by
  intro u hu
  rcases List.mem_or_eq_of_mem_set hu with q | q
  · exact h u q
  · rw [q]; exact hv
theorem go_putfield {idx ci k a : Nat} {fs : List Value} {v : Value} {ty : FieldType} (hd : decode cc pc = .ok (.putfield idx, 3)) (hf : mm_Put y.cls idx ci k ty false) (ho : mm_ob w a ci fs) (hl : k < fs.length) (hv : ∀ ad, narrow ty (mm_rv ad v) = mm_rv ad v ∧ fits ty (mm_rv ad v) = true) (hok : mm_okf w.1 v) (h : Go l y cc nL ret hh ext Z d bc bs (pc + 3) lv st (mm_up w a (.inr (ci, fs.set k v)))) : Go l y cc nL ret hh ext Z d bc bs pc lv (v :: .ref a :: st) w := by
  intro p e R s m args below meth c D dA A ad0 N0 C H locs cells slots ad ls h1 h2 h3 h4 h5 h6 h7 h8
  obtain ⟨CC, T, N, ref, ty0, f1, f2, f3, f4, f5, f6, f7, f8, f9, -⟩ := hf
  have hS := C.2.2.2.2.2.2.2.2.2.2.2.1
  refine va_put C.1 C.2.1 (hS.1.hts (args := args)) f3 ty0 f6 f7 C.2.2.2.2.1 hS.2.1 h3.1 h4 h5 a (mm_ob_at ho) f1 k f2 (hS.1.hts _ f4) (mm_hsame (args := args) hS.1 f5) f8 f9 (hv ad).1 (hv ad).2 (by rw [List.length_map]; exact hl) hd (fun H1 locs1 g1 g2 g3 => ?_)
  have e9 : (ad a, (Sum.inr (ci, (fs.map (mm_rv ad)).set k (mm_rv ad v)) : va_E)) = (ad a, mm_cv ad dA (.inr (ci, fs.set k v))) := by
    show _ = (ad a, Sum.inr (ci, (fs.set k v).map (mm_rv ad)))
    rw [List.map_set]
  rw [e9] at g1 g2
  exact h p e R s m args below meth c D dA A ad0 N0 C H1 locs1 cells slots ad ls h1 h2 (mm_H_up h3 ho.1 (mm_okc_set (mm_ob_ok h3.2.1 ho) hok) g1) (mm_D_up ho.1 g2) g3 h6 h7 h8.tail.tail
theorem go_putfinal {idx ci k a : Nat} {fs : List Value} {v : Value} {ty : FieldType} (hd : decode cc pc = .ok (.putfield idx, 3)) (hf : mm_Put y.cls idx ci k ty true) (hi : y.name = "<init>") (ho : mm_ob w a ci fs) (hl : k < fs.length) (hv : ∀ ad, narrow ty (mm_rv ad v) = mm_rv ad v ∧ fits ty (mm_rv ad v) = true) (hok : mm_okf w.1 v) (h : Go l y cc nL ret hh ext Z d bc bs (pc + 3) lv st (mm_up w a (.inr (ci, fs.set k v)))) : Go l y cc nL ret hh ext Z d bc bs pc lv (v :: .ref a :: st) w := by
  intro p e R s m args below meth c D dA A ad0 N0 C H locs cells slots ad ls h1 h2 h3 h4 h5 h6 h7 h8
  obtain ⟨CC, T, N, ref, ty0, f1, f2, f3, f4, f5, f6, f7, f8, f9, f10⟩ := hf
  have hS := C.2.2.2.2.2.2.2.2.2.2.2.1
  refine va_putF C.1 C.2.1 (hS.1.hts (args := args)) f3 ty0 f6 f7 C.2.2.2.2.1 hS.2.1 h3.1 h4 h5 a (mm_ob_at ho) f1 k f2 (hS.1.hts _ f4) (mm_hsame (args := args) hS.1 f5) f8 (C.2.2.2.2.2.1.trans hi) (f10 rfl) f9 (hv ad).1 (hv ad).2 (by rw [List.length_map]; exact hl) hd (fun H1 locs1 g1 g2 g3 => ?_)
  have e9 : (ad a, (Sum.inr (ci, (fs.map (mm_rv ad)).set k (mm_rv ad v)) : va_E)) = (ad a, mm_cv ad dA (.inr (ci, fs.set k v))) := by
    show _ = (ad a, Sum.inr (ci, (fs.set k v).map (mm_rv ad)))
    rw [List.map_set]
  rw [e9] at g1 g2
  exact h p e R s m args below meth c D dA A ad0 N0 C H1 locs1 cells slots ad ls h1 h2 (mm_H_up h3 ho.1 (mm_okc_set (mm_ob_ok h3.2.1 ho) hok) g1) (mm_D_up ho.1 g2) g3 h6 h7 h8.tail.tail
theorem mm_ar_at {ad : Nat → Nat} {dA : FieldType → ClassId} {w : MW} {a n : Nat} {ty : FieldType} {f : Nat → Int32} (h : mm_ar w a ty (n, .inl f)) : (mm_ws ad dA w)[a]? = some (ad a, .inl (dA ty, n, .inl f)) := by
  rw [mm_ws_get h.1, h.2]; rfl
theorem mm_arL_at {ad : Nat → Nat} {dA : FieldType → ClassId} {w : MW} {a n : Nat} {ty : FieldType} {f : Nat → Int64} (h : mm_ar w a ty (n, .inr (.inl f))) : (mm_ws ad dA w)[a]? = some (ad a, .inl (dA ty, n, .inr (.inl f))) := by
  rw [mm_ws_get h.1, h.2]; rfl
theorem mm_arQ_at {ad : Nat → Nat} {dA : FieldType → ClassId} {w : MW} {a n : Nat} {ty : FieldType} {f : Nat → Option Nat} (h : mm_ar w a ty (n, .inr (.inr (.inr (.inr f))))) : (mm_ws ad dA w)[a]? = some (ad a, .inl (dA ty, n, .inr (.inr (.inr (.inr (fun j => (f j).map ad)))))) := by
  rw [mm_ws_get h.1, h.2]; rfl
theorem go_iaload {a n : Nat} {f : Nat → Int32} {i : Int32} (j : Nat) (hd : decode cc pc = .ok (.iaload, 1)) (ho : mm_ar w a .int (n, .inl f)) (hi : i = nI j) (hj : j < n) (hn : n < 2 ^ 31) (h : Go l y cc nL ret hh ext Z d bc bs (pc + 1) lv (.int (f j) :: st) w) : Go l y cc nL ret hh ext Z d bc bs pc lv (.int i :: .ref a :: st) w := by
  intro p e R s m args below meth c D dA A ad0 N0 C H locs cells slots ad ls h1 h2 h3 h4 h5 h6 h7 h8
  have hS := C.2.2.2.2.2.2.2.2.2.2.2.1
  have e9 : i.toNatClampNeg = j := by rw [hi]; exact nI_clamp (by omega)
  have g := h p e R s m args below meth c D dA A ad0 N0 C H locs cells slots ad ls h1 h2 h3 h4 h5 h6 h7 (mm_O.cons mm_okv_int h8.tail.tail)
  rw [← e9] at g
  exact va_iald C.1 C.2.1 hS.2.1 h3.1 a 0 (mm_ar_at ho) rfl (by rw [hi]; exact vp_in_nI hj hn) hd g
theorem go_caload {a n : Nat} {f : Nat → Int32} {i : Int32} (j : Nat) (hd : decode cc pc = .ok (.caload, 1)) (ho : mm_ar w a .char (n, .inl f)) (hi : i = nI j) (hj : j < n) (hn : n < 2 ^ 31) (h : Go l y cc nL ret hh ext Z d bc bs (pc + 1) lv (.int (f j) :: st) w) : Go l y cc nL ret hh ext Z d bc bs pc lv (.int i :: .ref a :: st) w := by
  intro p e R s m args below meth c D dA A ad0 N0 C H locs cells slots ad ls h1 h2 h3 h4 h5 h6 h7 h8
  have hS := C.2.2.2.2.2.2.2.2.2.2.2.1
  have e9 : i.toNatClampNeg = j := by rw [hi]; exact nI_clamp (by omega)
  have g := h p e R s m args below meth c D dA A ad0 N0 C H locs cells slots ad ls h1 h2 h3 h4 h5 h6 h7 (mm_O.cons mm_okv_int h8.tail.tail)
  rw [← e9] at g
  exact va_cald C.1 C.2.1 hS.2.1 h3.1 a 2 (mm_ar_at ho) rfl (by rw [hi]; exact vp_in_nI hj hn) hd g
theorem go_laload {a n : Nat} {f : Nat → Int64} {i : Int32} (j : Nat) (hd : decode cc pc = .ok (.laload, 1)) (ho : mm_ar w a .long (n, .inr (.inl f))) (hi : i = nI j) (hj : j < n) (hn : n < 2 ^ 31) (h : Go l y cc nL ret hh ext Z d bc bs (pc + 1) lv (.long (f j) :: st) w) : Go l y cc nL ret hh ext Z d bc bs pc lv (.int i :: .ref a :: st) w := by
  intro p e R s m args below meth c D dA A ad0 N0 C H locs cells slots ad ls h1 h2 h3 h4 h5 h6 h7 h8
  have hS := C.2.2.2.2.2.2.2.2.2.2.2.1
  have e9 : i.toNatClampNeg = j := by rw [hi]; exact nI_clamp (by omega)
  have g := h p e R s m args below meth c D dA A ad0 N0 C H locs cells slots ad ls h1 h2 h3 h4 h5 h6 h7 (mm_O.cons mm_okv_long h8.tail.tail)
  rw [← e9] at g
  exact va_lald C.1 C.2.1 hS.2.1 h3.1 a 1 (mm_arL_at ho) rfl (by rw [hi]; exact vp_in_nI hj hn) hd g
theorem mm_rv_rf {ad : Nat → Nat} {r : Option Nat} : mm_rv ad (va_rf r) = va_rf (r.map ad) := by cases r <;> rfl
theorem go_aaload {a n : Nat} {f : Nat → Option Nat} {i : Int32} (j : Nat) (hd : decode cc pc = .ok (.aaload, 1)) (ho : mm_ar w a (.object RX5) (n, .inr (.inr (.inr (.inr f))))) (hi : i = nI j) (hj : j < n) (hn : n < 2 ^ 31) (h : Go l y cc nL ret hh ext Z d bc bs (pc + 1) lv (va_rf (f j) :: st) w) : Go l y cc nL ret hh ext Z d bc bs pc lv (.int i :: .ref a :: st) w := by
  intro p e R s m args below meth c D dA A ad0 N0 C H locs cells slots ad ls h1 h2 h3 h4 h5 h6 h7 h8
  have hS := C.2.2.2.2.2.2.2.2.2.2.2.1
  have e9 : i.toNatClampNeg = j := by rw [hi]; exact nI_clamp (by omega)
  have hok : mm_okv w.1 (va_rf (f j)) := by
    have hc := h3.2.1 a ho.1
    rw [ho.2] at hc
    intro k hk
    cases hfj : f j with
    | none => rw [hfj] at hk; cases hk
    | some x => rw [hfj] at hk; cases hk; exact Or.inl (hc j k hfj)
  have g := h p e R s m args below meth c D dA A ad0 N0 C H locs cells slots ad ls h1 h2 h3 h4 h5 h6 h7 (mm_O.cons hok h8.tail.tail)
  rw [List.map_cons, mm_rv_rf] at g
  refine va_aldq (C := RX5) C.1 C.2.1 hS.2.1 h3.1 a 3 (mm_arQ_at ho) rfl (by rw [hi]; exact vp_in_nI hj hn) hd ?_
  rw [e9]
  exact g
theorem go_iastore {a n : Nat} {f : Nat → Int32} {i x : Int32} (j : Nat) (hd : decode cc pc = .ok (.iastore, 1)) (ho : mm_ar w a .int (n, .inl f)) (hi : i = nI j) (hj : j < n) (hn : n < 2 ^ 31) (h : Go l y cc nL ret hh ext Z d bc bs (pc + 1) lv st (mm_up w a (.inl (.int, n, .inl (upd f j x))))) : Go l y cc nL ret hh ext Z d bc bs pc lv (.int x :: .int i :: .ref a :: st) w := by
  intro p e R s m args below meth c D dA A ad0 N0 C H locs cells slots ad ls h1 h2 h3 h4 h5 h6 h7 h8
  have hS := C.2.2.2.2.2.2.2.2.2.2.2.1
  have e9 : i.toNatClampNeg = j := by rw [hi]; exact nI_clamp (by omega)
  refine va_iast C.1 C.2.1 hS.2.1 h3.1 h4 h5 a 0 (mm_ar_at ho) rfl (by rw [hi]; exact vp_in_nI hj hn) hd (fun H1 locs1 g1 g2 g3 => ?_)
  rw [e9] at g1 g2
  exact h p e R s m args below meth c D dA A ad0 N0 C H1 locs1 cells slots ad ls h1 h2 (mm_H_up (c := .inl (.int, n, .inl (upd f j x))) h3 ho.1 trivial g1) (mm_D_up (c := .inl (.int, n, .inl (upd f j x))) ho.1 g2) g3 h6 h7 h8.tail.tail.tail
theorem go_castore {a n : Nat} {f : Nat → Int32} {i x : Int32} (j : Nat) (hd : decode cc pc = .ok (.castore, 1)) (ho : mm_ar w a .char (n, .inl f)) (hi : i = nI j) (hj : j < n) (hn : n < 2 ^ 31) (h : Go l y cc nL ret hh ext Z d bc bs (pc + 1) lv st (mm_up w a (.inl (.char, n, .inl (upd f j (vp_nar .char x)))))) : Go l y cc nL ret hh ext Z d bc bs pc lv (.int x :: .int i :: .ref a :: st) w := by
  intro p e R s m args below meth c D dA A ad0 N0 C H locs cells slots ad ls h1 h2 h3 h4 h5 h6 h7 h8
  have hS := C.2.2.2.2.2.2.2.2.2.2.2.1
  have e9 : i.toNatClampNeg = j := by rw [hi]; exact nI_clamp (by omega)
  refine va_cast C.1 C.2.1 hS.2.1 h3.1 h4 h5 a 2 (mm_ar_at ho) rfl (by rw [hi]; exact vp_in_nI hj hn) hd (fun H1 locs1 g1 g2 g3 => ?_)
  rw [e9] at g1 g2
  exact h p e R s m args below meth c D dA A ad0 N0 C H1 locs1 cells slots ad ls h1 h2 (mm_H_up (c := .inl (.char, n, .inl (upd f j (vp_nar .char x)))) h3 ho.1 trivial g1) (mm_D_up (c := .inl (.char, n, .inl (upd f j (vp_nar .char x)))) ho.1 g2) g3 h6 h7 h8.tail.tail.tail
theorem go_lastore {a n : Nat} {f : Nat → Int64} {i : Int32} {x : Int64} (j : Nat) (hd : decode cc pc = .ok (.lastore, 1)) (ho : mm_ar w a .long (n, .inr (.inl f))) (hi : i = nI j) (hj : j < n) (hn : n < 2 ^ 31) (h : Go l y cc nL ret hh ext Z d bc bs (pc + 1) lv st (mm_up w a (.inl (.long, n, .inr (.inl (vp_updL f j x)))))) : Go l y cc nL ret hh ext Z d bc bs pc lv (.long x :: .int i :: .ref a :: st) w := by
  intro p e R s m args below meth c D dA A ad0 N0 C H locs cells slots ad ls h1 h2 h3 h4 h5 h6 h7 h8
  have hS := C.2.2.2.2.2.2.2.2.2.2.2.1
  have e9 : i.toNatClampNeg = j := by rw [hi]; exact nI_clamp (by omega)
  refine va_last C.1 C.2.1 hS.2.1 h3.1 h4 h5 a 1 (mm_arL_at ho) rfl (by rw [hi]; exact vp_in_nI hj hn) hd (fun H1 locs1 g1 g2 g3 => ?_)
  rw [e9] at g1 g2
  exact h p e R s m args below meth c D dA A ad0 N0 C H1 locs1 cells slots ad ls h1 h2 (mm_H_up (c := .inl (.long, n, .inr (.inl (vp_updL f j x)))) h3 ho.1 trivial g1) (mm_D_up (c := .inl (.long, n, .inr (.inl (vp_updL f j x)))) ho.1 g2) g3 h6 h7 h8.tail.tail.tail
theorem go_aastore {a n b : Nat} {vs : List Value} {f : Nat → Option Nat} {i : Int32} (j : Nat) (hd : decode cc pc = .ok (.aastore, 1)) (ho : mm_ar w a (.object RX5) (n, .inr (.inr (.inr (.inr f))))) (hb : mm_ob w b 4 vs) (hi : i = nI j) (hj : j < n) (hn : n < 2 ^ 31) (h : Go l y cc nL ret hh ext Z d bc bs (pc + 1) lv st (mm_up w a (.inl (.object RX5, n, .inr (.inr (.inr (.inr (va_up f j (some b))))))))) : Go l y cc nL ret hh ext Z d bc bs pc lv (.ref b :: .int i :: .ref a :: st) w := by
  intro p e R s m args below meth c D dA A ad0 N0 C H locs cells slots ad ls h1 h2 h3 h4 h5 h6 h7 h8
  have hS := C.2.2.2.2.2.2.2.2.2.2.2.1
  have e9 : i.toNatClampNeg = j := by rw [hi]; exact nI_clamp (by omega)
  refine va_astq (r := (RX5, TX5, 4)) (ci := 4) C.1 C.2.1 hS.2.1 h3.1 h4 h5 a 3 b (mm_arQ_at ho) rfl (mm_ob_at hb) rfl (by rw [hi]; exact vp_in_nI hj hn) hd (fun H1 locs1 g1 g2 g3 => ?_)
  rw [e9] at g1 g2
  have e8 : va_up (fun j => (f j).map ad) j (some (ad b)) = fun q => (va_up f j (some b) q).map ad := by
    funext q
    by_cases e : q = j
    · simp [va_up, e]
    · simp [va_up, e]
  rw [e8] at g1 g2
  refine h p e R s m args below meth c D dA A ad0 N0 C H1 locs1 cells slots ad ls h1 h2 (mm_H_up (c := .inl (.object RX5, n, .inr (.inr (.inr (.inr (va_up f j (some b))))))) h3 ho.1 ?_ g1) (mm_D_up (c := .inl (.object RX5, n, .inr (.inr (.inr (.inr (va_up f j (some b))))))) ho.1 g2) g3 h6 h7 h8.tail.tail.tail
  intro q k hk
  by_cases e : q = j
  · simp only [va_up, e, if_true] at hk
    cases hk
    exact hb.1
  · simp only [va_up, if_neg e] at hk
    have hc := h3.2.1 a ho.1
    rw [ho.2] at hc
    exact hc q k hk
theorem go_alen {a n : Nat} {f : Nat → Int32} {ty : FieldType} (t0 : Nat) (ht : ∀ dA, (mm_tys dA)[t0]? = some (dA ty, ty)) (hd : decode cc pc = .ok (.arraylength, 1)) (ho : mm_ar w a ty (n, .inl f)) (h : Go l y cc nL ret hh ext Z d bc bs (pc + 1) lv (.int (nI n) :: st) w) : Go l y cc nL ret hh ext Z d bc bs pc lv (.ref a :: st) w := by
  intro p e R s m args below meth c D dA A ad0 N0 C H locs cells slots ad ls h1 h2 h3 h4 h5 h6 h7 h8
  have hS := C.2.2.2.2.2.2.2.2.2.2.2.1
  exact va_alen C.1 C.2.1 hS.2.1 h3.1 a t0 (mm_ar_at ho) (ht dA) rfl hd (h p e R s m args below meth c D dA A ad0 N0 C H locs cells slots ad ls h1 h2 h3 h4 h5 h6 h7 (mm_O.cons mm_okv_int h8.tail))
/-- the law's script -/
theorem go_xlen {L : Nat} {xs : Nat → Int32} (hx : ext = some (L, xs)) (hd : decode cc pc = .ok (.arraylength, 1)) (h : Go l y cc nL ret hh ext Z d bc bs (pc + 1) lv (.int (nI L) :: st) w) : Go l y cc nL ret hh ext Z d bc bs pc lv (.ref mm_XT :: st) w := by
  intro p e R s m args below meth c D dA A ad0 N0 C H locs cells slots ad ls h1 h2 h3 h4 h5 h6 h7 h8
  obtain ⟨x1, x2, x3⟩ := C.2.2.2.2.2.2.2.2.2.2.2.2.2 L xs hx
  have e9 : ad mm_XT = ad0 mm_XT := h6.2 _ (Or.inr rfl)
  show W p l e R s m args below meth c H locs cells slots _ (F0 m pc ls (.ref (ad mm_XT) :: st.map (mm_rv ad)))
  rw [e9]
  exact va_slen C.1 C.2.1 x1 x2 x3 h5 hd (h p e R s m args below meth c D dA A ad0 N0 C H locs cells slots ad ls h1 h2 h3 h4 h5 h6 h7 (mm_O.cons mm_okv_int h8.tail))
theorem go_xload {L : Nat} {xs : Nat → Int32} {i : Int32} (j : Nat) (hx : ext = some (L, xs)) (hd : decode cc pc = .ok (.iaload, 1)) (hi : i = nI j) (hj : j < L) (hn : L < 2 ^ 31) (h : Go l y cc nL ret hh ext Z d bc bs (pc + 1) lv (.int (xs j) :: st) w) : Go l y cc nL ret hh ext Z d bc bs pc lv (.int i :: .ref mm_XT :: st) w := by
  intro p e R s m args below meth c D dA A ad0 N0 C H locs cells slots ad ls h1 h2 h3 h4 h5 h6 h7 h8
  obtain ⟨x1, x2, x3⟩ := C.2.2.2.2.2.2.2.2.2.2.2.2.2 L xs hx
  have e9 : ad mm_XT = ad0 mm_XT := h6.2 _ (Or.inr rfl)
  have e8 : i.toNatClampNeg = j := by rw [hi]; exact nI_clamp (by omega)
  show W p l e R s m args below meth c H locs cells slots _ (F0 m pc ls (.int i :: .ref (ad mm_XT) :: st.map (mm_rv ad)))
  rw [e9]
  have g := h p e R s m args below meth c D dA A ad0 N0 C H locs cells slots ad ls h1 h2 h3 h4 h5 h6 h7 (mm_O.cons mm_okv_int h8.tail.tail)
  rw [← e8] at g
  exact va_sld C.1 C.2.1 x1 x2 x3 h5 (by rw [hi]; exact vp_in_nI hj hn) hd g
end HEAP
