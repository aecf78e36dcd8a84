theorem mm_lkargs {i : Nat} {as : List Value} {j : Nat} {v : Value} (h : mm_lk (lv_args i as) j = some v) : v ∈ as := by
  induction as generalizing i with
  | nil => cases h
  | cons a l ih =>
    unfold lv_args mm_lk at h
    by_cases e : i = j
    · rw [if_pos e] at h; cases h; exact List.mem_cons_self
    · rw [if_neg e] at h; exact List.mem_cons_of_mem _ (ih h)
theorem mm_lvargs_map {ad : Nat → Nat} {i : Nat} {as : List Value} : lv_args i (as.map (mm_rv ad)) = (lv_args i as).map (fun q => (q.1, mm_rv ad q.2)) := by
  induction as generalizing i with
  | nil => rfl
  | cons a l ih => simp only [List.map_cons, lv_args, mm_cat, ih]
theorem mm_sl_len {ad : Nat → Nat} {as : List Value} : (lg_sl (as.map (mm_rv ad))).length = (lg_sl as).length := by
  induction as with
  | nil => rfl
  | cons a l ih =>
    simp only [lg_sl, List.map_cons, List.flatMap_cons, List.length_append, mm_cat] at ih ⊢
    rw [ih]
    by_cases h : a.category = 2
    · simp [h]
    · simp [h]
/-- where a method begins -/
theorem mm_begin {l : Launch} {y : MethodName} {cc : ByteArray} {nL : Nat} {ret : Option FieldType} {hh : List (Nat × Nat × Nat × Nat)} {d mc ms : Nat} {as : List Value} {w : MW} {o : MO} {w' : MW} (hlen : (lg_sl as).length ≤ nL) (G : Go l y cc nL ret hh none (mm_Z (mm_eq o w')) d mc ms 0 (lv_args 0 as) [] w) (hl : l.stackTraces = false)
    {D : va_G} {dA : FieldType → ClassId} {ad : Nat → Nat} {sz : Nat} {hd : Cond} {p : Program} {e : Env} {s : State} {m : MethodId} {args : Array Value} {below : List Frame} {meth : Method} {c : Code} {s₁ : State} (B : BodyLoose p l y (headSpec [hd] (mm_rm d mc ms)) cc nL ret e s m args below meth c s₁) (hml : c.maxLocals = nL) (ht : c.exceptionTable.toList = tableOf hh) (hv : mm_Pc D dA ad sz as w args s) :
    W p l e (headSpec [hd] (mm_rm d mc ms)).room s m args below meth c s.heap [] 0 0 (vx_MQ below (mm_Qc (mm_eq o w') D dA (va_A (mm_ws ad dA w) sz) ad w.1) (mm_XC (mm_eq o w') D dA (va_A (mm_ws ad dA w) sz) ad w.1) args s mc ms (va_A (mm_ws ad dA w) sz)) (entryFrame m args nL) := by
  obtain ⟨ha, hsz, hH, hS, hD, hO⟩ := hv
  subst hsz
  have hC : mm_C l y cc nL ret hh none d p (mm_rm d mc ms) s m meth c D dA (va_A (mm_ws ad dA w) s.heap.size) ad := ⟨B.exec, B.bytes, hml, B.returns, findClass_of_methodNamed B.named, (name_of_methodNamed B.named B.method).1, B.notSynchronized, ht, hl, Nat.le_refl _, Nat.le_refl _, hS, fun q h => Or.inr h, fun _ _ h => nomatch h⟩
  subst ha
  rw [lg_entry_eq]
  have he := lv_entry (as.map (mm_rv ad)) (n := nL) (by rw [mm_sl_len]; exact hlen)
  have hL : mm_L ad w.1 nL (lv_args 0 as) ((lg_sl (as.map (mm_rv ad)) ++ List.replicate (nL - (lg_sl (as.map (mm_rv ad))).length) Slot.unset).toArray) := by
    refine ⟨he.1, he.2.1, fun i v hv => ⟨?_, hO v (mm_lkargs hv)⟩⟩
    refine he.2.2 (i, mm_rv ad v) ?_
    rw [mm_lvargs_map]
    exact List.mem_map.mpr ⟨(i, v), mm_lk_mem hv, rfl⟩
  exact G p e (mm_rm d mc ms) s m _ below meth c D dA (va_A (mm_ws ad dA w) s.heap.size) ad w.1 hC s.heap [] 0 0 ad _ (by show 0 + mc ≤ mc; omega) (by show 0 + ms ≤ ms; omega) hH hD.self va_S.rf ⟨Nat.le_refl _, fun _ _ => rfl⟩ hL mm_O.nil
theorem ct_of {l : Launch} {y : MethodName} {cc : ByteArray} {nL : Nat} {ret : Option FieldType} {d mc ms : Nat} {as : List Value} {w : MW} {o : MO} {w' : MW} (hy : plainName y.cls = true) (hlen : (lg_sl as).length ≤ nL) (G : Go l y cc nL ret [] none (mm_Z (mm_eq o w')) d mc ms 0 (lv_args 0 as) [] w) : Ct l (.code y cc nL ret) y d mc ms as w o w' := by
  intro hl D dA ad sz
  refine vx_ofW (cc := cc) (maxL := nL) (ret := ret) hy rfl ?_
  intro p e s m args below meth c s₁ B hml ht hv
  have ht' : c.exceptionTable.toList = tableOf [] := by
    cases h : c.exceptionTable.toList with
    | nil => rfl
    | cons a b => exact (ht a (by rw [h]; exact List.mem_cons_self)).elim
  exact mm_begin hlen G hl B hml ht' hv
theorem ct_ofH {l : Launch} {y : MethodName} {cc : ByteArray} {nL : Nat} {ret : Option FieldType} {hh : List (Nat × Nat × Nat × Nat)} {d mc ms : Nat} {as : List Value} {w : MW} {o : MO} {w' : MW} (hy : plainName y.cls = true) (hlen : (lg_sl as).length ≤ nL) (G : Go l y cc nL ret hh none (mm_Z (mm_eq o w')) d mc ms 0 (lv_args 0 as) [] w) : Ct l (.codeWith y cc nL ret hh) y d mc ms as w o w' := by
  intro hl D dA ad sz
  refine vx_ofWH (cc := cc) (maxL := nL) (ret := ret) (hh := hh) hy rfl ?_
  intro p e s m args below meth c s₁ B hml hv
  exact mm_begin hlen G hl B hml (vx_table (x := y) B (atoms_spec (ws := [Cond.codeWith y cc nL ret hh]) B.pre _ List.mem_cons_self)) hv
section ROWS
variable {l : Launch} {y : MethodName} {cc : ByteArray} {nL : Nat} {ret : Option FieldType} {hh : List (Nat × Nat × Nat × Nat)} {ext : Option (Nat × (Nat → Int32))} {Z : MZ} {d bc bs : Nat} {pc : Nat} {lv : List (Nat × Value)} {st : List Value} {w : MW}
theorem go_lv (lv0 : List (Nat × Value)) (hs : ∀ q ∈ lv0, mm_lk lv q.1 = some q.2) (h : Go l y cc nL ret hh ext Z d bc bs pc lv0 st w) : Go l y cc nL ret hh ext Z d bc bs pc lv st w := by
  intro p e R s m args below meth c D dA A ad0 N0 C H locs cells slots ad ls h1 h2 h3 h4 h5 h6 h7 h8
  exact h p e R s m args below meth c D dA A ad0 N0 C H locs cells slots ad ls h1 h2 h3 h4 h5 h6 ⟨h7.1, h7.2.1, fun i v hv => h7.2.2 i v (hs _ (mm_lk_mem hv))⟩ h8
theorem go_room {bc' bs' : Nat} (h1 : bc' ≤ bc) (h2 : bs' ≤ bs) (h : Go l y cc nL ret hh ext Z d bc' bs' pc lv st w) : Go l y cc nL ret hh ext Z d bc bs pc lv st w := by
  intro p e R s m args below meth c D dA A ad0 N0 C H locs cells slots ad ls g1 g2
  exact h p e R s m args below meth c D dA A ad0 N0 C H locs cells slots ad ls (by omega) (by omega)
theorem go_iload_n {k : Fin 4} {x : Int32} (hd : decode cc pc = .ok (.iload_n k, 1)) (hx : mm_lk lv k = some (.int x)) (h : Go l y cc nL ret hh ext Z d bc bs (pc + 1) lv (.int x :: st) w) : Go l y cc nL ret hh ext Z d bc bs pc lv st w := by
  intro p e R s m args below meth c D dA A ad0 N0 C H locs cells slots ad ls h1 h2 h3 h4 h5 h6 h7 h8
  exact lv_iload_n C.1 C.2.1 hd rfl (h7.2.2 _ _ hx).1 (h p e R s m args below meth c D dA A ad0 N0 C H locs cells slots ad ls h1 h2 h3 h4 h5 h6 h7 (mm_O.cons mm_okv_int h8))
end ROWS
