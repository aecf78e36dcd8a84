/-! MY OWN MACHINE WORDS: worlds by places, locals by lists, one predicate a program point. -/
abbrev MC : Type := (FieldType × vp_A) ⊕ (Nat × List Value)
abbrev MW : Type := Nat × (Nat → MC)
abbrev MO : Type := (Option Value) ⊕ String
def mm_XT : Nat := 1000000
abbrev mm_cl : List vw_C := [(RX0, TX0, 4), (RX1, TX1, 3), (RX2, TX2, 3), (RX4, TX4, 3), (RX5, TX5, 4), (RX6, TX6, 7), (RX7, TX7, 4), (RX8, TX8, 11)]
def mm_rv (ad : Nat → Nat) (v : Value) : Value := match v with
  | .ref k => .ref (ad k)
  | v => v
def mm_okv (N : Nat) (v : Value) : Prop := ∀ k, v = .ref k → k < N ∨ k = mm_XT
def mm_okf (N : Nat) (v : Value) : Prop := ∀ k, v = .ref k → k < N
def mm_okc (N : Nat) (c : MC) : Prop := match c with
  | .inl (_, _, .inr (.inr (.inr (.inr f)))) => ∀ j k, f j = some k → k < N
  | .inl _ => True
  | .inr o => ∀ v ∈ o.2, mm_okf N v
def mm_cv (ad : Nat → Nat) (dA : FieldType → ClassId) (c : MC) : va_E := match c with
  | .inl (ty, n, .inr (.inr (.inr (.inr f)))) => .inl (dA ty, n, .inr (.inr (.inr (.inr (fun j => (f j).map ad)))))
  | .inl a => .inl (dA a.1, a.2)
  | .inr o => .inr (o.1, o.2.map (mm_rv ad))
def mm_ws (ad : Nat → Nat) (dA : FieldType → ClassId) (w : MW) : va_W := (List.range w.1).map (fun k => (ad k, mm_cv ad dA (w.2 k)))
abbrev mm_tys (dA : FieldType → ClassId) : List (ClassId × FieldType) := [(dA .int, .int), (dA .long, .long), (dA .char, .char), (dA (.object RX5), .object RX5)]
theorem mm_ws_get {ad : Nat → Nat} {dA : FieldType → ClassId} {w : MW} {k : Nat} (h : k < w.1) : (mm_ws ad dA w)[k]? = some (ad k, mm_cv ad dA (w.2 k)) := by
  simp [mm_ws, h]
theorem mm_ws_len {ad : Nat → Nat} {dA : FieldType → ClassId} {w : MW} : (mm_ws ad dA w).length = w.1 := by simp [mm_ws]
theorem mm_ws_at {ad : Nat → Nat} {dA : FieldType → ClassId} {w : MW} {k : Nat} {q : Nat × va_E} (h : (mm_ws ad dA w)[k]? = some q) : k < w.1 ∧ q = (ad k, mm_cv ad dA (w.2 k)) := by
  have hk : k < w.1 := by rw [← mm_ws_len (ad := ad) (dA := dA)]; exact (List.getElem?_eq_some_iff.mp h).1
  refine ⟨hk, ?_⟩
  rw [mm_ws_get hk] at h
  exact (Option.some.inj h).symm
/-- setting a place -/
theorem mm_ws_set {ad : Nat → Nat} {dA : FieldType → ClassId} {w : MW} {k : Nat} (h : k < w.1) (c : MC) : (mm_ws ad dA w).set k (ad k, mm_cv ad dA c) = mm_ws ad dA (w.1, va_up w.2 k c) := by
  apply List.ext_getElem?
  intro j
  by_cases hj : j < w.1
  · rw [mm_ws_get (w := (w.1, va_up w.2 k c)) hj]
    by_cases e : k = j
    · subst e
      rw [List.getElem?_set_self (by rw [mm_ws_len]; exact h)]
      simp [va_up]
    · rw [List.getElem?_set_ne e, mm_ws_get hj]
      have e' : ¬ j = k := fun q => e q.symm
      simp [va_up, e']
  · rw [List.getElem?_eq_none (by rw [List.length_set, mm_ws_len]; omega), List.getElem?_eq_none (by rw [mm_ws_len]; show w.1 ≤ j; omega)]
theorem mm_rv_agree {ad ad' : Nat → Nat} {N : Nat} {v : Value} (h : ∀ k, k < N ∨ k = mm_XT → ad' k = ad k) (hv : mm_okv N v) : mm_rv ad' v = mm_rv ad v := by
  cases v with
  | ref k => simp only [mm_rv]; rw [h k (hv k rfl)]
  | _ => rfl
theorem mm_cv_agree {ad ad' : Nat → Nat} {dA : FieldType → ClassId} {N : Nat} {c : MC} (h : ∀ k, k < N → ad' k = ad k) (hc : mm_okc N c) : mm_cv ad' dA c = mm_cv ad dA c := by
  rcases c with ⟨ty, n, a⟩ | o
  · rcases a with a | a | a | a | f
    · rfl
    · rfl
    · rfl
    · rfl
    · simp only [mm_cv]
      have e : (fun j => (f j).map ad') = (fun j => (f j).map ad) := by
        funext j
        cases hj : f j with
        | none => rfl
        | some k => simp [h k (hc j k hj)]
      rw [e]
  · simp only [mm_cv]
    have e : o.2.map (mm_rv ad') = o.2.map (mm_rv ad) := by
      apply List.map_congr_left
      intro v hv
      exact mm_rv_agree (N := N) (v := v) (ad := ad) (ad' := ad) (fun _ _ => rfl) (fun k hk => Or.inl (hc v hv k hk)) ▸ (by
        cases v with
        | ref k => simp only [mm_rv]; rw [h k (hc _ hv k rfl)]
        | _ => rfl)
    rw [e]
/-- one cell more -/
theorem mm_ws_push {ad : Nat → Nat} {dA : FieldType → ClassId} {w : MW} {q : Nat} {c : MC} (hw : ∀ k, k < w.1 → mm_okc w.1 (w.2 k)) (hc : mm_okc w.1 c) : mm_ws ad dA w ++ [(q, mm_cv ad dA c)] = mm_ws (va_up ad w.1 q) dA (w.1 + 1, va_up w.2 w.1 c) := by
  have ha : ∀ k, k < w.1 → va_up ad w.1 q k = ad k := fun k hk => by simp [va_up, Nat.ne_of_lt hk]
  apply List.ext_getElem?
  intro j
  rcases Nat.lt_trichotomy j w.1 with hj | hj | hj
  · rw [List.getElem?_append_left (by rw [mm_ws_len]; exact hj), mm_ws_get hj, mm_ws_get (w := (w.1 + 1, va_up w.2 w.1 c)) (show j < w.1 + 1 by omega), ha j hj]
    have e : va_up w.2 w.1 c j = w.2 j := by simp [va_up, Nat.ne_of_lt hj]
    show some (ad j, mm_cv ad dA (w.2 j)) = some (ad j, mm_cv (va_up ad w.1 q) dA (va_up w.2 w.1 c j))
    rw [e, mm_cv_agree ha (hw j hj)]
  · subst hj
    rw [List.getElem?_append_right (by rw [mm_ws_len]; exact Nat.le_refl _), mm_ws_len, Nat.sub_self, mm_ws_get (w := (w.1 + 1, va_up w.2 w.1 c)) (show w.1 < w.1 + 1 by omega)]
    have e : va_up w.2 w.1 c w.1 = c := by simp [va_up]
    show some (q, mm_cv ad dA c) = some (va_up ad w.1 q w.1, mm_cv (va_up ad w.1 q) dA (va_up w.2 w.1 c w.1))
    rw [e, mm_cv_agree ha hc]
    simp [va_up]
  · rw [List.getElem?_eq_none (by simp [mm_ws_len]; omega), List.getElem?_eq_none (by rw [mm_ws_len]; show w.1 + 1 ≤ j; omega)]
theorem mm_okc_mono {N M : Nat} {c : MC} (h : N ≤ M) (hc : mm_okc N c) : mm_okc M c := by
  rcases c with ⟨ty, n, a⟩ | o
  · rcases a with a | a | a | a | f
    · trivial
    · trivial
    · trivial
    · trivial
    · exact fun j k hj => Nat.lt_of_lt_of_le (hc j k hj) h
  · exact fun v hv k hk => Nat.lt_of_lt_of_le (hc v hv k hk) h
/-- a private method of an abstract class, called on an object of a subclass: what the machine selects there (mm_xs_ok shows it out of the tables) -/
def mm_xs : List Cond := [.selects RX0 yX3_lineUp yX3_lineUp, .selects RX2 yX3_lineUp yX3_lineUp, .selects RX4 yX3_lineUp yX3_lineUp]
def mm_GW : List Cond := (mm_xs ++ lw_tbl).filter goodWord
def mm_ok (w : Cond) : Bool := match w with
  | .methodLinkNest .. => true
  | .declares _ => true
  | .castable .. => true
  | _ => false
def mm_strs : List (String × Nat × String) := lw_tbl.filterMap (fun w => match w with | .stringRef o k t => some (o, k, t) | _ => none)
def mm_ncs : List (String × String) := [("java/lang/IllegalStateException", "java/lang/IllegalArgumentException"), ("java/lang/IllegalArgumentException", "java/lang/IndexOutOfBoundsException"), ("java/lang/IndexOutOfBoundsException", "java/lang/IllegalArgumentException")]
def mm_Tab (s : State) : Prop := (∀ w ∈ mm_GW, w.before #[] s = true) ∧ (∀ w ∈ lw_tbl, mm_ok w = true → va_Nw w s) ∧ va_AO RX5 s ∧ (∀ q ∈ mm_strs, ∃ sa, vk_R q.1 q.2.1 q.2.2 sa s) ∧ ∀ q ∈ mm_ncs, va_Nc q.1 q.2 s
theorem mm_good {w : Cond} (h : w ∈ mm_GW) : (w.onTables && w.keeps) = true ∨ ∃ ty, w = .arrayClass ty := good_of_word (List.mem_filter.mp h).2
theorem mm_Tab.warm {s U : State} (hW : s.WarmedH U.vm) (h : mm_Tab s) : mm_Tab U := by
  obtain ⟨h1, h2, h3, h4, h5⟩ := h
  refine ⟨fun w hw => word_at hW (mm_good hw) (h1 w hw), fun w hw hk => ?_, h3.moved hW.alike, fun q hq => ?_, fun q hq => (h5 q hq).moved hW.alike⟩
  · have hz := h2 w hw hk
    cases w <;> first | exact va_Nw.warmM hW hz | exact va_Nw.warmD hW hz | exact va_Nw.warmC hW hz | cases hk
  · obtain ⟨sa, h⟩ := h4 q hq
    exact ⟨sa, vk_R.warm hW h⟩
theorem mm_Tab.hts {s : State} (h : mm_Tab s) {args : Array Value} : ∀ w ∈ mm_GW, w.before args s = true := fun w hw => word_at (State.WarmedH.refl s) (mm_good hw) (h.1 w hw)
def mm_S (D : va_G) (dA : FieldType → ClassId) (A : Nat → Prop) (U : State) (H : Heap) : Prop := mm_Tab U ∧ va_K D mm_cl (mm_tys dA) U ∧ vx_Zq Bundle.tN "UNASSIGNED_STACK" Bundle.steD A U H ∧ vx_Zq Bundle.tN "SUPPRESSED_SENTINEL" Bundle.listD A U H
theorem mm_S.warm {D : va_G} {dA : FieldType → ClassId} {A : Nat → Prop} {s U : State} {H : Heap} (hW : s.WarmedH U.vm) (h : mm_S D dA A s H) : mm_S D dA A U H := ⟨h.1.warm hW, va_K.moved hW.alike h.2.1, h.2.2.1.moved hW.alike, h.2.2.2.moved hW.alike⟩
theorem mm_S.kept {D : va_G} {dA : FieldType → ClassId} {A : Nat → Prop} {s : State} {H H1 : Heap} (h : mm_S D dA A s H) (hq : ∀ a : Nat, a < H.size → ¬ A a → H1[a]? = H[a]?) : mm_S D dA A s H1 := ⟨h.1, h.2.1, h.2.2.1.kept hq, h.2.2.2.kept hq⟩
theorem mm_S.narrow {D : va_G} {dA : FieldType → ClassId} {A B : Nat → Prop} {s : State} {H : Heap} (h : mm_S D dA A s H) (hq : ∀ q, B q → A q) : mm_S D dA B s H := ⟨h.1, h.2.1, h.2.2.1.narrow hq, h.2.2.2.narrow hq⟩
/-- a world in a heap -/
def mm_H (D : va_G) (dA : FieldType → ClassId) (ad : Nat → Nat) (w : MW) (H : Heap) : Prop := va_P D mm_cl (mm_ws ad dA w) H ∧ (∀ k, k < w.1 → mm_okc w.1 (w.2 k)) ∧ w.1 ≤ mm_XT
def mm_ag (ad0 ad : Nat → Nat) (N0 N : Nat) : Prop := N0 ≤ N ∧ ∀ k, k < N0 ∨ k = mm_XT → ad k = ad0 k
/-- locals: the first entry of a place counts -/
def mm_lk (lv : List (Nat × Value)) (i : Nat) : Option Value := match lv with
  | [] => none
  | q :: l => if q.1 = i then some q.2 else mm_lk l i
theorem mm_lk_mem {lv : List (Nat × Value)} {i : Nat} {v : Value} (h : mm_lk lv i = some v) : (i, v) ∈ lv := by
  induction lv with
  | nil => cases h
  | cons q l ih =>
    unfold mm_lk at h
    by_cases e : q.1 = i
    · rw [if_pos e] at h
      cases h
      rw [← e]
      exact List.mem_cons_self
    · rw [if_neg e] at h
      exact List.mem_cons_of_mem _ (ih h)
def mm_L (ad : Nat → Nat) (N nL : Nat) (lv : List (Nat × Value)) (ls : Array Slot) : Prop := ls.size = nL ∧ lv_wf ls ∧ ∀ i v, mm_lk lv i = some v → ls[i]? = some (.val (mm_rv ad v)) ∧ mm_okv N v
def mm_c1 (lv : List (Nat × Value)) (i : Nat) : Bool := match i with
  | 0 => true
  | j + 1 => match mm_lk lv j with
    | some v => v.category == 1
    | none => true
theorem mm_cat (ad : Nat → Nat) (v : Value) : (mm_rv ad v).category = v.category := by cases v <;> rfl
/-- what the kit's store rows are given, and give back -/
theorem mm_L.has {ad : Nat → Nat} {N nL : Nat} {lv : List (Nat × Value)} {ls : Array Slot} (h : mm_L ad N nL lv ls) : lv_has ls nL ((List.range nL).filterMap (fun j => (mm_lk lv j).map (fun v => (j, mm_rv ad v)))) := by
  refine ⟨h.1, h.2.1, fun q hq => ?_⟩
  obtain ⟨j, -, hj⟩ := List.mem_filterMap.mp hq
  cases e : mm_lk lv j with
  | none => rw [e] at hj; cases hj
  | some v =>
    rw [e] at hj
    cases hj
    exact (h.2.2 j v e).1
theorem mm_L.put {ad : Nat → Nat} {N nL : Nat} {lv : List (Nat × Value)} {ls ls' : Array Slot} {i : Nat} {v : Value} (h : mm_L ad N nL lv ls) (hc : mm_c1 lv i = true) (hv : mm_okv N v)
    (hs : lv_has ls' nL ((i, mm_rv ad v) :: ((List.range nL).filterMap (fun j => (mm_lk lv j).map (fun v => (j, mm_rv ad v)))).filter (fun q => !(q.1 == i) && !(q.1 + 1 == i && q.2.category == 2)))) : mm_L ad N nL ((i, v) :: lv) ls' := by
  refine ⟨hs.1, hs.2.1, fun j u hj => ?_⟩
  unfold mm_lk at hj
  by_cases e : i = j
  · rw [if_pos e] at hj
    cases hj
    subst e
    exact ⟨hs.2.2 (i, mm_rv ad v) List.mem_cons_self, hv⟩
  · rw [if_neg e] at hj
    obtain ⟨g1, g2⟩ := h.2.2 j u hj
    have hjn : j < nL := by rw [← h.1]; exact lv_lt g1
    refine ⟨hs.2.2 (j, mm_rv ad u) (List.mem_cons_of_mem _ (List.mem_filter.mpr ⟨List.mem_filterMap.mpr ⟨j, List.mem_range.mpr hjn, by rw [hj]; rfl⟩, ?_⟩)), g2⟩
    have e' : ¬ j = i := fun q => e q.symm
    rw [mm_cat]
    by_cases e2 : j + 1 = i
    · subst e2
      simp only [mm_c1, hj, beq_iff_eq] at hc
      simp [hc]
    · simp [e', e2]
theorem mm_L.put2 {ad : Nat → Nat} {N nL : Nat} {lv : List (Nat × Value)} {ls ls' : Array Slot} {i : Nat} {v : Value} (h : mm_L ad N nL lv ls) (hc : mm_c1 lv i = true) (hc2 : mm_lk lv (i + 1) = none) (hv : mm_okv N v)
    (hs : lv_has ls' nL ((i, mm_rv ad v) :: ((List.range nL).filterMap (fun j => (mm_lk lv j).map (fun v => (j, mm_rv ad v)))).filter (fun q => !(q.1 == i) && (!(q.1 == i + 1) && !(q.1 + 1 == i && q.2.category == 2))))) : mm_L ad N nL ((i, v) :: lv) ls' := by
  refine ⟨hs.1, hs.2.1, fun j u hj => ?_⟩
  unfold mm_lk at hj
  by_cases e : i = j
  · rw [if_pos e] at hj
    cases hj
    subst e
    exact ⟨hs.2.2 (i, mm_rv ad v) List.mem_cons_self, hv⟩
  · rw [if_neg e] at hj
    obtain ⟨g1, g2⟩ := h.2.2 j u hj
    have hjn : j < nL := by rw [← h.1]; exact lv_lt g1
    refine ⟨hs.2.2 (j, mm_rv ad u) (List.mem_cons_of_mem _ (List.mem_filter.mpr ⟨List.mem_filterMap.mpr ⟨j, List.mem_range.mpr hjn, by rw [hj]; rfl⟩, ?_⟩)), g2⟩
    have e' : ¬ j = i := fun q => e q.symm
    have e3 : ¬ j = i + 1 := fun q => by rw [q, hc2] at hj; cases hj
    rw [mm_cat]
    by_cases e2 : j + 1 = i
    · subst e2
      simp only [mm_c1, hj, beq_iff_eq] at hc
      simp [hc, e3]
    · simp [e', e2, e3]
theorem mm_L.agree {ad ad' : Nat → Nat} {N N' nL : Nat} {lv : List (Nat × Value)} {ls : Array Slot} (h : mm_L ad N nL lv ls) (hN : N ≤ N') (ha : ∀ k, k < N ∨ k = mm_XT → ad' k = ad k) : mm_L ad' N' nL lv ls := by
  refine ⟨h.1, h.2.1, fun i v hv => ?_⟩
  obtain ⟨g1, g2⟩ := h.2.2 i v hv
  refine ⟨by rw [mm_rv_agree ha g2]; exact g1, fun k hk => ?_⟩
  rcases g2 k hk with q | q
  · exact Or.inl (Nat.lt_of_lt_of_le q hN)
  · exact Or.inr q
def mm_O (N : Nat) (st : List Value) : Prop := ∀ v ∈ st, mm_okv N v
theorem mm_O.cons {N : Nat} {v : Value} {st : List Value} (hv : mm_okv N v) (h : mm_O N st) : mm_O N (v :: st) := fun u hu => by
  rcases List.mem_cons.mp hu with rfl | hu
  · exact hv
  · exact h u hu
theorem mm_O.tail {N : Nat} {v : Value} {st : List Value} (h : mm_O N (v :: st)) : mm_O N st := fun u hu => h u (List.mem_cons_of_mem _ hu)
theorem mm_O.head {N : Nat} {v : Value} {st : List Value} (h : mm_O N (v :: st)) : mm_okv N v := h v List.mem_cons_self
theorem mm_O.nil {N : Nat} : mm_O N [] := fun _ h => nomatch h
theorem mm_O.mono {N M : Nat} {st : List Value} (hN : N ≤ M) (h : mm_O N st) : mm_O M st := fun v hv k hk => by
  rcases h v hv k hk with q | q
  · exact Or.inl (Nat.lt_of_lt_of_le q hN)
  · exact Or.inr q
theorem mm_O.agree {ad ad' : Nat → Nat} {N : Nat} {st : List Value} (h : mm_O N st) (ha : ∀ k, k < N ∨ k = mm_XT → ad' k = ad k) : st.map (mm_rv ad') = st.map (mm_rv ad) := List.map_congr_left (fun v hv => mm_rv_agree ha (h v hv))
theorem mm_okv_int {N : Nat} {x : Int32} : mm_okv N (.int x) := fun _ h => nomatch h
theorem mm_okv_long {N : Nat} {x : Int64} : mm_okv N (.long x) := fun _ h => nomatch h
theorem mm_okv_null {N : Nat} : mm_okv N .null := fun _ h => nomatch h
theorem mm_okv_ref {N k : Nat} (hk : k < N) : mm_okv N (.ref k) := fun j h => by cases h; exact Or.inl hk
/-- what holds of a method all the while -/
def mm_C (l : Launch) (y : MethodName) (cc : ByteArray) (nL : Nat) (ret : Option FieldType) (hh : List (Nat × Nat × Nat × Nat)) (ext : Option (Nat × (Nat → Int32))) (d : Nat) (p : Program) (R : Room) (s : State) (m : MethodId) (meth : Method) (c : Code) (D : va_G) (dA : FieldType → ClassId) (A : Nat → Prop) (ad0 : Nat → Nat) : Prop :=
  p.tables.exec = Jvm.exec ∧ c.code = cc ∧ c.maxLocals = nL ∧ meth.sig.returnType = ret ∧ s.vm.findClass y.cls = some m.cls ∧ meth.name = y.name ∧ meth.locks = false ∧ c.exceptionTable.toList = tableOf hh ∧ l.stackTraces = false ∧ d ≤ R.frames ∧ 40 * d ≤ R.locals ∧ mm_S D dA A s s.heap ∧ (∀ q, s.heap.size ≤ q → A q) ∧
  ∀ L xs, ext = some (L, xs) → va_X (ad0 mm_XT) L xs s s.heap ∧ ad0 mm_XT < s.heap.size ∧ ¬ A (ad0 mm_XT)
abbrev MZ : Type := Room → va_G → (FieldType → ClassId) → (Nat → Prop) → (Nat → Nat) → Nat → List Frame → Array Value → State → State → Prop
/-- the machine at pc with these locals, this stack, this world comes to its end -/
def Go (l : Launch) (y : MethodName) (cc : ByteArray) (nL : Nat) (ret : Option FieldType) (hh : List (Nat × Nat × Nat × Nat)) (ext : Option (Nat × (Nat → Int32))) (Z : MZ) (d bc bs : Nat) (pc : Nat) (lv : List (Nat × Value)) (st : List Value) (w : MW) : Prop :=
  ∀ (p : Program) (e : Env) (R : Room) (s : State) (m : MethodId) (args : Array Value) (below : List Frame) (meth : Method) (c : Code) (D : va_G) (dA : FieldType → ClassId) (A : Nat → Prop) (ad0 : Nat → Nat) (N0 : Nat), mm_C l y cc nL ret hh ext d p R s m meth c D dA A ad0 →
  ∀ (H : Heap) (locs : List Loc) (cells slots : Nat) (ad : Nat → Nat) (ls : Array Slot), cells + bc ≤ R.cells → slots + bs ≤ R.slots → mm_H D dA ad w H → va_D A (mm_ws ad dA w) → va_S A s.heap H locs → mm_ag ad0 ad N0 w.1 → mm_L ad w.1 nL lv ls → mm_O w.1 st →
  W p l e R s m args below meth c H locs cells slots (Z R D dA A ad0 N0 below args s) (F0 m pc ls (st.map (mm_rv ad)))
/-- the same with an exception of class E over the frame -/
def GoX (l : Launch) (y : MethodName) (cc : ByteArray) (nL : Nat) (ret : Option FieldType) (hh : List (Nat × Nat × Nat × Nat)) (ext : Option (Nat × (Nat → Int32))) (Z : MZ) (d bc bs : Nat) (pc : Nat) (lv : List (Nat × Value)) (E : String) (w : MW) : Prop :=
  ∀ (p : Program) (e : Env) (R : Room) (s : State) (m : MethodId) (args : Array Value) (below : List Frame) (meth : Method) (c : Code) (D : va_G) (dA : FieldType → ClassId) (A : Nat → Prop) (ad0 : Nat → Nat) (N0 : Nat), mm_C l y cc nL ret hh ext d p R s m meth c D dA A ad0 →
  ∀ (H : Heap) (locs : List Loc) (cells slots : Nat) (ad : Nat → Nat) (ls : Array Slot), cells + bc ≤ R.cells → slots + bs ≤ R.slots → mm_H D dA ad w H → va_D A (mm_ws ad dA w) → va_S A s.heap H locs → mm_ag ad0 ad N0 w.1 → mm_L ad w.1 nL lv ls →
  ∀ (q : Addr) (ce : Cell) (st : List Value), H[q]? = some ce → ce.vm = .none → s.vm.findClass E = some ce.cls →
  vx_W p l e R s m args below meth c H locs cells slots (Z R D dA A ad0 N0 below args s) (F0 m pc ls st) q
/-- a method's end: what it answers, or throws, and the world behind it -/
def mm_Qc (Q : MO → MW → Prop) (D : va_G) (dA : FieldType → ClassId) (A : Nat → Prop) (ad0 : Nat → Nat) (N0 : Nat) : Array Value → State → Outcome → State → Prop := fun _ st o t =>
  ∃ (v : Option Value) (w : MW) (ad : Nat → Nat), o = .returned (v.map (mm_rv ad)) ∧ Q (.inl v) w ∧ (∀ x, v = some x → mm_okv w.1 x) ∧ mm_H D dA ad w t.heap ∧ va_D A (mm_ws ad dA w) ∧ mm_ag ad0 ad N0 w.1 ∧ va_F A st t
def mm_XC (Q : MO → MW → Prop) (D : va_G) (dA : FieldType → ClassId) (A : Nat → Prop) (ad0 : Nat → Nat) (N0 : Nat) : String → State → State → Prop := fun E st t =>
  ∃ (w : MW) (ad : Nat → Nat), Q (.inr E) w ∧ mm_H D dA ad w t.heap ∧ va_D A (mm_ws ad dA w) ∧ mm_ag ad0 ad N0 w.1 ∧ va_F A st t
def mm_Z (Q : MO → MW → Prop) : MZ := fun R D dA A ad0 N0 below args s => vx_MQ below (mm_Qc Q D dA A ad0 N0) (mm_XC Q D dA A ad0 N0) args s R.cells R.slots A
def mm_Pc (D : va_G) (dA : FieldType → ClassId) (ad : Nat → Nat) (sz : Nat) (as : List Value) (w : MW) : Array Value → State → Prop := fun v U =>
  v = (as.map (mm_rv ad)).toArray ∧ U.heap.size = sz ∧ mm_H D dA ad w U.heap ∧ mm_S D dA (va_A (mm_ws ad dA w) sz) U U.heap ∧ va_D (fun _ => True) (mm_ws ad dA w) ∧ mm_O w.1 as
def mm_rm (d mc ms : Nat) : Room := { frames := d, cells := mc, slots := ms, locals := 40 * d }
def mm_eq (o : MO) (w : MW) : MO → MW → Prop := fun o' w' => o' = o ∧ w' = w
/-- a contract: called with these arguments in this world it ends so -/
def Ct (l : Launch) (hd : Cond) (y : MethodName) (d mc ms : Nat) (as : List Value) (w : MW) (o : MO) (w' : MW) : Prop :=
  l.stackTraces = false → ∀ (D : va_G) (dA : FieldType → ClassId) (ad : Nat → Nat) (sz : Nat), vx_Met l y [hd] (mm_rm d mc ms) (mm_Pc D dA ad sz as w) (mm_Qc (mm_eq o w') D dA (va_A (mm_ws ad dA w) sz) ad w.1) (mm_XC (mm_eq o w') D dA (va_A (mm_ws ad dA w) sz) ad w.1) mc ms (va_A (mm_ws ad dA w) sz)
theorem mm_Pc.blind {D : va_G} {dA : FieldType → ClassId} {ad : Nat → Nat} {sz : Nat} {as : List Value} {w : MW} : FrameBlind (mm_Pc D dA ad sz as w) := by
  intro a U g mk h
  obtain ⟨h1, h2, h3, h4, h5, h6⟩ := h
  exact ⟨h1, h2, h3, mm_S.warm (s := U) (U := U.calling g mk a) (State.WarmedH.refl U) h4, h5, h6⟩
