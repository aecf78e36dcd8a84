/-! a static method called through a subclass's name (javac names parentOf by the subclass): the kit has no row for it; it is shown here over the library's words on links -/
theorem su_wp {Qz : Unit → Pre} {Ez : CtlPost} {e : Env} {dz : Bool} {acts : List Action} {U s0 : State} {f : JFrame} {idx ci n cn : Nat} {m1 : MethodId} {dk ck : Class} {cf : ClassFile} {nm ds : String} (htop : U.topJava?.isSome) (hpoly : e.platform.polymorphicOnlyByInvokevirtual = true)
    (hW : s0.WarmedH U.vm) (hE : s0.MethodEntryUp e U.vm f.method.cls idx cn m1 ci) (hdk : s0.vm.classes[f.method.cls]? = some dk) (hcf : dk.cf = some cf) (hcp : cf.constantPool[idx]? = some (.methodref ci n)) (hnt : cf.constantPool.nameAndType? n = some (nm, ds))
    (hck : s0.vm.classes[cn]? = some ck) (hno : (ck.methods.any fun x => x.name == nm && !x.isStatic && signaturePolymorphic ck x) = false) :
    wp (invokestatic.sem idx) Qz Ez e dz acts (U.setTop f) ↔ wp (invokestatic.sem idx) Qz Ez e dz acts ((U.setVm (U.vm.calledUp f.method.cls ci idx cn m1)).setTop f) := by
  obtain ⟨g1, g2, g3, g4⟩ := hE.classFirst
  have alikeA := hW.alike
  have alikeB := hE.warmed.alike
  obtain ⟨ka, hka, ea⟩ := alikeA.2.2 _ _ hdk
  obtain ⟨kb, hkb, eb⟩ := alikeB.2.2 _ _ hdk
  obtain ⟨cb, hcb, fb⟩ := g3.alike.2.2 _ _ hck
  obtain ⟨cd, hcd, fd⟩ := alikeB.2.2 _ _ hck
  have href : cf.constantPool[idx]? = some (if false then .interfaceMethodref ci n else .methodref ci n) := hcp
  have ra := memberRef_ask_via (e := e) hka (by rw [ea]; exact hcf) href hnt
  have rb := memberRef_ask_via (e := e) hkb (by rw [eb]; exact hcf) href hnt
  have nb : (cb.methods.any fun x => x.name == nm && !x.isStatic && signaturePolymorphic cb x) = false := by rw [fb]; exact hno
  have nd : (cd.methods.any fun x => x.name == nm && !x.isStatic && signaturePolymorphic cd x) = false := by rw [fd]; exact hno
  have t1 : (U.setVm (U.vm.noted f.method.cls ci (.cls cn))).topJava?.isSome := htop
  have t2 : (U.setVm (U.vm.calledUp f.method.cls ci idx cn m1)).topJava?.isSome := htop
  have LC : ∀ {Q' : ClassId → Pre} {d' : Bool} {acts' : List Action}, wp (_root_.Jvm.resolveClassAt ci) Q' Ez e d' acts' (U.setTop f) ↔ Q' cn d' acts' ((U.setVm (U.vm.noted f.method.cls ci (.cls cn))).setTop f) := _root_.Jvm.W.resolveClassAt_links (t := U.setTop f) (State.method?_setTop f htop) g1
  have LM : ∀ {Q' : MethodId → Pre} {d' : Bool} {acts' : List Action}, wp (_root_.Jvm.resolveMethodAt idx) Q' Ez e d' acts' ((U.setVm (U.vm.noted f.method.cls ci (.cls cn))).setTop f) ↔ Q' m1 d' acts' ((U.setVm (U.vm.calledUp f.method.cls ci idx cn m1)).setTop f) := _root_.Jvm.W.resolveMethodAt_links (t := (U.setVm (U.vm.noted f.method.cls ci (.cls cn))).setTop f) (State.method?_setTop f t1) g4
  have RC := fun {Q' : ClassId → Pre} {d' : Bool} {acts' : List Action} => _root_.Jvm.W.resolveClassAt_ready (s := (U.setVm (U.vm.calledUp f.method.cls ci idx cn m1)).setTop f) (Q := Q') (E := Ez) (e := e) (d := d') (acts := acts') (State.method?_setTop f t2) hE.classReady
  have RM := fun {Q' : MethodId → Pre} {d' : Bool} {acts' : List Action} => _root_.Jvm.W.resolveMethodAt_ready (s := (U.setVm (U.vm.calledUp f.method.cls ci idx cn m1)).setTop f) (Q := Q') (E := Ez) (e := e) (d := d') (acts := acts') (State.method?_setTop f t2) hE.ready
  simp [invokestatic.sem, hpoly, Seam.memberRefOf, State.method?_setTop f htop, State.method?_setTop f t2, ra, rb, LC, RC, hcb, hcd, nb, nd, LM, RM, -Array.any_eq_true]
section SUP
variable {p : Program} {l : Launch} {e : Env} {R : Room} {s : State} {m : MethodId} {args : Array Value} {below : List Frame} {meth : Method} {c : Code} {T : State} {locs : List Loc} {cells slots : Nat}
theorem su_step (X : Stand p l e R s m args below meth c T locs cells slots) (hexec : p.tables.exec = Jvm.exec) {own owner : String} {idx : Nat} {x : MethodName} (hown : s.vm.findClass own = some m.cls) (hlink : (Cond.methodLink own idx x).before args s = true)
    (hsame : (Cond.sameMethod x.cls owner x.name x.desc).before args s = true) (howner : owner ≠ "java/lang/invoke/MethodHandle" ∧ owner ≠ "java/lang/invoke/VarHandle") {m1 : MethodId} {meth1 : Method} {k1 : Class} (hn : s.methodNamed? ⟨owner, x.name, x.desc⟩ = some m1) (hm1 : s.vm.method? m1 = some meth1) (hstat : meth1.isStatic = true)
    (hk1 : s.vm.classes[m1.cls]? = some k1) (hini : k1.init = .initialized) {g : JFrame} (hg : g.method = m) {As rest : List Value} (hlen : As.length = meth1.sig.parameters.length) (hstk : g.stack = As.reverse ++ rest) (hdg : decode c.code g.pc = .ok (.invokestatic idx, 3)) :
    ∃ vm1, Stand p l e R s m args below meth c (T.setVm vm1) locs cells slots ∧ ∀ tg, (∀ acts, Steps p.tables e below (doInvoke e ((T.setVm vm1).setTop { g with stack := rest }) acts m1 As.toArray).1 tg) → Steps p.tables e below (T.setTop g) tg := by
  have hpa : e.platform.magicAccessors = ({} : Platform).magicAccessors := by rw [X.admits.platform]
  have hpb : e.platform.polymorphicOnlyByInvokevirtual = true := by rw [X.admits.platform]
  obtain ⟨cn, ck, r1, b1, b2, b3, b4, b5⟩ := Cond.sameMethod_found hsame
  cases hn.symm.trans b5
  obtain ⟨ci, hl, hri⟩ := Cond.methodLink_specUp hown b1 b2 b3 b4 hlink e.platform hpa (by rw [X.admits.platform])
  have hE : s.MethodEntryUp e T.vm m.cls idx cn m1 ci := State.methodEntryUp X.warmed hl hri
  obtain ⟨kx, hkx, hnx⟩ := className_of_methodNamed hn
  cases hk1.symm.trans hkx
  obtain ⟨dk, cfile, nt, mn, md, ck2, _, _, hd, hcf, hcp, hnt, -, -, hck2, -, hnp, -⟩ := hl.here
  cases b2.symm.trans hck2
  have alike := hE.warmed.alike
  obtain ⟨dk2, hdk2, ed2⟩ := alike.2.2 _ _ hd
  obtain ⟨k2, hk2, ek2⟩ := alike.2.2 _ _ hk1
  obtain ⟨ck3, hck3, ec3⟩ := alike.2.2 _ _ b2
  have hno : (ck.methods.any fun y => y.name == mn && !y.isStatic && signaturePolymorphic ck y) = false := by simp [hnp]
  have hno2 : (ck3.methods.any fun y => y.name == mn && !y.isStatic && signaturePolymorphic ck3 y) = false := by rw [ec3]; exact hno
  have hcp2 : cfile.constantPool[idx]? = some (if false then .interfaceMethodref ci nt else .methodref ci nt) := hcp
  refine ⟨T.vm.calledUp m.cls ci idx cn m1, X.noted hE.warmed, fun tg hrest => ?_⟩
  subst hg
  jvm_step X.here [hexec, hdg, su_wp (e := e) (U := T) (s0 := s) (f := g) X.here.top hpb X.warmed hE hd hcf hcp hnt b2 hno,
    invokestatic.wp_ready (e := e) (s := T.setVm (T.vm.calledUp g.method.cls ci idx cn m1)) (k := k2) (meth := meth1) (m := m1) (args := As) (rest := rest) (f := g) X.here.top ⟨ci, mn, md, false, cn, ck3, memberRef_ask_via (e := e) hdk2 (by rw [ed2]; exact hcf) hcp2 hnt, hE.classReady, hck3, hno2⟩ hE.ready hk2
      (by show (T.vm.calledUp g.method.cls ci idx cn m1).method? m1 = some meth1; rw [alike.method?]; exact hm1) (by rw [ek2]; show signaturePolymorphic k1 meth1 = false; simp [signaturePolymorphic, hnx, howner.1, howner.2]) hstat (by rw [ek2]; exact hini) hlen hstk]
  exact fun acts => hrest _
end SUP
def mm_Su (own : String) (idx : Nat) (y1 : MethodName) (n : Nat) : Prop := ∃ x : MethodName, Cond.methodLink own idx x ∈ mm_GW ∧ Cond.sameMethod x.cls y1.cls x.name x.desc ∈ mm_GW ∧ y1 = ⟨y1.cls, x.name, x.desc⟩ ∧ Cond.initialized y1.cls ∈ mm_GW ∧ Cond.static y1 ∈ mm_GW ∧ (y1.cls ≠ "java/lang/invoke/MethodHandle" ∧ y1.cls ≠ "java/lang/invoke/VarHandle") ∧ (parseMethodDescriptor y1.desc).map (fun d => d.parameters.length) = some n
section SUG
variable {l : Launch} {y : MethodName} {cc : ByteArray} {nL : Nat} {ret : Option FieldType} {hh : List (Nat × Nat × Nat × Nat)} {ext : Option (Nat × (Nat → Int32))} {Z : MZ} {d bc bs : Nat} {pc : Nat} {lv : List (Nat × Value)} {st rest : List Value} {w w' : MW}
theorem go_statU {v : Value} {y1 : MethodName} {c1 : ByteArray} {n1 : Nat} {r1 : Option FieldType} {d1 n idx : Nat} {As : List Value} (hd : decode cc pc = .ok (.invokestatic idx, 3)) (hM : Ct l (.code y1 c1 n1 r1) y1 d1 0 0 As w (.inl (some v)) w') (hV : mm_Su y.cls idx y1 n) (hcd : Cond.code y1 c1 n1 r1 ∈ mm_GW) (hn : As.length = n) (hst : st = As.reverse ++ rest)
    (hcat : (rest.map fun v => v.category).sum ≤ 8) (hdp : d1 + 1 ≤ d) (hmx : n1 ≤ 21) (hg : Go l y cc nL ret hh ext Z d bc bs (pc + 3) lv (v :: rest) w') : Go l y cc nL ret hh ext Z d bc bs pc lv st w := by
  intro p e R s m args below meth c D dA A ad0 N0 C H locs cells slots ad ls h1 h2 h3 h4 h5 h6 h7 h8
  subst hst
  have hS := C.2.2.2.2.2.2.2.2.2.2.2.1
  have hO2 : mm_O w.1 As := fun v hv => h8 v (List.mem_append_left _ (List.mem_reverse.mpr hv))
  have hO3 : mm_O w.1 rest := fun v hv => h8 v (List.mem_append_right _ hv)
  have hMt := hM C.2.2.2.2.2.2.2.2.1 D dA ad H.size
  obtain ⟨x, f1, f2, f3, f4, f5, f6, f7⟩ := hV
  have hstk : (F0 m pc ls ((As.reverse ++ rest).map (mm_rv ad))).stack = (As.map (mm_rv ad)).reverse ++ rest.map (mm_rv ad) := by
    show (As.reverse ++ rest).map (mm_rv ad) = _
    rw [List.map_append, List.map_reverse]
  have hcat2 : 2 * (F0 m pc ls ((As.reverse ++ rest).map (mm_rv ad))).monitorRoom + ((rest.map (mm_rv ad)).map fun v => v.category).sum ≤ 8 := by
    have e9 : (rest.map (mm_rv ad)).map (fun v => v.category) = rest.map fun v => v.category := by rw [List.map_map]; exact List.map_congr_left (fun v _ => mm_cat ad v)
    rw [e9]
    show 2 * 0 + _ ≤ 8
    omega
  have hR : (mm_rm d1 0 0).frames + 1 ≤ R.frames ∧ 8 + (n1 + 11) + (mm_rm d1 0 0).locals ≤ R.locals := by
    have q1 := C.2.2.2.2.2.2.2.2.2.1
    have q2 := C.2.2.2.2.2.2.2.2.2.2.1
    show d1 + 1 ≤ R.frames ∧ 8 + (n1 + 11) + 40 * d1 ≤ R.locals
    omega
  refine mm_after (mc := 0) (ms := 0) (bc := bc) (bs := bs) (o := .inl (some v)) (w' := w') (a := (As.map (mm_rv ad)).toArray) (fun u hu => by cases hu; exact hg) (fun E hE => by cases hE) C (by omega) (by omega) h4 h5 h6 h7 hO3 ?_
  have hK := vx_back (R := R) (p := p) (e := e) (below := below) (s := s) (sargs := args) (len := 3) (W9 := 8) (bytes := c1) (maxL := n1) (ret := r1) hMt mm_Pc.blind rfl rfl hR.1 hR.2 (mm_code hS.1 hcd) (List.mem_singleton.mpr rfl) (fun a' U hW => word_at hW (mm_good f4) (hS.1.1 _ f4))
  intro T hT X
  obtain ⟨mk, hnamed⟩ := Cond.code_named (hS.1.hts (args := args) _ hcd)
  obtain ⟨methM, cM, hmethM, -, -, -, -, -, -, hsigM⟩ := Cond.code_spec hnamed (hS.1.hts (args := args) _ hcd)
  have hstatic : methM.isStatic = true := Cond.static_spec hnamed hmethM (hS.1.hts (args := args) _ f5)
  obtain ⟨kP, hkP, -⟩ := className_of_methodNamed hnamed
  have hinitP : kP.init = .initialized := Cond.initialized_spec (findClass_of_methodNamed hnamed) hkP (hS.1.hts (args := args) _ f4)
  have hlenA : (As.map (mm_rv ad)).length = methM.sig.parameters.length := by rw [List.length_map, hn]; exact mm_len f7 _ hsigM
  obtain ⟨vm₁, X₁, hstep₁⟩ := su_step X C.1 C.2.2.2.2.1 (hS.1.hts _ f1) (hS.1.hts _ f2) f6 (by rw [← f3]; exact hnamed) hmethM hstatic hkP hinitP (g := F0 m pc ls ((As.reverse ++ rest).map (mm_rv ad))) rfl (As := As.map (mm_rv ad)) (rest := rest.map (mm_rv ad)) hlenA hstk (by rw [C.2.1]; exact hd)
  have hpre := mm_pre C h3 h4 h5 hO2 (T.setVm vm₁) hT X₁.warmed
  rcases hK m meth c ⟨T.setVm vm₁, locs, cells, slots⟩ { (F0 m pc ls ((As.reverse ++ rest).map (mm_rv ad))) with stack := rest.map (mm_rv ad) } (.invokestatic idx) mk (As.map (mm_rv ad)).toArray X₁ rfl (h7.1.trans C.2.2.1.symm) (by rw [C.2.1]; exact hd) hcat2 (X₁.named hnamed) ⟨by show cells + 0 ≤ R.cells; omega, by show slots + 0 ≤ R.slots; omega, hpre⟩ with ⟨v1, ⟨U', l2, c2, s2⟩, X', ⟨g', mk', t, L, e1, e2, hq, g1, hL, g2, g3⟩, hsteps⟩ | ⟨q, ⟨U', l2, c2, s2⟩, X', ⟨g', mk', t, L, E, ce, e1, e2, hq, hce, hcv, hcl, g1, hL, g2, g3⟩, hsteps⟩
  · dsimp only [Pt.U, Pt.locs, Pt.cells, Pt.slots] at X' e1 e2 g1 g2 g3 hsteps
    subst g1; subst g2; subst g3
    exact Or.inl ⟨v1, (T.setVm vm₁).calling g' mk' (As.map (mm_rv ad)).toArray, t, U', L, hT, X', hL, e1, e2, hq, fun target h => hstep₁ _ fun acts => by rw [doInvoke_state]; exact hsteps.trans h⟩
  · dsimp only [Pt.U, Pt.locs, Pt.cells, Pt.slots] at X' e1 e2 g1 g2 g3 hsteps hcl
    subst g1; subst g2; subst g3
    exact Or.inr ⟨q, (T.setVm vm₁).calling g' mk' (As.map (mm_rv ad)).toArray, t, U', L, E, ce, hT, X', hL, e1, e2, hq, hce, hcv, vx_cls X₁.warmed hcl, hstep₁ _ fun acts => by rw [doInvoke_state]; exact hsteps⟩
end SUG
