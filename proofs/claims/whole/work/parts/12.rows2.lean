section R2
variable {l : Launch} {y : MethodName} {cc : ByteArray} {nL : Nat} {ret : Option FieldType} {hh : List (Nat × Nat × Nat × Nat)} {ext : Option (Nat × (Nat → Int32))} {Z : MZ} {d bc bs : Nat} {pc : Nat} {lv : List (Nat × Value)} {st rest : List Value} {w w' : MW} {o : MO} {mc ms : Nat}
theorem go_top {v : Value} (u : Value) (e : v = u) (h : Go l y cc nL ret hh ext Z d bc bs pc lv (u :: st) w) : Go l y cc nL ret hh ext Z d bc bs pc lv (v :: st) w := by rw [e]; exact h
theorem go_w (u : MW) (e : w = u) (h : Go l y cc nL ret hh ext Z d bc bs pc lv st u) : Go l y cc nL ret hh ext Z d bc bs pc lv st w := by rw [e]; exact h
theorem go_virt1 {v : Value} {y1 : MethodName} {c1 : ByteArray} {n1 : Nat} {r1 : Option FieldType} {d1 n idx ci a : Nat} {fs As : List Value} (hd : decode cc pc = .ok (.invokevirtual idx, 3)) (hM : Ct l (.code y1 c1 n1 r1) y1 d1 0 0 (.ref a :: As) w (.inl (some v)) w') (hV : mm_V y.cls idx ci y1 c1 n1 r1 n) (hn : As.length = n) (ho : mm_ob w a ci fs) (hst : st = As.reverse ++ .ref a :: rest)
    (hcat : (rest.map fun v => v.category).sum ≤ 8) (hdp : d1 + 1 ≤ d) (hmx : n1 ≤ 21) (h : Go l y cc nL ret hh ext Z d bc bs (pc + 3) lv (v :: rest) w') : Go l y cc nL ret hh ext Z d bc bs pc lv st w := by
  have := go_virt (bc := bc) (bs := bs) hd hM hV hn ho hst hcat hdp hmx (fun u hu => by cases hu; exact h) (fun E hE => by cases hE)
  rwa [Nat.zero_add, Nat.zero_add] at this
theorem go_virt0 {y1 : MethodName} {c1 : ByteArray} {n1 : Nat} {r1 : Option FieldType} {d1 n idx ci a : Nat} {fs As : List Value} (hd : decode cc pc = .ok (.invokevirtual idx, 3)) (hM : Ct l (.code y1 c1 n1 r1) y1 d1 0 0 (.ref a :: As) w (.inl none) w') (hV : mm_V y.cls idx ci y1 c1 n1 r1 n) (hn : As.length = n) (ho : mm_ob w a ci fs) (hst : st = As.reverse ++ .ref a :: rest)
    (hcat : (rest.map fun v => v.category).sum ≤ 8) (hdp : d1 + 1 ≤ d) (hmx : n1 ≤ 21) (h : Go l y cc nL ret hh ext Z d bc bs (pc + 3) lv rest w') : Go l y cc nL ret hh ext Z d bc bs pc lv st w := by
  have := go_virt (bc := bc) (bs := bs) hd hM hV hn ho hst hcat hdp hmx (fun u hu => by cases hu; exact h) (fun E hE => by cases hE)
  rwa [Nat.zero_add, Nat.zero_add] at this
theorem go_stat1 {v : Value} {y1 : MethodName} {c1 : ByteArray} {n1 : Nat} {r1 : Option FieldType} {d1 n idx : Nat} {As : List Value} (hd : decode cc pc = .ok (.invokestatic idx, 3)) (hM : Ct l (.code y1 c1 n1 r1) y1 d1 0 0 As w (.inl (some v)) w') (hV : mm_St y.cls idx y1 n) (hcd : Cond.code y1 c1 n1 r1 ∈ mm_GW) (hn : As.length = n) (hst : st = As.reverse ++ rest)
    (hcat : (rest.map fun v => v.category).sum ≤ 8) (hdp : d1 + 1 ≤ d) (hmx : n1 ≤ 21) (h : Go l y cc nL ret hh ext Z d bc bs (pc + 3) lv (v :: rest) w') : Go l y cc nL ret hh ext Z d bc bs pc lv st w := by
  have := go_stat (bc := bc) (bs := bs) hd hM hV hcd hn hst hcat hdp hmx (fun u hu => by cases hu; exact h) (fun E hE => by cases hE)
  rwa [Nat.zero_add, Nat.zero_add] at this
theorem go_stat0 {y1 : MethodName} {c1 : ByteArray} {n1 : Nat} {r1 : Option FieldType} {d1 n idx : Nat} {As : List Value} (hd : decode cc pc = .ok (.invokestatic idx, 3)) (hM : Ct l (.code y1 c1 n1 r1) y1 d1 0 0 As w (.inl none) w') (hV : mm_St y.cls idx y1 n) (hcd : Cond.code y1 c1 n1 r1 ∈ mm_GW) (hn : As.length = n) (hst : st = As.reverse ++ rest)
    (hcat : (rest.map fun v => v.category).sum ≤ 8) (hdp : d1 + 1 ≤ d) (hmx : n1 ≤ 21) (h : Go l y cc nL ret hh ext Z d bc bs (pc + 3) lv rest w') : Go l y cc nL ret hh ext Z d bc bs pc lv st w := by
  have := go_stat (bc := bc) (bs := bs) hd hM hV hcd hn hst hcat hdp hmx (fun u hu => by cases hu; exact h) (fun E hE => by cases hE)
  rwa [Nat.zero_add, Nat.zero_add] at this
theorem go_if_eq_t {x : Int32} {off : Int} (tgt : Nat) (hd : decode cc pc = .ok (.ifCond .eq off, 3)) (ht : (pc : Int) + off = (tgt : Int)) (q : x = 0) (h : Go l y cc nL ret hh ext Z d bc bs tgt lv st w) : Go l y cc nL ret hh ext Z d bc bs pc lv (.int x :: st) w := go_if_eq tgt hd ht (fun _ => h) (fun z => absurd q z)
theorem go_if_eq_f {x : Int32} {off : Int} (tgt : Nat) (hd : decode cc pc = .ok (.ifCond .eq off, 3)) (ht : (pc : Int) + off = (tgt : Int)) (q : ¬ x = 0) (h : Go l y cc nL ret hh ext Z d bc bs (pc + 3) lv st w) : Go l y cc nL ret hh ext Z d bc bs pc lv (.int x :: st) w := go_if_eq tgt hd ht (fun z => absurd z q) (fun _ => h)
theorem go_if_ne_t {x : Int32} {off : Int} (tgt : Nat) (hd : decode cc pc = .ok (.ifCond .ne off, 3)) (ht : (pc : Int) + off = (tgt : Int)) (q : ¬ x = 0) (h : Go l y cc nL ret hh ext Z d bc bs tgt lv st w) : Go l y cc nL ret hh ext Z d bc bs pc lv (.int x :: st) w := go_if_ne tgt hd ht (fun _ => h) (fun z => absurd z q)
theorem go_if_ne_f {x : Int32} {off : Int} (tgt : Nat) (hd : decode cc pc = .ok (.ifCond .ne off, 3)) (ht : (pc : Int) + off = (tgt : Int)) (q : x = 0) (h : Go l y cc nL ret hh ext Z d bc bs (pc + 3) lv st w) : Go l y cc nL ret hh ext Z d bc bs pc lv (.int x :: st) w := go_if_ne tgt hd ht (fun z => absurd q z) (fun _ => h)
theorem go_if_lt_t {x : Int32} {off : Int} (tgt : Nat) (hd : decode cc pc = .ok (.ifCond .lt off, 3)) (ht : (pc : Int) + off = (tgt : Int)) (q : x < 0) (h : Go l y cc nL ret hh ext Z d bc bs tgt lv st w) : Go l y cc nL ret hh ext Z d bc bs pc lv (.int x :: st) w := go_if_lt tgt hd ht (fun _ => h) (fun z => absurd q z)
theorem go_if_lt_f {x : Int32} {off : Int} (tgt : Nat) (hd : decode cc pc = .ok (.ifCond .lt off, 3)) (ht : (pc : Int) + off = (tgt : Int)) (q : ¬ x < 0) (h : Go l y cc nL ret hh ext Z d bc bs (pc + 3) lv st w) : Go l y cc nL ret hh ext Z d bc bs pc lv (.int x :: st) w := go_if_lt tgt hd ht (fun z => absurd z q) (fun _ => h)
theorem go_if_ge_t {x : Int32} {off : Int} (tgt : Nat) (hd : decode cc pc = .ok (.ifCond .ge off, 3)) (ht : (pc : Int) + off = (tgt : Int)) (q : 0 ≤ x) (h : Go l y cc nL ret hh ext Z d bc bs tgt lv st w) : Go l y cc nL ret hh ext Z d bc bs pc lv (.int x :: st) w := go_if_ge tgt hd ht (fun _ => h) (fun z => absurd q z)
theorem go_if_ge_f {x : Int32} {off : Int} (tgt : Nat) (hd : decode cc pc = .ok (.ifCond .ge off, 3)) (ht : (pc : Int) + off = (tgt : Int)) (q : ¬ 0 ≤ x) (h : Go l y cc nL ret hh ext Z d bc bs (pc + 3) lv st w) : Go l y cc nL ret hh ext Z d bc bs pc lv (.int x :: st) w := go_if_ge tgt hd ht (fun z => absurd z q) (fun _ => h)
theorem go_if_gt_t {x : Int32} {off : Int} (tgt : Nat) (hd : decode cc pc = .ok (.ifCond .gt off, 3)) (ht : (pc : Int) + off = (tgt : Int)) (q : 0 < x) (h : Go l y cc nL ret hh ext Z d bc bs tgt lv st w) : Go l y cc nL ret hh ext Z d bc bs pc lv (.int x :: st) w := go_if_gt tgt hd ht (fun _ => h) (fun z => absurd q z)
theorem go_if_gt_f {x : Int32} {off : Int} (tgt : Nat) (hd : decode cc pc = .ok (.ifCond .gt off, 3)) (ht : (pc : Int) + off = (tgt : Int)) (q : ¬ 0 < x) (h : Go l y cc nL ret hh ext Z d bc bs (pc + 3) lv st w) : Go l y cc nL ret hh ext Z d bc bs pc lv (.int x :: st) w := go_if_gt tgt hd ht (fun z => absurd z q) (fun _ => h)
theorem go_if_le_t {x : Int32} {off : Int} (tgt : Nat) (hd : decode cc pc = .ok (.ifCond .le off, 3)) (ht : (pc : Int) + off = (tgt : Int)) (q : x ≤ 0) (h : Go l y cc nL ret hh ext Z d bc bs tgt lv st w) : Go l y cc nL ret hh ext Z d bc bs pc lv (.int x :: st) w := go_if_le tgt hd ht (fun _ => h) (fun z => absurd q z)
theorem go_if_le_f {x : Int32} {off : Int} (tgt : Nat) (hd : decode cc pc = .ok (.ifCond .le off, 3)) (ht : (pc : Int) + off = (tgt : Int)) (q : ¬ x ≤ 0) (h : Go l y cc nL ret hh ext Z d bc bs (pc + 3) lv st w) : Go l y cc nL ret hh ext Z d bc bs pc lv (.int x :: st) w := go_if_le tgt hd ht (fun z => absurd z q) (fun _ => h)
theorem go_icmp_eq_t {x z : Int32} {off : Int} (tgt : Nat) (hd : decode cc pc = .ok (.if_icmp .eq off, 3)) (ht : (pc : Int) + off = (tgt : Int)) (q : x = z) (h : Go l y cc nL ret hh ext Z d bc bs tgt lv st w) : Go l y cc nL ret hh ext Z d bc bs pc lv (.int z :: .int x :: st) w := go_icmp_eq tgt hd ht (fun _ => h) (fun r => absurd q r)
theorem go_icmp_eq_f {x z : Int32} {off : Int} (tgt : Nat) (hd : decode cc pc = .ok (.if_icmp .eq off, 3)) (ht : (pc : Int) + off = (tgt : Int)) (q : ¬ x = z) (h : Go l y cc nL ret hh ext Z d bc bs (pc + 3) lv st w) : Go l y cc nL ret hh ext Z d bc bs pc lv (.int z :: .int x :: st) w := go_icmp_eq tgt hd ht (fun r => absurd r q) (fun _ => h)
theorem go_icmp_ne_t {x z : Int32} {off : Int} (tgt : Nat) (hd : decode cc pc = .ok (.if_icmp .ne off, 3)) (ht : (pc : Int) + off = (tgt : Int)) (q : ¬ x = z) (h : Go l y cc nL ret hh ext Z d bc bs tgt lv st w) : Go l y cc nL ret hh ext Z d bc bs pc lv (.int z :: .int x :: st) w := go_icmp_ne tgt hd ht (fun _ => h) (fun r => absurd r q)
theorem go_icmp_ne_f {x z : Int32} {off : Int} (tgt : Nat) (hd : decode cc pc = .ok (.if_icmp .ne off, 3)) (ht : (pc : Int) + off = (tgt : Int)) (q : x = z) (h : Go l y cc nL ret hh ext Z d bc bs (pc + 3) lv st w) : Go l y cc nL ret hh ext Z d bc bs pc lv (.int z :: .int x :: st) w := go_icmp_ne tgt hd ht (fun r => absurd q r) (fun _ => h)
theorem go_icmp_lt_t {x z : Int32} {off : Int} (tgt : Nat) (hd : decode cc pc = .ok (.if_icmp .lt off, 3)) (ht : (pc : Int) + off = (tgt : Int)) (q : x < z) (h : Go l y cc nL ret hh ext Z d bc bs tgt lv st w) : Go l y cc nL ret hh ext Z d bc bs pc lv (.int z :: .int x :: st) w := go_icmp_lt tgt hd ht (fun _ => h) (fun r => absurd q r)
theorem go_icmp_lt_f {x z : Int32} {off : Int} (tgt : Nat) (hd : decode cc pc = .ok (.if_icmp .lt off, 3)) (ht : (pc : Int) + off = (tgt : Int)) (q : ¬ x < z) (h : Go l y cc nL ret hh ext Z d bc bs (pc + 3) lv st w) : Go l y cc nL ret hh ext Z d bc bs pc lv (.int z :: .int x :: st) w := go_icmp_lt tgt hd ht (fun r => absurd r q) (fun _ => h)
theorem go_icmp_ge_t {x z : Int32} {off : Int} (tgt : Nat) (hd : decode cc pc = .ok (.if_icmp .ge off, 3)) (ht : (pc : Int) + off = (tgt : Int)) (q : z ≤ x) (h : Go l y cc nL ret hh ext Z d bc bs tgt lv st w) : Go l y cc nL ret hh ext Z d bc bs pc lv (.int z :: .int x :: st) w := go_icmp_ge tgt hd ht (fun _ => h) (fun r => absurd q r)
theorem go_icmp_ge_f {x z : Int32} {off : Int} (tgt : Nat) (hd : decode cc pc = .ok (.if_icmp .ge off, 3)) (ht : (pc : Int) + off = (tgt : Int)) (q : ¬ z ≤ x) (h : Go l y cc nL ret hh ext Z d bc bs (pc + 3) lv st w) : Go l y cc nL ret hh ext Z d bc bs pc lv (.int z :: .int x :: st) w := go_icmp_ge tgt hd ht (fun r => absurd r q) (fun _ => h)
theorem go_icmp_gt_t {x z : Int32} {off : Int} (tgt : Nat) (hd : decode cc pc = .ok (.if_icmp .gt off, 3)) (ht : (pc : Int) + off = (tgt : Int)) (q : z < x) (h : Go l y cc nL ret hh ext Z d bc bs tgt lv st w) : Go l y cc nL ret hh ext Z d bc bs pc lv (.int z :: .int x :: st) w := go_icmp_gt tgt hd ht (fun _ => h) (fun r => absurd q r)
theorem go_icmp_gt_f {x z : Int32} {off : Int} (tgt : Nat) (hd : decode cc pc = .ok (.if_icmp .gt off, 3)) (ht : (pc : Int) + off = (tgt : Int)) (q : ¬ z < x) (h : Go l y cc nL ret hh ext Z d bc bs (pc + 3) lv st w) : Go l y cc nL ret hh ext Z d bc bs pc lv (.int z :: .int x :: st) w := go_icmp_gt tgt hd ht (fun r => absurd r q) (fun _ => h)
theorem go_icmp_le_t {x z : Int32} {off : Int} (tgt : Nat) (hd : decode cc pc = .ok (.if_icmp .le off, 3)) (ht : (pc : Int) + off = (tgt : Int)) (q : x ≤ z) (h : Go l y cc nL ret hh ext Z d bc bs tgt lv st w) : Go l y cc nL ret hh ext Z d bc bs pc lv (.int z :: .int x :: st) w := go_icmp_le tgt hd ht (fun _ => h) (fun r => absurd q r)
theorem go_icmp_le_f {x z : Int32} {off : Int} (tgt : Nat) (hd : decode cc pc = .ok (.if_icmp .le off, 3)) (ht : (pc : Int) + off = (tgt : Int)) (q : ¬ x ≤ z) (h : Go l y cc nL ret hh ext Z d bc bs (pc + 3) lv st w) : Go l y cc nL ret hh ext Z d bc bs pc lv (.int z :: .int x :: st) w := go_icmp_le tgt hd ht (fun r => absurd r q) (fun _ => h)
theorem ct_w {hd : Cond} {as : List Value} {o' : MO} {w1 w1' : MW} (h : Ct l hd y d mc ms as w o w') (e1 : w = w1) (e2 : w' = w1') (e3 : o = o') : Ct l hd y d mc ms as w1 o' w1' := by rw [← e1, ← e2, ← e3]; exact h
end R2
/-- a layout's two cells in a world: the object at h, its row at h + 1 -/
def layW (w : MW) (h ci : Nat) (xt : List Value) (f : Nat → Int32) (n : Nat) (c : Int32) : MW := (w.1, va_up (va_up w.2 h (.inr (ci, .ref (h + 1) :: .int (nI n) :: .int c :: xt))) (h + 1) (.inl (.int, 30, .inl f)))
section LAYW
variable {w : MW} {h ci : Nat} {xt : List Value} {f : Nat → Int32} {n : Nat} {c : Int32}
theorem layW_ob (hh : h + 1 < w.1) : mm_ob (layW w h ci xt f n c) h ci (.ref (h + 1) :: .int (nI n) :: .int c :: xt) := ⟨Nat.lt_of_succ_lt hh, by simp [layW, va_up]⟩
theorem layW_ar (hh : h + 1 < w.1) : mm_ar (layW w h ci xt f n c) (h + 1) .int (30, .inl f) := ⟨hh, by simp [layW, va_up]⟩
theorem layW_upA (g : Nat → Int32) : mm_up (layW w h ci xt f n c) (h + 1) (.inl (.int, 30, .inl g)) = layW w h ci xt g n c := by
  unfold mm_up layW
  refine congrArg (Prod.mk w.1) (funext fun j => ?_)
  by_cases e : j = h + 1 <;> simp [va_up, e]
theorem layW_upN (m : Nat) : mm_up (layW w h ci xt f n c) h (.inr (ci, (Value.ref (h + 1) :: .int (nI n) :: .int c :: xt).set 1 (.int (nI m)))) = layW w h ci xt f m c := by
  unfold mm_up layW
  refine congrArg (Prod.mk w.1) (funext fun j => ?_)
  by_cases e : j = h + 1
  · have : ¬ j = h := by omega
    simp [va_up, e]
  · by_cases e2 : j = h <;> simp [va_up, e, e2]
theorem layW_upC (c' : Int32) : mm_up (layW w h ci xt f n c) h (.inr (ci, (Value.ref (h + 1) :: .int (nI n) :: .int c :: xt).set 2 (.int c'))) = layW w h ci xt f n c' := by
  unfold mm_up layW
  refine congrArg (Prod.mk w.1) (funext fun j => ?_)
  by_cases e : j = h + 1
  · have : ¬ j = h := by omega
    simp [va_up, e]
  · by_cases e2 : j = h <;> simp [va_up, e, e2]
end LAYW
