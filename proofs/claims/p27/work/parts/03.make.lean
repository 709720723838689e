/-! contracts of the three shapes, out of a walk that names neither its caller nor its end -/
theorem zD_self {w : va_W} (h : va_D (fun _ => True) w) : va_D (zA w) w := ⟨h.1, fun _ _ hk => zA_in hk⟩
theorem zD_any {A : Nat → Prop} {w : va_W} (h : va_D A w) : va_D (fun _ => True) w := h.weaken (fun _ _ _ _ => trivial)
theorem zmkI {l : Launch} {y : MethodName} {ws ws' : List Cond} {f n : Nat} {G : zG} {av : List Value} {P : Heap → Prop} {v : Int32} {cc : ByteArray} {maxL : Nat}
    (hy : plainName y.cls = true) (hw : ws = Cond.code y cc maxL (some .int) :: ws') (hn : (lg_sl av).length ≤ maxL)
    (body : ∀ (p : Program) (e : Env) (s : State) (m : MethodId) (args : Array Value) (below : List Frame) (meth : Method) (c : Code) (ls : Array Slot) (Q : State → Prop), p.tables.exec = Jvm.exec → c.code = cc → c.maxLocals = maxL → s.vm.findClass y.cls = some m.cls → (∀ w ∈ ws, w.before args s = true) → zK G s → P s.heap → lv_has ls maxL (lv_args 0 av) →
      (∀ (pc : Nat) (ls : Array Slot) (x : Int32), decode cc pc = .ok (.ireturn, 1) → x = v → W p l e (zRm f n) s m args below meth c s.heap [] 0 0 Q (F0 m pc ls [.int x])) →
      W p l e (zRm f n) s m args below meth c s.heap [] 0 0 Q (F0 m 0 ls [])) : Met l y ws (zRm f n) (zPc G av P) (zS (.int v)) 0 0 (fun _ => False) := by
  refine zofW hy hw hn ?_
  intro p e s m below meth c ls hx hb hr hml hown hts hlk _ hG hP hl
  refine body p e s m av.toArray below meth c ls _ hx hb hml hown hts hG hP hl fun pc ls x hd hv => ?_
  subst hv
  exact W.iret hx hb hr (fun t ht _ => ⟨rfl, ht⟩) (fun q h => by cases h) hd
theorem zmkZ {l : Launch} {y : MethodName} {ws ws' : List Cond} {f n : Nat} {G : zG} {av : List Value} {P : Heap → Prop} {v : Prop} {hdv : Decidable v} {cc : ByteArray} {maxL : Nat}
    (hy : plainName y.cls = true) (hw : ws = Cond.code y cc maxL (some .boolean) :: ws') (hn : (lg_sl av).length ≤ maxL)
    (body : ∀ (p : Program) (e : Env) (s : State) (m : MethodId) (args : Array Value) (below : List Frame) (meth : Method) (c : Code) (ls : Array Slot) (Q : State → Prop), p.tables.exec = Jvm.exec → c.code = cc → c.maxLocals = maxL → s.vm.findClass y.cls = some m.cls → (∀ w ∈ ws, w.before args s = true) → zK G s → P s.heap → lv_has ls maxL (lv_args 0 av) →
      (∀ (pc : Nat) (ls : Array Slot) (x : Int32), decode cc pc = .ok (.ireturn, 1) → x = (if v then 1 else 0) → W p l e (zRm f n) s m args below meth c s.heap [] 0 0 Q (F0 m pc ls [.int x])) →
      W p l e (zRm f n) s m args below meth c s.heap [] 0 0 Q (F0 m 0 ls [])) : Met l y ws (zRm f n) (zPc G av P) (zS (.int (if v then 1 else 0))) 0 0 (fun _ => False) := by
  refine zofW hy hw hn ?_
  intro p e s m below meth c ls hx hb hr hml hown hts hlk _ hG hP hl
  refine body p e s m av.toArray below meth c ls _ hx hb hml hown hts hG hP hl fun pc ls x hd hv => ?_
  subst hv
  exact W.zret hx hb hr (by by_cases h : v <;> simp [h] <;> rfl) (fun t ht _ => ⟨rfl, ht⟩) (fun q h => by cases h) hd
theorem zmkF {l : Launch} {y : MethodName} {ws ws' : List Cond} {f n : Nat} {G : zG} {av : List Value} {P : Heap → Prop} {v : UInt32} {cc : ByteArray} {maxL : Nat}
    (hy : plainName y.cls = true) (hw : ws = Cond.code y cc maxL (some .float) :: ws') (hn : (lg_sl av).length ≤ maxL)
    (body : ∀ (p : Program) (e : Env) (s : State) (m : MethodId) (args : Array Value) (below : List Frame) (meth : Method) (c : Code) (ls : Array Slot) (Q : State → Prop), p.tables.exec = Jvm.exec → c.code = cc → c.maxLocals = maxL → s.vm.findClass y.cls = some m.cls → (∀ w ∈ ws, w.before args s = true) → zK G s → P s.heap → lv_has ls maxL (lv_args 0 av) →
      (∀ (pc : Nat) (ls : Array Slot) (x : UInt32), decode cc pc = .ok (.freturn, 1) → x = v → W p l e (zRm f n) s m args below meth c s.heap [] 0 0 Q (F0 m pc ls [.float x])) →
      W p l e (zRm f n) s m args below meth c s.heap [] 0 0 Q (F0 m 0 ls [])) : Met l y ws (zRm f n) (zPc G av P) (zS (.float v)) 0 0 (fun _ => False) := by
  refine zofW hy hw hn ?_
  intro p e s m below meth c ls hx hb hr hml hown hts hlk _ hG hP hl
  refine body p e s m av.toArray below meth c ls _ hx hb hml hown hts hG hP hl fun pc ls x hd hv => ?_
  subst hv
  exact W.fret hx hb hr (fun t ht _ => ⟨rfl, ht⟩) (fun q h => by cases h) hd
theorem zmkR {l : Launch} {y : MethodName} {ws ws' : List Cond} {f n : Nat} {G : zG} {av : List Value} {P : Heap → Prop} {v : Addr} {rt : FieldType} {cc : ByteArray} {maxL : Nat}
    (hy : plainName y.cls = true) (hw : ws = Cond.code y cc maxL (some rt) :: ws') (hn : (lg_sl av).length ≤ maxL) (hrt : (∃ n, rt = .object n) ∨ ∃ t, rt = .array t)
    (body : ∀ (p : Program) (e : Env) (s : State) (m : MethodId) (args : Array Value) (below : List Frame) (meth : Method) (c : Code) (ls : Array Slot) (Q : State → Prop), p.tables.exec = Jvm.exec → c.code = cc → c.maxLocals = maxL → s.vm.findClass y.cls = some m.cls → (∀ w ∈ ws, w.before args s = true) → zK G s → P s.heap → lv_has ls maxL (lv_args 0 av) →
      (∀ (pc : Nat) (ls : Array Slot) (x : Addr), decode cc pc = .ok (.areturn, 1) → x = v → W p l e (zRm f n) s m args below meth c s.heap [] 0 0 Q (F0 m pc ls [.ref x])) →
      W p l e (zRm f n) s m args below meth c s.heap [] 0 0 Q (F0 m 0 ls [])) : Met l y ws (zRm f n) (zPc G av P) (zS (.ref v)) 0 0 (fun _ => False) := by
  refine zofW hy hw hn ?_
  intro p e s m below meth c ls hx hb hr hml hown hts hlk _ hG hP hl
  refine body p e s m av.toArray below meth c ls _ hx hb hml hown hts hG hP hl fun pc ls x hd hv => ?_
  subst hv
  exact W.aret hx hb hr hrt (Or.inr ⟨x, rfl⟩) (fun t ht _ => ⟨rfl, ht⟩) (fun q h => by cases h) hd
/-- writers, of an int and of nothing -/
theorem zmkWi {l : Launch} {y : MethodName} {ws ws' : List Cond} {f n : Nat} {G : zG} {av : List Value} {P B : Heap → Prop} {v : Int32} {cc : ByteArray} {maxL : Nat} {w : va_W} (hd : va_D (fun _ => True) w)
    (hy : plainName y.cls = true) (hw : ws = Cond.code y cc maxL (some .int) :: ws') (hn : (lg_sl av).length ≤ maxL)
    (body : ∀ (p : Program) (e : Env) (s : State) (m : MethodId) (args : Array Value) (below : List Frame) (meth : Method) (c : Code) (ls : Array Slot) (Q : State → Prop), p.tables.exec = Jvm.exec → c.code = cc → c.maxLocals = maxL → s.vm.findClass y.cls = some m.cls → (∀ w ∈ ws, w.before args s = true) → zK G s → P s.heap → lv_has ls maxL (lv_args 0 av) → va_D (zA w) w → va_S (zA w) s.heap s.heap [] →
      (∀ (pc : Nat) (ls : Array Slot) (H : Heap) (locs : List Loc) (x : Int32), decode cc pc = .ok (.ireturn, 1) → va_S (zA w) s.heap H locs → B H → x = v → W p l e (zRm f n) s m args below meth c H locs 0 0 Q (F0 m pc ls [.int x])) →
      W p l e (zRm f n) s m args below meth c s.heap [] 0 0 Q (F0 m 0 ls [])) : Met l y ws (zRm f n) (zPc G av P) (zQ (zA w) (some (.int v)) B) 0 0 (zA w) := by
  refine zofW hy hw hn ?_
  intro p e s m below meth c ls hx hb hr hml hown hts hlk _ hG hP hl
  refine body p e s m av.toArray below meth c ls _ hx hb hml hown hts hG hP hl (zD_self hd) va_S.rf fun pc ls H locs x hd hS hB hv => ?_
  subst hv
  exact W.iret hx hb hr (fun t ht _ => ⟨rfl, by rw [ht]; exact hB, hS.F ht⟩) hS.2.2 hd
theorem zmkWz {l : Launch} {y : MethodName} {ws ws' : List Cond} {f n : Nat} {G : zG} {av : List Value} {P B : Heap → Prop} {v : Prop} {hdv : Decidable v} {cc : ByteArray} {maxL : Nat} {w : va_W} (hd : va_D (fun _ => True) w)
    (hy : plainName y.cls = true) (hw : ws = Cond.code y cc maxL (some .boolean) :: ws') (hn : (lg_sl av).length ≤ maxL)
    (body : ∀ (p : Program) (e : Env) (s : State) (m : MethodId) (args : Array Value) (below : List Frame) (meth : Method) (c : Code) (ls : Array Slot) (Q : State → Prop), p.tables.exec = Jvm.exec → c.code = cc → c.maxLocals = maxL → s.vm.findClass y.cls = some m.cls → (∀ w ∈ ws, w.before args s = true) → zK G s → P s.heap → lv_has ls maxL (lv_args 0 av) → va_D (zA w) w → va_S (zA w) s.heap s.heap [] →
      (∀ (pc : Nat) (ls : Array Slot) (H : Heap) (locs : List Loc) (x : Int32), decode cc pc = .ok (.ireturn, 1) → va_S (zA w) s.heap H locs → B H → x = (if v then 1 else 0) → W p l e (zRm f n) s m args below meth c H locs 0 0 Q (F0 m pc ls [.int x])) →
      W p l e (zRm f n) s m args below meth c s.heap [] 0 0 Q (F0 m 0 ls [])) : Met l y ws (zRm f n) (zPc G av P) (zQ (zA w) (some (.int (if v then 1 else 0))) B) 0 0 (zA w) := by
  refine zofW hy hw hn ?_
  intro p e s m below meth c ls hx hb hr hml hown hts hlk _ hG hP hl
  refine body p e s m av.toArray below meth c ls _ hx hb hml hown hts hG hP hl (zD_self hd) va_S.rf fun pc ls H locs x hd hS hB hv => ?_
  subst hv
  exact W.zret hx hb hr (by by_cases h : v <;> simp [h] <;> rfl) (fun t ht _ => ⟨rfl, by rw [ht]; exact hB, hS.F ht⟩) hS.2.2 hd
theorem zmkWv {l : Launch} {y : MethodName} {ws ws' : List Cond} {f n : Nat} {G : zG} {av : List Value} {P B : Heap → Prop} {cc : ByteArray} {maxL : Nat} {w : va_W} (hd : va_D (fun _ => True) w)
    (hy : plainName y.cls = true) (hw : ws = Cond.code y cc maxL none :: ws') (hn : (lg_sl av).length ≤ maxL)
    (body : ∀ (p : Program) (e : Env) (s : State) (m : MethodId) (args : Array Value) (below : List Frame) (meth : Method) (c : Code) (ls : Array Slot) (Q : State → Prop), p.tables.exec = Jvm.exec → c.code = cc → c.maxLocals = maxL → s.vm.findClass y.cls = some m.cls → (∀ w ∈ ws, w.before args s = true) → zK G s → P s.heap → lv_has ls maxL (lv_args 0 av) → va_D (zA w) w → va_S (zA w) s.heap s.heap [] →
      (∀ (pc : Nat) (ls : Array Slot) (H : Heap) (locs : List Loc), decode cc pc = .ok (.return_, 1) → va_S (zA w) s.heap H locs → B H → W p l e (zRm f n) s m args below meth c H locs 0 0 Q (F0 m pc ls [])) →
      W p l e (zRm f n) s m args below meth c s.heap [] 0 0 Q (F0 m 0 ls [])) : Met l y ws (zRm f n) (zPc G av P) (zQ (zA w) none B) 0 0 (zA w) := by
  refine zofW hy hw hn ?_
  intro p e s m below meth c ls hx hb hr hml hown hts hlk _ hG hP hl
  refine body p e s m av.toArray below meth c ls _ hx hb hml hown hts hG hP hl (zD_self hd) va_S.rf fun pc ls H locs hd hS hB => ?_
  exact W.vret hx hb hr (fun t ht _ => ⟨rfl, by rw [ht]; exact hB, hS.F ht⟩) hS.2.2 hd
