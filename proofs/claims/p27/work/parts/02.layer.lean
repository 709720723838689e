/-! my own layer over the kit's rows: contracts that name their answer and their world's cells, calls in one row -/
/-- the class ids and slots of the program's classes, the classes of int rows, char rows and rows of atlases -/
abbrev zG : Type := va_G × ClassId × ClassId × ClassId × ClassId
abbrev zTys (G : zG) : List (ClassId × FieldType) := [(G.2.1, .int), (G.2.2.1, .char), (G.2.2.2.1, .object "MapSheets$Atlas"), (G.2.2.2.2, .long)]
/-- the links to private members of nest mates -/
def zN (U : State) : Prop :=
  va_Nw (.methodLinkNest RX4 25 yX1_init "MapSheets") U ∧ va_Nw (.methodLinkNest RX4 32 yX3_init "MapSheets") U ∧
  va_Nw (.methodLinkNest RX0 53 yX4_copyRow "MapSheets") U ∧ va_Nw (.methodLinkNest RX0 65 yX4_isWithin "MapSheets") U ∧
  va_Nw (.methodLinkNest RX0 97 yX4_exchange "MapSheets") U ∧ va_Nw (.methodLinkNest RX0 93 yX4_valueAt "MapSheets") U ∧
  va_Nw (.methodLinkNest RX1 51 yX4_valueAt "MapSheets") U ∧ True
def zK (G : zG) (U : State) : Prop := va_K G.1 vwCl (zTys G) U ∧ zN U
theorem zN.same {u U : State} (h : u.vm = U.vm) (hN : zN u) : zN U := by
  obtain ⟨h1, h2, h3, h4, h5, h6, h7, h8⟩ := hN
  exact ⟨h1.same rfl h, h2.same rfl h, h3.same rfl h, h4.same rfl h, h5.same rfl h, h6.same rfl h, h7.same rfl h, h8⟩
theorem zN.warm {s U : State} (hW : s.WarmedH U.vm) (hN : zN s) : zN U := by
  obtain ⟨h1, h2, h3, h4, h5, h6, h7, h8⟩ := hN
  exact ⟨va_Nw.warmM hW h1, va_Nw.warmM hW h2, va_Nw.warmM hW h3, va_Nw.warmM hW h4, va_Nw.warmM hW h5, va_Nw.warmM hW h6, va_Nw.warmM hW h7, h8⟩
theorem zK.warm {G : zG} {s U : State} (hW : s.WarmedH U.vm) (h : zK G s) : zK G U := ⟨va_K.moved hW.alike h.1, h.2.warm hW⟩
/-- a method's start: its arguments, the tables, what the heap holds -/
def zPc (G : zG) (av : List Value) (P : Heap → Prop) : Array Value → State → Prop := va_Pc av (fun U => zK G U ∧ P U.heap)
theorem zPc.blind {G : zG} {av : List Value} {P : Heap → Prop} : FrameBlind (zPc G av P) := by
  intro a U g mk h
  obtain ⟨h1, h2, h3⟩ := h
  exact ⟨h1, ⟨va_K.moved (u := U) (U := U.calling g mk a) (Vm.Alike.refl U.vm) h2.1, h2.2.same rfl⟩, h3⟩
theorem zPre {G : zG} {av : List Value} {P : Heap → Prop} {s : State} {H : Heap} (hG : zK G s) (hP : P H) : PreS s H (zPc G av P) av :=
  ⟨zPc.blind, fun U hU hW => ⟨rfl, hG.warm hW, by rw [hU]; exact hP⟩⟩
theorem zPreV {G : zG} {b : Addr} {As : List Value} {P : Heap → Prop} {s : State} {H : Heap} {C : String} (hG : zK G s) (hR : ∃ cellB : Cell, H[b]? = some cellB ∧ cellB.vm.isStatics = false ∧ s.vm.findClass C = some cellB.cls) (hP : P H) : PreV s H C b (zPc G (.ref b :: As) P) As :=
  ⟨zPc.blind, hR, fun U hU hW => ⟨rfl, hG.warm hW, by rw [hU]; exact hP⟩⟩
/-- the end of a method that only reads: its answer -/
def zS (v : Value) : Array Value → State → Outcome → State → Prop := fun _ st o t => o = .returned (some v) ∧ t.heap = st.heap
/-- the end of a method that writes cells of A alone: its answer, what the heap holds then -/
def zQ (A : Nat → Prop) (v : Option Value) (B : Heap → Prop) : Array Value → State → Outcome → State → Prop := fun _ st o t => o = .returned v ∧ B t.heap ∧ va_F A st t
/-- the addresses of a world -/
def zA (w : va_W) : Nat → Prop := fun q => q ∈ w.map (·.1)
abbrev zRm (f n : Nat) : Room := { frames := f, cells := 0, slots := 0, locals := n }
theorem zofW {l : Launch} {y : MethodName} {ws ws' : List Cond} {rm : Room} {G : zG} {av : List Value} {P : Heap → Prop} {Qc : Array Value → State → Outcome → State → Prop} {mc ms : Nat} {free : Addr → Prop} {cc : ByteArray} {maxL : Nat} {ret : Option FieldType}
    (hy : plainName y.cls = true) (hw : ws = Cond.code y cc maxL ret :: ws') (hn : (lg_sl av).length ≤ maxL)
    (body : ∀ (p : Program) (e : Env) (s : State) (m : MethodId) (below : List Frame) (meth : Method) (c : Code) (ls : Array Slot), p.tables.exec = Jvm.exec → c.code = cc → meth.sig.returnType = ret → c.maxLocals = maxL → s.vm.findClass y.cls = some m.cls → (∀ w ∈ ws, w.before av.toArray s = true) → meth.locks = false → meth.name = y.name → zK G s → P s.heap → lv_has ls maxL (lv_args 0 av) →
      W p l e (headSpec ws rm).room s m av.toArray below meth c s.heap [] 0 0 (MQ below Qc av.toArray s mc ms free) (F0 m 0 ls [])) : Met l y ws rm (zPc G av P) Qc mc ms free := by
  refine Met.ofW (cc := cc) (maxL := maxL) (ret := ret) hy hw ?_
  intro p e s m args below meth c s₁ B hml hv
  obtain ⟨rfl, hG, hP⟩ := hv
  rw [lg_entry_eq]
  exact body p e s m below meth c _ B.exec B.bytes B.returns hml (findClass_of_methodNamed B.named) (atoms_spec (ws := ws) B.pre) B.notSynchronized (name_of_methodNamed B.named B.method).1 hG hP (lv_entry av hn)
section ZL
variable {p : Program} {l : Launch} {e : Env} {R : Room} {s : State} {m : MethodId} {args : Array Value} {below : List Frame} {meth : Method} {c : Code} {H : Heap} {locs : List Loc} {cells slots : Nat} {Q : State → Prop}
variable {pc : Nat} {ls : Array Slot} {rest : List Value} {cc : ByteArray} {G : zG} {Ts ws : List Cond} {own C : String} {b : Addr} {As : List Value} {y : MethodName} {bytes : ByteArray} {maxL nL n index mc ms : Nat} {ret : Option FieldType} {rm : Room} {P : Heap → Prop} {st0 : List Value} {free A0 A1 : Nat → Prop} {H0 : Heap} {host : String}
theorem zrd {a : Array Value} {v : Value} (hr : va_Run p l e R s m args below meth c H locs cells slots 0 0 (F0 m pc ls st0) rest (zS v a) (fun _ => False))
    (kk : W p l e R s m args below meth c H locs cells slots Q (F0 m (pc + 3) ls (v :: rest))) : W p l e R s m args below meth c H locs cells slots Q (F0 m pc ls st0) := by
  intro T hT X
  obtain ⟨v', st₀, t, T', L, h0, X', hL, e1, e2, ⟨hv, hh⟩, st⟩ := hr T hT X
  cases hv
  obtain ⟨t2, a1, b1⟩ := kk T' (by rw [e1, hh, h0]) (Stand.forget X' (fun q h => (hL q h).elim))
  exact ⟨t2, st t2 a1, b1⟩
/-- a call of a method that only reads: virtual, static, of a nest mate -/
theorem zrdV {v : Value} (S : CallFix p m c cc nL s args Ts own) (hM : Met l y ws rm (zPc G (.ref b :: As) P) (zS v) 0 0 (fun _ => False)) (cw : CallW R s args own C index y bytes maxL ret ws rm 0 0 n) (hG : zK G s) (hR : ∃ cellB : Cell, H[b]? = some cellB ∧ cellB.vm.isStatics = false ∧ s.vm.findClass C = some cellB.cls) (hP : P H)
    (hn : As.length = n) (hstack : st0 = As.reverse ++ .ref b :: rest) (hl : ls.size = nL) (hdg : decode cc pc = .ok (.invokevirtual index, 3)) (hW : (rest.map fun v => v.category).sum ≤ 8) (hf : cells ≤ R.cells ∧ slots ≤ R.slots)
    (kk : W p l e R s m args below meth c H locs cells slots Q (F0 m (pc + 3) ls (v :: rest))) : W p l e R s m args below meth c H locs cells slots Q (F0 m pc ls st0) :=
  zrd (va_runV S hM cw (zPreV hG hR hP) rfl hn hl hstack (lv_room hW) hdg hf) kk
theorem zrdS {v : Value} (S : CallFix p m c cc nL s args Ts own) (hM : Met l y ws rm (zPc G As P) (zS v) 0 0 (fun _ => False)) (cw : CallB R s args own index y bytes maxL ret ws rm 0 0 n ∧ (Cond.static y).before args s = true) (hG : zK G s) (hP : P H)
    (hn : As.length = n) (hstack : st0 = As.reverse ++ rest) (hl : ls.size = nL) (hdg : decode cc pc = .ok (.invokestatic index, 3)) (hW : (rest.map fun v => v.category).sum ≤ 8) (hf : cells ≤ R.cells ∧ slots ≤ R.slots)
    (kk : W p l e R s m args below meth c H locs cells slots Q (F0 m (pc + 3) ls (v :: rest))) : W p l e R s m args below meth c H locs cells slots Q (F0 m pc ls st0) :=
  zrd (va_runS S hM cw (zPre hG hP) rfl hn hl hstack (lv_room hW) hdg hf) kk
theorem zrdN {v : Value} (S : CallFix p m c cc nL s args Ts own) (hM : Met l y ws rm (zPc G As P) (zS v) 0 0 (fun _ => False)) (cw : va_CN R s args own index y host bytes maxL ret ws rm 0 0 n ∧ (Cond.static y).before args s = true ∧ True) (hG : zK G s) (hP : P H)
    (hn : As.length = n) (hstack : st0 = As.reverse ++ rest) (hl : ls.size = nL) (hdg : decode cc pc = .ok (.invokestatic index, 3)) (hW : (rest.map fun v => v.category).sum ≤ 8) (hf : cells ≤ R.cells ∧ slots ≤ R.slots)
    (kk : W p l e R s m args below meth c H locs cells slots Q (F0 m (pc + 3) ls (v :: rest))) : W p l e R s m args below meth c H locs cells slots Q (F0 m pc ls st0) :=
  zrd (va_runSN S hM cw (zPre hG hP) rfl hn hl hstack (lv_room hW) hdg hf) kk
theorem zwr {a : Array Value} {v : Option Value} {B : Heap → Prop} (hr : va_Run p l e R s m args below meth c H locs cells slots mc ms (F0 m pc ls st0) rest (zQ A1 v B a) free) (hS : va_S A0 H0 H locs) (hA : ∀ q, q < H.size → A1 q → A0 q) (hf : ∀ q, free q → A0 q)
    (kk : ∀ (H1 : Heap) (locs1 : List Loc), B H1 → H.size ≤ H1.size → (∀ q : Nat, q < H.size → ¬ A1 q → H1[q]? = H[q]?) → va_S A0 H0 H1 locs1 → W p l e R s m args below meth c H1 locs1 (cells + mc) (slots + ms) Q (F0 m (pc + 3) ls (v.toList ++ rest))) : W p l e R s m args below meth c H locs cells slots Q (F0 m pc ls st0) := by
  intro T hT X
  obtain ⟨v', st₀, t, T', L, h0, X', hL, e1, e2, ⟨hv, hb, hz, hk⟩, st⟩ := hr T hT X
  cases hv
  rw [h0] at hz hk
  obtain ⟨t2, a1, b1⟩ := kk T'.heap (locs ++ L) (by rw [e1]; exact hb) (by rw [e1]; exact hz) (fun q h1 h2 => by rw [e1]; exact hk q h1 h2)
    ⟨Nat.le_trans hS.1 (by rw [e1]; exact hz), fun q h1 h2 => by rw [e1, hk q (Nat.lt_of_lt_of_le h1 hS.1) (fun z => h2 (hA q (Nat.lt_of_lt_of_le h1 hS.1) z))]; exact hS.2.1 q h1 h2, fun q hq => by
      rcases List.mem_append.mp hq with h | h
      · exact hS.2.2 q h
      · exact hf _ (hL q h)⟩ T' rfl X'
  exact ⟨t2, st t2 a1, b1⟩
theorem zA_mem {w : va_W} {q : Nat} (h : zA w q) : ∃ (k : Nat) (x : Nat × va_E), w[k]? = some x ∧ x.1 = q := by
  obtain ⟨x, h1, h2⟩ := List.mem_map.mp h
  obtain ⟨k, h3⟩ := List.getElem?_of_mem h1
  exact ⟨k, x, h3, h2⟩
theorem zA_in {w : va_W} {k : Nat} {x : Nat × va_E} (h : w[k]? = some x) : zA w x.1 := List.mem_map.mpr ⟨x, List.mem_of_getElem? h, rfl⟩
theorem zA_D {w1 wc w2 : va_W} (hD : va_D A0 (w1 ++ (wc ++ w2))) : ∀ q, zA wc q → A0 q := by
  intro q h
  obtain ⟨k, x, h1, h2⟩ := zA_mem h
  obtain ⟨k', h3⟩ := List.getElem?_of_mem (List.mem_append_right w1 (List.mem_append_left w2 (List.mem_of_getElem? h1)))
  rw [← h2]
  exact hD.2 k' x h3
theorem zP_l {D : va_G} {cl : List vw_C} {w1 w2 : va_W} (h : va_P D cl (w1 ++ w2) H) : va_P D cl w1 H := by
  intro k q hk
  exact h k q (by rw [List.getElem?_append_left (List.getElem?_eq_some_iff.mp hk).1]; exact hk)
theorem zP_r {D : va_G} {cl : List vw_C} {w1 w2 : va_W} (h : va_P D cl (w1 ++ w2) H) : va_P D cl w2 H := by
  intro k q hk
  exact h (w1.length + k) q (by rw [List.getElem?_append_right (Nat.le_add_right _ _), Nat.add_sub_cancel_left]; exact hk)
theorem zP_m {D : va_G} {cl : List vw_C} {w1 wc w2 : va_W} (h : va_P D cl (w1 ++ (wc ++ w2)) H) : va_P D cl wc H := zP_l (zP_r h)
theorem zD_ne {w1 w2 : va_W} (hD : va_D A0 (w1 ++ w2)) {q : Nat} (h1 : zA w1 q) (h2 : zA w2 q) : False := by
  obtain ⟨i, x, e1, e2⟩ := zA_mem h1
  obtain ⟨j, y, e3, e4⟩ := zA_mem h2
  have l1 := (List.getElem?_eq_some_iff.mp e1).1
  have g := hD.1 i (w1.length + j) x y (by rw [List.getElem?_append_left l1]; exact e1) (by rw [List.getElem?_append_right (Nat.le_add_right _ _), Nat.add_sub_cancel_left]; exact e3) (e2.trans e4.symm)
  omega
theorem zD_l {w1 w2 : va_W} (hD : va_D A0 (w1 ++ w2)) : va_D A0 w1 := by
  have key : ∀ (k : Nat) (q : Nat × va_E), w1[k]? = some q → (w1 ++ w2)[k]? = some q := fun k q hk => by rw [List.getElem?_append_left (List.getElem?_eq_some_iff.mp hk).1]; exact hk
  exact ⟨fun i j x z hi hj hx => hD.1 i j x z (key i x hi) (key j z hj) hx, fun k q hk => hD.2 k q (key k q hk)⟩
theorem zD_r {w1 w2 : va_W} (hD : va_D A0 (w1 ++ w2)) : va_D A0 w2 := by
  have key : ∀ (k : Nat) (q : Nat × va_E), w2[k]? = some q → (w1 ++ w2)[w1.length + k]? = some q := fun k q hk => by rw [List.getElem?_append_right (Nat.le_add_right _ _), Nat.add_sub_cancel_left]; exact hk
  refine ⟨fun i j x z hi hj hx => ?_, fun k q hk => hD.2 _ q (key k q hk)⟩
  have := hD.1 _ _ x z (key i x hi) (key j z hj) hx
  omega
theorem zD_m {w1 wc w2 : va_W} (hD : va_D A0 (w1 ++ (wc ++ w2))) : va_D A0 wc := zD_l (zD_r hD)
/-- the same addresses, other contents -/
theorem zD_map {w w' : va_W} (he : w'.map (·.1) = w.map (·.1)) (hD : va_D A0 w) : va_D A0 w' := by
  have key : ∀ (k : Nat) (q : Nat × va_E), w'[k]? = some q → ∃ q0, w[k]? = some q0 ∧ q0.1 = q.1 := by
    intro k q hk
    have h1 : (w'.map (·.1))[k]? = some q.1 := by rw [List.getElem?_map, hk]; rfl
    rw [he, List.getElem?_map] at h1
    cases hq : w[k]? with
    | none => rw [hq] at h1; cases h1
    | some q0 => rw [hq] at h1; exact ⟨q0, rfl, Option.some.inj h1⟩
  refine ⟨fun i j x z hi hj hx => ?_, fun k q hk => ?_⟩
  · obtain ⟨x0, a1, a2⟩ := key i x hi
    obtain ⟨z0, a3, a4⟩ := key j z hj
    exact hD.1 i j x0 z0 a1 a3 (a2.trans (hx.trans a4.symm))
  · obtain ⟨q0, a1, a2⟩ := key k q hk
    rw [← a2]
    exact hD.2 k q0 a1
theorem zD_mid {w1 wc wc' w2 : va_W} (he : wc'.map (·.1) = wc.map (·.1)) (hD : va_D A0 (w1 ++ (wc ++ w2))) : va_D A0 (w1 ++ (wc' ++ w2)) :=
  zD_map (by rw [List.map_append, List.map_append, List.map_append, List.map_append, he]) hD
theorem zP_kept {D : va_G} {cl : List vw_C} {w : va_W} {H1 : Heap} (h : va_P D cl w H) (hk : ∀ q : Nat, q < H.size → ¬ A1 q → H1[q]? = H[q]?) (hd : ∀ q, zA w q → ¬ A1 q) : va_P D cl w H1 :=
  h.kept fun k q hq => hk q.1 (h k q hq).lt (hd _ (zA_in hq))
theorem zP_mid {D : va_G} {cl : List vw_C} {w1 wc wc' w2 : va_W} {H1 : Heap} (hP : va_P D cl (w1 ++ (wc ++ w2)) H) (hD : va_D A0 (w1 ++ (wc ++ w2))) (hk : ∀ q : Nat, q < H.size → ¬ zA wc q → H1[q]? = H[q]?) (hP1 : va_P D cl wc' H1) : va_P D cl (w1 ++ (wc' ++ w2)) H1 := by
  refine va_P.app (zP_kept (zP_l hP) hk fun q h1 h2 => ?_) (va_P.app hP1 (zP_kept (zP_r (zP_r hP)) hk fun q h1 h2 => ?_))
  · exact zD_ne hD h1 (by unfold zA; rw [List.map_append]; exact List.mem_append_left _ h2)
  · exact zD_ne (zD_r hD) h2 h1
/-- a call of a method that writes the cells wc of the world and answers v: they hold wc' then -/
theorem zwrM0 {a : Array Value} {v : Option Value} {w1 wc wc' w2 : va_W} (hr : va_Run p l e R s m args below meth c H locs cells slots 0 0 (F0 m pc ls st0) rest (zQ (zA wc) v (va_P G.1 vwCl wc') a) (zA wc)) (hP : va_P G.1 vwCl (w1 ++ (wc ++ w2)) H) (hD : va_D A0 (w1 ++ (wc ++ w2))) (hS : va_S A0 H0 H locs) (he : wc'.map (·.1) = wc.map (·.1))
    (kk : ∀ (H1 : Heap) (locs1 : List Loc), va_P G.1 vwCl (w1 ++ (wc' ++ w2)) H1 → va_D A0 (w1 ++ (wc' ++ w2)) → va_S A0 H0 H1 locs1 → W p l e R s m args below meth c H1 locs1 cells slots Q (F0 m (pc + 3) ls (v.toList ++ rest))) : W p l e R s m args below meth c H locs cells slots Q (F0 m pc ls st0) :=
  zwr hr hS (fun q _ h => zA_D hD q h) (zA_D hD) fun H1 locs1 hB _ hk hS1 => kk H1 locs1 (zP_mid hP hD hk hB) (zD_mid he hD) hS1
theorem zwrM {a : Array Value} {v : Value} {w1 wc wc' w2 : va_W} (hr : va_Run p l e R s m args below meth c H locs cells slots 0 0 (F0 m pc ls st0) rest (zQ (zA wc) (some v) (va_P G.1 vwCl wc') a) (zA wc)) (hP : va_P G.1 vwCl (w1 ++ (wc ++ w2)) H) (hD : va_D A0 (w1 ++ (wc ++ w2))) (hS : va_S A0 H0 H locs) (he : wc'.map (·.1) = wc.map (·.1))
    (kk : ∀ (H1 : Heap) (locs1 : List Loc), va_P G.1 vwCl (w1 ++ (wc' ++ w2)) H1 → va_D A0 (w1 ++ (wc' ++ w2)) → va_S A0 H0 H1 locs1 → W p l e R s m args below meth c H1 locs1 cells slots Q (F0 m (pc + 3) ls (v :: rest))) : W p l e R s m args below meth c H locs cells slots Q (F0 m pc ls st0) :=
  zwrM0 hr hP hD hS he kk
theorem zwrMv {a : Array Value} {w1 wc wc' w2 : va_W} (hr : va_Run p l e R s m args below meth c H locs cells slots 0 0 (F0 m pc ls st0) rest (zQ (zA wc) none (va_P G.1 vwCl wc') a) (zA wc)) (hP : va_P G.1 vwCl (w1 ++ (wc ++ w2)) H) (hD : va_D A0 (w1 ++ (wc ++ w2))) (hS : va_S A0 H0 H locs) (he : wc'.map (·.1) = wc.map (·.1))
    (kk : ∀ (H1 : Heap) (locs1 : List Loc), va_P G.1 vwCl (w1 ++ (wc' ++ w2)) H1 → va_D A0 (w1 ++ (wc' ++ w2)) → va_S A0 H0 H1 locs1 → W p l e R s m args below meth c H1 locs1 cells slots Q (F0 m (pc + 3) ls rest)) : W p l e R s m args below meth c H locs cells slots Q (F0 m pc ls st0) :=
  zwrM0 hr hP hD hS he kk
theorem zwrW {a : Array Value} {v : Value} {wc wc' : va_W} (hr : va_Run p l e R s m args below meth c H locs cells slots 0 0 (F0 m pc ls st0) rest (zQ (zA wc) (some v) (va_P G.1 vwCl wc') a) (zA wc)) (hP : va_P G.1 vwCl wc H) (hD : va_D A0 wc) (hS : va_S A0 H0 H locs) (he : wc'.map (·.1) = wc.map (·.1))
    (kk : ∀ (H1 : Heap) (locs1 : List Loc), va_P G.1 vwCl wc' H1 → va_D A0 wc' → va_S A0 H0 H1 locs1 → W p l e R s m args below meth c H1 locs1 cells slots Q (F0 m (pc + 3) ls (v :: rest))) : W p l e R s m args below meth c H locs cells slots Q (F0 m pc ls st0) :=
  zwr hr hS (fun q _ h => by obtain ⟨k, x, h1, h2⟩ := zA_mem h; rw [← h2]; exact hD.2 k x h1) (fun q h => by obtain ⟨k, x, h1, h2⟩ := zA_mem h; rw [← h2]; exact hD.2 k x h1) fun H1 locs1 hB _ _ hS1 => kk H1 locs1 hB (zD_map he hD) hS1
theorem zwrWv {a : Array Value} {wc wc' : va_W} (hr : va_Run p l e R s m args below meth c H locs cells slots 0 0 (F0 m pc ls st0) rest (zQ (zA wc) none (va_P G.1 vwCl wc') a) (zA wc)) (hP : va_P G.1 vwCl wc H) (hD : va_D A0 wc) (hS : va_S A0 H0 H locs) (he : wc'.map (·.1) = wc.map (·.1))
    (kk : ∀ (H1 : Heap) (locs1 : List Loc), va_P G.1 vwCl wc' H1 → va_D A0 wc' → va_S A0 H0 H1 locs1 → W p l e R s m args below meth c H1 locs1 cells slots Q (F0 m (pc + 3) ls rest)) : W p l e R s m args below meth c H locs cells slots Q (F0 m pc ls st0) :=
  zwr hr hS (fun q _ h => by obtain ⟨k, x, h1, h2⟩ := zA_mem h; rw [← h2]; exact hD.2 k x h1) (fun q h => by obtain ⟨k, x, h1, h2⟩ := zA_mem h; rw [← h2]; exact hD.2 k x h1) fun H1 locs1 hB _ _ hS1 => kk H1 locs1 hB (zD_map he hD) hS1
/-- the callee's cells stand anywhere in the world -/
theorem zP_join {ws wc wr wc' ws' : va_W} {H1 : Heap} (hP : va_P G.1 vwCl ws H) (hD : va_D A0 ws) (isC isR perm : List Nat) (hC : isC.map (fun i => ws[i]?) = wc.map some) (hR : isR.map (fun i => ws[i]?) = wr.map some) (hnC : va_nd isC = true) (hnR : va_nd isR = true) (hdis : ∀ i ∈ isR, i ∉ isC) (he : wc'.map (·.1) = wc.map (·.1)) (hp : perm.filterMap (fun i => (wr ++ wc')[i]?) = ws')
    (hk : ∀ q : Nat, q < H.size → ¬ zA wc q → H1[q]? = H[q]?) (hP1 : va_P G.1 vwCl wc' H1) : va_P G.1 vwCl ws' H1 := by
  have hDc : va_D A0 wc := hD.sub isC hnC hC
  have hAz : ∀ q, zA wc q → va_A wc H.size q := fun q h => by
    obtain ⟨k, x, h1, h2⟩ := zA_mem h
    exact Or.inl ⟨k, x.2, by rw [← h2]; exact h1⟩
  have hj := va_join (A0 := fun _ => True) (H1 := H1) (wr := wr) (w1 := wc') hP (hD.weaken (fun _ _ _ _ => trivial)) isC isR hC hR hnR hdis (fun q h1 h2 => hk q h1 (fun z => h2 (hAz q z))) (fun _ _ => trivial) hP1
    (zD_map he ⟨hDc.1, fun k q hq => hAz q.1 (zA_in hq)⟩)
  exact hj.1.sub perm hp
theorem zwrJv {a : Array Value} {ws wc wr wc' ws' : va_W} (hr : va_Run p l e R s m args below meth c H locs cells slots 0 0 (F0 m pc ls st0) rest (zQ (zA wc) none (va_P G.1 vwCl wc') a) (zA wc)) (hP : va_P G.1 vwCl ws H) (hD : va_D A0 ws) (hS : va_S A0 H0 H locs) (isC isR perm : List Nat) (hC : isC.map (fun i => ws[i]?) = wc.map some) (hR : isR.map (fun i => ws[i]?) = wr.map some) (hnC : va_nd isC = true) (hnR : va_nd isR = true) (hdis : ∀ i ∈ isR, i ∉ isC) (he : wc'.map (·.1) = wc.map (·.1)) (hp : perm.filterMap (fun i => (wr ++ wc')[i]?) = ws') (hm : ws'.map (·.1) = ws.map (·.1))
    (kk : ∀ (H1 : Heap) (locs1 : List Loc), va_P G.1 vwCl ws' H1 → va_D A0 ws' → va_S A0 H0 H1 locs1 → W p l e R s m args below meth c H1 locs1 cells slots Q (F0 m (pc + 3) ls rest)) : W p l e R s m args below meth c H locs cells slots Q (F0 m pc ls st0) := by
  have hDc : va_D A0 wc := hD.sub isC hnC hC
  have hA : ∀ q, zA wc q → A0 q := fun q h => by obtain ⟨k, x, h1, h2⟩ := zA_mem h; rw [← h2]; exact hDc.2 k x h1
  exact zwr hr hS (fun q _ h => hA q h) hA fun H1 locs1 hB _ hk hS1 => kk H1 locs1 (zP_join hP hD isC isR perm hC hR hnC hnR hdis he hp hk hB) (zD_map hm hD) hS1
theorem zwrJ {a : Array Value} {v : Value} {ws wc wr wc' ws' : va_W} (hr : va_Run p l e R s m args below meth c H locs cells slots 0 0 (F0 m pc ls st0) rest (zQ (zA wc) (some v) (va_P G.1 vwCl wc') a) (zA wc)) (hP : va_P G.1 vwCl ws H) (hD : va_D A0 ws) (hS : va_S A0 H0 H locs) (isC isR perm : List Nat) (hC : isC.map (fun i => ws[i]?) = wc.map some) (hR : isR.map (fun i => ws[i]?) = wr.map some) (hnC : va_nd isC = true) (hnR : va_nd isR = true) (hdis : ∀ i ∈ isR, i ∉ isC) (he : wc'.map (·.1) = wc.map (·.1)) (hp : perm.filterMap (fun i => (wr ++ wc')[i]?) = ws') (hm : ws'.map (·.1) = ws.map (·.1))
    (kk : ∀ (H1 : Heap) (locs1 : List Loc), va_P G.1 vwCl ws' H1 → va_D A0 ws' → va_S A0 H0 H1 locs1 → W p l e R s m args below meth c H1 locs1 cells slots Q (F0 m (pc + 3) ls (v :: rest))) : W p l e R s m args below meth c H locs cells slots Q (F0 m pc ls st0) := by
  have hDc : va_D A0 wc := hD.sub isC hnC hC
  have hA : ∀ q, zA wc q → A0 q := fun q h => by obtain ⟨k, x, h1, h2⟩ := zA_mem h; rw [← h2]; exact hDc.2 k x h1
  exact zwr hr hS (fun q _ h => hA q h) hA fun H1 locs1 hB _ hk hS1 => kk H1 locs1 (zP_join hP hD isC isR perm hC hR hnC hnR hdis he hp hk hB) (zD_map hm hD) hS1
/-- with the end left open: what the callee leaves is said by B alone -/
theorem zwrB {a : Array Value} {v : Value} {wc : va_W} {B : Heap → Prop} (hr : va_Run p l e R s m args below meth c H locs cells slots 0 0 (F0 m pc ls st0) rest (zQ (zA wc) (some v) B a) (zA wc)) (hD : va_D A0 wc) (hS : va_S A0 H0 H locs)
    (kk : ∀ (H1 : Heap) (locs1 : List Loc), B H1 → (∀ q : Nat, q < H.size → ¬ zA wc q → H1[q]? = H[q]?) → va_S A0 H0 H1 locs1 → W p l e R s m args below meth c H1 locs1 cells slots Q (F0 m (pc + 3) ls (v :: rest))) : W p l e R s m args below meth c H locs cells slots Q (F0 m pc ls st0) :=
  zwr hr hS (fun q _ h => by obtain ⟨k, x, h1, h2⟩ := zA_mem h; rw [← h2]; exact hD.2 k x h1) (fun q h => by obtain ⟨k, x, h1, h2⟩ := zA_mem h; rw [← h2]; exact hD.2 k x h1) fun H1 locs1 hB _ hk hS1 => kk H1 locs1 hB hk hS1
end ZL
