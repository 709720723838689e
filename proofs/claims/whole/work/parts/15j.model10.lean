/-! makers for methods of java/lang/Float that no row of natives stands for -/
theorem zMetF {l : Launch} {y : MethodName} {ws ws' : List Cond} {rm : Room} {Pc : Array Value → State → Prop} {Qc : Array Value → State → Outcome → State → Prop} {mc ms : Nat} {free : Addr → Prop} {cc : ByteArray} {maxL : Nat} {ret : Option FieldType}
    (hy : plainFor y = true) (hw : ws = Cond.code y cc maxL ret :: ws')
    (body : ∀ (p : Program) (e : Env) (s : State) (m : MethodId) (args : Array Value) (below : List Frame) (meth : Method) (c : Code) (s₁ : State), BodyLoose p l y (headSpec ws rm) cc maxL ret e s m args below meth c s₁ → c.maxLocals = maxL → Pc args s →
      W p l e (headSpec ws rm).room s m args below meth c s.heap [] 0 0 (MQ below Qc args s mc ms free) (entryFrame m args maxL)) : Met l y ws rm Pc Qc mc ms free := by
  refine MetFree.of_bodySF (code := cc) (maxLocals := maxL) (ret := ret) hy ?_ ?_
  · intro args s m h hn
    obtain ⟨meth, c, h1, h2, h3, h4, h5, h6, -, -⟩ := Cond.code_spec hn (atoms_spec (ws := ws) h _ (by rw [hw]; exact List.mem_cons_self))
    exact ⟨meth, c, h1, h2, h3, h4, h5, h6⟩
  · intro p e s m args below meth c s₁ B hml hP _
    have hh0 : s₁.heap = s.heap := by rw [B.state]; rfl
    obtain ⟨t, a1, o, b1, b2, b3⟩ := body p e s m args below meth c s₁ B hml hP s₁ hh0 (Stand.of_body B)
    exact ⟨t, o, a1, b1, b2, ⟨b3.1, b3.2⟩⟩
theorem zofF {l : Launch} {y : MethodName} {ws ws' : List Cond} {rm : Room} {G : zG} {av : List Value} {P : Heap → Prop} {Qc : Array Value → State → Outcome → State → Prop} {mc ms : Nat} {free : Addr → Prop} {cc : ByteArray} {maxL : Nat} {ret : Option FieldType}
    (hy : plainFor y = true) (hw : ws = Cond.code y cc maxL ret :: ws') (hn : (lg_sl av).length ≤ maxL)
    (body : ∀ (p : Program) (e : Env) (s : State) (m : MethodId) (below : List Frame) (meth : Method) (c : Code) (ls : Array Slot), p.tables.exec = Jvm.exec → c.code = cc → meth.sig.returnType = ret → c.maxLocals = maxL → s.vm.findClass y.cls = some m.cls → (∀ w ∈ ws, w.before av.toArray s = true) → meth.locks = false → meth.name = y.name → zK G s → P s.heap → lv_has ls maxL (lv_args 0 av) →
      W p l e (headSpec ws rm).room s m av.toArray below meth c s.heap [] 0 0 (MQ below Qc av.toArray s mc ms free) (F0 m 0 ls [])) : Met l y ws rm (zPc G av P) Qc mc ms free := by
  refine zMetF (cc := cc) (maxL := maxL) (ret := ret) hy hw ?_
  intro p e s m args below meth c s₁ B hml hv
  obtain ⟨rfl, hG, hP⟩ := hv
  rw [lg_entry_eq]
  exact body p e s m below meth c _ B.exec B.bytes B.returns hml (findClass_of_methodNamed B.named) (atoms_spec (ws := ws) B.pre) B.notSynchronized (name_of_methodNamed B.named B.method).1 hG hP (lv_entry av hn)
theorem zmkIF {l : Launch} {y : MethodName} {ws ws' : List Cond} {f n : Nat} {G : zG} {av : List Value} {P : Heap → Prop} {v : Int32} {cc : ByteArray} {maxL : Nat}
    (hy : plainFor y = true) (hw : ws = Cond.code y cc maxL (some .int) :: ws') (hn : (lg_sl av).length ≤ maxL)
    (body : ∀ (p : Program) (e : Env) (s : State) (m : MethodId) (args : Array Value) (below : List Frame) (meth : Method) (c : Code) (ls : Array Slot) (Q : State → Prop), p.tables.exec = Jvm.exec → c.code = cc → c.maxLocals = maxL → s.vm.findClass y.cls = some m.cls → (∀ w ∈ ws, w.before args s = true) → zK G s → P s.heap → lv_has ls maxL (lv_args 0 av) →
      (∀ (pc : Nat) (ls : Array Slot) (x : Int32), decode cc pc = .ok (.ireturn, 1) → x = v → W p l e (zRm f n) s m args below meth c s.heap [] 0 0 Q (F0 m pc ls [.int x])) →
      W p l e (zRm f n) s m args below meth c s.heap [] 0 0 Q (F0 m 0 ls [])) : Met l y ws (zRm f n) (zPc G av P) (zS (.int v)) 0 0 (fun _ => False) := by
  refine zofF hy hw hn ?_
  intro p e s m below meth c ls hx hb hr hml hown hts hlk _ hG hP hl
  refine body p e s m av.toArray below meth c ls _ hx hb hml hown hts hG hP hl fun pc ls x hd hv => ?_
  subst hv
  exact W.iret hx hb hr (fun t ht _ => ⟨rfl, ht⟩) (fun q h => by cases h) hd
theorem zmkZF {l : Launch} {y : MethodName} {ws ws' : List Cond} {f n : Nat} {G : zG} {av : List Value} {P : Heap → Prop} {v : Prop} {hdv : Decidable v} {cc : ByteArray} {maxL : Nat}
    (hy : plainFor y = true) (hw : ws = Cond.code y cc maxL (some .boolean) :: ws') (hn : (lg_sl av).length ≤ maxL)
    (body : ∀ (p : Program) (e : Env) (s : State) (m : MethodId) (args : Array Value) (below : List Frame) (meth : Method) (c : Code) (ls : Array Slot) (Q : State → Prop), p.tables.exec = Jvm.exec → c.code = cc → c.maxLocals = maxL → s.vm.findClass y.cls = some m.cls → (∀ w ∈ ws, w.before args s = true) → zK G s → P s.heap → lv_has ls maxL (lv_args 0 av) →
      (∀ (pc : Nat) (ls : Array Slot) (x : Int32), decode cc pc = .ok (.ireturn, 1) → x = (if v then 1 else 0) → W p l e (zRm f n) s m args below meth c s.heap [] 0 0 Q (F0 m pc ls [.int x])) →
      W p l e (zRm f n) s m args below meth c s.heap [] 0 0 Q (F0 m 0 ls [])) : Met l y ws (zRm f n) (zPc G av P) (zS (.int (if v then 1 else 0))) 0 0 (fun _ => False) := by
  refine zofF hy hw hn ?_
  intro p e s m below meth c ls hx hb hr hml hown hts hlk _ hG hP hl
  refine body p e s m av.toArray below meth c ls _ hx hb hml hown hts hG hP hl fun pc ls x hd hv => ?_
  subst hv
  exact W.zret hx hb hr (by by_cases h : v <;> simp [h] <;> rfl) (fun t ht _ => ⟨rfl, ht⟩) (fun q h => by cases h) hd
theorem z_feq {a : UInt32} {op : CmpOp} (ha : a.toNat < 255 * 2 ^ 23) : Op.cmpValue (FP.fcmp a a) op = 0 := by
  rw [z_fcmp ha ha]
  rcases z_cmp3 (a.toNat : Int) (a.toNat : Int) with h | h | h
  · omega
  · rw [h.2]; rfl
  · omega
theorem z_u2i (v : UInt32) : v.toInt32 = nI v.toNat := by
  apply Int32.toBitVec_inj.mp
  apply BitVec.eq_of_toNat_eq
  simp [nI]
set_option maxHeartbeats 4000000 in
set_option maxRecDepth 100000 in
theorem kJxf58ca_isNaN_12338 (l : Launch) (G : zG)  (v : UInt32) (hv : v.toNat < 255 * 2 ^ 23) : Met l yJxf58ca_isNaN_12338 wsJxf58ca_isNaN_12338 (zRm 0 0) (zPc G [.float v] (fun _ => True)) (zS (.int (if False then 1 else 0))) 0 0 (fun _ => False) := by
  refine zmkZF (cc := cJxf58ca_isNaN_12338) (maxL := 1) (by decide +kernel) rfl (Nat.le_of_ble_eq_true rfl) ?_
  intro pr en st mi ar bl me cd ls Q hx hb hml hown hts hG hP hl hret
  have hown : st.vm.findClass RJxf58ca = some mi.cls := hown
  have hl : lv_has ls 1 [(0, .float v)] := hl
  refine lv_fload_n hx hb dJxf58ca_isNaN_12338_0 rfl (lv_at hl 0 rfl) ?_
  refine lv_fload_n hx hb dJxf58ca_isNaN_12338_1 rfl (lv_at hl 0 rfl) ?_
  refine lv_fcmp hx hb dJxf58ca_isNaN_12338_2 ?_
  refine lv_if_eq (tgt := 10) hx hb dJxf58ca_isNaN_12338_3 (by decide) (fun h3 => ?_) (fun h3 => ?_)
  · skip
    have h3 : True := (iff_of_true (z_feq hv) trivial).mp h3
    refine lv_iconst (v := nI 0) hx hb dJxf58ca_isNaN_12338_10 (by decide) ?_
    exact hret _ _ _ dJxf58ca_isNaN_12338_11 (z_f (id))
  · skip
    have h3 : ¬ (True) := fun q => h3 ((iff_of_true (z_feq hv) trivial).mpr q)
    exact absurd trivial h3
set_option maxHeartbeats 4000000 in
set_option maxRecDepth 100000 in
theorem kJxf58ca_floatToIntBits_5c35a (l : Launch) (G : zG)  (v : UInt32) (hv : v.toNat < 255 * 2 ^ 23) : Met l yJxf58ca_floatToIntBits_5c35a wsJxf58ca_floatToIntBits_5c35a (zRm 1 40) (zPc G [.float v] (fun _ => True)) (zS (.int (nI v.toNat))) 0 0 (fun _ => False) := by
  refine zmkIF (cc := cJxf58ca_floatToIntBits_5c35a) (maxL := 1) (by decide +kernel) rfl (Nat.le_of_ble_eq_true rfl) ?_
  intro pr en st mi ar bl me cd ls Q hx hb hml hown hts hG hP hl hret
  have hown : st.vm.findClass RJxf58ca = some mi.cls := hown
  have hl : lv_has ls 1 [(0, .float v)] := hl
  refine lv_fload_n hx hb dJxf58ca_floatToIntBits_5c35a_0 rfl (lv_at hl 0 rfl) ?_
  refine zrdS (As := [.float v]) ⟨hx, hb, hml, hown, hts⟩ (kJxf58ca_isNaN_12338 l G  v (hv)) (va_cwS 1 hts gJxf58ca_floatToIntBits_5c35a_Jxf58ca_isNaN_12338 rfl rfl rfl (by decide +kernel) ⟨Nat.le_of_ble_eq_true rfl, Nat.le_of_ble_eq_true rfl⟩) hG (trivial) rfl rfl hl.1 dJxf58ca_floatToIntBits_5c35a_1 (Nat.le_of_ble_eq_true rfl) ⟨Nat.le_of_ble_eq_true rfl, Nat.le_of_ble_eq_true rfl⟩ ?_
  refine lv_if_ne (tgt := 12) hx hb dJxf58ca_floatToIntBits_5c35a_4 (by decide) (fun h4 => ?_) (fun h4 => ?_)
  · skip
    have h4 : ¬ (¬ (False)) := fun q => h4 ((z_b0).mpr q)
    have h4 : False := Decidable.of_not_not h4
    exact h4.elim
  · skip
    have h4 : ¬ (False) := (z_b0).mp h4
    refine lv_fload_n hx hb dJxf58ca_floatToIntBits_5c35a_7 rfl (lv_at hl 0 rfl) ?_
    refine vn_f2i hx hb (hml.trans hl.1.symm) hown (hts _ (List.mem_cons_of_mem _ (List.mem_of_getElem? (i := 0) rfl))) (hts _ (List.mem_cons_of_mem _ (List.mem_of_getElem? (i := 1) rfl))) (hts _ (List.mem_cons_of_mem _ (List.mem_of_getElem? (i := 2) rfl))) (hts _ (List.mem_cons_of_mem _ (List.mem_of_getElem? (i := 3) rfl))) (Nat.le_of_ble_eq_true rfl) (Nat.le_of_ble_eq_true rfl) dJxf58ca_floatToIntBits_5c35a_8 ?_
    refine lv_topi (nm_r (e' := nI v.toNat) (z_u2i v) ?_)
    exact hret _ _ _ dJxf58ca_floatToIntBits_5c35a_11 (congrArg nI (rfl))
set_option maxHeartbeats 4000000 in
set_option maxRecDepth 100000 in
theorem kX5_ratio_inv (l : Launch) (G : zG) (m : Nat → Nat) (σ : Nat → Nat) (V : Nat → Nat → Nat) (ζ : Nat → Nat) (ns : Nat) (x : Nat → Nat) (len : Nat) (B : Nat → Int32) {N : Nat} (x1 : Int32) (hO : Ok N σ) (hns : ns ≤ 4) (hv : ¬ (0 ≤ x1 ∧ x1 < nI (nE σ))) (hd : va_D (fun _ => True) (wM G m σ V ζ ns x len B)) : Met l yX5_ratio wsX5_ratio (zRm 4 84) (zPc G [.ref (m 0), .int x1] (va_P G.1 vwCl (wM G m σ V ζ ns x len B))) (zQ (zA (wM G m σ V ζ ns x len B)) (some (.int ((-1)))) (va_P G.1 vwCl (wM G m σ V ζ ns x len B))) 0 0 (zA (wM G m σ V ζ ns x len B)) := by
  refine zmkWi (w := (wM G m σ V ζ ns x len B)) hd (cc := cX5_ratio) (maxL := 2) (by decide) rfl (Nat.le_of_ble_eq_true rfl) ?_
  intro pr en st mi ar bl me cd ls Q hx hb hml hown hts hG hP hl hD hS hret
  have hown : st.vm.findClass RX5 = some mi.cls := hown
  have hl : lv_has ls 2 [(0, .ref (m 0)), (1, .int x1)] := hl
  have hP : va_P G.1 vwCl (wM G m σ V ζ ns x len B) st.heap := hP
  have hD : va_D (zA (wM G m σ V ζ ns x len B)) (wM G m σ V ζ ns x len B) := hD
  have hc := hO.c
  have hs := hO.lS
  have hr := hO.lR
  have hne := hO.lE
  refine lv_aload_n hx hb dX5_ratio_0 rfl (lv_at hl 0 rfl) ?_
  refine lv_iload_n hx hb dX5_ratio_1 rfl (lv_at hl 1 rfl) ?_
  refine zrdV (As := [.int x1]) ⟨hx, hb, hml, hown, hts⟩ (kX5_isEdge l G m σ V ζ ns x len B x1 (hO)) (cwV 1 hts gX5_ratio_X5_isEdge rfl rfl rfl (by decide +kernel) ⟨Nat.le_of_ble_eq_true rfl, Nat.le_of_ble_eq_true rfl⟩) hG (va_recv (q0 := 0) (ci := 5) hG.1 hP rfl rfl) (hP) rfl rfl hl.1 dX5_ratio_2 (Nat.le_of_ble_eq_true rfl) ⟨Nat.le_of_ble_eq_true rfl, Nat.le_of_ble_eq_true rfl⟩ ?_
  refine lv_if_eq (tgt := 19) hx hb dX5_ratio_5 (by decide) (fun h5 => ?_) (fun h5 => ?_)
  · skip
    have h5 : ¬ (0 ≤ x1 ∧ x1 < nI (nE σ)) := (z_b0).mp h5
    refine lv_iconst (v := (-1)) hx hb dX5_ratio_19 (by decide) ?_
    exact hret _ _ _ _ _ dX5_ratio_20 hS (hP) (rfl)
  · skip
    have h5 : ¬ (¬ (0 ≤ x1 ∧ x1 < nI (nE σ))) := fun q => h5 ((z_b0).mpr q)
    have h5 : 0 ≤ x1 ∧ x1 < nI (nE σ) := Decidable.of_not_not h5
    exact absurd h5 hv
set_option maxHeartbeats 4000000 in
set_option maxRecDepth 100000 in
theorem kX5_ratio_ok (l : Launch) (G : zG) (m : Nat → Nat) (σ : Nat → Nat) (V : Nat → Nat → Nat) (ζ : Nat → Nat) (ns : Nat) (x : Nat → Nat) (len : Nat) (B : Nat → Int32) {N : Nat} (e : Nat) (hO : Ok N σ) (hns : ns ≤ 4) (he : e < nE σ) (hd : va_D (fun _ => True) (wM G m σ V ζ ns x len B)) : Met l yX5_ratio wsX5_ratio (zRm 4 84) (zPc G [.ref (m 0), .int (nI e)] (va_P G.1 vwCl (wM G m σ V ζ ns x len B))) (zQ (zA (wM G m σ V ζ ns x len B)) (some (.int (nI ((rat σ e).toNat)))) (va_P G.1 vwCl (wM G m σ V ζ ns x len B))) 0 0 (zA (wM G m σ V ζ ns x len B)) := by
  refine zmkWi (w := (wM G m σ V ζ ns x len B)) hd (cc := cX5_ratio) (maxL := 2) (by decide) rfl (Nat.le_of_ble_eq_true rfl) ?_
  intro pr en st mi ar bl me cd ls Q hx hb hml hown hts hG hP hl hD hS hret
  have hown : st.vm.findClass RX5 = some mi.cls := hown
  have hl : lv_has ls 2 [(0, .ref (m 0)), (1, .int (nI e))] := hl
  have hP : va_P G.1 vwCl (wM G m σ V ζ ns x len B) st.heap := hP
  have hD : va_D (zA (wM G m σ V ζ ns x len B)) (wM G m σ V ζ ns x len B) := hD
  have hc := hO.c
  have hs := hO.lS
  have hr := hO.lR
  have hne := hO.lE
  have hve : 0 ≤ nI e ∧ nI e < nI (nE σ) := z_in he (by omega)
  refine lv_aload_n hx hb dX5_ratio_0 rfl (lv_at hl 0 rfl) ?_
  refine lv_iload_n hx hb dX5_ratio_1 rfl (lv_at hl 1 rfl) ?_
  refine zrdV (As := [.int (nI e)]) ⟨hx, hb, hml, hown, hts⟩ (kX5_isEdge l G m σ V ζ ns x len B (nI e) (hO)) (cwV 1 hts gX5_ratio_X5_isEdge rfl rfl rfl (by decide +kernel) ⟨Nat.le_of_ble_eq_true rfl, Nat.le_of_ble_eq_true rfl⟩) hG (va_recv (q0 := 0) (ci := 5) hG.1 hP rfl rfl) (hP) rfl rfl hl.1 dX5_ratio_2 (Nat.le_of_ble_eq_true rfl) ⟨Nat.le_of_ble_eq_true rfl, Nat.le_of_ble_eq_true rfl⟩ ?_
  refine lv_if_eq (tgt := 19) hx hb dX5_ratio_5 (by decide) (fun h5 => ?_) (fun h5 => ?_)
  · skip
    have h5 : ¬ (0 ≤ (nI e) ∧ (nI e) < nI (nE σ)) := (z_b0).mp h5
    exact absurd hve h5
  · skip
    have h5 : ¬ (¬ (0 ≤ (nI e) ∧ (nI e) < nI (nE σ))) := fun q => h5 ((z_b0).mpr q)
    have h5 : 0 ≤ (nI e) ∧ (nI e) < nI (nE σ) := Decidable.of_not_not h5
    refine lv_aload_n hx hb dX5_ratio_8 rfl (lv_at hl 0 rfl) ?_
    refine lv_iload_n hx hb dX5_ratio_9 rfl (lv_at hl 1 rfl) ?_
    refine zrdV (As := [.int (nI e)]) ⟨hx, hb, hml, hown, hts⟩ (kX5_ratioOf l G m σ V ζ ns x len B e (hO) (by omega)) (cwV 1 hts gX5_ratio_X5_ratioOf rfl rfl rfl (by decide +kernel) ⟨Nat.le_of_ble_eq_true rfl, Nat.le_of_ble_eq_true rfl⟩) hG (va_recv (q0 := 0) (ci := 5) hG.1 hP rfl rfl) (hP) rfl rfl hl.1 dX5_ratio_10 (Nat.le_of_ble_eq_true rfl) ⟨Nat.le_of_ble_eq_true rfl, Nat.le_of_ble_eq_true rfl⟩ ?_
    refine zrdS (As := [.float (rat σ e)]) ⟨hx, hb, hml, hown, hts⟩ (kJxf58ca_floatToIntBits_5c35a l G  (rat σ e) ((hO.rt he).lt (by decide))) (va_cwS 1 hts gX5_ratio_Jxf58ca_floatToIntBits_5c35a rfl rfl rfl (by decide +kernel) ⟨Nat.le_of_ble_eq_true rfl, Nat.le_of_ble_eq_true rfl⟩) hG (trivial) rfl rfl hl.1 dX5_ratio_13 (Nat.le_of_ble_eq_true rfl) ⟨Nat.le_of_ble_eq_true rfl, Nat.le_of_ble_eq_true rfl⟩ ?_
    refine lv_goto (tgt := 20) hx hb dX5_ratio_16 (by decide) ?_
    exact hret _ _ _ _ _ dX5_ratio_20 hS (hP) (congrArg nI (rfl))
