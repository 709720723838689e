/-! constructors: the fresh object at q, all that is made lies at sz and above -/
def zAN (q sz : Nat) : Nat → Prop := fun a => a = q ∨ sz ≤ a
def zPcO (G : zG) (av : List Value) (P : Heap → Prop) : Array Value → State → Prop := va_Pc av (fun U => (zK G U ∧ va_AO RX0 U) ∧ P U.heap)
theorem zPcO.blind {G : zG} {av : List Value} {P : Heap → Prop} : FrameBlind (zPcO G av P) := by
  intro a U g mk h
  obtain ⟨h1, ⟨h2, h4⟩, h3⟩ := h
  exact ⟨h1, ⟨⟨va_K.moved (u := U) (U := U.calling g mk a) (Vm.Alike.refl U.vm) h2.1, h2.2.same rfl⟩, va_AO.moved (u := U) (U := U.calling g mk a) (Vm.Alike.refl U.vm) h4⟩, h3⟩
theorem zPreO {G : zG} {av : List Value} {P : Heap → Prop} {s : State} {H : Heap} (hG : zK G s) (hO : va_AO RX0 s) (hP : P H) : PreS s H (zPcO G av P) av :=
  ⟨zPcO.blind, fun U hU hW => ⟨rfl, ⟨hG.warm hW, va_AO.moved hW.alike hO⟩, by rw [hU]; exact hP⟩⟩
theorem zmkC {l : Launch} {y : MethodName} {ws ws' : List Cond} {f n mc ms : Nat} {G : zG} {av : List Value} {P B : Heap → Prop} {cc : ByteArray} {maxL : Nat} {q sz : Nat}
    (hy : plainName y.cls = true) (hw : ws = Cond.code y cc maxL none :: ws') (hn : (lg_sl av).length ≤ maxL)
    (body : ∀ (p : Program) (e : Env) (s : State) (m : MethodId) (args : Array Value) (below : List Frame) (meth : Method) (c : Code) (ls : Array Slot) (Q : State → Prop), p.tables.exec = Jvm.exec → c.code = cc → c.maxLocals = maxL → s.vm.findClass y.cls = some m.cls → (∀ w ∈ ws, w.before args s = true) → zK G s → va_AO RX0 s → s.heap.size = sz → P s.heap → lv_has ls maxL (lv_args 0 av) → va_S (zAN q sz) s.heap s.heap [] → (∀ a, s.heap.size ≤ a → zAN q sz a) → meth.name = y.name →
      (∀ (pc : Nat) (ls : Array Slot) (H : Heap) (locs : List Loc), decode cc pc = .ok (.return_, 1) → va_S (zAN q sz) s.heap H locs → B H → W p l e { frames := f, cells := mc, slots := ms, locals := n } s m args below meth c H locs mc ms Q (F0 m pc ls [])) →
      W p l e { frames := f, cells := mc, slots := ms, locals := n } s m args below meth c s.heap [] 0 0 Q (F0 m 0 ls [])) :
    Met l y ws { frames := f, cells := mc, slots := ms, locals := n } (zPcO G av (fun H => H.size = sz ∧ P H)) (zQ (zAN q sz) none B) mc ms (zAN q sz) := by
  refine Met.ofW (cc := cc) (maxL := maxL) (ret := none) hy hw ?_
  intro p e s m args below meth c s₁ B hml hv
  obtain ⟨rfl, ⟨hG, hO⟩, hsz, hP⟩ := hv
  rw [lg_entry_eq]
  have hlk := B.notSynchronized
  have hr := B.returns
  refine body p e s m av.toArray below meth c _ _ B.exec B.bytes hml (findClass_of_methodNamed B.named) (atoms_spec (ws := ws) B.pre) hG hO hsz hP (lv_entry av hn) va_S.rf (fun a h => Or.inr (by omega)) (name_of_methodNamed B.named B.method).1 fun pc ls H locs hd hS hB => ?_
  exact W.vret B.exec B.bytes hr (fun t ht _ => ⟨rfl, by rw [ht]; exact hB, hS.F ht⟩) hS.2.2 hd
theorem zcA {G : zG} {s : State} {cA c0 : ClassId} {ty : FieldType} {cl : List vw_C} (h : va_K G.1 cl (zTys G ++ [(cA, ty)]) s) (i : Nat) (hi : (zTys G)[i]? = some (c0, ty)) : cA = c0 := by
  have h1 := (h.2 4 (cA, ty) rfl).2
  have hl : i < 4 := (List.getElem?_eq_some_iff.mp hi).1
  have h2 := (h.2 i (c0, ty) (by rw [List.getElem?_append_left hl]; exact hi)).2
  have key : ∀ x, va_RA s x ty → s.vm.findClass ("[" ++ ty.toString) = some x := by
    intro x hx
    cases ty with
    | object C =>
      obtain ⟨kA, comp, -, -, -, h4⟩ := hx
      exact h4
    | _ => exact hx
  exact Option.some.inj ((key _ h1).symm.trans (key _ h2))
section ZC
variable {p : Program} {l : Launch} {e : Env} {R : Room} {s : State} {m : MethodId} {args : Array Value} {below : List Frame} {meth : Method} {c : Code} {H : Heap} {locs : List Loc} {cells slots mc ms : Nat} {Q : State → Prop}
variable {pc : Nat} {ls : Array Slot} {rest : List Value} {cc : ByteArray} {G : zG} {st0 : List Value} {A0 : Nat → Prop} {H0 : Heap}
theorem zwrC {a : Array Value} {q : Nat} {x : va_E} {w1 : va_W} {B : Heap → Prop} (hr : va_Run p l e R s m args below meth c H locs cells slots mc ms (F0 m pc ls st0) rest (zQ (zAN q H.size) none B a) (zAN q H.size)) (hP : va_P G.1 vwCl (w1 ++ [(q, x)]) H) (hD : va_D A0 (w1 ++ [(q, x)])) (hS : va_S A0 H0 H locs) (hA : ∀ a, H0.size ≤ a → A0 a)
    (kk : ∀ (H1 : Heap) (locs1 : List Loc), B H1 → (∀ w : va_W, va_P G.1 vwCl w H1 → va_D (zAN q H.size) w → va_P G.1 vwCl (w1 ++ w) H1 ∧ va_D A0 (w1 ++ w)) → va_S A0 H0 H1 locs1 → W p l e R s m args below meth c H1 locs1 (cells + mc) (slots + ms) Q (F0 m (pc + 3) ls rest)) : W p l e R s m args below meth c H locs cells slots Q (F0 m pc ls st0) := by
  have hq : A0 q := hD.2 w1.length (q, x) (by rw [List.getElem?_append_right (Nat.le_refl _), Nat.sub_self]; rfl)
  have hz : ∀ a, zAN q H.size a → A0 a := fun a h => by
    rcases h with rfl | h
    · exact hq
    · exact hA a (Nat.le_trans hS.1 h)
  refine zwr hr hS (fun a _ h => hz a h) hz fun H1 locs1 hB hz1 hk hS1 => kk H1 locs1 hB (fun w hPw hDw => ?_) hS1
  have hne : ∀ (k : Nat) (y : Nat × va_E), w1[k]? = some y → y.1 < H.size ∧ y.1 ≠ q := fun k y hk => by
    have hkl := (List.getElem?_eq_some_iff.mp hk).1
    refine ⟨(hP k y (by rw [List.getElem?_append_left hkl]; exact hk)).lt, fun z => ?_⟩
    have := hD.1 k w1.length y (q, x) (by rw [List.getElem?_append_left hkl]; exact hk) (by rw [List.getElem?_append_right (Nat.le_refl _), Nat.sub_self]; rfl) z
    omega
  have hP1 : va_P G.1 vwCl w1 H1 := (zP_l hP).kept fun k y hy => hk y.1 (hne k y hy).1 (fun z => by
    have := hne k y hy
    rcases z with z | z
    · exact this.2 z
    · omega)
  refine ⟨hP1.app hPw, (zD_l hD).app (hDw.weaken fun k y hy h => hz _ h) (fun i j y z hi hj e => ?_)⟩
  have h1 := hne i y hi
  have h2 := hDw.2 j z hj
  rw [← e] at h2
  rcases h2 with h2 | h2
  · exact h1.2 h2
  · omega
end ZC
/-- what a new object says of its atlas, its history, its blocks, its text -/
def nwA (G : zG) (q sz : Nat) (H : Heap) : Prop := ∃ a : Nat → Nat, a 0 = q ∧ va_P G.1 vwCl (wA G a (bgn 3 2 1 20)) H ∧ va_D (zAN q sz) (wA G a (bgn 3 2 1 20))
def nwB (G : zG) (q sz : Nat) (H : Heap) : Prop := ∃ b : Nat → Nat, b 0 = q ∧ va_P G.1 vwCl (wB G b (fun _ => 0)) H ∧ va_D (zAN q sz) (wB G b (fun _ => 0))
def nwT (G : zG) (q sz : Nat) (H : Heap) : Prop := ∃ t : Nat → Nat, t 0 = q ∧ va_P G.1 vwCl (wTx G t (fun _ => 0) 0) H ∧ va_D (zAN q sz) (wTx G t (fun _ => 0) 0)
theorem wA0_mp (G : zG) (a σ : Nat → Nat) {c r g t : Nat} {f1 f2 f3 f4 f5 f6 : Nat → Int32} : (wA G a σ).map (·.1) = (wA0 G a c r g t f1 f2 f3 f4 f5 f6).map (·.1) := rfl
set_option maxHeartbeats 4000000 in
set_option maxRecDepth 100000 in
theorem kX0_init (l : Launch) (G : zG) (q sz : Nat) : Met l yX0_init wsX0_init { frames := 2, cells := 6, slots := 1968, locals := 46 } (zPcO G [.ref q] (fun H => H.size = sz ∧ va_P G.1 vwCl [(q, .inr (0, [.null, .null, .null, .null, .null, .null, .int (nI 0), .int (nI 0), .int (nI 0), .int (nI 0)]))] H)) (zQ (zAN q sz) none (nwA G q sz)) 6 1968 (zAN q sz) := by
  refine zmkC (q := q) (sz := sz) (cc := cX0_init) (maxL := 1) (P := va_P G.1 vwCl [(q, .inr (0, [.null, .null, .null, .null, .null, .null, .int (nI 0), .int (nI 0), .int (nI 0), .int (nI 0)]))]) (by decide) rfl (Nat.le_of_ble_eq_true rfl) ?_
  intro pr en st mi ar bl me cd ls Q hx hb hml hown hts hG hGO hsz hP hl hS hA hin hret
  have hown : st.vm.findClass RX0 = some mi.cls := hown
  have hl : lv_has ls 1 [(0, .ref q)] := hl
  have hD : va_D (zAN q sz) [(q, .inr (0, [.null, .null, .null, .null, .null, .null, .int (nI 0), .int (nI 0), .int (nI 0), .int (nI 0)]))] := ⟨fun i j x y hi hj _ => by have h1 := (List.getElem?_eq_some_iff.mp hi).1; have h2 := (List.getElem?_eq_some_iff.mp hj).1; simp at h1 h2; omega, fun k x hk => by have h1 := (List.getElem?_eq_some_iff.mp hk).1; simp at h1; subst h1; cases hk; exact Or.inl rfl⟩
  have hinX0 : ∀ w ∈ wsX00, w ∈ wsX0_init := by decide +kernel
  have hf9 := hts (.fieldLink RX0 9 "MapSheets$Atlas" "signs" "[I") (by decide +kernel)
  have hf15 := hts (.fieldLink RX0 15 "MapSheets$Atlas" "meanings" "[I") (by decide +kernel)
  have hf18 := hts (.fieldLink RX0 18 "MapSheets$Atlas" "revisions" "[I") (by decide +kernel)
  have hf21 := hts (.fieldLink RX0 21 "MapSheets$Atlas" "published" "[I") (by decide +kernel)
  have hf24 := hts (.fieldLink RX0 24 "MapSheets$Atlas" "scales" "[I") (by decide +kernel)
  have hf27 := hts (.fieldLink RX0 27 "MapSheets$Atlas" "agreed" "[I") (by decide +kernel)
  have hf30 := hts (.fieldLink RX0 30 "MapSheets$Atlas" "guard" "I") (by decide +kernel)
  have hf34 := hts (.fieldLink RX0 34 "MapSheets$Atlas" "tolerance" "I") (by decide +kernel)
  refine lv_aload_n hx hb dX0_init_0 rfl (lv_at hl 0 rfl) ?_
  refine W.objInit hx hb hown (hts (.methodLink RX0 3 objectInit) (by decide +kernel)) (hts (.instanceMethod objectInit) (by decide +kernel)) (hts (.code objectInit ⟨#[0xb1]⟩ 1 none) (by decide +kernel)) rfl (by rw [hml]; exact hl.1) rfl dX0_init_1 (Nat.le_of_ble_eq_true rfl) (Nat.le_of_ble_eq_true rfl) ?_
  refine W.eq (g2 := F0 mi 4 ls []) rfl ?_
  refine lv_aload_n hx hb dX0_init_4 rfl (lv_at hl 0 rfl) ?_
  refine lv_sipush (v := nI 1440) hx hb dX0_init_5 (by decide) ?_
  refine va_newa (atype := .int) (a0 := (1440, .inl (fun _ => 0))) hx hb (hts (.arrayClass .int) (by decide +kernel)) rfl hG.1 hP hD hS hA (fun cA => rfl) (nI_pos (n := 1440) (by omega)) (nI_clamp (n := 1440) (by omega)) (Nat.le_of_ble_eq_true rfl) (Nat.le_of_ble_eq_true rfl) (Nat.le_of_ble_eq_true rfl) dX0_init_8 (fun q8 cA H hK1 hP hD hS => ?_)
  obtain rfl := zcA hK1 0 rfl
  clear hK1
  have hP : va_P G.1 vwCl [(q, .inr (0, [.null, .null, .null, .null, .null, .null, .int (nI 0), .int (nI 0), .int (nI 0), .int (nI 0)])), (q8, .inl (G.2.1, 1440, .inl (fun _ => 0)))] H := hP
  have hD : va_D (zAN q sz) [(q, .inr (0, [.null, .null, .null, .null, .null, .null, .int (nI 0), .int (nI 0), .int (nI 0), .int (nI 0)])), (q8, .inl (G.2.1, 1440, .inl (fun _ => 0)))] := hD
  refine va_putF (D := G.1) (ci := 0) (v := .ref q8) (ty := .array (.int)) (C := RX0) (T := TX0) (N := 10) hx hb hts hinX0 tyX0 tyX0_ok nmX0 hown hG.1 hP hD hS 0 rfl rfl 0 (by decide) hf9 (fun _ h9 => h9) rfl hin rfl (by decide +kernel) rfl rfl (Nat.le_of_ble_eq_true rfl) dX0_init_10 (fun H locs hP hD hS => ?_)
  have hP : va_P G.1 vwCl [(q, .inr (0, [.ref q8, .null, .null, .null, .null, .null, .int (nI 0), .int (nI 0), .int (nI 0), .int (nI 0)])), (q8, .inl (G.2.1, 1440, .inl (fun _ => 0)))] H := hP
  have hD : va_D (zAN q sz) [(q, .inr (0, [.ref q8, .null, .null, .null, .null, .null, .int (nI 0), .int (nI 0), .int (nI 0), .int (nI 0)])), (q8, .inl (G.2.1, 1440, .inl (fun _ => 0)))] := hD
  refine lv_aload_n hx hb dX0_init_13 rfl (lv_at hl 0 rfl) ?_
  refine lv_sipush (v := nI 360) hx hb dX0_init_14 (by decide) ?_
  refine va_newa (atype := .int) (a0 := (360, .inl (fun _ => 0))) hx hb (hts (.arrayClass .int) (by decide +kernel)) rfl hG.1 hP hD hS hA (fun cA => rfl) (nI_pos (n := 360) (by omega)) (nI_clamp (n := 360) (by omega)) (Nat.le_of_ble_eq_true rfl) (Nat.le_of_ble_eq_true rfl) (Nat.le_of_ble_eq_true rfl) dX0_init_17 (fun q17 cA H hK1 hP hD hS => ?_)
  obtain rfl := zcA hK1 0 rfl
  clear hK1
  have hP : va_P G.1 vwCl [(q, .inr (0, [.ref q8, .null, .null, .null, .null, .null, .int (nI 0), .int (nI 0), .int (nI 0), .int (nI 0)])), (q8, .inl (G.2.1, 1440, .inl (fun _ => 0))), (q17, .inl (G.2.1, 360, .inl (fun _ => 0)))] H := hP
  have hD : va_D (zAN q sz) [(q, .inr (0, [.ref q8, .null, .null, .null, .null, .null, .int (nI 0), .int (nI 0), .int (nI 0), .int (nI 0)])), (q8, .inl (G.2.1, 1440, .inl (fun _ => 0))), (q17, .inl (G.2.1, 360, .inl (fun _ => 0)))] := hD
  refine va_putF (D := G.1) (ci := 0) (v := .ref q17) (ty := .array (.int)) (C := RX0) (T := TX0) (N := 10) hx hb hts hinX0 tyX0 tyX0_ok nmX0 hown hG.1 hP hD hS 0 rfl rfl 1 (by decide) hf15 (fun _ h9 => h9) rfl hin rfl (by decide +kernel) rfl rfl (Nat.le_of_ble_eq_true rfl) dX0_init_19 (fun H locs hP hD hS => ?_)
  have hP : va_P G.1 vwCl [(q, .inr (0, [.ref q8, .ref q17, .null, .null, .null, .null, .int (nI 0), .int (nI 0), .int (nI 0), .int (nI 0)])), (q8, .inl (G.2.1, 1440, .inl (fun _ => 0))), (q17, .inl (G.2.1, 360, .inl (fun _ => 0)))] H := hP
  have hD : va_D (zAN q sz) [(q, .inr (0, [.ref q8, .ref q17, .null, .null, .null, .null, .int (nI 0), .int (nI 0), .int (nI 0), .int (nI 0)])), (q8, .inl (G.2.1, 1440, .inl (fun _ => 0))), (q17, .inl (G.2.1, 360, .inl (fun _ => 0)))] := hD
  refine lv_aload_n hx hb dX0_init_22 rfl (lv_at hl 0 rfl) ?_
  refine lv_bipush (v := nI 36) hx hb dX0_init_23 (by decide) ?_
  refine va_newa (atype := .int) (a0 := (36, .inl (fun _ => 0))) hx hb (hts (.arrayClass .int) (by decide +kernel)) rfl hG.1 hP hD hS hA (fun cA => rfl) (nI_pos (n := 36) (by omega)) (nI_clamp (n := 36) (by omega)) (Nat.le_of_ble_eq_true rfl) (Nat.le_of_ble_eq_true rfl) (Nat.le_of_ble_eq_true rfl) dX0_init_25 (fun q25 cA H hK1 hP hD hS => ?_)
  obtain rfl := zcA hK1 0 rfl
  clear hK1
  have hP : va_P G.1 vwCl [(q, .inr (0, [.ref q8, .ref q17, .null, .null, .null, .null, .int (nI 0), .int (nI 0), .int (nI 0), .int (nI 0)])), (q8, .inl (G.2.1, 1440, .inl (fun _ => 0))), (q17, .inl (G.2.1, 360, .inl (fun _ => 0))), (q25, .inl (G.2.1, 36, .inl (fun _ => 0)))] H := hP
  have hD : va_D (zAN q sz) [(q, .inr (0, [.ref q8, .ref q17, .null, .null, .null, .null, .int (nI 0), .int (nI 0), .int (nI 0), .int (nI 0)])), (q8, .inl (G.2.1, 1440, .inl (fun _ => 0))), (q17, .inl (G.2.1, 360, .inl (fun _ => 0))), (q25, .inl (G.2.1, 36, .inl (fun _ => 0)))] := hD
  refine va_putF (D := G.1) (ci := 0) (v := .ref q25) (ty := .array (.int)) (C := RX0) (T := TX0) (N := 10) hx hb hts hinX0 tyX0 tyX0_ok nmX0 hown hG.1 hP hD hS 0 rfl rfl 2 (by decide) hf18 (fun _ h9 => h9) rfl hin rfl (by decide +kernel) rfl rfl (Nat.le_of_ble_eq_true rfl) dX0_init_27 (fun H locs hP hD hS => ?_)
  have hP : va_P G.1 vwCl [(q, .inr (0, [.ref q8, .ref q17, .ref q25, .null, .null, .null, .int (nI 0), .int (nI 0), .int (nI 0), .int (nI 0)])), (q8, .inl (G.2.1, 1440, .inl (fun _ => 0))), (q17, .inl (G.2.1, 360, .inl (fun _ => 0))), (q25, .inl (G.2.1, 36, .inl (fun _ => 0)))] H := hP
  have hD : va_D (zAN q sz) [(q, .inr (0, [.ref q8, .ref q17, .ref q25, .null, .null, .null, .int (nI 0), .int (nI 0), .int (nI 0), .int (nI 0)])), (q8, .inl (G.2.1, 1440, .inl (fun _ => 0))), (q17, .inl (G.2.1, 360, .inl (fun _ => 0))), (q25, .inl (G.2.1, 36, .inl (fun _ => 0)))] := hD
  refine lv_aload_n hx hb dX0_init_30 rfl (lv_at hl 0 rfl) ?_
  refine lv_bipush (v := nI 36) hx hb dX0_init_31 (by decide) ?_
  refine va_newa (atype := .int) (a0 := (36, .inl (fun _ => 0))) hx hb (hts (.arrayClass .int) (by decide +kernel)) rfl hG.1 hP hD hS hA (fun cA => rfl) (nI_pos (n := 36) (by omega)) (nI_clamp (n := 36) (by omega)) (Nat.le_of_ble_eq_true rfl) (Nat.le_of_ble_eq_true rfl) (Nat.le_of_ble_eq_true rfl) dX0_init_33 (fun q33 cA H hK1 hP hD hS => ?_)
  obtain rfl := zcA hK1 0 rfl
  clear hK1
  have hP : va_P G.1 vwCl [(q, .inr (0, [.ref q8, .ref q17, .ref q25, .null, .null, .null, .int (nI 0), .int (nI 0), .int (nI 0), .int (nI 0)])), (q8, .inl (G.2.1, 1440, .inl (fun _ => 0))), (q17, .inl (G.2.1, 360, .inl (fun _ => 0))), (q25, .inl (G.2.1, 36, .inl (fun _ => 0))), (q33, .inl (G.2.1, 36, .inl (fun _ => 0)))] H := hP
  have hD : va_D (zAN q sz) [(q, .inr (0, [.ref q8, .ref q17, .ref q25, .null, .null, .null, .int (nI 0), .int (nI 0), .int (nI 0), .int (nI 0)])), (q8, .inl (G.2.1, 1440, .inl (fun _ => 0))), (q17, .inl (G.2.1, 360, .inl (fun _ => 0))), (q25, .inl (G.2.1, 36, .inl (fun _ => 0))), (q33, .inl (G.2.1, 36, .inl (fun _ => 0)))] := hD
  refine va_putF (D := G.1) (ci := 0) (v := .ref q33) (ty := .array (.int)) (C := RX0) (T := TX0) (N := 10) hx hb hts hinX0 tyX0 tyX0_ok nmX0 hown hG.1 hP hD hS 0 rfl rfl 3 (by decide) hf21 (fun _ h9 => h9) rfl hin rfl (by decide +kernel) rfl rfl (Nat.le_of_ble_eq_true rfl) dX0_init_35 (fun H locs hP hD hS => ?_)
  have hP : va_P G.1 vwCl [(q, .inr (0, [.ref q8, .ref q17, .ref q25, .ref q33, .null, .null, .int (nI 0), .int (nI 0), .int (nI 0), .int (nI 0)])), (q8, .inl (G.2.1, 1440, .inl (fun _ => 0))), (q17, .inl (G.2.1, 360, .inl (fun _ => 0))), (q25, .inl (G.2.1, 36, .inl (fun _ => 0))), (q33, .inl (G.2.1, 36, .inl (fun _ => 0)))] H := hP
  have hD : va_D (zAN q sz) [(q, .inr (0, [.ref q8, .ref q17, .ref q25, .ref q33, .null, .null, .int (nI 0), .int (nI 0), .int (nI 0), .int (nI 0)])), (q8, .inl (G.2.1, 1440, .inl (fun _ => 0))), (q17, .inl (G.2.1, 360, .inl (fun _ => 0))), (q25, .inl (G.2.1, 36, .inl (fun _ => 0))), (q33, .inl (G.2.1, 36, .inl (fun _ => 0)))] := hD
  refine lv_aload_n hx hb dX0_init_38 rfl (lv_at hl 0 rfl) ?_
  refine lv_bipush (v := nI 36) hx hb dX0_init_39 (by decide) ?_
  refine va_newa (atype := .int) (a0 := (36, .inl (fun _ => 0))) hx hb (hts (.arrayClass .int) (by decide +kernel)) rfl hG.1 hP hD hS hA (fun cA => rfl) (nI_pos (n := 36) (by omega)) (nI_clamp (n := 36) (by omega)) (Nat.le_of_ble_eq_true rfl) (Nat.le_of_ble_eq_true rfl) (Nat.le_of_ble_eq_true rfl) dX0_init_41 (fun q41 cA H hK1 hP hD hS => ?_)
  obtain rfl := zcA hK1 0 rfl
  clear hK1
  have hP : va_P G.1 vwCl [(q, .inr (0, [.ref q8, .ref q17, .ref q25, .ref q33, .null, .null, .int (nI 0), .int (nI 0), .int (nI 0), .int (nI 0)])), (q8, .inl (G.2.1, 1440, .inl (fun _ => 0))), (q17, .inl (G.2.1, 360, .inl (fun _ => 0))), (q25, .inl (G.2.1, 36, .inl (fun _ => 0))), (q33, .inl (G.2.1, 36, .inl (fun _ => 0))), (q41, .inl (G.2.1, 36, .inl (fun _ => 0)))] H := hP
  have hD : va_D (zAN q sz) [(q, .inr (0, [.ref q8, .ref q17, .ref q25, .ref q33, .null, .null, .int (nI 0), .int (nI 0), .int (nI 0), .int (nI 0)])), (q8, .inl (G.2.1, 1440, .inl (fun _ => 0))), (q17, .inl (G.2.1, 360, .inl (fun _ => 0))), (q25, .inl (G.2.1, 36, .inl (fun _ => 0))), (q33, .inl (G.2.1, 36, .inl (fun _ => 0))), (q41, .inl (G.2.1, 36, .inl (fun _ => 0)))] := hD
  refine va_putF (D := G.1) (ci := 0) (v := .ref q41) (ty := .array (.int)) (C := RX0) (T := TX0) (N := 10) hx hb hts hinX0 tyX0 tyX0_ok nmX0 hown hG.1 hP hD hS 0 rfl rfl 4 (by decide) hf24 (fun _ h9 => h9) rfl hin rfl (by decide +kernel) rfl rfl (Nat.le_of_ble_eq_true rfl) dX0_init_43 (fun H locs hP hD hS => ?_)
  have hP : va_P G.1 vwCl [(q, .inr (0, [.ref q8, .ref q17, .ref q25, .ref q33, .ref q41, .null, .int (nI 0), .int (nI 0), .int (nI 0), .int (nI 0)])), (q8, .inl (G.2.1, 1440, .inl (fun _ => 0))), (q17, .inl (G.2.1, 360, .inl (fun _ => 0))), (q25, .inl (G.2.1, 36, .inl (fun _ => 0))), (q33, .inl (G.2.1, 36, .inl (fun _ => 0))), (q41, .inl (G.2.1, 36, .inl (fun _ => 0)))] H := hP
  have hD : va_D (zAN q sz) [(q, .inr (0, [.ref q8, .ref q17, .ref q25, .ref q33, .ref q41, .null, .int (nI 0), .int (nI 0), .int (nI 0), .int (nI 0)])), (q8, .inl (G.2.1, 1440, .inl (fun _ => 0))), (q17, .inl (G.2.1, 360, .inl (fun _ => 0))), (q25, .inl (G.2.1, 36, .inl (fun _ => 0))), (q33, .inl (G.2.1, 36, .inl (fun _ => 0))), (q41, .inl (G.2.1, 36, .inl (fun _ => 0)))] := hD
  refine lv_aload_n hx hb dX0_init_46 rfl (lv_at hl 0 rfl) ?_
  refine lv_bipush (v := nI 60) hx hb dX0_init_47 (by decide) ?_
  refine va_newa (atype := .int) (a0 := (60, .inl (fun _ => 0))) hx hb (hts (.arrayClass .int) (by decide +kernel)) rfl hG.1 hP hD hS hA (fun cA => rfl) (nI_pos (n := 60) (by omega)) (nI_clamp (n := 60) (by omega)) (Nat.le_of_ble_eq_true rfl) (Nat.le_of_ble_eq_true rfl) (Nat.le_of_ble_eq_true rfl) dX0_init_49 (fun q49 cA H hK1 hP hD hS => ?_)
  obtain rfl := zcA hK1 0 rfl
  clear hK1
  have hP : va_P G.1 vwCl [(q, .inr (0, [.ref q8, .ref q17, .ref q25, .ref q33, .ref q41, .null, .int (nI 0), .int (nI 0), .int (nI 0), .int (nI 0)])), (q8, .inl (G.2.1, 1440, .inl (fun _ => 0))), (q17, .inl (G.2.1, 360, .inl (fun _ => 0))), (q25, .inl (G.2.1, 36, .inl (fun _ => 0))), (q33, .inl (G.2.1, 36, .inl (fun _ => 0))), (q41, .inl (G.2.1, 36, .inl (fun _ => 0))), (q49, .inl (G.2.1, 60, .inl (fun _ => 0)))] H := hP
  have hD : va_D (zAN q sz) [(q, .inr (0, [.ref q8, .ref q17, .ref q25, .ref q33, .ref q41, .null, .int (nI 0), .int (nI 0), .int (nI 0), .int (nI 0)])), (q8, .inl (G.2.1, 1440, .inl (fun _ => 0))), (q17, .inl (G.2.1, 360, .inl (fun _ => 0))), (q25, .inl (G.2.1, 36, .inl (fun _ => 0))), (q33, .inl (G.2.1, 36, .inl (fun _ => 0))), (q41, .inl (G.2.1, 36, .inl (fun _ => 0))), (q49, .inl (G.2.1, 60, .inl (fun _ => 0)))] := hD
  refine va_putF (D := G.1) (ci := 0) (v := .ref q49) (ty := .array (.int)) (C := RX0) (T := TX0) (N := 10) hx hb hts hinX0 tyX0 tyX0_ok nmX0 hown hG.1 hP hD hS 0 rfl rfl 5 (by decide) hf27 (fun _ h9 => h9) rfl hin rfl (by decide +kernel) rfl rfl (Nat.le_of_ble_eq_true rfl) dX0_init_51 (fun H locs hP hD hS => ?_)
  have hP : va_P G.1 vwCl [(q, .inr (0, [.ref q8, .ref q17, .ref q25, .ref q33, .ref q41, .ref q49, .int (nI 0), .int (nI 0), .int (nI 0), .int (nI 0)])), (q8, .inl (G.2.1, 1440, .inl (fun _ => 0))), (q17, .inl (G.2.1, 360, .inl (fun _ => 0))), (q25, .inl (G.2.1, 36, .inl (fun _ => 0))), (q33, .inl (G.2.1, 36, .inl (fun _ => 0))), (q41, .inl (G.2.1, 36, .inl (fun _ => 0))), (q49, .inl (G.2.1, 60, .inl (fun _ => 0)))] H := hP
  have hD : va_D (zAN q sz) [(q, .inr (0, [.ref q8, .ref q17, .ref q25, .ref q33, .ref q41, .ref q49, .int (nI 0), .int (nI 0), .int (nI 0), .int (nI 0)])), (q8, .inl (G.2.1, 1440, .inl (fun _ => 0))), (q17, .inl (G.2.1, 360, .inl (fun _ => 0))), (q25, .inl (G.2.1, 36, .inl (fun _ => 0))), (q33, .inl (G.2.1, 36, .inl (fun _ => 0))), (q41, .inl (G.2.1, 36, .inl (fun _ => 0))), (q49, .inl (G.2.1, 60, .inl (fun _ => 0)))] := hD
  refine lv_aload_n hx hb dX0_init_54 rfl (lv_at hl 0 rfl) ?_
  refine lv_iconst (v := nI 1) hx hb dX0_init_55 (by decide) ?_
  refine va_put (D := G.1) (ci := 0) (v := .int (nI 1)) (ty := .int) (C := RX0) (T := TX0) (N := 10) hx hb hts hinX0 tyX0 tyX0_ok nmX0 hown hG.1 hP hD hS 0 rfl rfl 8 (by decide) hf30 (fun _ h9 => h9) rfl (by decide +kernel) rfl rfl (Nat.le_of_ble_eq_true rfl) dX0_init_56 (fun H locs hP hD hS => ?_)
  have hP : va_P G.1 vwCl [(q, .inr (0, [.ref q8, .ref q17, .ref q25, .ref q33, .ref q41, .ref q49, .int (nI 0), .int (nI 0), .int (nI 1), .int (nI 0)])), (q8, .inl (G.2.1, 1440, .inl (fun _ => 0))), (q17, .inl (G.2.1, 360, .inl (fun _ => 0))), (q25, .inl (G.2.1, 36, .inl (fun _ => 0))), (q33, .inl (G.2.1, 36, .inl (fun _ => 0))), (q41, .inl (G.2.1, 36, .inl (fun _ => 0))), (q49, .inl (G.2.1, 60, .inl (fun _ => 0)))] H := hP
  have hD : va_D (zAN q sz) [(q, .inr (0, [.ref q8, .ref q17, .ref q25, .ref q33, .ref q41, .ref q49, .int (nI 0), .int (nI 0), .int (nI 1), .int (nI 0)])), (q8, .inl (G.2.1, 1440, .inl (fun _ => 0))), (q17, .inl (G.2.1, 360, .inl (fun _ => 0))), (q25, .inl (G.2.1, 36, .inl (fun _ => 0))), (q33, .inl (G.2.1, 36, .inl (fun _ => 0))), (q41, .inl (G.2.1, 36, .inl (fun _ => 0))), (q49, .inl (G.2.1, 60, .inl (fun _ => 0)))] := hD
  refine lv_aload_n hx hb dX0_init_59 rfl (lv_at hl 0 rfl) ?_
  refine lv_bipush (v := nI 20) hx hb dX0_init_60 (by decide) ?_
  refine va_put (D := G.1) (ci := 0) (v := .int (nI 20)) (ty := .int) (C := RX0) (T := TX0) (N := 10) hx hb hts hinX0 tyX0 tyX0_ok nmX0 hown hG.1 hP hD hS 0 rfl rfl 9 (by decide) hf34 (fun _ h9 => h9) rfl (by decide +kernel) rfl rfl (Nat.le_of_ble_eq_true rfl) dX0_init_62 (fun H locs hP hD hS => ?_)
  have hP : va_P G.1 vwCl [(q, .inr (0, [.ref q8, .ref q17, .ref q25, .ref q33, .ref q41, .ref q49, .int (nI 0), .int (nI 0), .int (nI 1), .int (nI 20)])), (q8, .inl (G.2.1, 1440, .inl (fun _ => 0))), (q17, .inl (G.2.1, 360, .inl (fun _ => 0))), (q25, .inl (G.2.1, 36, .inl (fun _ => 0))), (q33, .inl (G.2.1, 36, .inl (fun _ => 0))), (q41, .inl (G.2.1, 36, .inl (fun _ => 0))), (q49, .inl (G.2.1, 60, .inl (fun _ => 0)))] H := hP
  have hD : va_D (zAN q sz) [(q, .inr (0, [.ref q8, .ref q17, .ref q25, .ref q33, .ref q41, .ref q49, .int (nI 0), .int (nI 0), .int (nI 1), .int (nI 20)])), (q8, .inl (G.2.1, 1440, .inl (fun _ => 0))), (q17, .inl (G.2.1, 360, .inl (fun _ => 0))), (q25, .inl (G.2.1, 36, .inl (fun _ => 0))), (q33, .inl (G.2.1, 36, .inl (fun _ => 0))), (q41, .inl (G.2.1, 36, .inl (fun _ => 0))), (q49, .inl (G.2.1, 60, .inl (fun _ => 0)))] := hD
  refine lv_aload_n hx hb dX0_init_65 rfl (lv_at hl 0 rfl) ?_
  refine lv_iconst (v := nI 3) hx hb dX0_init_66 (by decide) ?_
  refine lv_iconst (v := nI 2) hx hb dX0_init_67 (by decide) ?_
  have hP : va_P G.1 vwCl (wA0 G (fun i => ([q, q8, q17, q25, q33, q41, q49] : List Nat).getD i 0) 0 0 1 20 (fun _ => 0) (fun _ => 0) (fun _ => 0) (fun _ => 0) (fun _ => 0) (fun _ => 0)) H := hP
  have hD : va_D (zAN q sz) (wA0 G (fun i => ([q, q8, q17, q25, q33, q41, q49] : List Nat).getD i 0) 0 0 1 20 (fun _ => 0) (fun _ => 0) (fun _ => 0) (fun _ => 0) (fun _ => 0) (fun _ => 0)) := hD
  refine zwrWv (G := G) (wc' := wA G (fun i => ([q, q8, q17, q25, q33, q41, q49] : List Nat).getD i 0) (bgn 3 2 1 20)) (va_runV (As := [.int (nI 3), .int (nI 2)]) (rest := []) ⟨hx, hb, hml, hown, hts⟩ (kX0_begin l G (fun i => ([q, q8, q17, q25, q33, q41, q49] : List Nat).getD i 0) 0 0 1 20 (fun _ => 0) (fun _ => 0) (fun _ => 0) (fun _ => 0) (fun _ => 0) (fun _ => 0) 3 2 (zD_any hD)) (cwV 2 hts gX0_init_X0_begin rfl rfl rfl (by decide +kernel) ⟨Nat.le_of_ble_eq_true rfl, Nat.le_of_ble_eq_true rfl⟩) (zPreV hG (va_recv (q0 := 0) (ci := 0) hG.1 hP rfl rfl) hP) rfl rfl hl.1 rfl (lv_room (Nat.le_of_ble_eq_true rfl)) dX0_init_68 ⟨Nat.le_of_ble_eq_true rfl, Nat.le_of_ble_eq_true rfl⟩) hP hD hS (wA0_mp _ _ _) (fun H locs hP hD hS => ?_)
  exact hret _ _ _ _ dX0_init_71 hS ⟨(fun i => ([q, q8, q17, q25, q33, q41, q49] : List Nat).getD i 0), rfl, hP, hD⟩
set_option maxHeartbeats 4000000 in
set_option maxRecDepth 100000 in
theorem kX1_init (l : Launch) (G : zG) (q sz : Nat) : Met l yX1_init wsX1_init { frames := 1, cells := 1, slots := 36, locals := 16 } (zPcO G [.ref q] (fun H => H.size = sz ∧ va_P G.1 vwCl [(q, .inr (1, [.null]))] H)) (zQ (zAN q sz) none (nwB G q sz)) 1 36 (zAN q sz) := by
  refine zmkC (q := q) (sz := sz) (cc := cX1_init) (maxL := 1) (P := va_P G.1 vwCl [(q, .inr (1, [.null]))]) (by decide) rfl (Nat.le_of_ble_eq_true rfl) ?_
  intro pr en st mi ar bl me cd ls Q hx hb hml hown hts hG hGO hsz hP hl hS hA hin hret
  have hown : st.vm.findClass RX1 = some mi.cls := hown
  have hl : lv_has ls 1 [(0, .ref q)] := hl
  have hD : va_D (zAN q sz) [(q, .inr (1, [.null]))] := ⟨fun i j x y hi hj _ => by have h1 := (List.getElem?_eq_some_iff.mp hi).1; have h2 := (List.getElem?_eq_some_iff.mp hj).1; simp at h1 h2; omega, fun k x hk => by have h1 := (List.getElem?_eq_some_iff.mp hk).1; simp at h1; subst h1; cases hk; exact Or.inl rfl⟩
  have hinX1 : ∀ w ∈ wsX10, w ∈ wsX1_init := by decide +kernel
  have hf9 := hts (.fieldLink RX1 9 "MapSheets$Blocks" "lowest" "[I") (by decide +kernel)
  refine lv_aload_n hx hb dX1_init_0 rfl (lv_at hl 0 rfl) ?_
  refine W.objInit hx hb hown (hts (.methodLink RX1 3 objectInit) (by decide +kernel)) (hts (.instanceMethod objectInit) (by decide +kernel)) (hts (.code objectInit ⟨#[0xb1]⟩ 1 none) (by decide +kernel)) rfl (by rw [hml]; exact hl.1) rfl dX1_init_1 (Nat.le_of_ble_eq_true rfl) (Nat.le_of_ble_eq_true rfl) ?_
  refine W.eq (g2 := F0 mi 4 ls []) rfl ?_
  refine lv_aload_n hx hb dX1_init_4 rfl (lv_at hl 0 rfl) ?_
  refine lv_bipush (v := nI 36) hx hb dX1_init_5 (by decide) ?_
  refine va_newa (atype := .int) (a0 := (36, .inl (fun _ => 0))) hx hb (hts (.arrayClass .int) (by decide +kernel)) rfl hG.1 hP hD hS hA (fun cA => rfl) (nI_pos (n := 36) (by omega)) (nI_clamp (n := 36) (by omega)) (Nat.le_of_ble_eq_true rfl) (Nat.le_of_ble_eq_true rfl) (Nat.le_of_ble_eq_true rfl) dX1_init_7 (fun q7 cA H hK1 hP hD hS => ?_)
  obtain rfl := zcA hK1 0 rfl
  clear hK1
  have hP : va_P G.1 vwCl [(q, .inr (1, [.null])), (q7, .inl (G.2.1, 36, .inl (fun _ => 0)))] H := hP
  have hD : va_D (zAN q sz) [(q, .inr (1, [.null])), (q7, .inl (G.2.1, 36, .inl (fun _ => 0)))] := hD
  refine va_putF (D := G.1) (ci := 1) (v := .ref q7) (ty := .array (.int)) (C := RX1) (T := TX1) (N := 1) hx hb hts hinX1 tyX1 tyX1_ok nmX1 hown hG.1 hP hD hS 0 rfl rfl 0 (by decide) hf9 (fun _ h9 => h9) rfl hin rfl (by decide +kernel) rfl rfl (Nat.le_of_ble_eq_true rfl) dX1_init_9 (fun H locs hP hD hS => ?_)
  have hP : va_P G.1 vwCl [(q, .inr (1, [.ref q7])), (q7, .inl (G.2.1, 36, .inl (fun _ => 0)))] H := hP
  have hD : va_D (zAN q sz) [(q, .inr (1, [.ref q7])), (q7, .inl (G.2.1, 36, .inl (fun _ => 0)))] := hD
  exact hret _ _ _ _ dX1_init_12 hS ⟨(fun i => ([q, q7] : List Nat).getD i 0), rfl, hP, hD⟩
set_option maxHeartbeats 4000000 in
set_option maxRecDepth 100000 in
theorem kX3_init (l : Launch) (G : zG) (q sz : Nat) : Met l yX3_init wsX3_init { frames := 1, cells := 1, slots := 100, locals := 16 } (zPcO G [.ref q] (fun H => H.size = sz ∧ va_P G.1 vwCl [(q, .inr (3, [.null, .int (nI 0)]))] H)) (zQ (zAN q sz) none (nwT G q sz)) 1 100 (zAN q sz) := by
  refine zmkC (q := q) (sz := sz) (cc := cX3_init) (maxL := 1) (P := va_P G.1 vwCl [(q, .inr (3, [.null, .int (nI 0)]))]) (by decide) rfl (Nat.le_of_ble_eq_true rfl) ?_
  intro pr en st mi ar bl me cd ls Q hx hb hml hown hts hG hGO hsz hP hl hS hA hin hret
  have hown : st.vm.findClass RX3 = some mi.cls := hown
  have hl : lv_has ls 1 [(0, .ref q)] := hl
  have hD : va_D (zAN q sz) [(q, .inr (3, [.null, .int (nI 0)]))] := ⟨fun i j x y hi hj _ => by have h1 := (List.getElem?_eq_some_iff.mp hi).1; have h2 := (List.getElem?_eq_some_iff.mp hj).1; simp at h1 h2; omega, fun k x hk => by have h1 := (List.getElem?_eq_some_iff.mp hk).1; simp at h1; subst h1; cases hk; exact Or.inl rfl⟩
  have hinX3 : ∀ w ∈ wsX30, w ∈ wsX3_init := by decide +kernel
  have hf9 := hts (.fieldLink RX3 9 "MapSheets$SignText" "characters" "[C") (by decide +kernel)
  have hf15 := hts (.fieldLink RX3 15 "MapSheets$SignText" "length" "I") (by decide +kernel)
  refine lv_aload_n hx hb dX3_init_0 rfl (lv_at hl 0 rfl) ?_
  refine W.objInit hx hb hown (hts (.methodLink RX3 3 objectInit) (by decide +kernel)) (hts (.instanceMethod objectInit) (by decide +kernel)) (hts (.code objectInit ⟨#[0xb1]⟩ 1 none) (by decide +kernel)) rfl (by rw [hml]; exact hl.1) rfl dX3_init_1 (Nat.le_of_ble_eq_true rfl) (Nat.le_of_ble_eq_true rfl) ?_
  refine W.eq (g2 := F0 mi 4 ls []) rfl ?_
  refine lv_aload_n hx hb dX3_init_4 rfl (lv_at hl 0 rfl) ?_
  refine lv_bipush (v := nI 100) hx hb dX3_init_5 (by decide) ?_
  refine va_newa (atype := .char) (a0 := (100, .inl (fun _ => 0))) hx hb (hts (.arrayClass .char) (by decide +kernel)) rfl hG.1 hP hD hS hA (fun cA => rfl) (nI_pos (n := 100) (by omega)) (nI_clamp (n := 100) (by omega)) (Nat.le_of_ble_eq_true rfl) (Nat.le_of_ble_eq_true rfl) (Nat.le_of_ble_eq_true rfl) dX3_init_7 (fun q7 cA H hK1 hP hD hS => ?_)
  obtain rfl := zcA hK1 1 rfl
  clear hK1
  have hP : va_P G.1 vwCl [(q, .inr (3, [.null, .int (nI 0)])), (q7, .inl (G.2.2.1, 100, .inl (fun _ => 0)))] H := hP
  have hD : va_D (zAN q sz) [(q, .inr (3, [.null, .int (nI 0)])), (q7, .inl (G.2.2.1, 100, .inl (fun _ => 0)))] := hD
  refine va_putF (D := G.1) (ci := 3) (v := .ref q7) (ty := .array (.char)) (C := RX3) (T := TX3) (N := 2) hx hb hts hinX3 tyX3 tyX3_ok nmX3 hown hG.1 hP hD hS 0 rfl rfl 0 (by decide) hf9 (fun _ h9 => h9) rfl hin rfl (by decide +kernel) rfl rfl (Nat.le_of_ble_eq_true rfl) dX3_init_9 (fun H locs hP hD hS => ?_)
  have hP : va_P G.1 vwCl [(q, .inr (3, [.ref q7, .int (nI 0)])), (q7, .inl (G.2.2.1, 100, .inl (fun _ => 0)))] H := hP
  have hD : va_D (zAN q sz) [(q, .inr (3, [.ref q7, .int (nI 0)])), (q7, .inl (G.2.2.1, 100, .inl (fun _ => 0)))] := hD
  refine lv_aload_n hx hb dX3_init_12 rfl (lv_at hl 0 rfl) ?_
  refine lv_iconst (v := nI 0) hx hb dX3_init_13 (by decide) ?_
  refine va_put (D := G.1) (ci := 3) (v := .int (nI 0)) (ty := .int) (C := RX3) (T := TX3) (N := 2) hx hb hts hinX3 tyX3 tyX3_ok nmX3 hown hG.1 hP hD hS 0 rfl rfl 1 (by decide) hf15 (fun _ h9 => h9) rfl (by decide +kernel) rfl rfl (Nat.le_of_ble_eq_true rfl) dX3_init_14 (fun H locs hP hD hS => ?_)
  have hP : va_P G.1 vwCl [(q, .inr (3, [.ref q7, .int (nI 0)])), (q7, .inl (G.2.2.1, 100, .inl (fun _ => 0)))] H := hP
  have hD : va_D (zAN q sz) [(q, .inr (3, [.ref q7, .int (nI 0)])), (q7, .inl (G.2.2.1, 100, .inl (fun _ => 0)))] := hD
  exact hret _ _ _ _ dX3_init_17 hS ⟨(fun i => ([q, q7] : List Nat).getD i 0), rfl, hP, hD⟩
