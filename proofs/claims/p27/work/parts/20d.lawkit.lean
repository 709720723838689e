/-! rows of the layer that the law wants: longs that are answered, the law's rows beside the class's world, the script -/
theorem zmkL {l : Launch} {y : MethodName} {ws ws' : List Cond} {f n : Nat} {G : zG} {av : List Value} {P : Heap → Prop} {v : Int64} {cc : ByteArray} {maxL : Nat}
    (hy : plainName y.cls = true) (hw : ws = Cond.code y cc maxL (some .long) :: ws') (hn : (lg_sl av).length ≤ maxL)
    (body : ∀ (p : Program) (e : Env) (s : State) (m : MethodId) (args : Array Value) (below : List Frame) (meth : Method) (c : Code) (ls : Array Slot) (Q : State → Prop), p.tables.exec = Jvm.exec → c.code = cc → c.maxLocals = maxL → s.vm.findClass y.cls = some m.cls → (∀ w ∈ ws, w.before args s = true) → zK G s → P s.heap → lv_has ls maxL (lv_args 0 av) →
      (∀ (pc : Nat) (ls : Array Slot) (x : Int64), decode cc pc = .ok (.lreturn, 1) → x = v → W p l e (zRm f n) s m args below meth c s.heap [] 0 0 Q (F0 m pc ls [.long x])) →
      W p l e (zRm f n) s m args below meth c s.heap [] 0 0 Q (F0 m 0 ls [])) : Met l y ws (zRm f n) (zPc G av P) (zS (.long v)) 0 0 (fun _ => False) := by
  refine zofW hy hw hn ?_
  intro p e s m below meth c ls hx hb hr hml hown hts hlk _ hG hP hl
  refine body p e s m av.toArray below meth c ls _ hx hb hml hown hts hG hP hl fun pc ls x hd hv => ?_
  subst hv
  exact W.lret hx hb hr (fun t ht _ => ⟨rfl, ht⟩) (fun q h => by cases h) hd
section ZWL
variable {p : Program} {l : Launch} {e : Env} {R : Room} {s : State} {m : MethodId} {args : Array Value} {below : List Frame} {meth : Method} {c : Code} {H : Heap} {locs : List Loc} {cells slots : Nat} {Q : State → Prop} {pc : Nat} {ls : Array Slot} {rest st0 : List Value} {G : zG} {A0 : Nat → Prop} {H0 : Heap} {a : Array Value} {v : Value} {wc wc' w1 w2 : va_W}
theorem zwrL (hr : va_Run p l e R s m args below meth c H locs cells slots 0 0 (F0 m pc ls st0) rest (zQ (zA wc) (some v) (va_P G.1 vwCl wc') a) (zA wc)) (hP : va_P G.1 vwCl (wc ++ w2) H) (hD : va_D A0 (wc ++ w2)) (hS : va_S A0 H0 H locs) (he : wc'.map (·.1) = wc.map (·.1))
    (kk : ∀ (H1 : Heap) (locs1 : List Loc), va_P G.1 vwCl (wc' ++ w2) H1 → va_D A0 (wc' ++ w2) → va_S A0 H0 H1 locs1 → W p l e R s m args below meth c H1 locs1 cells slots Q (F0 m (pc + 3) ls (v :: rest))) : W p l e R s m args below meth c H locs cells slots Q (F0 m pc ls st0) :=
  zwrM (w1 := []) hr hP hD hS he kk
theorem zwrLv (hr : va_Run p l e R s m args below meth c H locs cells slots 0 0 (F0 m pc ls st0) rest (zQ (zA wc) none (va_P G.1 vwCl wc') a) (zA wc)) (hP : va_P G.1 vwCl (wc ++ w2) H) (hD : va_D A0 (wc ++ w2)) (hS : va_S A0 H0 H locs) (he : wc'.map (·.1) = wc.map (·.1))
    (kk : ∀ (H1 : Heap) (locs1 : List Loc), va_P G.1 vwCl (wc' ++ w2) H1 → va_D A0 (wc' ++ w2) → va_S A0 H0 H1 locs1 → W p l e R s m args below meth c H1 locs1 cells slots Q (F0 m (pc + 3) ls rest)) : W p l e R s m args below meth c H locs cells slots Q (F0 m pc ls st0) :=
  zwrMv (w1 := []) hr hP hD hS he kk
theorem zwrR (hr : va_Run p l e R s m args below meth c H locs cells slots 0 0 (F0 m pc ls st0) rest (zQ (zA wc) (some v) (va_P G.1 vwCl wc') a) (zA wc)) (hP : va_P G.1 vwCl (w1 ++ wc) H) (hD : va_D A0 (w1 ++ wc)) (hS : va_S A0 H0 H locs) (he : wc'.map (·.1) = wc.map (·.1))
    (kk : ∀ (H1 : Heap) (locs1 : List Loc), va_P G.1 vwCl (w1 ++ wc') H1 → va_D A0 (w1 ++ wc') → va_S A0 H0 H1 locs1 → W p l e R s m args below meth c H1 locs1 cells slots Q (F0 m (pc + 3) ls (v :: rest))) : W p l e R s m args below meth c H locs cells slots Q (F0 m pc ls st0) := by
  have e1 : w1 ++ (wc ++ []) = w1 ++ wc := by rw [List.append_nil]
  have e2 : w1 ++ (wc' ++ []) = w1 ++ wc' := by rw [List.append_nil]
  refine zwrM (w1 := w1) (w2 := []) hr (by rw [e1]; exact hP) (by rw [e1]; exact hD) hS he fun H1 locs1 h1 h2 h3 => ?_
  rw [e2] at h1 h2
  exact kk H1 locs1 h1 h2 h3
end ZWL
/-- bits of numbers -/
theorem zi_and (a b : Nat) : nI a &&& nI b = nI (a &&& b) := by
  apply Int32.toBitVec_inj.1
  show BitVec.ofNat 32 a &&& BitVec.ofNat 32 b = BitVec.ofNat 32 (a &&& b)
  apply BitVec.eq_of_getLsbD_eq
  intro i hi
  simp [hi]
theorem zi_or (a b : Nat) : nI a ||| nI b = nI (a ||| b) := by
  apply Int32.toBitVec_inj.1
  show BitVec.ofNat 32 a ||| BitVec.ofNat 32 b = BitVec.ofNat 32 (a ||| b)
  apply BitVec.eq_of_getLsbD_eq
  intro i hi
  simp [hi]
theorem trp_or (σ : Nat → Nat) {e : Nat} (he : e < 7) : nI (trp σ e) ||| nI (if bd σ e then 2 ^ e else 0) = nI (trp σ (e + 1)) := by
  have h : trp σ (e + 1) = trp σ e + (if bd σ e then 2 ^ e else 0) := rfl
  rw [zi_or, h]
  congr 1
  by_cases q : bd σ e
  · rw [if_pos q]
    exact b_or0 e he _ (trp_lt σ e)
  · rw [if_neg q]
    exact Nat.or_zero _
theorem bS_or (σ : Nat → Nat) (U e : Nat) : nI U ||| nI (if agn σ e = 1 ∧ U &&& bB σ e ≠ 0 then bB σ e else 0) = nI (bS σ U e) := by
  rw [zi_or]
  unfold bS
  by_cases q : agn σ e = 1 ∧ U &&& bB σ e ≠ 0
  · rw [if_pos q, if_pos q]
  · rw [if_neg q, if_neg q, Nat.or_zero]
theorem bgn_sg (c r g t k d p : Nat) (hd : d < 4) (hp : p < 10) : sgn (bgn c r g t) k d p = 10 := by
  have h : 10 * d + p < 40 := by omega
  unfold sgn
  generalize 10 * d + p = y at h ⊢
  unfold bgn
  rw [if_neg (by omega), if_neg (by omega), if_neg (by omega), if_neg (by omega), if_neg (by omega), if_pos (by omega)]
theorem bgn_mn (c r g t k y : Nat) (hy : y < 10) : mng (bgn c r g t) k y = y := by
  unfold mng bgn
  rw [if_neg (by omega), if_neg (by omega), if_neg (by omega), if_neg (by omega), if_neg (by omega), if_neg (by omega), if_pos (by omega)]
  omega
theorem bgn_aN (c r g t k d : Nat) (hd : d < 4) : aN (bgn c r g t) k d = 11 ^ 10 - 1 := by
  have h : aN (bgn c r g t) k d = sm (fun p => 10 * 11 ^ p) 10 := sm_congr fun p hp => by
    show sgn (bgn c r g t) k d p * 11 ^ p = 10 * 11 ^ p
    rw [bgn_sg c r g t k d p hd hp]
  rw [h]
  decide +kernel
theorem bgn_bN (c r g t k : Nat) : bN (bgn c r g t) k = 9876543210 := by
  have h : bN (bgn c r g t) k = sm (fun p => p * 10 ^ p) 10 := sm_congr fun p hp => by
    show mng (bgn c r g t) k p * 10 ^ p = p * 10 ^ p
    rw [bgn_mn c r g t k p hp]
  rw [h]
  decide +kernel
theorem bgn_agM (c r g t : Nat) : agM (bgn c r g t) = 0 := sm_zero.mpr fun e he => by
  show agn (bgn c r g t) e * 2 ^ e = 0
  have h : agn (bgn c r g t) e = 0 := by
    unfold agn bgn
    rw [if_neg (by omega), if_neg (by omega), if_neg (by omega), if_neg (by omega), if_pos (by omega)]
  rw [h, Nat.zero_mul]
theorem bgn_g {c r g t : Nat} {f : Nat → Int32} (h2 : f 2 = nI g) (h3 : f 3 = nI t) : ∀ j, j < 5 → upd (upd (upd f 0 (nI c)) 1 (nI r)) 4 (nI 0) j = gF (bgn c r g t) j := fun j hj => by
  rcases (show j = 0 ∨ j = 1 ∨ j = 2 ∨ j = 3 ∨ j = 4 by omega) with rfl | rfl | rfl | rfl | rfl
  · rfl
  · rfl
  · exact h2
  · exact h3
  · show nI 0 = nI (agM (bgn c r g t))
    rw [bgn_agM]
theorem bgn_r {c r g t : Nat} {m2 : Nat → Int32} (h : ∀ j, j < 6 → m2 j = nI 0 ∧ m2 (6 + j) = (-4) ∧ m2 (12 + j) = nI 1000) : ∀ j, j < 18 → m2 j = rF (bgn c r g t) j := fun j hj => by
  unfold rF
  by_cases q : j < 6
  · rw [if_pos q, (h j q).1]
    congr 1
    unfold rvn bgn
    rw [if_neg (by omega), if_neg (by omega), if_neg (by omega), if_neg (by omega), if_neg (by omega), if_neg (by omega), if_neg (by omega), if_pos (by omega)]
  · rw [if_neg q]
    by_cases q2 : j < 12
    · have hj6 := (h (j - 6) (by omega)).2.1
      rw [show 6 + (j - 6) = j by omega] at hj6
      have hp : pbn (bgn c r g t) (j - 6) = 0 := by
        unfold pbn bgn
        rw [if_neg (by omega), if_neg (by omega), if_neg (by omega), if_neg (by omega), if_neg (by omega), if_neg (by omega), if_neg (by omega), if_pos (by omega)]
      rw [if_pos q2, hj6, hp]
      rfl
    · have hj6 := (h (j - 12) (by omega)).2.2
      rw [show 12 + (j - 12) = j by omega] at hj6
      rw [if_neg q2, hj6]
      congr 1
      unfold scn bgn
      rw [if_neg (by omega), if_neg (by omega), if_neg (by omega), if_neg (by omega), if_neg (by omega), if_neg (by omega), if_neg (by omega), if_neg (by omega)]
theorem bgn_st {m2 : Nat → Int32} {i : Nat} (h : ∀ j, j < 6 → j < i → m2 j = nI 0 ∧ m2 (6 + j) = (-4) ∧ m2 (12 + j) = nI 1000) : ∀ j, j < 6 → j < i + 1 → upd (upd (upd m2 (i % 6) (nI 0)) (6 + i % 6) (-4)) (12 + i % 6) (nI 1000) j = nI 0 ∧ upd (upd (upd m2 (i % 6) (nI 0)) (6 + i % 6) (-4)) (12 + i % 6) (nI 1000) (6 + j) = (-4) ∧ upd (upd (upd m2 (i % 6) (nI 0)) (6 + i % 6) (-4)) (12 + i % 6) (nI 1000) (12 + j) = nI 1000 := fun j hj hi => by
  have hm := Nat.mod_lt i (show 0 < 6 by omega)
  unfold upd
  rw [if_neg (show ¬ j = 12 + i % 6 by omega), if_neg (show ¬ j = 6 + i % 6 by omega), if_neg (show ¬ 6 + j = 12 + i % 6 by omega)]
  by_cases q : j = i % 6
  · rw [if_pos q, if_pos (show 6 + j = 6 + i % 6 by omega), if_pos (show 12 + j = 12 + i % 6 by omega)]
    exact ⟨rfl, rfl, rfl⟩
  · have := h j hj (by omega)
    rw [if_neg q, if_neg (show ¬ 6 + j = 6 + i % 6 by omega), if_neg (show ¬ 6 + j = i % 6 by omega), if_neg (show ¬ 12 + j = 12 + i % 6 by omega), if_neg (show ¬ 12 + j = 6 + i % 6 by omega), if_neg (show ¬ 12 + j = i % 6 by omega)]
    exact this
/-- a number out of an int, as the law cuts it -/
def lowN (x : Int32) (n : Nat) : Nat := x.toBitVec.toNat % 2147483648 % n
def scl (xs : Nat → Int32) (L k : Nat) : Int32 := if k < L then xs k else nI (40503 * (k + 3))
def zPcX (G : zG) (av : List Value) (b L : Nat) (xs : Nat → Int32) : Array Value → State → Prop := va_Pc av (fun U => zK G U ∧ b < U.heap.size ∧ va_X b L xs U U.heap)
theorem zPcX.blind {G : zG} {av : List Value} {b L : Nat} {xs : Nat → Int32} : FrameBlind (zPcX G av b L xs) := by
  intro a U g mk h
  obtain ⟨h1, h2, h3, h4⟩ := h
  exact ⟨h1, ⟨va_K.moved (u := U) (U := U.calling g mk a) (Vm.Alike.refl U.vm) h2.1, h2.2.same rfl⟩, h3, va_X.moved (u := U) (U := U.calling g mk a) (Vm.Alike.refl U.vm) h4⟩
theorem zPreX {G : zG} {av : List Value} {b L : Nat} {xs : Nat → Int32} {s : State} {H : Heap} (hG : zK G s) (hb : b < H.size) (hX : va_X b L xs s H) : PreS s H (zPcX G av b L xs) av :=
  ⟨zPcX.blind, fun U hU hW => ⟨rfl, hG.warm hW, by rw [hU]; exact hb, by rw [hU]; exact va_X.moved hW.alike hX⟩⟩
set_option maxHeartbeats 4000000 in
theorem kL_cell (l : Launch) (G : zG) (b L : Nat) (xs : Nat → Int32) (k : Nat) (hL : L < 2 ^ 31) (hk : k < 1000) : Met l yL_cell wsL_cell (zRm 0 0) (zPcX G [.ref b, .int (nI k)] b L xs) (zS (.int (scl xs L k))) 0 0 (fun _ => False) := by
  refine Met.ofW (cc := cL_cell) (maxL := 2) (ret := some .int) (by decide) rfl ?_
  intro p e s m args below meth c s₁ B hml hv
  obtain ⟨rfl, hG, hbl, hX⟩ := hv
  rw [lg_entry_eq]
  have hx := B.exec
  have hb := B.bytes
  have hr := B.returns
  have hlk := B.notSynchronized
  have hown : s.vm.findClass RL = some m.cls := findClass_of_methodNamed B.named
  have hts := atoms_spec (ws := wsL_cell) B.pre
  have hS : va_S (fun _ => False) s.heap s.heap [] := va_S.rf
  have hc7 := hts (.constant RL 7 (40503)) (List.mem_cons_of_mem _ List.mem_cons_self)
  have hl : lv_has _ 2 [(0, .ref b), (1, .int (nI k))] := lv_entry ([.ref b, .int (nI k)]) (n := 2) (Nat.le_of_ble_eq_true rfl)
  generalize (lg_sl ([.ref b, .int (nI k)]) ++ List.replicate (2 - (lg_sl ([.ref b, .int (nI k)])).length) Slot.unset).toArray = ls at hl ⊢
  have hret : ∀ (pc : Nat) (ls : Array Slot) (x : Int32), decode cL_cell pc = .ok (.ireturn, 1) → x = scl xs L k → W p l e (headSpec wsL_cell (zRm 0 0)).room s m ([.ref b, .int (nI k)] : List Value).toArray below meth c s.heap [] 0 0 (MQ below (zS (.int (scl xs L k))) ([.ref b, .int (nI k)] : List Value).toArray s 0 0 (fun _ => False)) (F0 m pc ls [.int x]) := fun pc ls x hd hv => by
    subst hv
    exact W.iret hx hb hr (fun t ht _ => ⟨rfl, ht⟩) (fun q h => by cases h) hd
  refine lv_iload_n hx hb dL_cell_0 rfl (lv_at hl 1 rfl) ?_
  refine lv_aload_n hx hb dL_cell_1 rfl (lv_at hl 0 rfl) ?_
  refine va_slen hx hb hX hbl (fun h => h) hS dL_cell_2 ?_
  refine lv_icmp_ge (tgt := 12) hx hb dL_cell_3 (by decide) (fun h3 => ?_) (fun h3 => ?_)
  · have h3 : L ≤ k := (nI_leI hL (by omega)).mp h3
    refine lv_ldc hx hb hown hc7 dL_cell_12 ?_
    refine lv_topi (nm_r (e' := nI 40503) rfl ?_)
    refine lv_iload_n hx hb dL_cell_14 rfl (lv_at hl 1 rfl) ?_
    refine lv_iconst (v := nI 3) hx hb dL_cell_15 (by decide) ?_
    refine lv_iadd hx hb dL_cell_16 ?_
    refine lv_topi (nm_r (e' := nI (k + 3)) (nI_add _ _) ?_)
    refine lv_imul hx hb dL_cell_17 ?_
    refine lv_topi (nm_r (e' := nI (40503 * (k + 3))) (pk_mul _ _) ?_)
    exact hret _ _ _ dL_cell_18 (by unfold scl; rw [if_neg (by omega)])
  · have h3 : ¬ (L ≤ k) := fun q => h3 ((nI_leI hL (by omega)).mpr q)
    refine lv_aload_n hx hb dL_cell_6 rfl (lv_at hl 0 rfl) ?_
    refine lv_iload_n hx hb dL_cell_7 rfl (lv_at hl 1 rfl) ?_
    refine va_sld hx hb hX hbl (fun h => h) hS (nI_in (c := k) (N := L) (by omega) (by omega)) dL_cell_8 ?_
    refine lv_topi (nm_r (e' := xs k) (by rw [nI_clamp (by omega)]) ?_)
    refine lv_goto (tgt := 18) hx hb dL_cell_9 (by decide) ?_
    exact hret _ _ _ dL_cell_18 (by unfold scl; rw [if_pos (by omega)])
