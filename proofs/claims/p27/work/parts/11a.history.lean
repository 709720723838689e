/-! the history as cells, and calls on two pieces of a world -/
def wTs (G : zG) (ha : Nat → Nat → Nat) (T : Nat → Nat → Nat) : Nat → va_W
  | 0 => []
  | n + 1 => wTs G ha T n ++ wA G (ha n) (T n)
def upT (T : Nat → Nat → Nat) (i : Nat) (τ : Nat → Nat) : Nat → Nat → Nat := fun j => if j = i then τ else T j
theorem upT_at (T : Nat → Nat → Nat) (i : Nat) (τ : Nat → Nat) : upT T i τ i = τ := if_pos rfl
theorem upT_ne (T : Nat → Nat → Nat) {i j : Nat} (τ : Nat → Nat) (h : j ≠ i) : upT T i τ j = T j := if_neg h
theorem wTs_congr {G : zG} {ha : Nat → Nat → Nat} {T T' : Nat → Nat → Nat} {m : Nat} (h : ∀ j, j < m → T j = T' j) : wTs G ha T m = wTs G ha T' m := by
  induction m with
  | zero => rfl
  | succ m ih => rw [wTs, wTs, ih (fun j hj => h j (by omega)), h m (by omega)]
theorem wTs_at (G : zG) (ha : Nat → Nat → Nat) (T : Nat → Nat → Nat) {i m : Nat} (hi : i < m) : ∃ w1 w2, wTs G ha T m = w1 ++ (wA G (ha i) (T i) ++ w2) ∧ ∀ τ, wTs G ha (upT T i τ) m = w1 ++ (wA G (ha i) τ ++ w2) := by
  induction m with
  | zero => omega
  | succ m ih =>
    by_cases q : i = m
    · subst q
      refine ⟨wTs G ha T i, [], by rw [wTs, List.append_nil], fun τ => ?_⟩
      rw [wTs, upT_at, List.append_nil, wTs_congr (T := upT T i τ) (T' := T) (fun j hj => upT_ne T τ (by omega))]
    · obtain ⟨w1, w2, h1, h2⟩ := ih (by omega)
      refine ⟨w1, w2 ++ wA G (ha m) (T m), by rw [wTs, h1, List.append_assoc, List.append_assoc], fun τ => ?_⟩
      rw [wTs, h2, upT_ne T τ (fun z => q z.symm), List.append_assoc, List.append_assoc]
def wHo (G : zG) (h : Nat → Nat) (ha : Nat → Nat → Nat) (o n : Nat) : va_W :=
  [(h 0, .inr (2, [.ref (h 1), .int (nI o), .int (nI n)])), (h 1, .inl (G.2.2.2.1, 5, .inr (.inr (.inr (.inr (fun i => some (ha i 0)))))))]
theorem zA_app {u v : va_W} {q : Nat} : zA (u ++ v) q ↔ zA u q ∨ zA v q := by
  unfold zA
  rw [List.map_append, List.mem_append]
section ZL2
variable {p : Program} {l : Launch} {e : Env} {R : Room} {s : State} {m : MethodId} {args : Array Value} {below : List Frame} {meth : Method} {c : Code} {H : Heap} {locs : List Loc} {cells slots : Nat} {Q : State → Prop}
variable {pc : Nat} {ls : Array Slot} {rest : List Value} {cc : ByteArray} {G : zG} {st0 : List Value} {A0 : Nat → Prop} {H0 : Heap}
theorem zP_two {w1 wc wc' w2 wd wd' w3 : va_W} {H1 : Heap} (hP : va_P G.1 vwCl (w1 ++ (wc ++ (w2 ++ (wd ++ w3)))) H) (hD : va_D A0 (w1 ++ (wc ++ (w2 ++ (wd ++ w3))))) (hk : ∀ q : Nat, q < H.size → ¬ (zA wc q ∨ zA wd q) → H1[q]? = H[q]?) (h1 : va_P G.1 vwCl wc' H1) (h2 : va_P G.1 vwCl wd' H1) : va_P G.1 vwCl (w1 ++ (wc' ++ (w2 ++ (wd' ++ w3)))) H1 := by
  have d1 := zD_r hD
  have d2 := zD_r d1
  have d3 := zD_r d2
  refine va_P.app (zP_kept (A1 := fun q => zA wc q ∨ zA wd q) (zP_l hP) hk fun q a b => ?_) (va_P.app h1 (va_P.app (zP_kept (A1 := fun q => zA wc q ∨ zA wd q) (zP_l (zP_r (zP_r hP))) hk fun q a b => ?_) (va_P.app h2 (zP_kept (A1 := fun q => zA wc q ∨ zA wd q) (zP_r (zP_r (zP_r (zP_r hP)))) hk fun q a b => ?_))))
  · rcases b with b | b
    · exact zD_ne hD a (zA_app.mpr (Or.inl b))
    · exact zD_ne hD a (zA_app.mpr (Or.inr (zA_app.mpr (Or.inr (zA_app.mpr (Or.inl b))))))
  · rcases b with b | b
    · exact zD_ne d1 b (zA_app.mpr (Or.inl a))
    · exact zD_ne d2 a (zA_app.mpr (Or.inl b))
  · rcases b with b | b
    · exact zD_ne d1 b (zA_app.mpr (Or.inr (zA_app.mpr (Or.inr a))))
    · exact zD_ne d3 b a
theorem zD_two {w1 wc wc' w2 wd wd' w3 : va_W} (he : wc'.map (·.1) = wc.map (·.1)) (he2 : wd'.map (·.1) = wd.map (·.1)) (hD : va_D A0 (w1 ++ (wc ++ (w2 ++ (wd ++ w3))))) : va_D A0 (w1 ++ (wc' ++ (w2 ++ (wd' ++ w3)))) :=
  zD_map (by simp only [List.map_append, he, he2]) hD
theorem zA_two {w1 wc w2 wd w3 : va_W} (hD : va_D A0 (w1 ++ (wc ++ (w2 ++ (wd ++ w3))))) : ∀ q, (zA wc q ∨ zA wd q) → A0 q := by
  intro q h
  rcases h with h | h
  · exact zA_D hD q h
  · exact zA_D (w1 := w2) (zD_r (zD_r hD)) q h
/-- two pieces, the callee has the first of the world first -/
theorem zwrTv {a : Array Value} {ws ws' w1 wc wc' w2 wd wd' w3 : va_W} (hr : va_Run p l e R s m args below meth c H locs cells slots 0 0 (F0 m pc ls st0) rest (zQ (zA (wc ++ wd)) none (va_P G.1 vwCl (wc' ++ wd')) a) (zA (wc ++ wd))) (e1 : ws = w1 ++ (wc ++ (w2 ++ (wd ++ w3)))) (e2 : ws' = w1 ++ (wc' ++ (w2 ++ (wd' ++ w3)))) (hP : va_P G.1 vwCl ws H) (hD : va_D A0 ws) (hS : va_S A0 H0 H locs) (he : wc'.map (·.1) = wc.map (·.1)) (he2 : wd'.map (·.1) = wd.map (·.1))
    (kk : ∀ (H1 : Heap) (locs1 : List Loc), va_P G.1 vwCl ws' H1 → va_D A0 ws' → va_S A0 H0 H1 locs1 → W p l e R s m args below meth c H1 locs1 cells slots Q (F0 m (pc + 3) ls rest)) : W p l e R s m args below meth c H locs cells slots Q (F0 m pc ls st0) := by
  subst e1; subst e2
  exact zwr hr hS (fun q _ h => zA_two hD q (zA_app.mp h)) (fun q h => zA_two hD q (zA_app.mp h)) fun H1 locs1 hB _ hk hS1 => kk H1 locs1 (zP_two hP hD (fun q h1 h2 => hk q h1 (fun z => h2 (zA_app.mp z))) (zP_l hB) (zP_r hB)) (zD_two he he2 hD) hS1
theorem zwrT {a : Array Value} {v : Value} {ws ws' w1 wc wc' w2 wd wd' w3 : va_W} (hr : va_Run p l e R s m args below meth c H locs cells slots 0 0 (F0 m pc ls st0) rest (zQ (zA (wc ++ wd)) (some v) (va_P G.1 vwCl (wc' ++ wd')) a) (zA (wc ++ wd))) (e1 : ws = w1 ++ (wc ++ (w2 ++ (wd ++ w3)))) (e2 : ws' = w1 ++ (wc' ++ (w2 ++ (wd' ++ w3)))) (hP : va_P G.1 vwCl ws H) (hD : va_D A0 ws) (hS : va_S A0 H0 H locs) (he : wc'.map (·.1) = wc.map (·.1)) (he2 : wd'.map (·.1) = wd.map (·.1))
    (kk : ∀ (H1 : Heap) (locs1 : List Loc), va_P G.1 vwCl ws' H1 → va_D A0 ws' → va_S A0 H0 H1 locs1 → W p l e R s m args below meth c H1 locs1 cells slots Q (F0 m (pc + 3) ls (v :: rest))) : W p l e R s m args below meth c H locs cells slots Q (F0 m pc ls st0) := by
  subst e1; subst e2
  exact zwr hr hS (fun q _ h => zA_two hD q (zA_app.mp h)) (fun q h => zA_two hD q (zA_app.mp h)) fun H1 locs1 hB _ hk hS1 => kk H1 locs1 (zP_two hP hD (fun q h1 h2 => hk q h1 (fun z => h2 (zA_app.mp z))) (zP_l hB) (zP_r hB)) (zD_two he he2 hD) hS1
/-- two pieces, the callee has the second of the world first -/
theorem zwrUv {a : Array Value} {ws ws' w1 wc wc' w2 wd wd' w3 : va_W} (hr : va_Run p l e R s m args below meth c H locs cells slots 0 0 (F0 m pc ls st0) rest (zQ (zA (wd ++ wc)) none (va_P G.1 vwCl (wd' ++ wc')) a) (zA (wd ++ wc))) (e1 : ws = w1 ++ (wc ++ (w2 ++ (wd ++ w3)))) (e2 : ws' = w1 ++ (wc' ++ (w2 ++ (wd' ++ w3)))) (hP : va_P G.1 vwCl ws H) (hD : va_D A0 ws) (hS : va_S A0 H0 H locs) (he : wc'.map (·.1) = wc.map (·.1)) (he2 : wd'.map (·.1) = wd.map (·.1))
    (kk : ∀ (H1 : Heap) (locs1 : List Loc), va_P G.1 vwCl ws' H1 → va_D A0 ws' → va_S A0 H0 H1 locs1 → W p l e R s m args below meth c H1 locs1 cells slots Q (F0 m (pc + 3) ls rest)) : W p l e R s m args below meth c H locs cells slots Q (F0 m pc ls st0) := by
  subst e1; subst e2
  exact zwr hr hS (fun q _ h => zA_two hD q (zA_app.mp h).symm) (fun q h => zA_two hD q (zA_app.mp h).symm) fun H1 locs1 hB _ hk hS1 => kk H1 locs1 (zP_two hP hD (fun q h1 h2 => hk q h1 (fun z => h2 (zA_app.mp z).symm)) (zP_r hB) (zP_l hB)) (zD_two he he2 hD) hS1
/-- one piece, the world's cut given by equations -/
theorem zwrEv {a : Array Value} {ws ws' w1 wc wc' w2 : va_W} (hr : va_Run p l e R s m args below meth c H locs cells slots 0 0 (F0 m pc ls st0) rest (zQ (zA wc) none (va_P G.1 vwCl wc') a) (zA wc)) (e1 : ws = w1 ++ (wc ++ w2)) (e2 : ws' = w1 ++ (wc' ++ w2)) (hP : va_P G.1 vwCl ws H) (hD : va_D A0 ws) (hS : va_S A0 H0 H locs) (he : wc'.map (·.1) = wc.map (·.1))
    (kk : ∀ (H1 : Heap) (locs1 : List Loc), va_P G.1 vwCl ws' H1 → va_D A0 ws' → va_S A0 H0 H1 locs1 → W p l e R s m args below meth c H1 locs1 cells slots Q (F0 m (pc + 3) ls rest)) : W p l e R s m args below meth c H locs cells slots Q (F0 m pc ls st0) := by
  subst e1; subst e2
  exact zwrMv hr hP hD hS he kk
theorem zwrE {a : Array Value} {v : Value} {ws ws' w1 wc wc' w2 : va_W} (hr : va_Run p l e R s m args below meth c H locs cells slots 0 0 (F0 m pc ls st0) rest (zQ (zA wc) (some v) (va_P G.1 vwCl wc') a) (zA wc)) (e1 : ws = w1 ++ (wc ++ w2)) (e2 : ws' = w1 ++ (wc' ++ w2)) (hP : va_P G.1 vwCl ws H) (hD : va_D A0 ws) (hS : va_S A0 H0 H locs) (he : wc'.map (·.1) = wc.map (·.1))
    (kk : ∀ (H1 : Heap) (locs1 : List Loc), va_P G.1 vwCl ws' H1 → va_D A0 ws' → va_S A0 H0 H1 locs1 → W p l e R s m args below meth c H1 locs1 cells slots Q (F0 m (pc + 3) ls (v :: rest))) : W p l e R s m args below meth c H locs cells slots Q (F0 m pc ls st0) := by
  subst e1; subst e2
  exact zwrM hr hP hD hS he kk
/-- one piece, the end said by B -/
theorem zwrEB {a : Array Value} {v : Value} {ws w1 wc w2 : va_W} {B : Heap → Prop} (hr : va_Run p l e R s m args below meth c H locs cells slots 0 0 (F0 m pc ls st0) rest (zQ (zA wc) (some v) B a) (zA wc)) (e1 : ws = w1 ++ (wc ++ w2)) (hP : va_P G.1 vwCl ws H) (hD : va_D A0 ws) (hS : va_S A0 H0 H locs)
    (kk : ∀ (H1 : Heap) (locs1 : List Loc), B H1 → (∀ wc' : va_W, va_P G.1 vwCl wc' H1 → wc'.map (·.1) = wc.map (·.1) → va_P G.1 vwCl (w1 ++ (wc' ++ w2)) H1 ∧ va_D A0 (w1 ++ (wc' ++ w2))) → va_S A0 H0 H1 locs1 → W p l e R s m args below meth c H1 locs1 cells slots Q (F0 m (pc + 3) ls (v :: rest))) : W p l e R s m args below meth c H locs cells slots Q (F0 m pc ls st0) := by
  subst e1
  exact zwr hr hS (fun q _ h => zA_D hD q h) (zA_D hD) fun H1 locs1 hB _ hk hS1 => kk H1 locs1 hB (fun wc' h1 h2 => ⟨zP_mid hP hD hk h1, zD_mid h2 hD⟩) hS1
end ZL2
set_option maxHeartbeats 4000000 in
set_option maxRecDepth 100000 in
theorem kX2_stateCount (l : Launch) (G : zG) (h : Nat → Nat) (ha : Nat → Nat → Nat) (o n : Nat)   : Met l yX2_stateCount wsX2_stateCount (zRm 0 0) (zPc G [.ref (h 0)] (va_P G.1 vwCl (wHo G h ha o n))) (zS (.int (nI n))) 0 0 (fun _ => False) := by
  refine zmkI (cc := cX2_stateCount) (maxL := 1) (by decide) rfl (Nat.le_of_ble_eq_true rfl) ?_
  intro pr en st mi ar bl me cd ls Q hx hb hml hown hts hG hP hl hret
  have hown : st.vm.findClass RX2 = some mi.cls := hown
  have hl : lv_has ls 1 [(0, .ref (h 0))] := hl
  have hP : va_P G.1 vwCl (wHo G h ha o n) st.heap := hP
  have hinX2 : ∀ w ∈ wsX20, w ∈ wsX2_stateCount := by decide +kernel
  have hf21 := hts (.fieldLink RX2 21 "MapSheets$History" "size" "I") (by decide +kernel)
  refine lv_aload_n hx hb dX2_stateCount_0 rfl (lv_at hl 0 rfl) ?_
  refine va_get (D := G.1) (ci := 2) (v := .int (nI n)) (C := RX2) (T := TX2) (N := 3) hx hb hts hinX2 hown hG.1 hP 0 rfl rfl 2 (by decide) hf21 (fun _ h9 => h9) rfl dX2_stateCount_1 ?_
  exact hret _ _ _ dX2_stateCount_4 (congrArg nI (rfl))
set_option maxHeartbeats 4000000 in
set_option maxRecDepth 100000 in
theorem kX2_stateAt (l : Launch) (G : zG) (h : Nat → Nat) (ha : Nat → Nat → Nat) (o n : Nat) (g : Nat) (ho : o < 5) (hg : g ≤ 4) : Met l yX2_stateAt wsX2_stateAt (zRm 0 0) (zPc G [.ref (h 0), .int (nI g)] (va_P G.1 vwCl (wHo G h ha o n))) (zS (.ref (ha ((o + g) % 5) 0))) 0 0 (fun _ => False) := by
  refine zmkR (cc := cX2_stateAt) (maxL := 3) (by decide) rfl (Nat.le_of_ble_eq_true rfl) (Or.inl ⟨_, rfl⟩) ?_
  intro pr en st mi ar bl me cd ls Q hx hb hml hown hts hG hP hl hret
  have hown : st.vm.findClass RX2 = some mi.cls := hown
  have hl : lv_has ls 3 [(0, .ref (h 0)), (1, .int (nI g))] := hl
  have hP : va_P G.1 vwCl (wHo G h ha o n) st.heap := hP
  have hinX2 : ∀ w ∈ wsX20, w ∈ wsX2_stateAt := by decide +kernel
  have hf17 := hts (.fieldLink RX2 17 "MapSheets$History" "oldest" "I") (by decide +kernel)
  have hf13 := hts (.fieldLink RX2 13 "MapSheets$History" "states" "[LMapSheets$Atlas;") (by decide +kernel)
  refine lv_aload_n hx hb dX2_stateAt_0 rfl (lv_at hl 0 rfl) ?_
  refine va_get (D := G.1) (ci := 2) (v := .int (nI o)) (C := RX2) (T := TX2) (N := 3) hx hb hts hinX2 hown hG.1 hP 0 rfl rfl 1 (by decide) hf17 (fun _ h9 => h9) rfl dX2_stateAt_1 ?_
  refine lv_iload_n hx hb dX2_stateAt_4 rfl (lv_at hl 1 rfl) ?_
  refine lv_iadd hx hb dX2_stateAt_5 ?_
  refine lv_topi (nm_r (e' := nI (o + g)) (nI_add _ _) ?_)
  refine lv_iconst (v := nI 5) hx hb dX2_stateAt_6 (by decide) ?_
  refine lv_irem hx hb dX2_stateAt_7 (nI_ne0 (by omega) (by omega)) ?_
  refine lv_topi (nm_r (e' := nI ((o + g) % 5)) (pk_rem (by omega) (by omega) (by omega)) ?_)
  refine lv_istore_n (lv' := [(2, .int (nI ((o + g) % 5))), (0, .ref (h 0)), (1, .int (nI g))]) hx hb dX2_stateAt_8 rfl hl (by decide) rfl (fun ls hl => ?_)
  refine lv_iload_n hx hb dX2_stateAt_9 rfl (lv_at hl 0 rfl) ?_
  refine lv_if_lt (tgt := 31) hx hb dX2_stateAt_10 (by decide) (fun h10 => ?_) (fun h10 => ?_)
  · skip
    have h10 : False := (z_lt0 (by omega)).mp h10
    exfalso; omega
  · skip
    have h10 : ¬ (False) := fun q => h10 ((z_lt0 (by omega)).mpr q)
    refine lv_iload_n hx hb dX2_stateAt_13 rfl (lv_at hl 0 rfl) ?_
    refine lv_aload_n hx hb dX2_stateAt_14 rfl (lv_at hl 1 rfl) ?_
    refine va_get (D := G.1) (ci := 2) (v := .ref (h 1)) (C := RX2) (T := TX2) (N := 3) hx hb hts hinX2 hown hG.1 hP 0 rfl rfl 0 (by decide) hf13 (fun _ h9 => h9) rfl dX2_stateAt_15 ?_
    refine va_alen (v := nI 5) hx hb hG.1 hP 1 2 rfl rfl rfl dX2_stateAt_18 ?_
    refine lv_icmp_ge (tgt := 31) hx hb dX2_stateAt_19 (by decide) (fun h19 => ?_) (fun h19 => ?_)
    · skip
      have h19 : 5 ≤ ((o + g) % 5) := (nI_leI (by omega) (by omega)).mp h19
      exfalso; omega
    · skip
      have h19 : ¬ (5 ≤ ((o + g) % 5)) := fun q => h19 ((nI_leI (by omega) (by omega)).mpr q)
      refine lv_aload_n hx hb dX2_stateAt_22 rfl (lv_at hl 1 rfl) ?_
      refine va_get (D := G.1) (ci := 2) (v := .ref (h 1)) (C := RX2) (T := TX2) (N := 3) hx hb hts hinX2 hown hG.1 hP 0 rfl rfl 0 (by decide) hf13 (fun _ h9 => h9) rfl dX2_stateAt_23 ?_
      refine lv_iload_n hx hb dX2_stateAt_26 rfl (lv_at hl 0 rfl) ?_
      refine va_aldq hx hb hG.1 hP 1 2 rfl rfl (vp_in_nI (n := (o + g) % 5) (N := 5) (by omega) (by omega)) dX2_stateAt_27 ?_
      rw [nI_clamp (show (o + g) % 5 < 2 ^ 31 by omega)]
      refine lv_goto (tgt := 32) hx hb dX2_stateAt_28 (by decide) ?_
      exact hret _ _ _ dX2_stateAt_32 (rfl)
set_option maxHeartbeats 4000000 in
set_option maxRecDepth 100000 in
theorem kX2_keepRecord (l : Launch) (G : zG) (h : Nat → Nat) (ha : Nat → Nat → Nat) (o n : Nat)  (ho : o < 5) (hn : n ≤ 4) (hd : va_D (fun _ => True) (wHo G h ha o n)) : Met l yX2_keepRecord wsX2_keepRecord (zRm 0 0) (zPc G [.ref (h 0)] (va_P G.1 vwCl (wHo G h ha o n))) (zQ (zA (wHo G h ha o n)) none (va_P G.1 vwCl (wHo G h ha (if n < 4 then o else (o + 1) % 5) (if n < 4 then n + 1 else n)))) 0 0 (zA (wHo G h ha o n)) := by
  refine zmkWv (w := (wHo G h ha o n)) hd (cc := cX2_keepRecord) (maxL := 1) (by decide) rfl (Nat.le_of_ble_eq_true rfl) ?_
  intro pr en st mi ar bl me cd ls Q hx hb hml hown hts hG hP hl hD hS hret
  have hown : st.vm.findClass RX2 = some mi.cls := hown
  have hl : lv_has ls 1 [(0, .ref (h 0))] := hl
  have hP : va_P G.1 vwCl (wHo G h ha o n) st.heap := hP
  have hD : va_D (zA (wHo G h ha o n)) (wHo G h ha o n) := hD
  have hinX2 : ∀ w ∈ wsX20, w ∈ wsX2_keepRecord := by decide +kernel
  have hf21 := hts (.fieldLink RX2 21 "MapSheets$History" "size" "I") (by decide +kernel)
  have hf17 := hts (.fieldLink RX2 17 "MapSheets$History" "oldest" "I") (by decide +kernel)
  refine lv_aload_n hx hb dX2_keepRecord_0 rfl (lv_at hl 0 rfl) ?_
  refine va_get (D := G.1) (ci := 2) (v := .int (nI n)) (C := RX2) (T := TX2) (N := 3) hx hb hts hinX2 hown hG.1 hP 0 rfl rfl 2 (by decide) hf21 (fun _ h9 => h9) rfl dX2_keepRecord_1 ?_
  refine lv_iconst (v := nI 4) hx hb dX2_keepRecord_4 (by decide) ?_
  refine lv_icmp_ge (tgt := 21) hx hb dX2_keepRecord_5 (by decide) (fun h5 => ?_) (fun h5 => ?_)
  · skip
    have h5 : 4 ≤ n := (nI_leI (by omega) (by omega)).mp h5
    refine lv_aload_n hx hb dX2_keepRecord_21 rfl (lv_at hl 0 rfl) ?_
    refine lv_aload_n hx hb dX2_keepRecord_22 rfl (lv_at hl 0 rfl) ?_
    refine va_get (D := G.1) (ci := 2) (v := .int (nI o)) (C := RX2) (T := TX2) (N := 3) hx hb hts hinX2 hown hG.1 hP 0 rfl rfl 1 (by decide) hf17 (fun _ h9 => h9) rfl dX2_keepRecord_23 ?_
    refine lv_iconst (v := nI 1) hx hb dX2_keepRecord_26 (by decide) ?_
    refine lv_iadd hx hb dX2_keepRecord_27 ?_
    refine lv_topi (nm_r (e' := nI (o + 1)) (nI_add _ _) ?_)
    refine lv_iconst (v := nI 5) hx hb dX2_keepRecord_28 (by decide) ?_
    refine lv_irem hx hb dX2_keepRecord_29 (nI_ne0 (by omega) (by omega)) ?_
    refine lv_topi (nm_r (e' := nI ((o + 1) % 5)) (pk_rem (by omega) (by omega) (by omega)) ?_)
    refine va_put (D := G.1) (ci := 2) (v := .int (nI ((o + 1) % 5))) (ty := .int) (C := RX2) (T := TX2) (N := 3) hx hb hts hinX2 tyX2 tyX2_ok nmX2 hown hG.1 hP hD hS 0 rfl rfl 1 (by decide) hf17 (fun _ h9 => h9) rfl (by decide +kernel) rfl rfl (Nat.le_of_ble_eq_true rfl) dX2_keepRecord_30 (fun H locs hP hD hS => ?_)
    have hP : va_P G.1 vwCl (wHo G h ha ((o + 1) % 5) n) H := hP
    have hD : va_D (zA (wHo G h ha o n)) (wHo G h ha ((o + 1) % 5) n) := hD
    exact hret _ _ _ _ dX2_keepRecord_33 hS (by rw [if_neg (by omega), if_neg (by omega)]; exact hP)
  · skip
    have h5 : ¬ (4 ≤ n) := fun q => h5 ((nI_leI (by omega) (by omega)).mpr q)
    refine lv_aload_n hx hb dX2_keepRecord_8 rfl (lv_at hl 0 rfl) ?_
    refine lv_dup hx hb dX2_keepRecord_9 rfl ?_
    refine va_get (D := G.1) (ci := 2) (v := .int (nI n)) (C := RX2) (T := TX2) (N := 3) hx hb hts hinX2 hown hG.1 hP 0 rfl rfl 2 (by decide) hf21 (fun _ h9 => h9) rfl dX2_keepRecord_10 ?_
    refine lv_iconst (v := nI 1) hx hb dX2_keepRecord_13 (by decide) ?_
    refine lv_iadd hx hb dX2_keepRecord_14 ?_
    refine lv_topi (nm_r (e' := nI (n + 1)) (nI_add _ _) ?_)
    refine va_put (D := G.1) (ci := 2) (v := .int (nI (n + 1))) (ty := .int) (C := RX2) (T := TX2) (N := 3) hx hb hts hinX2 tyX2 tyX2_ok nmX2 hown hG.1 hP hD hS 0 rfl rfl 2 (by decide) hf21 (fun _ h9 => h9) rfl (by decide +kernel) rfl rfl (Nat.le_of_ble_eq_true rfl) dX2_keepRecord_15 (fun H locs hP hD hS => ?_)
    have hP : va_P G.1 vwCl (wHo G h ha o (n + 1)) H := hP
    have hD : va_D (zA (wHo G h ha o n)) (wHo G h ha o (n + 1)) := hD
    refine lv_goto (tgt := 33) hx hb dX2_keepRecord_18 (by decide) ?_
    exact hret _ _ _ _ dX2_keepRecord_33 hS (by rw [if_pos (by omega), if_pos (by omega)]; exact hP)
set_option maxHeartbeats 4000000 in
set_option maxRecDepth 100000 in
theorem kX2_recordState (l : Launch) (G : zG) (h : Nat → Nat) (ha : Nat → Nat → Nat) (o n : Nat) (T : Nat → Nat → Nat) (a σ : Nat → Nat) (ho : o < 5) (hn : n ≤ 4) (hd : va_D (fun _ => True) (wHo G h ha o n ++ (wTs G ha T 5 ++ wA G a σ))) : Met l yX2_recordState wsX2_recordState (zRm 3 82) (zPc G [.ref (h 0), .ref (a 0)] (va_P G.1 vwCl (wHo G h ha o n ++ (wTs G ha T 5 ++ wA G a σ)))) (zQ (zA (wHo G h ha o n ++ (wTs G ha T 5 ++ wA G a σ))) none (va_P G.1 vwCl (wHo G h ha o n ++ (wTs G ha (upT T ((o + n) % 5) σ) 5 ++ wA G a σ)))) 0 0 (zA (wHo G h ha o n ++ (wTs G ha T 5 ++ wA G a σ))) := by
  obtain ⟨w1, w2, hw1, hw2⟩ := wTs_at G ha T (show (o + n) % 5 < 5 by omega)
  refine zmkWv (w := (wHo G h ha o n ++ (wTs G ha T 5 ++ wA G a σ))) hd (cc := cX2_recordState) (maxL := 3) (by decide) rfl (Nat.le_of_ble_eq_true rfl) ?_
  intro pr en st mi ar bl me cd ls Q hx hb hml hown hts hG hP hl hD hS hret
  have hown : st.vm.findClass RX2 = some mi.cls := hown
  have hl : lv_has ls 3 [(0, .ref (h 0)), (1, .ref (a 0))] := hl
  have hP : va_P G.1 vwCl (wHo G h ha o n ++ (wTs G ha T 5 ++ wA G a σ)) st.heap := hP
  have hD : va_D (zA (wHo G h ha o n ++ (wTs G ha T 5 ++ wA G a σ))) (wHo G h ha o n ++ (wTs G ha T 5 ++ wA G a σ)) := hD
  have hinX2 : ∀ w ∈ wsX20, w ∈ wsX2_recordState := by decide +kernel
  have hf21 := hts (.fieldLink RX2 21 "MapSheets$History" "size" "I") (by decide +kernel)
  have hPP : ∀ {H : Heap}, va_P G.1 vwCl (wHo G h ha o n ++ (wTs G ha T 5 ++ wA G a σ)) H → va_P G.1 vwCl (wA G (ha ((o + n) % 5)) (T ((o + n) % 5)) ++ wA G a σ) H := fun hP => by rw [hw1] at hP; exact va_P.app (zP_m (zP_l (zP_r hP))) (zP_r (zP_r hP))
  have hDD : ∀ {A : Nat → Prop}, va_D A (wHo G h ha o n ++ (wTs G ha T 5 ++ wA G a σ)) → va_D A (wA G (ha ((o + n) % 5)) (T ((o + n) % 5)) ++ wA G a σ) := fun hD => by rw [hw1] at hD; have d := zD_r hD; rw [List.append_assoc, List.append_assoc] at d; exact (zD_l (zD_r d)).app (zD_r (zD_r (zD_r d))) (fun i j p q hi hj z => zD_ne (zD_r d) (zA_in hi) (zA_app.mpr (Or.inr (by rw [z]; exact zA_in hj))))
  refine lv_aload_n hx hb dX2_recordState_0 rfl (lv_at hl 0 rfl) ?_
  refine lv_aload_n hx hb dX2_recordState_1 rfl (lv_at hl 0 rfl) ?_
  refine va_get (D := G.1) (ci := 2) (v := .int (nI n)) (C := RX2) (T := TX2) (N := 3) hx hb hts hinX2 hown hG.1 hP 0 rfl rfl 2 (by decide) hf21 (fun _ h9 => h9) rfl dX2_recordState_2 ?_
  refine zrdV (As := [.int (nI n)]) ⟨hx, hb, hml, hown, hts⟩ (kX2_stateAt l G h ha o n n (by omega) (by omega)) (cwV 1 hts gX2_recordState_X2_stateAt rfl rfl rfl (by decide +kernel) ⟨Nat.le_of_ble_eq_true rfl, Nat.le_of_ble_eq_true rfl⟩) hG (va_recv (q0 := 0) (ci := 2) hG.1 (zP_l hP) rfl rfl) ((zP_l hP)) rfl rfl hl.1 dX2_recordState_5 (Nat.le_of_ble_eq_true rfl) ⟨Nat.le_of_ble_eq_true rfl, Nat.le_of_ble_eq_true rfl⟩ ?_
  refine lv_astore_n (lv' := [(2, .ref (ha ((o + n) % 5) 0)), (0, .ref (h 0)), (1, .ref (a 0))]) hx hb dX2_recordState_8 rfl hl (by decide) rfl (fun ls hl => ?_)
  refine lv_aload_n hx hb dX2_recordState_9 rfl (lv_at hl 0 rfl) ?_
  refine lv_ifnull hx hb dX2_recordState_10 ?_
  refine lv_aload_n hx hb dX2_recordState_13 rfl (lv_at hl 0 rfl) ?_
  refine lv_aload_n hx hb dX2_recordState_14 rfl (lv_at hl 2 rfl) ?_
  refine zwrTv (G := G) (w1 := wHo G h ha o n ++ w1) (wc := (wA G (ha ((o + n) % 5)) (T ((o + n) % 5)))) (wc' := wA G (ha ((o + n) % 5)) σ) (w2 := w2) (wd := (wA G a σ)) (wd' := (wA G a σ)) (w3 := []) (ws' := (wHo G h ha o n ++ (wTs G ha (upT T ((o + n) % 5) σ) 5 ++ wA G a σ))) (va_runV (As := [.ref (a 0)]) (rest := []) ⟨hx, hb, hml, hown, hts⟩ (kX0_copyFrom l G (ha ((o + n) % 5)) a (T ((o + n) % 5)) σ (zD_any (hDD hD))) (cwV 1 hts gX2_recordState_X0_copyFrom rfl rfl rfl (by decide +kernel) ⟨Nat.le_of_ble_eq_true rfl, Nat.le_of_ble_eq_true rfl⟩) (zPreV hG (va_recv (q0 := 0) (ci := 0) hG.1 (zP_l (hPP hP)) rfl rfl) (hPP hP)) rfl rfl hl.1 rfl (lv_room (Nat.le_of_ble_eq_true rfl)) dX2_recordState_15 ⟨Nat.le_of_ble_eq_true rfl, Nat.le_of_ble_eq_true rfl⟩) (by rw [hw1]; simp only [List.append_assoc, List.append_nil]) (by rw [hw2]; simp only [List.append_assoc, List.append_nil]) hP hD hS rfl rfl (fun H locs hP hD hS => ?_)
  exact hret _ _ _ _ dX2_recordState_18 hS (hP)
set_option maxHeartbeats 4000000 in
set_option maxRecDepth 100000 in
theorem kX2_returnToRecord (l : Launch) (G : zG) (h : Nat → Nat) (ha : Nat → Nat → Nat) (o n : Nat) (T : Nat → Nat → Nat) (a σ : Nat → Nat) (ho : o < 5) (hn : n ≤ 4) (hd : va_D (fun _ => True) (wHo G h ha o n ++ (wTs G ha T 5 ++ wA G a σ))) : Met l yX2_returnToRecord wsX2_returnToRecord (zRm 3 82) (zPc G [.ref (h 0), .ref (a 0)] (va_P G.1 vwCl (wHo G h ha o n ++ (wTs G ha T 5 ++ wA G a σ)))) (zQ (zA (wHo G h ha o n ++ (wTs G ha T 5 ++ wA G a σ))) none (va_P G.1 vwCl (wHo G h ha o n ++ (wTs G ha T 5 ++ wA G a (T ((o + n) % 5)))))) 0 0 (zA (wHo G h ha o n ++ (wTs G ha T 5 ++ wA G a σ))) := by
  obtain ⟨w1, w2, hw1, hw2⟩ := wTs_at G ha T (show (o + n) % 5 < 5 by omega)
  refine zmkWv (w := (wHo G h ha o n ++ (wTs G ha T 5 ++ wA G a σ))) hd (cc := cX2_returnToRecord) (maxL := 3) (by decide) rfl (Nat.le_of_ble_eq_true rfl) ?_
  intro pr en st mi ar bl me cd ls Q hx hb hml hown hts hG hP hl hD hS hret
  have hown : st.vm.findClass RX2 = some mi.cls := hown
  have hl : lv_has ls 3 [(0, .ref (h 0)), (1, .ref (a 0))] := hl
  have hP : va_P G.1 vwCl (wHo G h ha o n ++ (wTs G ha T 5 ++ wA G a σ)) st.heap := hP
  have hD : va_D (zA (wHo G h ha o n ++ (wTs G ha T 5 ++ wA G a σ))) (wHo G h ha o n ++ (wTs G ha T 5 ++ wA G a σ)) := hD
  have hinX2 : ∀ w ∈ wsX20, w ∈ wsX2_returnToRecord := by decide +kernel
  have hf21 := hts (.fieldLink RX2 21 "MapSheets$History" "size" "I") (by decide +kernel)
  have hPP : ∀ {H : Heap}, va_P G.1 vwCl (wHo G h ha o n ++ (wTs G ha T 5 ++ wA G a σ)) H → va_P G.1 vwCl (wA G a σ ++ wA G (ha ((o + n) % 5)) (T ((o + n) % 5))) H := fun hP => by rw [hw1] at hP; exact va_P.app (zP_r (zP_r hP)) (zP_m (zP_l (zP_r hP)))
  have hDD : ∀ {A : Nat → Prop}, va_D A (wHo G h ha o n ++ (wTs G ha T 5 ++ wA G a σ)) → va_D A (wA G a σ ++ wA G (ha ((o + n) % 5)) (T ((o + n) % 5))) := fun hD => by rw [hw1] at hD; have d := zD_r hD; rw [List.append_assoc, List.append_assoc] at d; exact (zD_r (zD_r (zD_r d))).app (zD_l (zD_r d)) (fun i j p q hi hj z => zD_ne (zD_r d) (zA_in hj) (zA_app.mpr (Or.inr (by rw [← z]; exact zA_in hi))))
  refine lv_aload_n hx hb dX2_returnToRecord_0 rfl (lv_at hl 0 rfl) ?_
  refine lv_aload_n hx hb dX2_returnToRecord_1 rfl (lv_at hl 0 rfl) ?_
  refine va_get (D := G.1) (ci := 2) (v := .int (nI n)) (C := RX2) (T := TX2) (N := 3) hx hb hts hinX2 hown hG.1 hP 0 rfl rfl 2 (by decide) hf21 (fun _ h9 => h9) rfl dX2_returnToRecord_2 ?_
  refine zrdV (As := [.int (nI n)]) ⟨hx, hb, hml, hown, hts⟩ (kX2_stateAt l G h ha o n n (by omega) (by omega)) (cwV 1 hts gX2_returnToRecord_X2_stateAt rfl rfl rfl (by decide +kernel) ⟨Nat.le_of_ble_eq_true rfl, Nat.le_of_ble_eq_true rfl⟩) hG (va_recv (q0 := 0) (ci := 2) hG.1 (zP_l hP) rfl rfl) ((zP_l hP)) rfl rfl hl.1 dX2_returnToRecord_5 (Nat.le_of_ble_eq_true rfl) ⟨Nat.le_of_ble_eq_true rfl, Nat.le_of_ble_eq_true rfl⟩ ?_
  refine lv_astore_n (lv' := [(2, .ref (ha ((o + n) % 5) 0)), (0, .ref (h 0)), (1, .ref (a 0))]) hx hb dX2_returnToRecord_8 rfl hl (by decide) rfl (fun ls hl => ?_)
  refine lv_aload_n hx hb dX2_returnToRecord_9 rfl (lv_at hl 0 rfl) ?_
  refine lv_ifnull hx hb dX2_returnToRecord_10 ?_
  refine lv_aload_n hx hb dX2_returnToRecord_13 rfl (lv_at hl 2 rfl) ?_
  refine lv_aload_n hx hb dX2_returnToRecord_14 rfl (lv_at hl 0 rfl) ?_
  refine zwrUv (G := G) (w1 := wHo G h ha o n ++ w1) (wc := (wA G (ha ((o + n) % 5)) (T ((o + n) % 5)))) (wc' := (wA G (ha ((o + n) % 5)) (T ((o + n) % 5)))) (w2 := w2) (wd := (wA G a σ)) (wd' := wA G a (T ((o + n) % 5))) (w3 := []) (ws' := (wHo G h ha o n ++ (wTs G ha T 5 ++ wA G a (T ((o + n) % 5))))) (va_runV (As := [.ref (ha ((o + n) % 5) 0)]) (rest := []) ⟨hx, hb, hml, hown, hts⟩ (kX0_copyFrom l G a (ha ((o + n) % 5)) σ (T ((o + n) % 5)) (zD_any (hDD hD))) (cwV 1 hts gX2_returnToRecord_X0_copyFrom rfl rfl rfl (by decide +kernel) ⟨Nat.le_of_ble_eq_true rfl, Nat.le_of_ble_eq_true rfl⟩) (zPreV hG (va_recv (q0 := 0) (ci := 0) hG.1 (zP_l (hPP hP)) rfl rfl) (hPP hP)) rfl rfl hl.1 rfl (lv_room (Nat.le_of_ble_eq_true rfl)) dX2_returnToRecord_15 ⟨Nat.le_of_ble_eq_true rfl, Nat.le_of_ble_eq_true rfl⟩) (by rw [hw1]; simp only [List.append_assoc, List.append_nil]) (by rw [hw1]; simp only [List.append_assoc, List.append_nil]) hP hD hS rfl rfl (fun H locs hP hD hS => ?_)
  exact hret _ _ _ _ dX2_returnToRecord_18 hS (hP)
